/-! THE CLASS: its methods that only look. -/
theorem ini_ISE : Cond.initialized "java/lang/IllegalStateException" ∈ WALL := WALL_at 59 (by decide +kernel) rfl
theorem ini_IOB : Cond.initialized "java/lang/IndexOutOfBoundsException" ∈ WALL := WALL_at 65 (by decide +kernel) rfl
theorem ini_IAE : Cond.initialized "java/lang/IllegalArgumentException" ∈ WALL := WALL_at 70 (by decide +kernel) rfl
theorem ini_UOE : Cond.initialized "java/lang/UnsupportedOperationException" ∈ WALL := WALL_at 73 (by decide +kernel) rfl
theorem ini_NSE : Cond.initialized "java/util/NoSuchElementException" ∈ WALL := WALL_at 80 (by decide +kernel) rfl
theorem ini_ARE : Cond.initialized "java/lang/ArithmeticException" ∈ WALL := WALL_at 84 (by decide +kernel) rfl

def PLs (X : wM) (s : Int) : Prop := 0 ≤ plM X s ∧ plM X s < X 3 (X 4 s) ∧ X 2 (60 * X 4 s + plM X s) = s ∧ ∀ k : Nat, (k : Int) < plM X s → X 2 (60 * X 4 s + k) ≠ s
def takeX (X : wM) (r a m : Int) (k : Nat) : Bool := anyI (fun i => decide (m < X 31 (X 14 (60 * r + i)) + a)) k
def takeP (X : wM) (r a m : Int) : Bool := !takeX X r a m (X 16 r - 1).toNat
def greatX (X : wM) (r : Int) (k : Nat) : Int := maxI (fun i => X 31 (X 14 (60 * r + i))) k
def sumX (X : wM) (r : Int) (k : Nat) : Int := sumI (fun i => X 31 (X 14 (60 * r + i))) k
def lentX (X : wM) (k : Nat) : Bool := anyI (fun f => decide (X 32 f = 1)) k
def filmX (X : wM) (f a : Int) (k : Nat) : Bool := anyI (fun r => decide (X 13 r = f) && !takeP X r a (X 18 0)) k
def withX (X : wM) (m : Int) (k : Nat) : Bool := anyI (fun r => !takeP X r 0 m) k
def wornX (X : wM) (r i : Int) : Bool := decide ((0 ≤ i ∧ i < X 16 r - 1) ∧ X 18 0 ≤ 2 * X 31 (X 14 (60 * r + i)))
def aheadX (X : wM) (s r : Int) : Bool := decide (0 < X 16 r ∧ plM X s < plM X (lastM X r))
theorem bz {c : Prop} [Decidable c] {b : Bool} (h : b = decide c) : (c → b = true) ∧ (¬ c → b = false) := by
  subst h
  exact ⟨fun h => decide_eq_true h, fun h => decide_eq_false h⟩
set_option maxHeartbeats 4000000 in
set_option maxRecDepth 100000 in
theorem k_isMissing (l : Launch) (hfl : l.stackTraces = false) {S : wS} {E0 : Nat} {G : wG} {X : wM} (hC : RC E0 S G X) {s9 : Int} (hs : 0 ≤ s9 ∧ s9 < X 12 0) : Ct l yX3_isMissing cX3_isMissing 1 (some FieldType.boolean) 1 0 0 [.ref (G 4 s9)] S (fun r S' => r = .inl (some (.int (iN (bN (decide (X 7 s9 = -1)))))) ∧ S' = S) := by
  refine Ct.of cal_X3_isMissing hfl (Nat.le_of_ble_eq_true rfl) ?_
  intro p e s m args below meth c D sz C ME
  have hR : RCF E0 S S G X := ⟨hC, cF.rf⟩
  refine j_aload_n C dX3_isMissing_0 rfl ?_
  refine jn_4_4 C hR (by omega) fl_Sh_28 dX3_isMissing_1 (fun z1 => ?_) (fun z1 => ?_)
  · refine j_ifnonnullN C dX3_isMissing_4 ?_
    refine j_iconst C dX3_isMissing_7 ?_
    refine j_goto (tgt := 12) C dX3_isMissing_8 (by decide) ?_
    refine j_zret C ME (by first | exact Or.inl rfl | exact Or.inr rfl | (unfold bN; split <;> simp)) ?_ (by omega) (by omega) dX3_isMissing_12
    exact ⟨rI (by first | exact b1 (by omega) | exact b0 (by omega)), rfl⟩
  · refine j_ifnonnull (tgt := 11) C dX3_isMissing_4 (by decide) ?_
    refine j_iconst C dX3_isMissing_11 ?_
    refine j_zret C ME (by first | exact Or.inl rfl | exact Or.inr rfl | (unfold bN; split <;> simp)) ?_ (by omega) (by omega) dX3_isMissing_12
    exact ⟨rI (by first | exact b1 (by omega) | exact b0 (by omega)), rfl⟩

set_option maxHeartbeats 4000000 in
set_option maxRecDepth 100000 in
theorem k_kept (l : Launch) (hfl : l.stackTraces = false) {S : wS} {E0 : Nat} {G : wG} {X : wM} (hC : RC E0 S G X) {s9 : Int} (hs : 0 ≤ s9 ∧ s9 < X 12 0) : Ct l yX3_keptFrames cX3_keptFrames 1 (some FieldType.int) 1 0 0 [.ref (G 4 s9)] S (fun r S' => r = .inl (some (.int (iN (keptM X s9)))) ∧ S' = S) := by
  refine Ct.of cal_X3_keptFrames hfl (Nat.le_of_ble_eq_true rfl) ?_
  intro p e s m args below meth c D sz C ME
  have hR : RCF E0 S S G X := ⟨hC, cF.rf⟩
  refine j_aload_n C dX3_keptFrames_0 rfl ?_
  refine jn_4_4 C hR (by omega) fl_Sh_28 dX3_keptFrames_1 (fun z1 => ?_) (fun z1 => ?_)
  · refine j_ifnonnullN C dX3_keptFrames_4 ?_
    refine j_iconst C dX3_keptFrames_7 ?_
    refine j_goto (tgt := 15) C dX3_keptFrames_8 (by decide) ?_
    refine j_iret C ME ?_ (by omega) (by omega) dX3_keptFrames_15
    exact ⟨rI (by unfold keptM; first | (rw [if_pos (by omega)]; done) | (rw [if_neg (by omega)]; done)), rfl⟩
  · refine j_ifnonnull (tgt := 11) C dX3_keptFrames_4 (by decide) ?_
    refine j_aload_n C dX3_keptFrames_11 rfl ?_
    refine jg_4_3 C hR (by omega) fl_Sh_22 dX3_keptFrames_12 (fun w12 => ?_)
    refine j_iret C ME ?_ (by omega) (by omega) dX3_keptFrames_15
    exact ⟨rI (by unfold keptM; first | (rw [if_pos (by omega)]; done) | (rw [if_neg (by omega)]; done)), rfl⟩

set_option maxHeartbeats 4000000 in
set_option maxRecDepth 100000 in
theorem k_grade (l : Launch) (hfl : l.stackTraces = false) {S : wS} {E0 : Nat} {G : wG} {X : wM} (hC : RC E0 S G X) {s9 : Int} (hs : 0 ≤ s9 ∧ s9 < X 12 0) : Ct l yX3_currentGrade cX3_currentGrade 1 (some FieldType.int) 1 0 0 [.ref (G 4 s9)] S (fun r S' => r = .inl (some (.int (iN (gradeM X s9)))) ∧ S' = S) := by
  refine Ct.of cal_X3_currentGrade hfl (Nat.le_of_ble_eq_true rfl) ?_
  intro p e s m args below meth c D sz C ME
  have hR : RCF E0 S S G X := ⟨hC, cF.rf⟩
  refine j_aload_n C dX3_currentGrade_0 rfl ?_
  refine jg_4_8 C hR (by omega) fl_Sh_9 dX3_currentGrade_1 (fun w1 => ?_)
  refine j_iconst C dX3_currentGrade_4 ?_
  refine j_icmp_eq (tgt := 13) C dX3_currentGrade_5 (by decide) (by unfold rg at *; omega) (by unfold rg at *; omega) (fun c5 => ?_) (fun c5 => ?_)
  · refine j_aload_n C dX3_currentGrade_13 rfl ?_
    refine jn_4_9 C hR (by omega) fl_Sh_38 dX3_currentGrade_14 (fun z14 => ?_) (fun z14 => ?_)
    · refine j_ifnonnullN C dX3_currentGrade_17 ?_
      refine j_iconst C dX3_currentGrade_20 ?_
      refine j_goto (tgt := 31) C dX3_currentGrade_21 (by decide) ?_
      refine j_iret C ME ?_ (by omega) (by omega) dX3_currentGrade_31
      exact ⟨rI (by unfold gradeM; rw [if_pos c5]; first | (rw [if_pos (by omega)]; done) | (rw [if_neg (by omega)]; done)), rfl⟩
    · refine j_ifnonnull (tgt := 24) C dX3_currentGrade_17 (by decide) ?_
      refine j_aload_n C dX3_currentGrade_24 rfl ?_
      refine jn_4_9 C hR (by omega) fl_Sh_38 dX3_currentGrade_25 (fun z25 => ?_) (fun z25 => ?_)
      · exact absurd z25 z14.1
      · refine jg_4_8 C hR (by omega) fl_Sh_9 dX3_currentGrade_28 (fun w28 => ?_)
        refine j_iret C ME ?_ (by omega) (by omega) dX3_currentGrade_31
        exact ⟨rI (by unfold gradeM; rw [if_pos c5]; first | (rw [if_pos (by omega)]; done) | (rw [if_neg (by omega)]; done)), rfl⟩
  · refine j_aload_n C dX3_currentGrade_8 rfl ?_
    refine jg_4_8 C hR (by omega) fl_Sh_9 dX3_currentGrade_9 (fun w9 => ?_)
    refine j_iret C ME ?_ (by omega) (by omega) dX3_currentGrade_12
    exact ⟨rI (by unfold gradeM; rw [if_neg c5]), rfl⟩

set_option maxHeartbeats 4000000 in
set_option maxRecDepth 100000 in
theorem k_pass (l : Launch) (hfl : l.stackTraces = false) {S : wS} {E0 : Nat} {G : wG} {X : wM} (hC : RC E0 S G X) {s9 o9 : Int} (hs : 0 ≤ s9 ∧ s9 < X 12 0) (ho : 0 ≤ o9 ∧ o9 < X 12 0) : Ct l yX3_canHavePassedTo cX3_canHavePassedTo 2 (some FieldType.boolean) 2 0 0 [.ref (G 4 s9), .ref (G 4 o9)] S (fun r S' => r = .inl (some (.int (iN (bN (decide (¬ X 10 s9 = -1 ∧ gradeM X o9 = X 10 s9 ∧ X 4 s9 = X 4 o9 ∧ X 6 s9 = X 6 o9)))))) ∧ S' = S) := by
  refine Ct.of cal_X3_canHavePassedTo hfl (Nat.le_of_ble_eq_true rfl) ?_
  intro p e s m args below meth c D sz C ME
  have hR : RCF E0 S S G X := ⟨hC, cF.rf⟩
  have hg : -1 ≤ gradeM X o9 ∧ gradeM X o9 ≤ 99 := by
    have w := hC.w4 ho
    unfold wf4 at w
    unfold gradeM
    split
    · split
      · omega
      · have w2 := hC.w4 (i9 := X 11 o9) (by omega)
        unfold wf4 at w2
        omega
    · omega
  refine j_aload_n C dX3_canHavePassedTo_0 rfl ?_
  refine jg_4_8 C hR (by omega) fl_Sh_9 dX3_canHavePassedTo_1 (fun w1 => ?_)
  refine j_iconst C dX3_canHavePassedTo_4 ?_
  refine j_icmp_eq (tgt := 45) C dX3_canHavePassedTo_5 (by decide) (by unfold rg at *; omega) (by unfold rg at *; omega) (fun c5 => ?_) (fun c5 => ?_)
  · refine j_iconst C dX3_canHavePassedTo_45 ?_
    refine j_zret C ME (by first | exact Or.inl rfl | exact Or.inr rfl | (unfold bN; split <;> simp)) ?_ (by omega) (by omega) dX3_canHavePassedTo_46
    exact ⟨rI (by first | exact b1 (by omega) | exact b0 (by omega)), rfl⟩
  · refine j_aload_n C dX3_canHavePassedTo_8 rfl ?_
    refine j_callV C (k_grade l hfl hR.1 (by omega)) cal_X3_currentGrade vi_X3_currentGrade ml_Sh_42 (hR.1.k4 (by omega)) ⟨by decide, by decide, rfl⟩ rfl rfl (Nat.le_of_ble_eq_true rfl) ⟨by decide, by decide⟩ ⟨(by first | omega | (dsimp only; omega)), (by first | omega | (dsimp only; omega))⟩ dX3_canHavePassedTo_9 (fun E S9 h => nomatch h.1) (fun v9 S9 h => ?_)
    obtain ⟨h, h9⟩ := h
    have h9 := h9.symm
    subst h9
    cases h
    refine j_aload_n C dX3_canHavePassedTo_12 rfl ?_
    refine jg_4_8 C hR (by omega) fl_Sh_9 dX3_canHavePassedTo_13 (fun w13 => ?_)
    refine j_icmp_ne (tgt := 45) C dX3_canHavePassedTo_16 (by decide) (by unfold rg at *; omega) (by unfold rg at *; omega) (fun c16 => ?_) (fun c16 => ?_)
    · refine j_iconst C dX3_canHavePassedTo_45 ?_
      refine j_zret C ME (by first | exact Or.inl rfl | exact Or.inr rfl | (unfold bN; split <;> simp)) ?_ (by omega) (by omega) dX3_canHavePassedTo_46
      exact ⟨rI (by first | exact b1 (by omega) | exact b0 (by omega)), rfl⟩
    · refine j_aload_n C dX3_canHavePassedTo_19 rfl ?_
      refine jg_4_0 C hR (by omega) fl_Sh_15 dX3_canHavePassedTo_20 (fun w20 => ?_)
      refine j_aload_n C dX3_canHavePassedTo_23 rfl ?_
      refine jg_4_0 C hR (by omega) fl_Sh_15 dX3_canHavePassedTo_24 (fun w24 => ?_)
      refine j_acmp_ne (tgt := 45) C dX3_canHavePassedTo_27 (by decide) (fun c27 => ?_) (fun c27 => ?_)
      · have c27 : ¬ X 4 s9 = X 4 o9 := fun z => c27 (by rw [z])
        refine j_iconst C dX3_canHavePassedTo_45 ?_
        refine j_zret C ME (by first | exact Or.inl rfl | exact Or.inr rfl | (unfold bN; split <;> simp)) ?_ (by omega) (by omega) dX3_canHavePassedTo_46
        exact ⟨rI (by first | exact b1 (by omega) | exact b0 (by omega)), rfl⟩
      · have c27 := hC.inj1 (by omega) (by omega) c27
        refine j_aload_n C dX3_canHavePassedTo_30 rfl ?_
        refine jg_4_2 C hR (by omega) fl_Sh_25 dX3_canHavePassedTo_31 (fun w31 => ?_)
        refine j_aload_n C dX3_canHavePassedTo_34 rfl ?_
        refine jg_4_2 C hR (by omega) fl_Sh_25 dX3_canHavePassedTo_35 (fun w35 => ?_)
        refine j_icmp_ne (tgt := 45) C dX3_canHavePassedTo_38 (by decide) (by unfold rg at *; omega) (by unfold rg at *; omega) (fun c38 => ?_) (fun c38 => ?_)
        · refine j_iconst C dX3_canHavePassedTo_45 ?_
          refine j_zret C ME (by first | exact Or.inl rfl | exact Or.inr rfl | (unfold bN; split <;> simp)) ?_ (by omega) (by omega) dX3_canHavePassedTo_46
          exact ⟨rI (by first | exact b1 (by omega) | exact b0 (by omega)), rfl⟩
        · refine j_iconst C dX3_canHavePassedTo_41 ?_
          refine j_goto (tgt := 46) C dX3_canHavePassedTo_42 (by decide) ?_
          refine j_zret C ME (by first | exact Or.inl rfl | exact Or.inr rfl | (unfold bN; split <;> simp)) ?_ (by omega) (by omega) dX3_canHavePassedTo_46
          exact ⟨rI (by first | exact b1 (by omega) | exact b0 (by omega)), rfl⟩

set_option maxHeartbeats 4000000 in
set_option maxRecDepth 100000 in
theorem k_place (l : Launch) (hfl : l.stackTraces = false) {S : wS} {E0 : Nat} {G : wG} {X : wM} (hC : RC E0 S G X) {f9 s9 k9 : Int} (hf : 0 ≤ f9 ∧ f9 < X 1 0) (hs : 0 ≤ s9 ∧ s9 < X 12 0) (hk : 0 ≤ k9 ∧ k9 < X 3 f9) (he : X 2 (60 * f9 + k9) = s9) (hu : ∀ k : Nat, (k : Int) < k9 → X 2 (60 * f9 + k) ≠ s9) : Ct l yX0_placeOf cX0_placeOf 3 (some FieldType.int) 4 0 0 [.ref (G 1 f9), .ref (G 4 s9)] S (fun r S' => r = .inl (some (.int (iN k9))) ∧ S' = S) := by
  refine Ct.of cal_X0_placeOf hfl (Nat.le_of_ble_eq_true rfl) ?_
  intro p e s m args below meth c D sz C ME
  have hR : RCF E0 S S G X := ⟨hC, cF.rf⟩
  have wf := hC.w1 hf
  unfold wf1 at wf
  refine j_iconst C dX0_placeOf_0 ?_
  refine j_istore_n C dX0_placeOf_1 (by decide) ?_
  have key : ∀ (fuel : Nat) (i : Nat), k9 - i < fuel → (i : Int) ≤ k9 → J p l e { frames := 20 * 4, cells := 0, slots := 0, locals := 200 * 4 } s m args below meth c 3 D (wA S sz) (wQ below D sz S (fun r S' => r = .inl (some (.int (iN k9))) ∧ S' = S) args s 0 0) 2 [(0, .ref (G 1 f9)), (1, .ref (G 4 s9)), (2, .int (iN ((i : Nat) : Int)))] [] S 0 0 := by
    intro fuel
    induction fuel with
    | zero => intro i h1 h2; omega
    | succ fuel ih =>
      intro i h1 h2
      refine j_iload_n C dX0_placeOf_2 rfl ?_
      refine j_aload_n C dX0_placeOf_3 rfl ?_
      refine jg_1_0 C hR (by omega) fl_Fi_12 dX0_placeOf_4 ?_
      refine j_callV C (z_row l hfl hR.1 (by omega)) cal_Jx4a65c_size_8abf5 vi_Jx4a65c_size_8abf5 ml_Fi_18 (hR.1.q_row (by omega)) ⟨by decide, by decide, rfl⟩ rfl rfl (Nat.le_of_ble_eq_true rfl) ⟨by decide, by decide⟩ ⟨(by first | omega | (dsimp only; omega)), (by first | omega | (dsimp only; omega))⟩ dX0_placeOf_7 (fun E S9 h => nomatch h.1) (fun v9 S9 h => ?_)
      obtain ⟨h, h9⟩ := h
      have h9 := h9.symm
      subst h9
      cases h
      refine j_icmp_ge (tgt := 33) C dX0_placeOf_10 (by decide) (by unfold rg at *; omega) (by unfold rg at *; omega) (fun c10 => ?_) (fun c10 => ?_)
      · exact absurd c10 (by omega)
      · refine j_aload_n C dX0_placeOf_13 rfl ?_
        refine jg_1_0 C hR (by omega) fl_Fi_12 dX0_placeOf_14 ?_
        refine j_iload_n C dX0_placeOf_17 rfl ?_
        refine j_callV C (g_row l hfl hR.1 (by omega) (by omega)) cal_Jx4a65c_get_915e3 vi_Jx4a65c_get_915e3 ml_Fi_22 (hR.1.q_row (by omega)) ⟨by decide, by decide, rfl⟩ rfl rfl (Nat.le_of_ble_eq_true rfl) ⟨by decide, by decide⟩ ⟨(by first | omega | (dsimp only; omega)), (by first | omega | (dsimp only; omega))⟩ dX0_placeOf_18 (fun E S9 h => nomatch h.1) (fun v9 S9 h => ?_)
        obtain ⟨h, h9, w18⟩ := h
        have h9 := h9.symm
        subst h9
        cases h
        refine j_aload_n C dX0_placeOf_21 rfl ?_
        refine j_acmp_ne (tgt := 27) C dX0_placeOf_22 (by decide) (fun c22 => ?_) (fun c22 => ?_)
        · have q : (i : Int) < k9 := by
            rcases Int.lt_or_le (i : Int) k9 with q | q
            · exact q
            · exact absurd (by rw [show (i : Int) = k9 by omega, he]) c22
          refine j_iinc C dX0_placeOf_27 rfl (by decide) ?_
          refine j_goto (tgt := 2) C dX0_placeOf_30 (by decide) ?_
          refine J.lvs (lv' := [(0, .ref (G 1 f9)), (1, .ref (G 4 s9)), (2, .int (iN (((i + 1) : Nat) : Int)))]) ?_ (ih (i + 1) (by omega) (by omega))
          intro q hq; simp only [List.mem_cons, List.not_mem_nil, or_false] at hq; rcases hq with rfl | rfl | rfl <;> rfl
        · have c22 := hC.inj4 w18 hs c22
          have q : (i : Int) = k9 := by
            rcases Int.lt_or_le (i : Int) k9 with q | q
            · exact absurd c22 (hu i q)
            · omega
          refine j_iload_n C dX0_placeOf_25 rfl ?_
          refine j_iret C ME ?_ (by omega) (by omega) dX0_placeOf_26
          exact ⟨rI q, rfl⟩
  refine J.lvs (lv' := [(0, .ref (G 1 f9)), (1, .ref (G 4 s9)), (2, .int (iN ((0 : Nat) : Int)))]) ?_ (key (k9.toNat + 1) 0 (by omega) (by omega))
  intro q hq; simp only [List.mem_cons, List.not_mem_nil, or_false] at hq; rcases hq with rfl | rfl | rfl <;> rfl

theorem kept_b {E : Nat} {S : wS} {G : wG} {X : wM} {s9 : Int} (h : RC E S G X) (hs : 0 ≤ s9 ∧ s9 < X 12 0) : 0 ≤ keptM X s9 ∧ keptM X s9 ≤ 999 := by
  have w := h.w4 hs
  unfold wf4 at w
  unfold keptM
  split <;> omega
theorem ahead_b {E : Nat} {S : wS} {G : wG} {X : wM} {f9 : Int} {n : Nat} (h : RC E S G X) (hf : 0 ≤ f9 ∧ f9 < X 1 0) (hn : (n : Int) ≤ X 3 f9) : 0 ≤ aheadM X f9 n ∧ aheadM X f9 n ≤ n * 999 := by
  refine sumI_bound (fun k hk => kept_b h ?_)
  have w := h.w1 hf
  unfold wf1 at w
  exact w.2.2 k (by omega) (by omega)
set_option maxHeartbeats 4000000 in
set_option maxRecDepth 100000 in
theorem k_before (l : Launch) (hfl : l.stackTraces = false) {S : wS} {E0 : Nat} {G : wG} {X : wM} (hC : RC E0 S G X) {f9 p9 : Int} (hf : 0 ≤ f9 ∧ f9 < X 1 0) (hp : 0 ≤ p9 ∧ p9 ≤ X 3 f9) : Ct l yX0_framesBefore cX0_framesBefore 4 (some FieldType.int) 4 0 0 [.ref (G 1 f9), .int (iN p9)] S (fun r S' => r = .inl (some (.int (iN (aheadM X f9 p9.toNat)))) ∧ S' = S) := by
  refine Ct.of cal_X0_framesBefore hfl (Nat.le_of_ble_eq_true rfl) ?_
  intro p e s m args below meth c D sz C ME
  have hR : RCF E0 S S G X := ⟨hC, cF.rf⟩
  have wf := hC.w1 hf
  unfold wf1 at wf
  refine j_iconst C dX0_framesBefore_0 ?_
  refine j_istore_n C dX0_framesBefore_1 (by decide) ?_
  refine j_iconst C dX0_framesBefore_2 ?_
  refine j_istore_n C dX0_framesBefore_3 (by decide) ?_
  have key : ∀ (fuel : Nat) (i : Nat), p9 - i < fuel → (i : Int) ≤ p9 → J p l e { frames := 20 * 4, cells := 0, slots := 0, locals := 200 * 4 } s m args below meth c 4 D (wA S sz) (wQ below D sz S (fun r S' => r = .inl (some (.int (iN (aheadM X f9 p9.toNat)))) ∧ S' = S) args s 0 0) 4 [(0, .ref (G 1 f9)), (1, .int (iN p9)), (2, .int (iN (aheadM X f9 i))), (3, .int (iN ((i : Nat) : Int)))] [] S 0 0 := by
    intro fuel
    induction fuel with
    | zero => intro i h1 h2; omega
    | succ fuel ih =>
      intro i h1 h2
      have hb := ahead_b hC hf (n := i) (by omega)
      refine j_iload_n C dX0_framesBefore_4 rfl ?_
      refine j_iload_n C dX0_framesBefore_5 rfl ?_
      refine j_icmp_ge (tgt := 43) C dX0_framesBefore_6 (by decide) (by unfold rg at *; omega) (by unfold rg at *; omega) (fun c6 => ?_) (fun c6 => ?_)
      · refine j_iload_n C dX0_framesBefore_43 rfl ?_
        refine j_iret C ME ?_ (by omega) (by omega) dX0_framesBefore_44
        exact ⟨rI (by rw [show p9.toNat = i by omega]), rfl⟩
      · refine j_iload_n C dX0_framesBefore_9 rfl ?_
        refine j_aload_n C dX0_framesBefore_10 rfl ?_
        refine jg_1_0 C hR (by omega) fl_Fi_12 dX0_framesBefore_11 ?_
        refine j_callV C (z_row l hfl hR.1 (by omega)) cal_Jx4a65c_size_8abf5 vi_Jx4a65c_size_8abf5 ml_Fi_18 (hR.1.q_row (by omega)) ⟨by decide, by decide, rfl⟩ rfl rfl (Nat.le_of_ble_eq_true rfl) ⟨by decide, by decide⟩ ⟨(by first | omega | (dsimp only; omega)), (by first | omega | (dsimp only; omega))⟩ dX0_framesBefore_14 (fun E S9 h => nomatch h.1) (fun v9 S9 h => ?_)
        obtain ⟨h, h9⟩ := h
        have h9 := h9.symm
        subst h9
        cases h
        refine j_icmp_ge (tgt := 43) C dX0_framesBefore_17 (by decide) (by unfold rg at *; omega) (by unfold rg at *; omega) (fun c17 => ?_) (fun c17 => ?_)
        · exact absurd c17 (by omega)
        · refine j_iload_n C dX0_framesBefore_20 rfl ?_
          refine j_aload_n C dX0_framesBefore_21 rfl ?_
          refine jg_1_0 C hR (by omega) fl_Fi_12 dX0_framesBefore_22 ?_
          refine j_iload_n C dX0_framesBefore_25 rfl ?_
          refine j_callV C (g_row l hfl hR.1 (by omega) (by omega)) cal_Jx4a65c_get_915e3 vi_Jx4a65c_get_915e3 ml_Fi_22 (hR.1.q_row (by omega)) ⟨by decide, by decide, rfl⟩ rfl rfl (Nat.le_of_ble_eq_true rfl) ⟨by decide, by decide⟩ ⟨(by first | omega | (dsimp only; omega)), (by first | omega | (dsimp only; omega))⟩ dX0_framesBefore_26 (fun E S9 h => nomatch h.1) (fun v9 S9 h => ?_)
          obtain ⟨h, h9, w26⟩ := h
          have h9 := h9.symm
          subst h9
          cases h
          refine j_cast (kd := 4) C (hR.1.k4 (by omega)) ⟨by decide, by decide⟩ cl_Fi_26 dX0_framesBefore_29 ?_
          refine j_callV C (k_kept l hfl hR.1 (by omega)) cal_X3_keptFrames vi_X3_keptFrames ml_Fi_28 (hR.1.k4 (by omega)) ⟨by decide, by decide, rfl⟩ rfl rfl (Nat.le_of_ble_eq_true rfl) ⟨by decide, by decide⟩ ⟨(by first | omega | (dsimp only; omega)), (by first | omega | (dsimp only; omega))⟩ dX0_framesBefore_32 (fun E S9 h => nomatch h.1) (fun v9 S9 h => ?_)
          obtain ⟨h, h9⟩ := h
          have h9 := h9.symm
          subst h9
          cases h
          refine j_iadd C dX0_framesBefore_35 ?_
          refine j_istore_n C dX0_framesBefore_36 (by decide) ?_
          refine j_iinc C dX0_framesBefore_37 rfl (by decide) ?_
          refine j_goto (tgt := 4) C dX0_framesBefore_40 (by decide) ?_
          refine J.lvs (lv' := [(0, .ref (G 1 f9)), (1, .int (iN p9)), (2, .int (iN (aheadM X f9 (i + 1)))), (3, .int (iN (((i + 1) : Nat) : Int)))]) ?_ (ih (i + 1) (by omega) (by omega))
          intro q hq; simp only [List.mem_cons, List.not_mem_nil, or_false] at hq; rcases hq with rfl | rfl | rfl | rfl <;> rfl
  refine J.lvs (lv' := [(0, .ref (G 1 f9)), (1, .int (iN p9)), (2, .int (iN (aheadM X f9 0))), (3, .int (iN ((0 : Nat) : Int)))]) ?_ (key (p9.toNat + 1) 0 (by omega) (by omega))
  intro q hq; simp only [List.mem_cons, List.not_mem_nil, or_false] at hq; rcases hq with rfl | rfl | rfl | rfl <;> rfl

set_option maxHeartbeats 4000000 in
set_option maxRecDepth 100000 in
theorem k_fcount (l : Launch) (hfl : l.stackTraces = false) {S : wS} {E0 : Nat} {G : wG} {X : wM} (hC : RC E0 S G X) {f9 : Int} (hf : 0 ≤ f9 ∧ f9 < X 1 0) : Ct l yX0_frameCount cX0_frameCount 1 (some FieldType.int) 5 0 0 [.ref (G 1 f9)] S (fun r S' => r = .inl (some (.int (iN (aheadM X f9 (X 3 f9).toNat)))) ∧ S' = S) := by
  refine Ct.of cal_X0_frameCount hfl (Nat.le_of_ble_eq_true rfl) ?_
  intro p e s m args below meth c D sz C ME
  have hR : RCF E0 S S G X := ⟨hC, cF.rf⟩
  have wf := hC.w1 hf
  unfold wf1 at wf
  refine j_aload_n C dX0_frameCount_0 rfl ?_
  refine j_aload_n C dX0_frameCount_1 rfl ?_
  refine jg_1_0 C hR (by omega) fl_Fi_12 dX0_frameCount_2 ?_
  refine j_callV C (z_row l hfl hR.1 (by omega)) cal_Jx4a65c_size_8abf5 vi_Jx4a65c_size_8abf5 ml_Fi_18 (hR.1.q_row (by omega)) ⟨by decide, by decide, rfl⟩ rfl rfl (Nat.le_of_ble_eq_true rfl) ⟨by decide, by decide⟩ ⟨(by first | omega | (dsimp only; omega)), (by first | omega | (dsimp only; omega))⟩ dX0_frameCount_5 (fun E S9 h => nomatch h.1) (fun v9 S9 h => ?_)
  obtain ⟨h, h9⟩ := h
  have h9 := h9.symm
  subst h9
  cases h
  refine j_callV C (k_before l hfl hR.1 (by omega) (by omega)) cal_X0_framesBefore vi_X0_framesBefore ml_Fi_31 (hR.1.k1 (by omega)) ⟨by decide, by decide, rfl⟩ rfl rfl (Nat.le_of_ble_eq_true rfl) ⟨by decide, by decide⟩ ⟨(by first | omega | (dsimp only; omega)), (by first | omega | (dsimp only; omega))⟩ dX0_frameCount_8 (fun E S9 h => nomatch h.1) (fun v9 S9 h => ?_)
  obtain ⟨h, h9⟩ := h
  have h9 := h9.symm
  subst h9
  cases h
  refine j_iret C ME ?_ (by omega) (by omega) dX0_frameCount_11
  exact ⟨rfl, rfl⟩

set_option maxHeartbeats 4000000 in
set_option maxRecDepth 100000 in
theorem k_splices (l : Launch) (hfl : l.stackTraces = false) {S : wS} {E0 : Nat} {G : wG} {X : wM} (hC : RC E0 S G X) {r9 : Int} (hr : 0 ≤ r9 ∧ r9 < X 17 0) : Ct l yX2_spliceCount cX2_spliceCount 1 (some FieldType.int) 2 0 0 [.ref (G 3 r9)] S (fun r S' => r = .inl (some (.int (iN (max (X 16 r9 - 1) 0)))) ∧ S' = S) := by
  refine Ct.of cal_X2_spliceCount hfl (Nat.le_of_ble_eq_true rfl) ?_
  intro p e s m args below meth c D sz C ME
  have hR : RCF E0 S S G X := ⟨hC, cF.rf⟩
  have wf := hC.w3 hr
  unfold wf3 at wf
  refine j_aload_n C dX2_spliceCount_0 rfl ?_
  refine jg_3_2 C hR (by omega) fl_Re_10 dX2_spliceCount_1 ?_
  refine j_callV C (z_rrow l hfl hR.1 (by omega)) cal_Jx4a65c_size_8abf5 vi_Jx4a65c_size_8abf5 ml_Re_34 (hR.1.q_rrow (by omega)) ⟨by decide, by decide, rfl⟩ rfl rfl (Nat.le_of_ble_eq_true rfl) ⟨by decide, by decide⟩ ⟨(by first | omega | (dsimp only; omega)), (by first | omega | (dsimp only; omega))⟩ dX2_spliceCount_4 (fun E S9 h => nomatch h.1) (fun v9 S9 h => ?_)
  obtain ⟨h, h9⟩ := h
  have h9 := h9.symm
  subst h9
  cases h
  refine j_iconst C dX2_spliceCount_7 ?_
  refine j_isub C dX2_spliceCount_8 ?_
  refine j_iconst C dX2_spliceCount_9 ?_
  refine j_mmax C ml_Re_38 (by unfold rg at *; omega) (by unfold rg at *; omega) ⟨by decide, (Nat.le_of_ble_eq_true rfl), (by first | omega | (dsimp only; omega)), (by first | omega | (dsimp only; omega))⟩ dX2_spliceCount_10 ?_
  refine j_iret C ME ?_ (by omega) (by omega) dX2_spliceCount_13
  exact ⟨rfl, rfl⟩

theorem onX_b {E : Nat} {S : wS} {G : wG} {X : wM} {r9 : Int} {n : Nat} (h : RC E S G X) (hr : 0 ≤ r9 ∧ r9 < X 17 0) (hn : (n : Int) ≤ X 16 r9) : 0 ≤ sumI (fun k => X 5 (X 14 (60 * r9 + k))) n ∧ sumI (fun k => X 5 (X 14 (60 * r9 + k))) n ≤ n * 999 := by
  refine sumI_bound (fun k hk => ?_)
  have w := h.w3 hr
  unfold wf3 at w
  have w4 := h.w4 (w.2.2 k (by omega) (by omega))
  unfold wf4 at w4
  exact w4.2.1
theorem wbX_b {E : Nat} {S : wS} {G : wG} {X : wM} {r9 : Int} {k : Nat} (h : RC E S G X) (hr : 0 ≤ r9 ∧ r9 < X 17 0) (hn : (k : Int) < X 16 r9) : 0 ≤ X 31 (X 14 (60 * r9 + k)) ∧ X 31 (X 14 (60 * r9 + k)) ≤ 100 := by
  have w := h.w3 hr
  unfold wf3 at w
  have w4 := h.w4 (w.2.2 k (by omega) (by omega))
  unfold wf4 at w4
  exact w4.2.2.2.2.2.2.2.2
theorem sumX_b {E : Nat} {S : wS} {G : wG} {X : wM} {r9 : Int} {n : Nat} (h : RC E S G X) (hr : 0 ≤ r9 ∧ r9 < X 17 0) (hn : (n : Int) ≤ X 16 r9) : 0 ≤ sumX X r9 n ∧ sumX X r9 n ≤ n * 100 := sumI_bound (fun k hk => wbX_b h hr (by omega))
theorem greatX_b {E : Nat} {S : wS} {G : wG} {X : wM} {r9 : Int} {n : Nat} (h : RC E S G X) (hr : 0 ≤ r9 ∧ r9 < X 17 0) (hn : (n : Int) ≤ X 16 r9) : 0 ≤ greatX X r9 n ∧ greatX X r9 n ≤ 100 := maxI_bound (by decide) (fun k hk => (wbX_b h hr (by omega)).2)
set_option maxHeartbeats 4000000 in
set_option maxRecDepth 100000 in
theorem k_rcount (l : Launch) (hfl : l.stackTraces = false) {S : wS} {E0 : Nat} {G : wG} {X : wM} (hC : RC E0 S G X) {r9 : Int} (hr : 0 ≤ r9 ∧ r9 < X 17 0) : Ct l yX2_frameCount cX2_frameCount 3 (some FieldType.int) 4 0 0 [.ref (G 3 r9)] S (fun r S' => r = .inl (some (.int (iN (onM X r9)))) ∧ S' = S) := by
  refine Ct.of cal_X2_frameCount hfl (Nat.le_of_ble_eq_true rfl) ?_
  intro p e s m args below meth c D sz C ME
  have hR : RCF E0 S S G X := ⟨hC, cF.rf⟩
  have wf := hC.w3 hr
  unfold wf3 at wf
  refine j_iconst C dX2_frameCount_0 ?_
  refine j_istore_n C dX2_frameCount_1 (by decide) ?_
  refine j_iconst C dX2_frameCount_2 ?_
  refine j_istore_n C dX2_frameCount_3 (by decide) ?_
  have key : ∀ (fuel : Nat) (i : Nat), X 16 r9 - i < fuel → (i : Int) ≤ X 16 r9 → J p l e { frames := 20 * 4, cells := 0, slots := 0, locals := 200 * 4 } s m args below meth c 3 D (wA S sz) (wQ below D sz S (fun r S' => r = .inl (some (.int (iN (onM X r9)))) ∧ S' = S) args s 0 0) 4 [(0, .ref (G 3 r9)), (1, .int (iN (sumI (fun k => X 5 (X 14 (60 * r9 + k))) i))), (2, .int (iN ((i : Nat) : Int)))] [] S 0 0 := by
    intro fuel
    induction fuel with
    | zero => intro i h1 h2; omega
    | succ fuel ih =>
      intro i h1 h2
      have hb := onX_b hC hr (n := i) (by omega)
      refine j_iload_n C dX2_frameCount_4 rfl ?_
      refine j_aload_n C dX2_frameCount_5 rfl ?_
      refine jg_3_2 C hR (by omega) fl_Re_10 dX2_frameCount_6 ?_
      refine j_callV C (z_rrow l hfl hR.1 (by omega)) cal_Jx4a65c_size_8abf5 vi_Jx4a65c_size_8abf5 ml_Re_34 (hR.1.q_rrow (by omega)) ⟨by decide, by decide, rfl⟩ rfl rfl (Nat.le_of_ble_eq_true rfl) ⟨by decide, by decide⟩ ⟨(by first | omega | (dsimp only; omega)), (by first | omega | (dsimp only; omega))⟩ dX2_frameCount_9 (fun E S9 h => nomatch h.1) (fun v9 S9 h => ?_)
      obtain ⟨h, h9⟩ := h
      have h9 := h9.symm
      subst h9
      cases h
      refine j_icmp_ge (tgt := 38) C dX2_frameCount_12 (by decide) (by unfold rg at *; omega) (by unfold rg at *; omega) (fun c12 => ?_) (fun c12 => ?_)
      · refine j_iload_n C dX2_frameCount_38 rfl ?_
        refine j_iret C ME ?_ (by omega) (by omega) dX2_frameCount_39
        exact ⟨rI (by unfold onM; rw [show (X 16 r9).toNat = i by omega]), rfl⟩
      · refine j_iload_n C dX2_frameCount_15 rfl ?_
        refine j_aload_n C dX2_frameCount_16 rfl ?_
        refine jg_3_2 C hR (by omega) fl_Re_10 dX2_frameCount_17 ?_
        refine j_iload_n C dX2_frameCount_20 rfl ?_
        refine j_callV C (g_rrow l hfl hR.1 (by omega) (by omega)) cal_Jx4a65c_get_915e3 vi_Jx4a65c_get_915e3 ml_Re_44 (hR.1.q_rrow (by omega)) ⟨by decide, by decide, rfl⟩ rfl rfl (Nat.le_of_ble_eq_true rfl) ⟨by decide, by decide⟩ ⟨(by first | omega | (dsimp only; omega)), (by first | omega | (dsimp only; omega))⟩ dX2_frameCount_21 (fun E S9 h => nomatch h.1) (fun v9 S9 h => ?_)
        obtain ⟨h, h9, w21⟩ := h
        have h9 := h9.symm
        subst h9
        cases h
        refine j_cast (kd := 4) C (hR.1.k4 (by omega)) ⟨by decide, by decide⟩ cl_Re_29 dX2_frameCount_24 ?_
        refine jg_4_3 C hR (by omega) fl_Re_48 dX2_frameCount_27 (fun w27 => ?_)
        refine j_iadd C dX2_frameCount_30 ?_
        refine j_istore_n C dX2_frameCount_31 (by decide) ?_
        refine j_iinc C dX2_frameCount_32 rfl (by decide) ?_
        refine j_goto (tgt := 4) C dX2_frameCount_35 (by decide) ?_
        refine J.lvs (lv' := [(0, .ref (G 3 r9)), (1, .int (iN (sumI (fun k => X 5 (X 14 (60 * r9 + k))) (i + 1)))), (2, .int (iN (((i + 1) : Nat) : Int)))]) ?_ (ih (i + 1) (by omega) (by omega))
        intro q hq; simp only [List.mem_cons, List.not_mem_nil, or_false] at hq; rcases hq with rfl | rfl | rfl <;> rfl
  refine J.lvs (lv' := [(0, .ref (G 3 r9)), (1, .int (iN (sumI (fun k => X 5 (X 14 (60 * r9 + k))) 0))), (2, .int (iN ((0 : Nat) : Int)))]) ?_ (key ((X 16 r9).toNat + 1) 0 (by omega) (by omega))
  intro q hq; simp only [List.mem_cons, List.not_mem_nil, or_false] at hq; rcases hq with rfl | rfl | rfl <;> rfl

set_option maxHeartbeats 4000000 in
set_option maxRecDepth 100000 in
theorem k_great (l : Launch) (hfl : l.stackTraces = false) {S : wS} {E0 : Nat} {G : wG} {X : wM} (hC : RC E0 S G X) {r9 : Int} (hr : 0 ≤ r9 ∧ r9 < X 17 0) : Ct l yX2_greatestWear cX2_greatestWear 3 (some FieldType.int) 4 0 0 [.ref (G 3 r9)] S (fun r S' => r = .inl (some (.int (iN (greatX X r9 (X 16 r9 - 1).toNat)))) ∧ S' = S) := by
  refine Ct.of cal_X2_greatestWear hfl (Nat.le_of_ble_eq_true rfl) ?_
  intro p e s m args below meth c D sz C ME
  have hR : RCF E0 S S G X := ⟨hC, cF.rf⟩
  have wf := hC.w3 hr
  unfold wf3 at wf
  refine j_iconst C dX2_greatestWear_0 ?_
  refine j_istore_n C dX2_greatestWear_1 (by decide) ?_
  refine j_iconst C dX2_greatestWear_2 ?_
  refine j_istore_n C dX2_greatestWear_3 (by decide) ?_
  have key : ∀ (fuel : Nat) (i : Nat), X 16 r9 - i < fuel → i = 0 ∨ (i : Int) ≤ X 16 r9 - 1 → J p l e { frames := 20 * 4, cells := 0, slots := 0, locals := 200 * 4 } s m args below meth c 3 D (wA S sz) (wQ below D sz S (fun r S' => r = .inl (some (.int (iN (greatX X r9 (X 16 r9 - 1).toNat)))) ∧ S' = S) args s 0 0) 4 [(0, .ref (G 3 r9)), (1, .int (iN (greatX X r9 i))), (2, .int (iN ((i : Nat) : Int)))] [] S 0 0 := by
    intro fuel
    induction fuel with
    | zero => intro i h1 h2; omega
    | succ fuel ih =>
      intro i h1 h2
      have hb := greatX_b hC hr (n := i) (by omega)
      refine j_iload_n C dX2_greatestWear_4 rfl ?_
      refine j_aload_n C dX2_greatestWear_5 rfl ?_
      refine jg_3_2 C hR (by omega) fl_Re_10 dX2_greatestWear_6 ?_
      refine j_callV C (z_rrow l hfl hR.1 (by omega)) cal_Jx4a65c_size_8abf5 vi_Jx4a65c_size_8abf5 ml_Re_34 (hR.1.q_rrow (by omega)) ⟨by decide, by decide, rfl⟩ rfl rfl (Nat.le_of_ble_eq_true rfl) ⟨by decide, by decide⟩ ⟨(by first | omega | (dsimp only; omega)), (by first | omega | (dsimp only; omega))⟩ dX2_greatestWear_9 (fun E S9 h => nomatch h.1) (fun v9 S9 h => ?_)
      obtain ⟨h, h9⟩ := h
      have h9 := h9.symm
      subst h9
      cases h
      refine j_iconst C dX2_greatestWear_12 ?_
      refine j_isub C dX2_greatestWear_13 ?_
      refine j_icmp_ge (tgt := 42) C dX2_greatestWear_14 (by decide) (by unfold rg at *; omega) (by unfold rg at *; omega) (fun c14 => ?_) (fun c14 => ?_)
      · refine j_iload_n C dX2_greatestWear_42 rfl ?_
        refine j_iret C ME ?_ (by omega) (by omega) dX2_greatestWear_43
        exact ⟨rI (by rw [show (X 16 r9 - 1).toNat = i by omega]), rfl⟩
      · refine j_iload_n C dX2_greatestWear_17 rfl ?_
        refine j_aload_n C dX2_greatestWear_18 rfl ?_
        refine jg_3_2 C hR (by omega) fl_Re_10 dX2_greatestWear_19 ?_
        refine j_iload_n C dX2_greatestWear_22 rfl ?_
        refine j_callV C (g_rrow l hfl hR.1 (by omega) (by omega)) cal_Jx4a65c_get_915e3 vi_Jx4a65c_get_915e3 ml_Re_44 (hR.1.q_rrow (by omega)) ⟨by decide, by decide, rfl⟩ rfl rfl (Nat.le_of_ble_eq_true rfl) ⟨by decide, by decide⟩ ⟨(by first | omega | (dsimp only; omega)), (by first | omega | (dsimp only; omega))⟩ dX2_greatestWear_23 (fun E S9 h => nomatch h.1) (fun v9 S9 h => ?_)
        obtain ⟨h, h9, w23⟩ := h
        have h9 := h9.symm
        subst h9
        cases h
        refine j_cast (kd := 4) C (hR.1.k4 (by omega)) ⟨by decide, by decide⟩ cl_Re_29 dX2_greatestWear_26 ?_
        refine jg_4_5 C hR (by omega) fl_Re_51 dX2_greatestWear_29 (fun w29 => ?_)
        refine j_mmax C ml_Re_38 (by unfold rg at *; omega) (by unfold rg at *; omega) ⟨by decide, (Nat.le_of_ble_eq_true rfl), (by first | omega | (dsimp only; omega)), (by first | omega | (dsimp only; omega))⟩ dX2_greatestWear_32 ?_
        refine j_istore_n C dX2_greatestWear_35 (by decide) ?_
        refine j_iinc C dX2_greatestWear_36 rfl (by decide) ?_
        refine j_goto (tgt := 4) C dX2_greatestWear_39 (by decide) ?_
        rw [show max (greatX X r9 i) (X 31 (X 14 (60 * r9 + i))) = greatX X r9 (i + 1) by unfold greatX; rw [maxI]; split <;> omega]
        refine J.lvs (lv' := [(0, .ref (G 3 r9)), (1, .int (iN (greatX X r9 (i + 1)))), (2, .int (iN (((i + 1) : Nat) : Int)))]) ?_ (ih (i + 1) (by omega) (by omega))
        intro q hq; simp only [List.mem_cons, List.not_mem_nil, or_false] at hq; rcases hq with rfl | rfl | rfl <;> rfl
  refine J.lvs (lv' := [(0, .ref (G 3 r9)), (1, .int (iN (greatX X r9 0))), (2, .int (iN ((0 : Nat) : Int)))]) ?_ (key ((X 16 r9).toNat + 1) 0 (by omega) (by omega))
  intro q hq; simp only [List.mem_cons, List.not_mem_nil, or_false] at hq; rcases hq with rfl | rfl | rfl <;> rfl

set_option maxHeartbeats 4000000 in
set_option maxRecDepth 100000 in
theorem k_wsum (l : Launch) (hfl : l.stackTraces = false) {S : wS} {E0 : Nat} {G : wG} {X : wM} (hC : RC E0 S G X) {r9 : Int} (hr : 0 ≤ r9 ∧ r9 < X 17 0) : Ct l yX2_wearSum cX2_wearSum 3 (some FieldType.int) 4 0 0 [.ref (G 3 r9)] S (fun r S' => r = .inl (some (.int (iN (sumX X r9 (X 16 r9 - 1).toNat)))) ∧ S' = S) := by
  refine Ct.of cal_X2_wearSum hfl (Nat.le_of_ble_eq_true rfl) ?_
  intro p e s m args below meth c D sz C ME
  have hR : RCF E0 S S G X := ⟨hC, cF.rf⟩
  have wf := hC.w3 hr
  unfold wf3 at wf
  refine j_iconst C dX2_wearSum_0 ?_
  refine j_istore_n C dX2_wearSum_1 (by decide) ?_
  refine j_iconst C dX2_wearSum_2 ?_
  refine j_istore_n C dX2_wearSum_3 (by decide) ?_
  have key : ∀ (fuel : Nat) (i : Nat), X 16 r9 - i < fuel → i = 0 ∨ (i : Int) ≤ X 16 r9 - 1 → J p l e { frames := 20 * 4, cells := 0, slots := 0, locals := 200 * 4 } s m args below meth c 3 D (wA S sz) (wQ below D sz S (fun r S' => r = .inl (some (.int (iN (sumX X r9 (X 16 r9 - 1).toNat)))) ∧ S' = S) args s 0 0) 4 [(0, .ref (G 3 r9)), (1, .int (iN (sumX X r9 i))), (2, .int (iN ((i : Nat) : Int)))] [] S 0 0 := by
    intro fuel
    induction fuel with
    | zero => intro i h1 h2; omega
    | succ fuel ih =>
      intro i h1 h2
      have hb := sumX_b hC hr (n := i) (by omega)
      refine j_iload_n C dX2_wearSum_4 rfl ?_
      refine j_aload_n C dX2_wearSum_5 rfl ?_
      refine jg_3_2 C hR (by omega) fl_Re_10 dX2_wearSum_6 ?_
      refine j_callV C (z_rrow l hfl hR.1 (by omega)) cal_Jx4a65c_size_8abf5 vi_Jx4a65c_size_8abf5 ml_Re_34 (hR.1.q_rrow (by omega)) ⟨by decide, by decide, rfl⟩ rfl rfl (Nat.le_of_ble_eq_true rfl) ⟨by decide, by decide⟩ ⟨(by first | omega | (dsimp only; omega)), (by first | omega | (dsimp only; omega))⟩ dX2_wearSum_9 (fun E S9 h => nomatch h.1) (fun v9 S9 h => ?_)
      obtain ⟨h, h9⟩ := h
      have h9 := h9.symm
      subst h9
      cases h
      refine j_iconst C dX2_wearSum_12 ?_
      refine j_isub C dX2_wearSum_13 ?_
      refine j_icmp_ge (tgt := 40) C dX2_wearSum_14 (by decide) (by unfold rg at *; omega) (by unfold rg at *; omega) (fun c14 => ?_) (fun c14 => ?_)
      · refine j_iload_n C dX2_wearSum_40 rfl ?_
        refine j_iret C ME ?_ (by omega) (by omega) dX2_wearSum_41
        exact ⟨rI (by rw [show (X 16 r9 - 1).toNat = i by omega]), rfl⟩
      · refine j_iload_n C dX2_wearSum_17 rfl ?_
        refine j_aload_n C dX2_wearSum_18 rfl ?_
        refine jg_3_2 C hR (by omega) fl_Re_10 dX2_wearSum_19 ?_
        refine j_iload_n C dX2_wearSum_22 rfl ?_
        refine j_callV C (g_rrow l hfl hR.1 (by omega) (by omega)) cal_Jx4a65c_get_915e3 vi_Jx4a65c_get_915e3 ml_Re_44 (hR.1.q_rrow (by omega)) ⟨by decide, by decide, rfl⟩ rfl rfl (Nat.le_of_ble_eq_true rfl) ⟨by decide, by decide⟩ ⟨(by first | omega | (dsimp only; omega)), (by first | omega | (dsimp only; omega))⟩ dX2_wearSum_23 (fun E S9 h => nomatch h.1) (fun v9 S9 h => ?_)
        obtain ⟨h, h9, w23⟩ := h
        have h9 := h9.symm
        subst h9
        cases h
        refine j_cast (kd := 4) C (hR.1.k4 (by omega)) ⟨by decide, by decide⟩ cl_Re_29 dX2_wearSum_26 ?_
        refine jg_4_5 C hR (by omega) fl_Re_51 dX2_wearSum_29 (fun w29 => ?_)
        refine j_iadd C dX2_wearSum_32 ?_
        refine j_istore_n C dX2_wearSum_33 (by decide) ?_
        refine j_iinc C dX2_wearSum_34 rfl (by decide) ?_
        refine j_goto (tgt := 4) C dX2_wearSum_37 (by decide) ?_
        refine J.lvs (lv' := [(0, .ref (G 3 r9)), (1, .int (iN (sumX X r9 (i + 1)))), (2, .int (iN (((i + 1) : Nat) : Int)))]) ?_ (ih (i + 1) (by omega) (by omega))
        intro q hq; simp only [List.mem_cons, List.not_mem_nil, or_false] at hq; rcases hq with rfl | rfl | rfl <;> rfl
  refine J.lvs (lv' := [(0, .ref (G 3 r9)), (1, .int (iN (sumX X r9 0))), (2, .int (iN ((0 : Nat) : Int)))]) ?_ (key ((X 16 r9).toNat + 1) 0 (by omega) (by omega))
  intro q hq; simp only [List.mem_cons, List.not_mem_nil, or_false] at hq; rcases hq with rfl | rfl | rfl <;> rfl

set_option maxHeartbeats 4000000 in
set_option maxRecDepth 100000 in
theorem k_take (l : Launch) (hfl : l.stackTraces = false) {S : wS} {E0 : Nat} {G : wG} {X : wM} (hC : RC E0 S G X) {r9 a9 m9 : Int} (hr : 0 ≤ r9 ∧ r9 < X 17 0) (ha : 0 ≤ a9 ∧ a9 ≤ 1000) (hm : 0 ≤ m9 ∧ m9 ≤ 1000) : Ct l yX2_canTake cX2_canTake 4 (some FieldType.boolean) 4 0 0 [.ref (G 3 r9), .int (iN a9), .int (iN m9)] S (fun r S' => r = .inl (some (.int (iN (bN (takeP X r9 a9 m9))))) ∧ S' = S) := by
  refine Ct.of cal_X2_canTake hfl (Nat.le_of_ble_eq_true rfl) ?_
  intro p e s m args below meth c D sz C ME
  have hR : RCF E0 S S G X := ⟨hC, cF.rf⟩
  have wf := hC.w3 hr
  unfold wf3 at wf
  refine j_iconst C dX2_canTake_0 ?_
  refine j_istore_n C dX2_canTake_1 (by decide) ?_
  have key : ∀ (fuel : Nat) (i : Nat), X 16 r9 - i < fuel → i = 0 ∨ (i : Int) ≤ X 16 r9 - 1 → takeX X r9 a9 m9 i = false → J p l e { frames := 20 * 4, cells := 0, slots := 0, locals := 200 * 4 } s m args below meth c 4 D (wA S sz) (wQ below D sz S (fun r S' => r = .inl (some (.int (iN (bN (takeP X r9 a9 m9))))) ∧ S' = S) args s 0 0) 2 [(0, .ref (G 3 r9)), (1, .int (iN a9)), (2, .int (iN m9)), (3, .int (iN ((i : Nat) : Int)))] [] S 0 0 := by
    intro fuel
    induction fuel with
    | zero => intro i h1 h2 h3; omega
    | succ fuel ih =>
      intro i h1 h2 h3
      refine j_iload_n C dX2_canTake_2 rfl ?_
      refine j_aload_n C dX2_canTake_3 rfl ?_
      refine jg_3_2 C hR (by omega) fl_Re_10 dX2_canTake_4 ?_
      refine j_callV C (z_rrow l hfl hR.1 (by omega)) cal_Jx4a65c_size_8abf5 vi_Jx4a65c_size_8abf5 ml_Re_34 (hR.1.q_rrow (by omega)) ⟨by decide, by decide, rfl⟩ rfl rfl (Nat.le_of_ble_eq_true rfl) ⟨by decide, by decide⟩ ⟨(by first | omega | (dsimp only; omega)), (by first | omega | (dsimp only; omega))⟩ dX2_canTake_7 (fun E S9 h => nomatch h.1) (fun v9 S9 h => ?_)
      obtain ⟨h, h9⟩ := h
      have h9 := h9.symm
      subst h9
      cases h
      refine j_iconst C dX2_canTake_10 ?_
      refine j_isub C dX2_canTake_11 ?_
      refine j_icmp_ge (tgt := 43) C dX2_canTake_12 (by decide) (by unfold rg at *; omega) (by unfold rg at *; omega) (fun c12 => ?_) (fun c12 => ?_)
      · refine j_iconst C dX2_canTake_43 ?_
        refine j_zret C ME (by first | exact Or.inl rfl | exact Or.inr rfl | (unfold bN; split <;> simp)) ?_ (by omega) (by omega) dX2_canTake_44
        exact ⟨rI (bT (by unfold takeP; rw [show (X 16 r9 - 1).toNat = i by omega, h3]; rfl)), rfl⟩
      · refine j_aload_n C dX2_canTake_15 rfl ?_
        refine jg_3_2 C hR (by omega) fl_Re_10 dX2_canTake_16 ?_
        refine j_iload_n C dX2_canTake_19 rfl ?_
        refine j_callV C (g_rrow l hfl hR.1 (by omega) (by omega)) cal_Jx4a65c_get_915e3 vi_Jx4a65c_get_915e3 ml_Re_44 (hR.1.q_rrow (by omega)) ⟨by decide, by decide, rfl⟩ rfl rfl (Nat.le_of_ble_eq_true rfl) ⟨by decide, by decide⟩ ⟨(by first | omega | (dsimp only; omega)), (by first | omega | (dsimp only; omega))⟩ dX2_canTake_20 (fun E S9 h => nomatch h.1) (fun v9 S9 h => ?_)
        obtain ⟨h, h9, w20⟩ := h
        have h9 := h9.symm
        subst h9
        cases h
        refine j_cast (kd := 4) C (hR.1.k4 (by omega)) ⟨by decide, by decide⟩ cl_Re_29 dX2_canTake_23 ?_
        refine jg_4_5 C hR (by omega) fl_Re_51 dX2_canTake_26 (fun w26 => ?_)
        refine j_iload_n C dX2_canTake_29 rfl ?_
        refine j_iadd C dX2_canTake_30 ?_
        refine j_iload_n C dX2_canTake_31 rfl ?_
        refine j_icmp_le (tgt := 37) C dX2_canTake_32 (by decide) (by unfold rg at *; omega) (by unfold rg at *; omega) (fun c32 => ?_) (fun c32 => ?_)
        · refine j_iinc C dX2_canTake_37 rfl (by decide) ?_
          refine j_goto (tgt := 2) C dX2_canTake_40 (by decide) ?_
          refine J.lvs (lv' := [(0, .ref (G 3 r9)), (1, .int (iN a9)), (2, .int (iN m9)), (3, .int (iN (((i + 1) : Nat) : Int)))]) ?_ (ih (i + 1) (by omega) (by omega) (by unfold takeX at *; rw [anyI, h3, decide_eq_false (by omega)]; rfl))
          intro q hq; simp only [List.mem_cons, List.not_mem_nil, or_false] at hq; rcases hq with rfl | rfl | rfl | rfl <;> rfl
        · refine j_iconst C dX2_canTake_35 ?_
          refine j_zret C ME (by first | exact Or.inl rfl | exact Or.inr rfl | (unfold bN; split <;> simp)) ?_ (by omega) (by omega) dX2_canTake_36
          exact ⟨rI (bF (by unfold takeP takeX; rw [(anyI_iff _ _).mpr ⟨i, by omega, decide_eq_true (by omega)⟩]; rfl)), rfl⟩
  refine J.lvs (lv' := [(0, .ref (G 3 r9)), (1, .int (iN a9)), (2, .int (iN m9)), (3, .int (iN ((0 : Nat) : Int)))]) ?_ (key ((X 16 r9).toNat + 1) 0 (by omega) (by omega) rfl)
  intro q hq; simp only [List.mem_cons, List.not_mem_nil, or_false] at hq; rcases hq with rfl | rfl | rfl | rfl <;> rfl

set_option maxHeartbeats 4000000 in
set_option maxRecDepth 100000 in
theorem n_film (l : Launch) (hfl : l.stackTraces = false) {S : wS} {E0 : Nat} {G : wG} {X : wM} (hC : RC E0 S G X) {z9 : Int} (hz : rg z9) : Ct l yX5_filmNumbered cX5_filmNumbered 2 (some (FieldType.object "Spliceroom$Film")) 4 1 6 [.ref (G 6 0), .int (iN z9)] S (fun r S' => S' = S ∧ (((0 ≤ z9 ∧ z9 < X 1 0) ∧ r = .inl (some (.ref (G 1 z9)))) ∨ (¬ (0 ≤ z9 ∧ z9 < X 1 0) ∧ r = .inr "java/lang/IndexOutOfBoundsException"))) := by
  refine Ct.of cal_X5_filmNumbered hfl (Nat.le_of_ble_eq_true rfl) ?_
  intro p e s m args below meth c D sz C ME
  have hR : RCF E0 S S G X := ⟨hC, cF.rf⟩
  have w6 := hC.w6
  unfold wf6 at w6
  refine j_iload_n C dX5_filmNumbered_0 rfl ?_
  refine j_if_lt (tgt := 15) C dX5_filmNumbered_1 (by decide) (by unfold rg at *; omega) (fun c1 => ?_) (fun c1 => ?_)
  · refine j_throwSW (text := "no such film") C ME thr_IOB cl_Sp_128 ini_IOB (by decide +kernel) ?_ dX5_filmNumbered_15 dX5_filmNumbered_18 dX5_filmNumbered_19 dX5_filmNumbered_22 dX5_filmNumbered_25 ⟨by decide, (Nat.le_of_ble_eq_true rfl), (by first | omega | (dsimp only; omega)), (by first | omega | (dsimp only; omega))⟩ (by omega) (by omega)
    exact ⟨rfl, Or.inr ⟨by omega, rfl⟩⟩
  · refine j_iload_n C dX5_filmNumbered_4 rfl ?_
    refine j_aload_n C dX5_filmNumbered_5 rfl ?_
    refine jg_6_0 C hR fl_Sp_12 dX5_filmNumbered_6 ?_
    refine j_callV C (z_L0 l hfl hR.1 ) cal_Jx4a65c_size_8abf5 vi_Jx4a65c_size_8abf5 ml_Sp_39 (hR.1.q_L0 ) ⟨by decide, by decide, rfl⟩ rfl rfl (Nat.le_of_ble_eq_true rfl) ⟨by decide, by decide⟩ ⟨(by first | omega | (dsimp only; omega)), (by first | omega | (dsimp only; omega))⟩ dX5_filmNumbered_9 (fun E S9 h => nomatch h.1) (fun v9 S9 h => ?_)
    obtain ⟨h, h9⟩ := h
    have h9 := h9.symm
    subst h9
    cases h
    refine j_icmp_lt (tgt := 26) C dX5_filmNumbered_12 (by decide) (by unfold rg at *; omega) (by unfold rg at *; omega) (fun c12 => ?_) (fun c12 => ?_)
    · refine j_aload_n C dX5_filmNumbered_26 rfl ?_
      refine jg_6_0 C hR fl_Sp_12 dX5_filmNumbered_27 ?_
      refine j_iload_n C dX5_filmNumbered_30 rfl ?_
      refine j_callV C (g_L0 l hfl hR.1 (by omega)) cal_Jx4a65c_get_915e3 vi_Jx4a65c_get_915e3 ml_Sp_146 (hR.1.q_L0 ) ⟨by decide, by decide, rfl⟩ rfl rfl (Nat.le_of_ble_eq_true rfl) ⟨by decide, by decide⟩ ⟨(by first | omega | (dsimp only; omega)), (by first | omega | (dsimp only; omega))⟩ dX5_filmNumbered_31 (fun E S9 h => nomatch h.1) (fun v9 S9 h => ?_)
      obtain ⟨h, h9, -⟩ := h
      have h9 := h9.symm
      subst h9
      cases h
      refine j_cast (kd := 1) C (hR.1.k1 (by omega)) ⟨by decide, by decide⟩ cl_Sp_50 dX5_filmNumbered_34 ?_
      refine j_aret C ME (Or.inl ⟨_, rfl⟩) (Or.inr ⟨_, rfl⟩) ?_ (by omega) (by omega) dX5_filmNumbered_37
      exact ⟨rfl, Or.inl ⟨by omega, rfl⟩⟩
    · refine j_throwSW (text := "no such film") C ME thr_IOB cl_Sp_128 ini_IOB (by decide +kernel) ?_ dX5_filmNumbered_15 dX5_filmNumbered_18 dX5_filmNumbered_19 dX5_filmNumbered_22 dX5_filmNumbered_25 ⟨by decide, (Nat.le_of_ble_eq_true rfl), (by first | omega | (dsimp only; omega)), (by first | omega | (dsimp only; omega))⟩ (by omega) (by omega)
      exact ⟨rfl, Or.inr ⟨by omega, rfl⟩⟩

set_option maxHeartbeats 4000000 in
set_option maxRecDepth 100000 in
theorem n_shot (l : Launch) (hfl : l.stackTraces = false) {S : wS} {E0 : Nat} {G : wG} {X : wM} (hC : RC E0 S G X) {z9 : Int} (hz : rg z9) : Ct l yX5_shotNumbered cX5_shotNumbered 2 (some (FieldType.object "Spliceroom$Shot")) 4 1 6 [.ref (G 6 0), .int (iN z9)] S (fun r S' => S' = S ∧ (((0 ≤ z9 ∧ z9 < X 12 0) ∧ r = .inl (some (.ref (G 4 z9)))) ∨ (¬ (0 ≤ z9 ∧ z9 < X 12 0) ∧ r = .inr "java/lang/IndexOutOfBoundsException"))) := by
  refine Ct.of cal_X5_shotNumbered hfl (Nat.le_of_ble_eq_true rfl) ?_
  intro p e s m args below meth c D sz C ME
  have hR : RCF E0 S S G X := ⟨hC, cF.rf⟩
  have w6 := hC.w6
  unfold wf6 at w6
  refine j_iload_n C dX5_shotNumbered_0 rfl ?_
  refine j_if_lt (tgt := 15) C dX5_shotNumbered_1 (by decide) (by unfold rg at *; omega) (fun c1 => ?_) (fun c1 => ?_)
  · refine j_throwSW (text := "no such shot") C ME thr_IOB cl_Sp_128 ini_IOB (by decide +kernel) ?_ dX5_shotNumbered_15 dX5_shotNumbered_18 dX5_shotNumbered_19 dX5_shotNumbered_22 dX5_shotNumbered_25 ⟨by decide, (Nat.le_of_ble_eq_true rfl), (by first | omega | (dsimp only; omega)), (by first | omega | (dsimp only; omega))⟩ (by omega) (by omega)
    exact ⟨rfl, Or.inr ⟨by omega, rfl⟩⟩
  · refine j_iload_n C dX5_shotNumbered_4 rfl ?_
    refine j_aload_n C dX5_shotNumbered_5 rfl ?_
    refine jg_6_1 C hR fl_Sp_16 dX5_shotNumbered_6 ?_
    refine j_callV C (z_L1 l hfl hR.1 ) cal_Jx4a65c_size_8abf5 vi_Jx4a65c_size_8abf5 ml_Sp_39 (hR.1.q_L1 ) ⟨by decide, by decide, rfl⟩ rfl rfl (Nat.le_of_ble_eq_true rfl) ⟨by decide, by decide⟩ ⟨(by first | omega | (dsimp only; omega)), (by first | omega | (dsimp only; omega))⟩ dX5_shotNumbered_9 (fun E S9 h => nomatch h.1) (fun v9 S9 h => ?_)
    obtain ⟨h, h9⟩ := h
    have h9 := h9.symm
    subst h9
    cases h
    refine j_icmp_lt (tgt := 26) C dX5_shotNumbered_12 (by decide) (by unfold rg at *; omega) (by unfold rg at *; omega) (fun c12 => ?_) (fun c12 => ?_)
    · refine j_aload_n C dX5_shotNumbered_26 rfl ?_
      refine jg_6_1 C hR fl_Sp_16 dX5_shotNumbered_27 ?_
      refine j_iload_n C dX5_shotNumbered_30 rfl ?_
      refine j_callV C (g_L1 l hfl hR.1 (by omega)) cal_Jx4a65c_get_915e3 vi_Jx4a65c_get_915e3 ml_Sp_146 (hR.1.q_L1 ) ⟨by decide, by decide, rfl⟩ rfl rfl (Nat.le_of_ble_eq_true rfl) ⟨by decide, by decide⟩ ⟨(by first | omega | (dsimp only; omega)), (by first | omega | (dsimp only; omega))⟩ dX5_shotNumbered_31 (fun E S9 h => nomatch h.1) (fun v9 S9 h => ?_)
      obtain ⟨h, h9, -⟩ := h
      have h9 := h9.symm
      subst h9
      cases h
      refine j_cast (kd := 4) C (hR.1.k4 (by omega)) ⟨by decide, by decide⟩ cl_Sp_75 dX5_shotNumbered_34 ?_
      refine j_aret C ME (Or.inl ⟨_, rfl⟩) (Or.inr ⟨_, rfl⟩) ?_ (by omega) (by omega) dX5_shotNumbered_37
      exact ⟨rfl, Or.inl ⟨by omega, rfl⟩⟩
    · refine j_throwSW (text := "no such shot") C ME thr_IOB cl_Sp_128 ini_IOB (by decide +kernel) ?_ dX5_shotNumbered_15 dX5_shotNumbered_18 dX5_shotNumbered_19 dX5_shotNumbered_22 dX5_shotNumbered_25 ⟨by decide, (Nat.le_of_ble_eq_true rfl), (by first | omega | (dsimp only; omega)), (by first | omega | (dsimp only; omega))⟩ (by omega) (by omega)
      exact ⟨rfl, Or.inr ⟨by omega, rfl⟩⟩

set_option maxHeartbeats 4000000 in
set_option maxRecDepth 100000 in
theorem n_reel (l : Launch) (hfl : l.stackTraces = false) {S : wS} {E0 : Nat} {G : wG} {X : wM} (hC : RC E0 S G X) {z9 : Int} (hz : rg z9) : Ct l yX5_reelNumbered cX5_reelNumbered 2 (some (FieldType.object "Spliceroom$Reel")) 4 1 6 [.ref (G 6 0), .int (iN z9)] S (fun r S' => S' = S ∧ (((0 ≤ z9 ∧ z9 < X 17 0) ∧ r = .inl (some (.ref (G 3 z9)))) ∨ (¬ (0 ≤ z9 ∧ z9 < X 17 0) ∧ r = .inr "java/lang/IndexOutOfBoundsException"))) := by
  refine Ct.of cal_X5_reelNumbered hfl (Nat.le_of_ble_eq_true rfl) ?_
  intro p e s m args below meth c D sz C ME
  have hR : RCF E0 S S G X := ⟨hC, cF.rf⟩
  have w6 := hC.w6
  unfold wf6 at w6
  refine j_iload_n C dX5_reelNumbered_0 rfl ?_
  refine j_if_lt (tgt := 15) C dX5_reelNumbered_1 (by decide) (by unfold rg at *; omega) (fun c1 => ?_) (fun c1 => ?_)
  · refine j_throwSW (text := "no such reel") C ME thr_IOB cl_Sp_128 ini_IOB (by decide +kernel) ?_ dX5_reelNumbered_15 dX5_reelNumbered_18 dX5_reelNumbered_19 dX5_reelNumbered_22 dX5_reelNumbered_25 ⟨by decide, (Nat.le_of_ble_eq_true rfl), (by first | omega | (dsimp only; omega)), (by first | omega | (dsimp only; omega))⟩ (by omega) (by omega)
    exact ⟨rfl, Or.inr ⟨by omega, rfl⟩⟩
  · refine j_iload_n C dX5_reelNumbered_4 rfl ?_
    refine j_aload_n C dX5_reelNumbered_5 rfl ?_
    refine jg_6_2 C hR fl_Sp_19 dX5_reelNumbered_6 ?_
    refine j_callV C (z_L2 l hfl hR.1 ) cal_Jx4a65c_size_8abf5 vi_Jx4a65c_size_8abf5 ml_Sp_39 (hR.1.q_L2 ) ⟨by decide, by decide, rfl⟩ rfl rfl (Nat.le_of_ble_eq_true rfl) ⟨by decide, by decide⟩ ⟨(by first | omega | (dsimp only; omega)), (by first | omega | (dsimp only; omega))⟩ dX5_reelNumbered_9 (fun E S9 h => nomatch h.1) (fun v9 S9 h => ?_)
    obtain ⟨h, h9⟩ := h
    have h9 := h9.symm
    subst h9
    cases h
    refine j_icmp_lt (tgt := 26) C dX5_reelNumbered_12 (by decide) (by unfold rg at *; omega) (by unfold rg at *; omega) (fun c12 => ?_) (fun c12 => ?_)
    · refine j_aload_n C dX5_reelNumbered_26 rfl ?_
      refine jg_6_2 C hR fl_Sp_19 dX5_reelNumbered_27 ?_
      refine j_iload_n C dX5_reelNumbered_30 rfl ?_
      refine j_callV C (g_L2 l hfl hR.1 (by omega)) cal_Jx4a65c_get_915e3 vi_Jx4a65c_get_915e3 ml_Sp_146 (hR.1.q_L2 ) ⟨by decide, by decide, rfl⟩ rfl rfl (Nat.le_of_ble_eq_true rfl) ⟨by decide, by decide⟩ ⟨(by first | omega | (dsimp only; omega)), (by first | omega | (dsimp only; omega))⟩ dX5_reelNumbered_31 (fun E S9 h => nomatch h.1) (fun v9 S9 h => ?_)
      obtain ⟨h, h9, -⟩ := h
      have h9 := h9.symm
      subst h9
      cases h
      refine j_cast (kd := 3) C (hR.1.k3 (by omega)) ⟨by decide, by decide⟩ cl_Sp_86 dX5_reelNumbered_34 ?_
      refine j_aret C ME (Or.inl ⟨_, rfl⟩) (Or.inr ⟨_, rfl⟩) ?_ (by omega) (by omega) dX5_reelNumbered_37
      exact ⟨rfl, Or.inl ⟨by omega, rfl⟩⟩
    · refine j_throwSW (text := "no such reel") C ME thr_IOB cl_Sp_128 ini_IOB (by decide +kernel) ?_ dX5_reelNumbered_15 dX5_reelNumbered_18 dX5_reelNumbered_19 dX5_reelNumbered_22 dX5_reelNumbered_25 ⟨by decide, (Nat.le_of_ble_eq_true rfl), (by first | omega | (dsimp only; omega)), (by first | omega | (dsimp only; omega))⟩ (by omega) (by omega)
      exact ⟨rfl, Or.inr ⟨by omega, rfl⟩⟩

set_option maxHeartbeats 4000000 in
set_option maxRecDepth 100000 in
theorem n_version (l : Launch) (hfl : l.stackTraces = false) {S : wS} {E0 : Nat} {G : wG} {X : wM} (hC : RC E0 S G X) {z9 : Int} (hz : rg z9) : Ct l yX5_versionNumbered cX5_versionNumbered 2 (some (FieldType.object "Spliceroom$Version")) 4 1 6 [.ref (G 6 0), .int (iN z9)] S (fun r S' => S' = S ∧ (((0 ≤ z9 ∧ z9 < X 21 0) ∧ r = .inl (some (.ref (G 5 z9)))) ∨ (¬ (0 ≤ z9 ∧ z9 < X 21 0) ∧ r = .inr "java/lang/IndexOutOfBoundsException"))) := by
  refine Ct.of cal_X5_versionNumbered hfl (Nat.le_of_ble_eq_true rfl) ?_
  intro p e s m args below meth c D sz C ME
  have hR : RCF E0 S S G X := ⟨hC, cF.rf⟩
  have w6 := hC.w6
  unfold wf6 at w6
  refine j_iload_n C dX5_versionNumbered_0 rfl ?_
  refine j_if_lt (tgt := 15) C dX5_versionNumbered_1 (by decide) (by unfold rg at *; omega) (fun c1 => ?_) (fun c1 => ?_)
  · refine j_throwSW (text := "no such version") C ME thr_IOB cl_Sp_128 ini_IOB (by decide +kernel) ?_ dX5_versionNumbered_15 dX5_versionNumbered_18 dX5_versionNumbered_19 dX5_versionNumbered_22 dX5_versionNumbered_25 ⟨by decide, (Nat.le_of_ble_eq_true rfl), (by first | omega | (dsimp only; omega)), (by first | omega | (dsimp only; omega))⟩ (by omega) (by omega)
    exact ⟨rfl, Or.inr ⟨by omega, rfl⟩⟩
  · refine j_iload_n C dX5_versionNumbered_4 rfl ?_
    refine j_aload_n C dX5_versionNumbered_5 rfl ?_
    refine jg_6_3 C hR fl_Sp_22 dX5_versionNumbered_6 ?_
    refine j_callV C (z_L3 l hfl hR.1 ) cal_Jx4a65c_size_8abf5 vi_Jx4a65c_size_8abf5 ml_Sp_39 (hR.1.q_L3 ) ⟨by decide, by decide, rfl⟩ rfl rfl (Nat.le_of_ble_eq_true rfl) ⟨by decide, by decide⟩ ⟨(by first | omega | (dsimp only; omega)), (by first | omega | (dsimp only; omega))⟩ dX5_versionNumbered_9 (fun E S9 h => nomatch h.1) (fun v9 S9 h => ?_)
    obtain ⟨h, h9⟩ := h
    have h9 := h9.symm
    subst h9
    cases h
    refine j_icmp_lt (tgt := 26) C dX5_versionNumbered_12 (by decide) (by unfold rg at *; omega) (by unfold rg at *; omega) (fun c12 => ?_) (fun c12 => ?_)
    · refine j_aload_n C dX5_versionNumbered_26 rfl ?_
      refine jg_6_3 C hR fl_Sp_22 dX5_versionNumbered_27 ?_
      refine j_iload_n C dX5_versionNumbered_30 rfl ?_
      refine j_callV C (g_L3 l hfl hR.1 (by omega)) cal_Jx4a65c_get_915e3 vi_Jx4a65c_get_915e3 ml_Sp_146 (hR.1.q_L3 ) ⟨by decide, by decide, rfl⟩ rfl rfl (Nat.le_of_ble_eq_true rfl) ⟨by decide, by decide⟩ ⟨(by first | omega | (dsimp only; omega)), (by first | omega | (dsimp only; omega))⟩ dX5_versionNumbered_31 (fun E S9 h => nomatch h.1) (fun v9 S9 h => ?_)
      obtain ⟨h, h9, -⟩ := h
      have h9 := h9.symm
      subst h9
      cases h
      refine j_cast (kd := 5) C (hR.1.k5 (by omega)) ⟨by decide, by decide⟩ cl_Sp_264 dX5_versionNumbered_34 ?_
      refine j_aret C ME (Or.inl ⟨_, rfl⟩) (Or.inr ⟨_, rfl⟩) ?_ (by omega) (by omega) dX5_versionNumbered_37
      exact ⟨rfl, Or.inl ⟨by omega, rfl⟩⟩
    · refine j_throwSW (text := "no such version") C ME thr_IOB cl_Sp_128 ini_IOB (by decide +kernel) ?_ dX5_versionNumbered_15 dX5_versionNumbered_18 dX5_versionNumbered_19 dX5_versionNumbered_22 dX5_versionNumbered_25 ⟨by decide, (Nat.le_of_ble_eq_true rfl), (by first | omega | (dsimp only; omega)), (by first | omega | (dsimp only; omega))⟩ (by omega) (by omega)
      exact ⟨rfl, Or.inr ⟨by omega, rfl⟩⟩

set_option maxHeartbeats 4000000 in
set_option maxRecDepth 100000 in
theorem n_loan (l : Launch) (hfl : l.stackTraces = false) {S : wS} {E0 : Nat} {G : wG} {X : wM} (hC : RC E0 S G X) {z9 : Int} (hz : rg z9) : Ct l yX5_loanNumbered cX5_loanNumbered 2 (some (FieldType.object "Spliceroom$Loan")) 4 1 6 [.ref (G 6 0), .int (iN z9)] S (fun r S' => S' = S ∧ (((0 ≤ z9 ∧ z9 < X 28 0) ∧ r = .inl (some (.ref (G 2 z9)))) ∨ (¬ (0 ≤ z9 ∧ z9 < X 28 0) ∧ r = .inr "java/lang/IndexOutOfBoundsException"))) := by
  refine Ct.of cal_X5_loanNumbered hfl (Nat.le_of_ble_eq_true rfl) ?_
  intro p e s m args below meth c D sz C ME
  have hR : RCF E0 S S G X := ⟨hC, cF.rf⟩
  have w6 := hC.w6
  unfold wf6 at w6
  refine j_iload_n C dX5_loanNumbered_0 rfl ?_
  refine j_if_lt (tgt := 15) C dX5_loanNumbered_1 (by decide) (by unfold rg at *; omega) (fun c1 => ?_) (fun c1 => ?_)
  · refine j_throwSW (text := "no such loan") C ME thr_IOB cl_Sp_128 ini_IOB (by decide +kernel) ?_ dX5_loanNumbered_15 dX5_loanNumbered_18 dX5_loanNumbered_19 dX5_loanNumbered_22 dX5_loanNumbered_25 ⟨by decide, (Nat.le_of_ble_eq_true rfl), (by first | omega | (dsimp only; omega)), (by first | omega | (dsimp only; omega))⟩ (by omega) (by omega)
    exact ⟨rfl, Or.inr ⟨by omega, rfl⟩⟩
  · refine j_iload_n C dX5_loanNumbered_4 rfl ?_
    refine j_aload_n C dX5_loanNumbered_5 rfl ?_
    refine jg_6_4 C hR fl_Sp_25 dX5_loanNumbered_6 ?_
    refine j_callV C (z_L4 l hfl hR.1 ) cal_Jx4a65c_size_8abf5 vi_Jx4a65c_size_8abf5 ml_Sp_39 (hR.1.q_L4 ) ⟨by decide, by decide, rfl⟩ rfl rfl (Nat.le_of_ble_eq_true rfl) ⟨by decide, by decide⟩ ⟨(by first | omega | (dsimp only; omega)), (by first | omega | (dsimp only; omega))⟩ dX5_loanNumbered_9 (fun E S9 h => nomatch h.1) (fun v9 S9 h => ?_)
    obtain ⟨h, h9⟩ := h
    have h9 := h9.symm
    subst h9
    cases h
    refine j_icmp_lt (tgt := 26) C dX5_loanNumbered_12 (by decide) (by unfold rg at *; omega) (by unfold rg at *; omega) (fun c12 => ?_) (fun c12 => ?_)
    · refine j_aload_n C dX5_loanNumbered_26 rfl ?_
      refine jg_6_4 C hR fl_Sp_25 dX5_loanNumbered_27 ?_
      refine j_iload_n C dX5_loanNumbered_30 rfl ?_
      refine j_callV C (g_L4 l hfl hR.1 (by omega)) cal_Jx4a65c_get_915e3 vi_Jx4a65c_get_915e3 ml_Sp_146 (hR.1.q_L4 ) ⟨by decide, by decide, rfl⟩ rfl rfl (Nat.le_of_ble_eq_true rfl) ⟨by decide, by decide⟩ ⟨(by first | omega | (dsimp only; omega)), (by first | omega | (dsimp only; omega))⟩ dX5_loanNumbered_31 (fun E S9 h => nomatch h.1) (fun v9 S9 h => ?_)
      obtain ⟨h, h9, -⟩ := h
      have h9 := h9.symm
      subst h9
      cases h
      refine j_cast (kd := 2) C (hR.1.k2 (by omega)) ⟨by decide, by decide⟩ cl_Sp_302 dX5_loanNumbered_34 ?_
      refine j_aret C ME (Or.inl ⟨_, rfl⟩) (Or.inr ⟨_, rfl⟩) ?_ (by omega) (by omega) dX5_loanNumbered_37
      exact ⟨rfl, Or.inl ⟨by omega, rfl⟩⟩
    · refine j_throwSW (text := "no such loan") C ME thr_IOB cl_Sp_128 ini_IOB (by decide +kernel) ?_ dX5_loanNumbered_15 dX5_loanNumbered_18 dX5_loanNumbered_19 dX5_loanNumbered_22 dX5_loanNumbered_25 ⟨by decide, (Nat.le_of_ble_eq_true rfl), (by first | omega | (dsimp only; omega)), (by first | omega | (dsimp only; omega))⟩ (by omega) (by omega)
      exact ⟨rfl, Or.inr ⟨by omega, rfl⟩⟩

set_option maxHeartbeats 4000000 in
set_option maxRecDepth 100000 in
theorem n_splice (l : Launch) (hfl : l.stackTraces = false) {S : wS} {E0 : Nat} {G : wG} {X : wM} (hC : RC E0 S G X) {r9 z9 : Int} (hr : 0 ≤ r9 ∧ r9 < X 17 0) (hz : rg z9) : Ct l yX5_shotAheadOfSplice cX5_shotAheadOfSplice 3 (some (FieldType.object "Spliceroom$Shot")) 4 1 6 [.ref (G 6 0), .ref (G 3 r9), .int (iN z9)] S (fun r S' => S' = S ∧ (((0 ≤ z9 ∧ z9 < X 16 r9 - 1) ∧ r = .inl (some (.ref (G 4 (X 14 (60 * r9 + z9)))))) ∨ (¬ (0 ≤ z9 ∧ z9 < X 16 r9 - 1) ∧ r = .inr "java/lang/IndexOutOfBoundsException"))) := by
  refine Ct.of cal_X5_shotAheadOfSplice hfl (Nat.le_of_ble_eq_true rfl) ?_
  intro p e s m args below meth c D sz C ME
  have hR : RCF E0 S S G X := ⟨hC, cF.rf⟩
  have wf := hC.w3 hr
  unfold wf3 at wf
  refine j_iload_n C dX5_shotAheadOfSplice_0 rfl ?_
  refine j_if_lt (tgt := 12) C dX5_shotAheadOfSplice_1 (by decide) (by unfold rg at *; omega) (fun c1 => ?_) (fun c1 => ?_)
  · refine j_throwSW (text := "no such splice") C ME thr_IOB cl_Sp_128 ini_IOB (by decide +kernel) ?_ dX5_shotAheadOfSplice_12 dX5_shotAheadOfSplice_15 dX5_shotAheadOfSplice_16 dX5_shotAheadOfSplice_19 dX5_shotAheadOfSplice_22 ⟨by decide, (Nat.le_of_ble_eq_true rfl), (by first | omega | (dsimp only; omega)), (by first | omega | (dsimp only; omega))⟩ (by omega) (by omega)
    exact ⟨rfl, Or.inr ⟨by omega, rfl⟩⟩
  · refine j_iload_n C dX5_shotAheadOfSplice_4 rfl ?_
    refine j_aload_n C dX5_shotAheadOfSplice_5 rfl ?_
    refine j_callV C (k_splices l hfl hR.1 (by omega)) cal_X2_spliceCount vi_X2_spliceCount ml_Sp_342 (hR.1.k3 (by omega)) ⟨by decide, by decide, rfl⟩ rfl rfl (Nat.le_of_ble_eq_true rfl) ⟨by decide, by decide⟩ ⟨(by first | omega | (dsimp only; omega)), (by first | omega | (dsimp only; omega))⟩ dX5_shotAheadOfSplice_6 (fun E S9 h => nomatch h.1) (fun v9 S9 h => ?_)
    obtain ⟨h, h9⟩ := h
    have h9 := h9.symm
    subst h9
    cases h
    refine j_icmp_lt (tgt := 23) C dX5_shotAheadOfSplice_9 (by decide) (by unfold rg at *; omega) (by unfold rg at *; omega) (fun c9 => ?_) (fun c9 => ?_)
    · refine j_aload_n C dX5_shotAheadOfSplice_23 rfl ?_
      refine jg_3_2 C hR (by omega) fl_Sp_127 dX5_shotAheadOfSplice_24 ?_
      refine j_iload_n C dX5_shotAheadOfSplice_27 rfl ?_
      refine j_callV C (g_rrow l hfl hR.1 (by omega) (by omega)) cal_Jx4a65c_get_915e3 vi_Jx4a65c_get_915e3 ml_Sp_146 (hR.1.q_rrow (by omega)) ⟨by decide, by decide, rfl⟩ rfl rfl (Nat.le_of_ble_eq_true rfl) ⟨by decide, by decide⟩ ⟨(by first | omega | (dsimp only; omega)), (by first | omega | (dsimp only; omega))⟩ dX5_shotAheadOfSplice_28 (fun E S9 h => nomatch h.1) (fun v9 S9 h => ?_)
      obtain ⟨h, h9, w28⟩ := h
      have h9 := h9.symm
      subst h9
      cases h
      refine j_cast (kd := 4) C (hR.1.k4 (by omega)) ⟨by decide, by decide⟩ cl_Sp_75 dX5_shotAheadOfSplice_31 ?_
      refine j_aret C ME (Or.inl ⟨_, rfl⟩) (Or.inr ⟨_, rfl⟩) ?_ (by omega) (by omega) dX5_shotAheadOfSplice_34
      exact ⟨rfl, Or.inl ⟨by omega, rfl⟩⟩
    · refine j_throwSW (text := "no such splice") C ME thr_IOB cl_Sp_128 ini_IOB (by decide +kernel) ?_ dX5_shotAheadOfSplice_12 dX5_shotAheadOfSplice_15 dX5_shotAheadOfSplice_16 dX5_shotAheadOfSplice_19 dX5_shotAheadOfSplice_22 ⟨by decide, (Nat.le_of_ble_eq_true rfl), (by first | omega | (dsimp only; omega)), (by first | omega | (dsimp only; omega))⟩ (by omega) (by omega)
      exact ⟨rfl, Or.inr ⟨by omega, rfl⟩⟩

set_option maxHeartbeats 4000000 in
set_option maxRecDepth 100000 in
theorem n_fine (l : Launch) (hfl : l.stackTraces = false) {S : wS} {E0 : Nat} {G : wG} {X : wM} (hC : RC E0 S G X) {a9 b9 : Int} (ha : rg a9) (hb : rg b9) : Ct l yX5_requireLengthAndScene cX5_requireLengthAndScene 3 none 1 1 6 [.ref (G 6 0), .int (iN a9), .int (iN b9)] S (fun r S' => S' = S ∧ ((((1 ≤ a9 ∧ a9 ≤ 999) ∧ 0 ≤ b9 ∧ b9 ≤ 9) ∧ r = .inl none) ∨ (¬ ((1 ≤ a9 ∧ a9 ≤ 999) ∧ 0 ≤ b9 ∧ b9 ≤ 9) ∧ r = .inr "java/lang/IllegalArgumentException"))) := by
  refine Ct.of cal_X5_requireLengthAndScene hfl (Nat.le_of_ble_eq_true rfl) ?_
  intro p e s m args below meth c D sz C ME
  have hR : RCF E0 S S G X := ⟨hC, cF.rf⟩
  refine j_iload_n C dX5_requireLengthAndScene_0 rfl ?_
  refine j_iconst C dX5_requireLengthAndScene_1 ?_
  refine j_icmp_lt (tgt := 22) C dX5_requireLengthAndScene_2 (by decide) (by unfold rg at *; omega) (by unfold rg at *; omega) (fun c2 => ?_) (fun c2 => ?_)
  · refine j_throwSW (text := "a number is out of range") C ME thr_IAE cl_Sp_101 ini_IAE (by decide +kernel) ?_ dX5_requireLengthAndScene_22 dX5_requireLengthAndScene_25 dX5_requireLengthAndScene_26 dX5_requireLengthAndScene_29 dX5_requireLengthAndScene_32 ⟨by decide, (Nat.le_of_ble_eq_true rfl), (by first | omega | (dsimp only; omega)), (by first | omega | (dsimp only; omega))⟩ (by omega) (by omega)
    exact ⟨rfl, Or.inr ⟨by omega, rfl⟩⟩
  · refine j_iload_n C dX5_requireLengthAndScene_5 rfl ?_
    refine j_sipush C dX5_requireLengthAndScene_6 (by decide) ?_
    refine j_icmp_gt (tgt := 22) C dX5_requireLengthAndScene_9 (by decide) (by unfold rg at *; omega) (by unfold rg at *; omega) (fun c9 => ?_) (fun c9 => ?_)
    · refine j_throwSW (text := "a number is out of range") C ME thr_IAE cl_Sp_101 ini_IAE (by decide +kernel) ?_ dX5_requireLengthAndScene_22 dX5_requireLengthAndScene_25 dX5_requireLengthAndScene_26 dX5_requireLengthAndScene_29 dX5_requireLengthAndScene_32 ⟨by decide, (Nat.le_of_ble_eq_true rfl), (by first | omega | (dsimp only; omega)), (by first | omega | (dsimp only; omega))⟩ (by omega) (by omega)
      exact ⟨rfl, Or.inr ⟨by omega, rfl⟩⟩
    · refine j_iload_n C dX5_requireLengthAndScene_12 rfl ?_
      refine j_if_lt (tgt := 22) C dX5_requireLengthAndScene_13 (by decide) (by unfold rg at *; omega) (fun c13 => ?_) (fun c13 => ?_)
      · refine j_throwSW (text := "a number is out of range") C ME thr_IAE cl_Sp_101 ini_IAE (by decide +kernel) ?_ dX5_requireLengthAndScene_22 dX5_requireLengthAndScene_25 dX5_requireLengthAndScene_26 dX5_requireLengthAndScene_29 dX5_requireLengthAndScene_32 ⟨by decide, (Nat.le_of_ble_eq_true rfl), (by first | omega | (dsimp only; omega)), (by first | omega | (dsimp only; omega))⟩ (by omega) (by omega)
        exact ⟨rfl, Or.inr ⟨by omega, rfl⟩⟩
      · refine j_iload_n C dX5_requireLengthAndScene_16 rfl ?_
        refine j_bipush C dX5_requireLengthAndScene_17 (by decide) ?_
        refine j_icmp_le (tgt := 33) C dX5_requireLengthAndScene_19 (by decide) (by unfold rg at *; omega) (by unfold rg at *; omega) (fun c19 => ?_) (fun c19 => ?_)
        · refine j_vret C ME ?_ (by omega) (by omega) dX5_requireLengthAndScene_33
          exact ⟨rfl, Or.inl ⟨by omega, rfl⟩⟩
        · refine j_throwSW (text := "a number is out of range") C ME thr_IAE cl_Sp_101 ini_IAE (by decide +kernel) ?_ dX5_requireLengthAndScene_22 dX5_requireLengthAndScene_25 dX5_requireLengthAndScene_26 dX5_requireLengthAndScene_29 dX5_requireLengthAndScene_32 ⟨by decide, (Nat.le_of_ble_eq_true rfl), (by first | omega | (dsimp only; omega)), (by first | omega | (dsimp only; omega))⟩ (by omega) (by omega)
          exact ⟨rfl, Or.inr ⟨by omega, rfl⟩⟩

set_option maxHeartbeats 4000000 in
set_option maxRecDepth 100000 in
theorem n_lent (l : Launch) (hfl : l.stackTraces = false) {S : wS} {E0 : Nat} {G : wG} {X : wM} (hC : RC E0 S G X) {f9 : Int} (hf : 0 ≤ f9 ∧ f9 < X 1 0) : Ct l yX5_requireNotLent cX5_requireNotLent 2 none 1 1 6 [.ref (G 6 0), .ref (G 1 f9)] S (fun r S' => S' = S ∧ ((X 32 f9 = 0 ∧ r = .inl none) ∨ (¬ X 32 f9 = 0 ∧ r = .inr "java/lang/UnsupportedOperationException"))) := by
  refine Ct.of cal_X5_requireNotLent hfl (Nat.le_of_ble_eq_true rfl) ?_
  intro p e s m args below meth c D sz C ME
  have hR : RCF E0 S S G X := ⟨hC, cF.rf⟩
  refine j_aload_n C dX5_requireNotLent_0 rfl ?_
  refine jg_1_1 C hR (by omega) fl_Sp_307 dX5_requireNotLent_1 (fun w1 => ?_)
  refine j_if_eq (tgt := 18) C dX5_requireNotLent_4 (by decide) (by unfold rg at *; omega) (fun c4 => ?_) (fun c4 => ?_)
  · refine j_vret C ME ?_ (by omega) (by omega) dX5_requireNotLent_18
    exact ⟨rfl, Or.inl ⟨by omega, rfl⟩⟩
  · refine j_throwSW (text := "the film is lent") C ME thr_UOE cl_Sp_114 ini_UOE (by decide +kernel) ?_ dX5_requireNotLent_7 dX5_requireNotLent_10 dX5_requireNotLent_11 dX5_requireNotLent_14 dX5_requireNotLent_17 ⟨by decide, (Nat.le_of_ble_eq_true rfl), (by first | omega | (dsimp only; omega)), (by first | omega | (dsimp only; omega))⟩ (by omega) (by omega)
    exact ⟨rfl, Or.inr ⟨by omega, rfl⟩⟩

set_option maxHeartbeats 4000000 in
set_option maxRecDepth 100000 in
theorem k_anylent (l : Launch) (hfl : l.stackTraces = false) {S : wS} {E0 : Nat} {G : wG} {X : wM} (hC : RC E0 S G X)  : Ct l yX5_isAnyFilmLent cX5_isAnyFilmLent 2 (some FieldType.boolean) 4 0 0 [.ref (G 6 0)] S (fun r S' => r = .inl (some (.int (iN (bN (lentX X (X 1 0).toNat))))) ∧ S' = S) := by
  refine Ct.of cal_X5_isAnyFilmLent hfl (Nat.le_of_ble_eq_true rfl) ?_
  intro p e s m args below meth c D sz C ME
  have hR : RCF E0 S S G X := ⟨hC, cF.rf⟩
  have w6 := hC.w6
  unfold wf6 at w6
  refine j_iconst C dX5_isAnyFilmLent_0 ?_
  refine j_istore_n C dX5_isAnyFilmLent_1 (by decide) ?_
  have key : ∀ (fuel : Nat) (i : Nat), X 1 0 - i < fuel → (i : Int) ≤ X 1 0 → lentX X i = false → J p l e { frames := 20 * 4, cells := 0, slots := 0, locals := 200 * 4 } s m args below meth c 2 D (wA S sz) (wQ below D sz S (fun r S' => r = .inl (some (.int (iN (bN (lentX X (X 1 0).toNat))))) ∧ S' = S) args s 0 0) 2 [(0, .ref (G 6 0)), (1, .int (iN ((i : Nat) : Int)))] [] S 0 0 := by
    intro fuel
    induction fuel with
    | zero => intro i h1 h2 h3; omega
    | succ fuel ih =>
      intro i h1 h2 h3
      refine j_iload_n C dX5_isAnyFilmLent_2 rfl ?_
      refine j_aload_n C dX5_isAnyFilmLent_3 rfl ?_
      refine jg_6_0 C hR fl_Sp_12 dX5_isAnyFilmLent_4 ?_
      refine j_callV C (z_L0 l hfl hR.1 ) cal_Jx4a65c_size_8abf5 vi_Jx4a65c_size_8abf5 ml_Sp_39 (hR.1.q_L0 ) ⟨by decide, by decide, rfl⟩ rfl rfl (Nat.le_of_ble_eq_true rfl) ⟨by decide, by decide⟩ ⟨(by first | omega | (dsimp only; omega)), (by first | omega | (dsimp only; omega))⟩ dX5_isAnyFilmLent_7 (fun E S9 h => nomatch h.1) (fun v9 S9 h => ?_)
      obtain ⟨h, h9⟩ := h
      have h9 := h9.symm
      subst h9
      cases h
      refine j_icmp_ge (tgt := 38) C dX5_isAnyFilmLent_10 (by decide) (by unfold rg at *; omega) (by unfold rg at *; omega) (fun c10 => ?_) (fun c10 => ?_)
      · refine j_iconst C dX5_isAnyFilmLent_38 ?_
        refine j_zret C ME (by first | exact Or.inl rfl | exact Or.inr rfl | (unfold bN; split <;> simp)) ?_ (by omega) (by omega) dX5_isAnyFilmLent_39
        exact ⟨rI (bF (by rw [show (X 1 0).toNat = i by omega, h3])), rfl⟩
      · refine j_aload_n C dX5_isAnyFilmLent_13 rfl ?_
        refine jg_6_0 C hR fl_Sp_12 dX5_isAnyFilmLent_14 ?_
        refine j_iload_n C dX5_isAnyFilmLent_17 rfl ?_
        refine j_callV C (g_L0 l hfl hR.1 (by omega)) cal_Jx4a65c_get_915e3 vi_Jx4a65c_get_915e3 ml_Sp_146 (hR.1.q_L0 ) ⟨by decide, by decide, rfl⟩ rfl rfl (Nat.le_of_ble_eq_true rfl) ⟨by decide, by decide⟩ ⟨(by first | omega | (dsimp only; omega)), (by first | omega | (dsimp only; omega))⟩ dX5_isAnyFilmLent_18 (fun E S9 h => nomatch h.1) (fun v9 S9 h => ?_)
        obtain ⟨h, h9, -⟩ := h
        have h9 := h9.symm
        subst h9
        cases h
        refine j_cast (kd := 1) C (hR.1.k1 (by omega)) ⟨by decide, by decide⟩ cl_Sp_50 dX5_isAnyFilmLent_21 ?_
        refine jg_1_1 C hR (by omega) fl_Sp_307 dX5_isAnyFilmLent_24 (fun w24 => ?_)
        refine j_if_eq (tgt := 32) C dX5_isAnyFilmLent_27 (by decide) (by unfold rg at *; omega) (fun c27 => ?_) (fun c27 => ?_)
        · refine j_iinc C dX5_isAnyFilmLent_32 rfl (by decide) ?_
          refine j_goto (tgt := 2) C dX5_isAnyFilmLent_35 (by decide) ?_
          refine J.lvs (lv' := [(0, .ref (G 6 0)), (1, .int (iN (((i + 1) : Nat) : Int)))]) ?_ (ih (i + 1) (by omega) (by omega) (by unfold lentX at *; rw [anyI, h3, decide_eq_false (by omega)]; rfl))
          intro q hq; simp only [List.mem_cons, List.not_mem_nil, or_false] at hq; rcases hq with rfl | rfl <;> rfl
        · refine j_iconst C dX5_isAnyFilmLent_30 ?_
          refine j_zret C ME (by first | exact Or.inl rfl | exact Or.inr rfl | (unfold bN; split <;> simp)) ?_ (by omega) (by omega) dX5_isAnyFilmLent_31
          exact ⟨rI (bT (by unfold lentX; rw [(anyI_iff _ _).mpr ⟨i, by omega, decide_eq_true (by omega)⟩])), rfl⟩
  refine J.lvs (lv' := [(0, .ref (G 6 0)), (1, .int (iN ((0 : Nat) : Int)))]) ?_ (key ((X 1 0).toNat + 1) 0 (by omega) (by omega) rfl)
  intro q hq; simp only [List.mem_cons, List.not_mem_nil, or_false] at hq; rcases hq with rfl | rfl <;> rfl

set_option maxHeartbeats 4000000 in
set_option maxRecDepth 100000 in
theorem k_ahead (l : Launch) (hfl : l.stackTraces = false) {S : wS} {E0 : Nat} {G : wG} {X : wM} (hC : RC E0 S G X) (hP : ∀ s, 0 ≤ s → s < X 12 0 → PLs X s) {s9 r9 : Int} (hs : 0 ≤ s9 ∧ s9 < X 12 0) (hr : 0 ≤ r9 ∧ r9 < X 17 0) (hm : 0 < X 16 r9 → X 4 (lastM X r9) = X 4 s9) : Ct l yX5_isAheadOfEnd cX5_isAheadOfEnd 4 (some FieldType.boolean) 5 0 0 [.ref (G 6 0), .ref (G 4 s9), .ref (G 3 r9)] S (fun r S' => r = .inl (some (.int (iN (bN (aheadX X s9 r9))))) ∧ S' = S) := by
  refine Ct.of cal_X5_isAheadOfEnd hfl (Nat.le_of_ble_eq_true rfl) ?_
  intro p e s m args below meth c D sz C ME
  have hR : RCF E0 S S G X := ⟨hC, cF.rf⟩
  have wf := hC.w3 hr
  unfold wf3 at wf
  have h1 := hP s9 hs.1 hs.2
  unfold PLs at h1
  have w4s := hC.w4 hs
  refine j_aload_n C dX5_isAheadOfEnd_0 rfl ?_
  refine jg_3_2 C hR (by omega) fl_Sp_127 dX5_isAheadOfEnd_1 ?_
  refine j_callV C (z_rrow l hfl hR.1 (by omega)) cal_Jx4a65c_size_8abf5 vi_Jx4a65c_size_8abf5 ml_Sp_39 (hR.1.q_rrow (by omega)) ⟨by decide, by decide, rfl⟩ rfl rfl (Nat.le_of_ble_eq_true rfl) ⟨by decide, by decide⟩ ⟨(by first | omega | (dsimp only; omega)), (by first | omega | (dsimp only; omega))⟩ dX5_isAheadOfEnd_4 (fun E S9 h => nomatch h.1) (fun v9 S9 h => ?_)
  obtain ⟨h, h9⟩ := h
  have h9 := h9.symm
  subst h9
  cases h
  refine j_istore_n C dX5_isAheadOfEnd_7 (by decide) ?_
  refine j_iload_n C dX5_isAheadOfEnd_8 rfl ?_
  refine j_if_ne (tgt := 14) C dX5_isAheadOfEnd_9 (by decide) (by unfold rg at *; omega) (fun c9 => ?_) (fun c9 => ?_)
  · have hl : 0 ≤ lastM X r9 ∧ lastM X r9 < X 12 0 := by
      unfold lastM
      rw [show 60 * r9 + X 16 r9 - 1 = 60 * r9 + (X 16 r9 - 1) by omega]
      exact wf.2.2 _ (by omega) (by omega)
    have h2 := hP (lastM X r9) hl.1 hl.2
    unfold PLs at h2
    rw [hm (by omega)] at h2
    have el : X 14 (60 * r9 + (X 16 r9 - 1)) = lastM X r9 := by unfold lastM; congr 1; omega
    have wr := hC.w1 (i9 := X 4 s9) (by unfold wf4 at w4s; omega)
    unfold wf1 at wr
    refine j_aload_n C dX5_isAheadOfEnd_14 rfl ?_
    refine jg_4_0 C hR (by omega) fl_Sp_100 dX5_isAheadOfEnd_15 (fun w15 => ?_)
    refine j_aload_n C dX5_isAheadOfEnd_18 rfl ?_
    refine j_callV C (k_place l hfl hR.1 (by omega) hs (by omega) h1.2.2.1 h1.2.2.2) cal_X0_placeOf vi_X0_placeOf ml_Sp_161 (hR.1.k1 (by omega)) ⟨by decide, by decide, rfl⟩ rfl rfl (Nat.le_of_ble_eq_true rfl) ⟨by decide, by decide⟩ ⟨(by first | omega | (dsimp only; omega)), (by first | omega | (dsimp only; omega))⟩ dX5_isAheadOfEnd_19 (fun E S9 h => nomatch h.1) (fun v9 S9 h => ?_)
    obtain ⟨h, h9⟩ := h
    have h9 := h9.symm
    subst h9
    cases h
    refine j_aload_n C dX5_isAheadOfEnd_22 rfl ?_
    refine jg_4_0 C hR (by omega) fl_Sp_100 dX5_isAheadOfEnd_23 (fun w23 => ?_)
    refine j_aload_n C dX5_isAheadOfEnd_26 rfl ?_
    refine jg_3_2 C hR (by omega) fl_Sp_127 dX5_isAheadOfEnd_27 ?_
    refine j_iload_n C dX5_isAheadOfEnd_30 rfl ?_
    refine j_iconst C dX5_isAheadOfEnd_31 ?_
    refine j_isub C dX5_isAheadOfEnd_32 ?_
    refine j_callV C (g_rrow l hfl hR.1 (by omega) (by omega)) cal_Jx4a65c_get_915e3 vi_Jx4a65c_get_915e3 ml_Sp_146 (hR.1.q_rrow (by omega)) ⟨by decide, by decide, rfl⟩ rfl rfl (Nat.le_of_ble_eq_true rfl) ⟨by decide, by decide⟩ ⟨(by first | omega | (dsimp only; omega)), (by first | omega | (dsimp only; omega))⟩ dX5_isAheadOfEnd_33 (fun E S9 h => nomatch h.1) (fun v9 S9 h => ?_)
    obtain ⟨h, h9, w33⟩ := h
    have h9 := h9.symm
    subst h9
    cases h
    refine j_cast (kd := 4) C (hR.1.k4 (by omega)) ⟨by decide, by decide⟩ cl_Sp_75 dX5_isAheadOfEnd_36 ?_
    refine j_callV C (k_place l hfl hR.1 (by omega) (by omega) ⟨h2.1, h2.2.1⟩ (by rw [el]; exact h2.2.2.1) (by rw [el]; exact h2.2.2.2)) cal_X0_placeOf vi_X0_placeOf ml_Sp_161 (hR.1.k1 (by omega)) ⟨by decide, by decide, rfl⟩ rfl rfl (Nat.le_of_ble_eq_true rfl) ⟨by decide, by decide⟩ ⟨(by first | omega | (dsimp only; omega)), (by first | omega | (dsimp only; omega))⟩ dX5_isAheadOfEnd_39 (fun E S9 h => nomatch h.1) (fun v9 S9 h => ?_)
    obtain ⟨h, h9⟩ := h
    have h9 := h9.symm
    subst h9
    cases h
    refine j_icmp_ge (tgt := 49) C dX5_isAheadOfEnd_42 (by decide) (by unfold rg at *; omega) (by unfold rg at *; omega) (fun c42 => ?_) (fun c42 => ?_)
    · refine j_iconst C dX5_isAheadOfEnd_49 ?_
      refine j_zret C ME (by first | exact Or.inl rfl | exact Or.inr rfl | (unfold bN; split <;> simp)) ?_ (by omega) (by omega) dX5_isAheadOfEnd_50
      exact ⟨rI (by unfold aheadX; first | exact b1 (by omega) | exact b0 (by omega)), rfl⟩
    · refine j_iconst C dX5_isAheadOfEnd_45 ?_
      refine j_goto (tgt := 50) C dX5_isAheadOfEnd_46 (by decide) ?_
      refine j_zret C ME (by first | exact Or.inl rfl | exact Or.inr rfl | (unfold bN; split <;> simp)) ?_ (by omega) (by omega) dX5_isAheadOfEnd_50
      exact ⟨rI (by unfold aheadX; first | exact b1 (by omega) | exact b0 (by omega)), rfl⟩
  · refine j_iconst C dX5_isAheadOfEnd_12 ?_
    refine j_zret C ME (by first | exact Or.inl rfl | exact Or.inr rfl | (unfold bN; split <;> simp)) ?_ (by omega) (by omega) dX5_isAheadOfEnd_13
    exact ⟨rI (bF (by unfold aheadX; exact decide_eq_false (by omega))), rfl⟩

set_option maxHeartbeats 4000000 in
set_option maxRecDepth 100000 in
theorem k_joined (l : Launch) (hfl : l.stackTraces = false) {S : wS} {E0 : Nat} {G : wG} {X : wM} (hC : RC E0 S G X) (hP : ∀ s, 0 ≤ s → s < X 12 0 → PLs X s) {r9 q9 : Int} (hr : 0 ≤ r9 ∧ r9 < X 17 0) (hq : 0 ≤ q9 ∧ q9 < X 17 0) (hm : 0 < X 16 r9 → 0 < X 16 q9 → X 4 (lastM X r9) = X 4 (X 14 (60 * q9))) : Ct l yX5_canBeJoined cX5_canBeJoined 3 (some FieldType.boolean) 6 0 0 [.ref (G 6 0), .ref (G 3 r9), .ref (G 3 q9)] S (fun r S' => r = .inl (some (.int (iN (bN (decide (¬ X 16 r9 = 0 ∧ ¬ X 16 q9 = 0 ∧ aheadX X (X 14 (60 * q9)) r9 = false)))))) ∧ S' = S) := by
  refine Ct.of cal_X5_canBeJoined hfl (Nat.le_of_ble_eq_true rfl) ?_
  intro p e s m args below meth c D sz C ME
  have hR : RCF E0 S S G X := ⟨hC, cF.rf⟩
  have wf := hC.w3 hr
  unfold wf3 at wf
  have wq := hC.w3 hq
  unfold wf3 at wq
  refine j_aload_n C dX5_canBeJoined_0 rfl ?_
  refine jg_3_2 C hR (by omega) fl_Sp_127 dX5_canBeJoined_1 ?_
  refine j_callV C (e_rrow l hfl hR.1 (by omega)) cal_Jx4a65c_isEmpty_aae02 vi_Jx4a65c_isEmpty_aae02 ml_Sp_216 (hR.1.q_rrow (by omega)) ⟨by decide, by decide, rfl⟩ rfl rfl (Nat.le_of_ble_eq_true rfl) ⟨by decide, by decide⟩ ⟨(by first | omega | (dsimp only; omega)), (by first | omega | (dsimp only; omega))⟩ dX5_canBeJoined_4 (fun E S9 h => nomatch h.1) (fun v9 S9 h => ?_)
  obtain ⟨h, h9⟩ := h
  have h9 := h9.symm
  subst h9
  cases h
  refine j_ifne_b (tgt := 20) C dX5_canBeJoined_7 (by decide) (fun c7 => ?_) (fun c7 => ?_)
  · refine j_iconst C dX5_canBeJoined_20 ?_
    refine j_zret C ME (by first | exact Or.inl rfl | exact Or.inr rfl | (unfold bN; split <;> simp)) ?_ (by omega) (by omega) dX5_canBeJoined_21
    first
    | (have c7 := of_decide_eq_true c7; exact ⟨rI (b0 (by omega)), rfl⟩)
    | (have c17 := of_decide_eq_true c17; exact ⟨rI (b0 (by omega)), rfl⟩)
  · refine j_aload_n C dX5_canBeJoined_10 rfl ?_
    refine jg_3_2 C hR (by omega) fl_Sp_127 dX5_canBeJoined_11 ?_
    refine j_callV C (e_rrow l hfl hR.1 (by omega)) cal_Jx4a65c_isEmpty_aae02 vi_Jx4a65c_isEmpty_aae02 ml_Sp_216 (hR.1.q_rrow (by omega)) ⟨by decide, by decide, rfl⟩ rfl rfl (Nat.le_of_ble_eq_true rfl) ⟨by decide, by decide⟩ ⟨(by first | omega | (dsimp only; omega)), (by first | omega | (dsimp only; omega))⟩ dX5_canBeJoined_14 (fun E S9 h => nomatch h.1) (fun v9 S9 h => ?_)
    obtain ⟨h, h9⟩ := h
    have h9 := h9.symm
    subst h9
    cases h
    refine j_ifeq_b (tgt := 22) C dX5_canBeJoined_17 (by decide) (fun c17 => ?_) (fun c17 => ?_)
    · have c7 := of_decide_eq_false c7
      have c17 := of_decide_eq_false c17
      have e0 : 60 * q9 + 0 = 60 * q9 := by omega
      refine j_aload_n C dX5_canBeJoined_22 rfl ?_
      refine j_aload_n C dX5_canBeJoined_23 rfl ?_
      refine jg_3_2 C hR (by omega) fl_Sp_127 dX5_canBeJoined_24 ?_
      refine j_iconst C dX5_canBeJoined_27 ?_
      refine j_callV C (g_rrow l hfl hR.1 (by omega) (by omega)) cal_Jx4a65c_get_915e3 vi_Jx4a65c_get_915e3 ml_Sp_146 (hR.1.q_rrow (by omega)) ⟨by decide, by decide, rfl⟩ rfl rfl (Nat.le_of_ble_eq_true rfl) ⟨by decide, by decide⟩ ⟨(by first | omega | (dsimp only; omega)), (by first | omega | (dsimp only; omega))⟩ dX5_canBeJoined_28 (fun E S9 h => nomatch h.1) (fun v9 S9 h => ?_)
      obtain ⟨h, h9, w28⟩ := h
      have h9 := h9.symm
      subst h9
      cases h
      rw [e0] at w28 ⊢
      refine j_cast (kd := 4) C (hR.1.k4 (by omega)) ⟨by decide, by decide⟩ cl_Sp_75 dX5_canBeJoined_31 ?_
      refine j_aload_n C dX5_canBeJoined_34 rfl ?_
      refine j_callV C (k_ahead l hfl hR.1 hP (by omega) (by omega) (fun z => hm z (by omega))) cal_X5_isAheadOfEnd vi_X5_isAheadOfEnd ml_Sp_110 (hR.1.k6) ⟨by decide, by decide, rfl⟩ rfl rfl (Nat.le_of_ble_eq_true rfl) ⟨by decide, by decide⟩ ⟨(by first | omega | (dsimp only; omega)), (by first | omega | (dsimp only; omega))⟩ dX5_canBeJoined_35 (fun E S9 h => nomatch h.1) (fun v9 S9 h => ?_)
      obtain ⟨h, h9⟩ := h
      have h9 := h9.symm
      subst h9
      cases h
      refine j_ifne_b (tgt := 45) C dX5_canBeJoined_38 (by decide) (fun c38 => ?_) (fun c38 => ?_)
      · refine j_iconst C dX5_canBeJoined_45 ?_
        refine j_zret C ME (by first | exact Or.inl rfl | exact Or.inr rfl | (unfold bN; split <;> simp)) ?_ (by omega) (by omega) dX5_canBeJoined_46
        exact ⟨rI (by first | exact b1 ⟨by omega, by omega, c38⟩ | exact b0 (fun z => by rw [z.2.2] at c38; cases c38)), rfl⟩
      · refine j_iconst C dX5_canBeJoined_41 ?_
        refine j_goto (tgt := 46) C dX5_canBeJoined_42 (by decide) ?_
        refine j_zret C ME (by first | exact Or.inl rfl | exact Or.inr rfl | (unfold bN; split <;> simp)) ?_ (by omega) (by omega) dX5_canBeJoined_46
        exact ⟨rI (by first | exact b1 ⟨by omega, by omega, c38⟩ | exact b0 (fun z => by rw [z.2.2] at c38; cases c38)), rfl⟩
    · refine j_iconst C dX5_canBeJoined_20 ?_
      refine j_zret C ME (by first | exact Or.inl rfl | exact Or.inr rfl | (unfold bN; split <;> simp)) ?_ (by omega) (by omega) dX5_canBeJoined_21
      first
      | (have c7 := of_decide_eq_true c7; exact ⟨rI (b0 (by omega)), rfl⟩)
      | (have c17 := of_decide_eq_true c17; exact ⟨rI (b0 (by omega)), rfl⟩)

set_option maxHeartbeats 4000000 in
set_option maxRecDepth 100000 in
theorem k_ftake (l : Launch) (hfl : l.stackTraces = false) {S : wS} {E0 : Nat} {G : wG} {X : wM} (hC : RC E0 S G X) {f9 a9 : Int} (hf : 0 ≤ f9 ∧ f9 < X 1 0) (ha : 0 ≤ a9 ∧ a9 ≤ 1000) : Ct l yX5_canFilmTake cX5_canFilmTake 5 (some FieldType.boolean) 5 0 0 [.ref (G 6 0), .ref (G 1 f9), .int (iN a9)] S (fun r S' => r = .inl (some (.int (iN (bN (!filmX X f9 a9 (X 17 0).toNat))))) ∧ S' = S) := by
  refine Ct.of cal_X5_canFilmTake hfl (Nat.le_of_ble_eq_true rfl) ?_
  intro p e s m args below meth c D sz C ME
  have hR : RCF E0 S S G X := ⟨hC, cF.rf⟩
  have w6 := hC.w6
  unfold wf6 at w6
  refine j_iconst C dX5_canFilmTake_0 ?_
  refine j_istore_n C dX5_canFilmTake_1 (by decide) ?_
  have key : ∀ (fuel : Nat) (i : Nat), X 17 0 - i < fuel → (i : Int) ≤ X 17 0 → filmX X f9 a9 i = false → J p l e { frames := 20 * 5, cells := 0, slots := 0, locals := 200 * 5 } s m args below meth c 5 D (wA S sz) (wQ below D sz S (fun r S' => r = .inl (some (.int (iN (bN (!filmX X f9 a9 (X 17 0).toNat))))) ∧ S' = S) args s 0 0) 2 [(0, .ref (G 6 0)), (1, .ref (G 1 f9)), (2, .int (iN a9)), (3, .int (iN ((i : Nat) : Int)))] [] S 0 0 := by
    intro fuel
    induction fuel with
    | zero => intro i h1 h2 h3; omega
    | succ fuel ih =>
      intro i h1 h2 h3
      refine j_iload_n C dX5_canFilmTake_2 rfl ?_
      refine j_aload_n C dX5_canFilmTake_3 rfl ?_
      refine jg_6_2 C hR fl_Sp_19 dX5_canFilmTake_4 ?_
      refine j_callV C (z_L2 l hfl hR.1 ) cal_Jx4a65c_size_8abf5 vi_Jx4a65c_size_8abf5 ml_Sp_39 (hR.1.q_L2 ) ⟨by decide, by decide, rfl⟩ rfl rfl (Nat.le_of_ble_eq_true rfl) ⟨by decide, by decide⟩ ⟨(by first | omega | (dsimp only; omega)), (by first | omega | (dsimp only; omega))⟩ dX5_canFilmTake_7 (fun E S9 h => nomatch h.1) (fun v9 S9 h => ?_)
      obtain ⟨h, h9⟩ := h
      have h9 := h9.symm
      subst h9
      cases h
      refine j_icmp_ge (tgt := 56) C dX5_canFilmTake_10 (by decide) (by unfold rg at *; omega) (by unfold rg at *; omega) (fun c10 => ?_) (fun c10 => ?_)
      · refine j_iconst C dX5_canFilmTake_56 ?_
        refine j_zret C ME (by first | exact Or.inl rfl | exact Or.inr rfl | (unfold bN; split <;> simp)) ?_ (by omega) (by omega) dX5_canFilmTake_57
        exact ⟨rI (bT (by rw [show (X 17 0).toNat = i by omega, h3]; rfl)), rfl⟩
      · refine j_aload_n C dX5_canFilmTake_13 rfl ?_
        refine jg_6_2 C hR fl_Sp_19 dX5_canFilmTake_14 ?_
        refine j_iload_n C dX5_canFilmTake_17 rfl ?_
        refine j_callV C (g_L2 l hfl hR.1 (by omega)) cal_Jx4a65c_get_915e3 vi_Jx4a65c_get_915e3 ml_Sp_146 (hR.1.q_L2 ) ⟨by decide, by decide, rfl⟩ rfl rfl (Nat.le_of_ble_eq_true rfl) ⟨by decide, by decide⟩ ⟨(by first | omega | (dsimp only; omega)), (by first | omega | (dsimp only; omega))⟩ dX5_canFilmTake_18 (fun E S9 h => nomatch h.1) (fun v9 S9 h => ?_)
        obtain ⟨h, h9, -⟩ := h
        have h9 := h9.symm
        subst h9
        cases h
        refine j_cast (kd := 3) C (hR.1.k3 (by omega)) ⟨by decide, by decide⟩ cl_Sp_86 dX5_canFilmTake_21 ?_
        refine j_astore C dX5_canFilmTake_24 (by decide) ?_
        refine j_aload C dX5_canFilmTake_26 rfl ?_
        refine jg_3_0 C hR (by omega) fl_Sp_96 dX5_canFilmTake_28 (fun w28 => ?_)
        refine j_aload_n C dX5_canFilmTake_31 rfl ?_
        refine j_acmp_ne (tgt := 50) C dX5_canFilmTake_32 (by decide) (fun c32 => ?_) (fun c32 => ?_)
        · have c32 : ¬ X 13 i = f9 := fun z => c32 (by rw [z])
          refine j_iinc C dX5_canFilmTake_50 rfl (by decide) ?_
          refine j_goto (tgt := 2) C dX5_canFilmTake_53 (by decide) ?_
          refine J.lvs (lv' := [(0, .ref (G 6 0)), (1, .ref (G 1 f9)), (2, .int (iN a9)), (3, .int (iN (((i + 1) : Nat) : Int)))]) ?_ (ih (i + 1) (by omega) (by omega) (by unfold filmX at *; rw [anyI, h3]; first | (simp [c32]; done) | (simp [c45]; done) | (simp [c41]; done)))
          intro q hq; simp only [List.mem_cons, List.not_mem_nil, or_false] at hq; rcases hq with rfl | rfl | rfl | rfl <;> rfl
        · have c32 := hC.inj1 (by omega) hf c32
          refine j_aload C dX5_canFilmTake_35 rfl ?_
          refine j_iload_n C dX5_canFilmTake_37 rfl ?_
          refine j_aload_n C dX5_canFilmTake_38 rfl ?_
          refine jg_6_5 C hR fl_Sp_28 dX5_canFilmTake_39 (fun w39 => ?_)
          refine j_callV C (k_take l hfl hR.1 (by omega) (by omega) (by omega)) cal_X2_canTake vi_X2_canTake ml_Sp_189 (hR.1.k3 (by omega)) ⟨by decide, by decide, rfl⟩ rfl rfl (Nat.le_of_ble_eq_true rfl) ⟨by decide, by decide⟩ ⟨(by first | omega | (dsimp only; omega)), (by first | omega | (dsimp only; omega))⟩ dX5_canFilmTake_42 (fun E S9 h => nomatch h.1) (fun v9 S9 h => ?_)
          obtain ⟨h, h9⟩ := h
          have h9 := h9.symm
          subst h9
          cases h
          refine j_ifne_b (tgt := 50) C dX5_canFilmTake_45 (by decide) (fun c45 => ?_) (fun c45 => ?_)
          · refine j_iinc C dX5_canFilmTake_50 rfl (by decide) ?_
            refine j_goto (tgt := 2) C dX5_canFilmTake_53 (by decide) ?_
            refine J.lvs (lv' := [(0, .ref (G 6 0)), (1, .ref (G 1 f9)), (2, .int (iN a9)), (3, .int (iN (((i + 1) : Nat) : Int)))]) ?_ (ih (i + 1) (by omega) (by omega) (by unfold filmX at *; rw [anyI, h3]; first | (simp [c32]; done) | (simp [c45]; done) | (simp [c41]; done)))
            intro q hq; simp only [List.mem_cons, List.not_mem_nil, or_false] at hq; rcases hq with rfl | rfl | rfl | rfl <;> rfl
          · refine j_iconst C dX5_canFilmTake_48 ?_
            refine j_zret C ME (by first | exact Or.inl rfl | exact Or.inr rfl | (unfold bN; split <;> simp)) ?_ (by omega) (by omega) dX5_canFilmTake_49
            exact ⟨rI (bF (by unfold filmX; rw [(anyI_iff _ _).mpr ⟨i, by omega, by simp [c32, c45]⟩]; rfl)), rfl⟩
  refine J.lvs (lv' := [(0, .ref (G 6 0)), (1, .ref (G 1 f9)), (2, .int (iN a9)), (3, .int (iN ((0 : Nat) : Int)))]) ?_ (key ((X 17 0).toNat + 1) 0 (by omega) (by omega) rfl)
  intro q hq; simp only [List.mem_cons, List.not_mem_nil, or_false] at hq; rcases hq with rfl | rfl | rfl | rfl <;> rfl

set_option maxHeartbeats 4000000 in
set_option maxRecDepth 100000 in
theorem k_hasv (l : Launch) (hfl : l.stackTraces = false) {S : wS} {E0 : Nat} {G : wG} {X : wM} (hC : RC E0 S G X) {f9 a9 : Int} (hf : 0 ≤ f9 ∧ f9 < X 1 0) (ha : rg a9) : Ct l yX5_hasVersion cX5_hasVersion 5 (some FieldType.boolean) 4 0 0 [.ref (G 6 0), .ref (G 1 f9), .int (iN a9)] S (fun r S' => r = .inl (some (.int (iN (bN (hasV X f9 a9 (X 21 0).toNat))))) ∧ S' = S) := by
  refine Ct.of cal_X5_hasVersion hfl (Nat.le_of_ble_eq_true rfl) ?_
  intro p e s m args below meth c D sz C ME
  have hR : RCF E0 S S G X := ⟨hC, cF.rf⟩
  have w6 := hC.w6
  unfold wf6 at w6
  refine j_iconst C dX5_hasVersion_0 ?_
  refine j_istore_n C dX5_hasVersion_1 (by decide) ?_
  have key : ∀ (fuel : Nat) (i : Nat), X 21 0 - i < fuel → (i : Int) ≤ X 21 0 → hasV X f9 a9 i = false → J p l e { frames := 20 * 4, cells := 0, slots := 0, locals := 200 * 4 } s m args below meth c 5 D (wA S sz) (wQ below D sz S (fun r S' => r = .inl (some (.int (iN (bN (hasV X f9 a9 (X 21 0).toNat))))) ∧ S' = S) args s 0 0) 2 [(0, .ref (G 6 0)), (1, .ref (G 1 f9)), (2, .int (iN a9)), (3, .int (iN ((i : Nat) : Int)))] [] S 0 0 := by
    intro fuel
    induction fuel with
    | zero => intro i h1 h2 h3; omega
    | succ fuel ih =>
      intro i h1 h2 h3
      refine j_iload_n C dX5_hasVersion_2 rfl ?_
      refine j_aload_n C dX5_hasVersion_3 rfl ?_
      refine jg_6_3 C hR fl_Sp_22 dX5_hasVersion_4 ?_
      refine j_callV C (z_L3 l hfl hR.1 ) cal_Jx4a65c_size_8abf5 vi_Jx4a65c_size_8abf5 ml_Sp_39 (hR.1.q_L3 ) ⟨by decide, by decide, rfl⟩ rfl rfl (Nat.le_of_ble_eq_true rfl) ⟨by decide, by decide⟩ ⟨(by first | omega | (dsimp only; omega)), (by first | omega | (dsimp only; omega))⟩ dX5_hasVersion_7 (fun E S9 h => nomatch h.1) (fun v9 S9 h => ?_)
      obtain ⟨h, h9⟩ := h
      have h9 := h9.symm
      subst h9
      cases h
      refine j_icmp_ge (tgt := 52) C dX5_hasVersion_10 (by decide) (by unfold rg at *; omega) (by unfold rg at *; omega) (fun c10 => ?_) (fun c10 => ?_)
      · refine j_iconst C dX5_hasVersion_52 ?_
        refine j_zret C ME (by first | exact Or.inl rfl | exact Or.inr rfl | (unfold bN; split <;> simp)) ?_ (by omega) (by omega) dX5_hasVersion_53
        exact ⟨rI (bF (by rw [show (X 21 0).toNat = i by omega, h3])), rfl⟩
      · refine j_aload_n C dX5_hasVersion_13 rfl ?_
        refine jg_6_3 C hR fl_Sp_22 dX5_hasVersion_14 ?_
        refine j_iload_n C dX5_hasVersion_17 rfl ?_
        refine j_callV C (g_L3 l hfl hR.1 (by omega)) cal_Jx4a65c_get_915e3 vi_Jx4a65c_get_915e3 ml_Sp_146 (hR.1.q_L3 ) ⟨by decide, by decide, rfl⟩ rfl rfl (Nat.le_of_ble_eq_true rfl) ⟨by decide, by decide⟩ ⟨(by first | omega | (dsimp only; omega)), (by first | omega | (dsimp only; omega))⟩ dX5_hasVersion_18 (fun E S9 h => nomatch h.1) (fun v9 S9 h => ?_)
        obtain ⟨h, h9, -⟩ := h
        have h9 := h9.symm
        subst h9
        cases h
        refine j_cast (kd := 5) C (hR.1.k5 (by omega)) ⟨by decide, by decide⟩ cl_Sp_264 dX5_hasVersion_21 ?_
        refine j_astore C dX5_hasVersion_24 (by decide) ?_
        refine j_aload C dX5_hasVersion_26 rfl ?_
        refine jg_5_0 C hR (by omega) fl_Sp_273 dX5_hasVersion_28 (fun w28 => ?_)
        refine j_aload_n C dX5_hasVersion_31 rfl ?_
        refine j_acmp_ne (tgt := 46) C dX5_hasVersion_32 (by decide) (fun c32 => ?_) (fun c32 => ?_)
        · have c32 : ¬ X 19 i = f9 := fun z => c32 (by rw [z])
          refine j_iinc C dX5_hasVersion_46 rfl (by decide) ?_
          refine j_goto (tgt := 2) C dX5_hasVersion_49 (by decide) ?_
          refine J.lvs (lv' := [(0, .ref (G 6 0)), (1, .ref (G 1 f9)), (2, .int (iN a9)), (3, .int (iN (((i + 1) : Nat) : Int)))]) ?_ (ih (i + 1) (by omega) (by omega) (by unfold hasV at *; rw [anyI, h3]; first | (simp [c32]; done) | (simp [c45]; done) | (simp [c41]; done)))
          intro q hq; simp only [List.mem_cons, List.not_mem_nil, or_false] at hq; rcases hq with rfl | rfl | rfl | rfl <;> rfl
        · have c32 := hC.inj1 (by omega) hf c32
          refine j_aload C dX5_hasVersion_35 rfl ?_
          refine jg_5_1 C hR (by omega) fl_Sp_367 dX5_hasVersion_37 (fun w37 => ?_)
          refine j_iload_n C dX5_hasVersion_40 rfl ?_
          refine j_icmp_ne (tgt := 46) C dX5_hasVersion_41 (by decide) (by unfold rg at *; omega) (by unfold rg at *; omega) (fun c41 => ?_) (fun c41 => ?_)
          · refine j_iinc C dX5_hasVersion_46 rfl (by decide) ?_
            refine j_goto (tgt := 2) C dX5_hasVersion_49 (by decide) ?_
            refine J.lvs (lv' := [(0, .ref (G 6 0)), (1, .ref (G 1 f9)), (2, .int (iN a9)), (3, .int (iN (((i + 1) : Nat) : Int)))]) ?_ (ih (i + 1) (by omega) (by omega) (by unfold hasV at *; rw [anyI, h3]; first | (simp [c32]; done) | (simp [c45]; done) | (simp [c41]; done)))
            intro q hq; simp only [List.mem_cons, List.not_mem_nil, or_false] at hq; rcases hq with rfl | rfl | rfl | rfl <;> rfl
          · refine j_iconst C dX5_hasVersion_44 ?_
            refine j_zret C ME (by first | exact Or.inl rfl | exact Or.inr rfl | (unfold bN; split <;> simp)) ?_ (by omega) (by omega) dX5_hasVersion_45
            exact ⟨rI (bT (by unfold hasV; rw [(anyI_iff _ _).mpr ⟨i, by omega, by simp [c32, c41]⟩])), rfl⟩
  refine J.lvs (lv' := [(0, .ref (G 6 0)), (1, .ref (G 1 f9)), (2, .int (iN a9)), (3, .int (iN ((0 : Nat) : Int)))]) ?_ (key ((X 21 0).toNat + 1) 0 (by omega) (by omega) rfl)
  intro q hq; simp only [List.mem_cons, List.not_mem_nil, or_false] at hq; rcases hq with rfl | rfl | rfl | rfl <;> rfl

set_option maxHeartbeats 4000000 in
set_option maxRecDepth 100000 in
theorem k_within (l : Launch) (hfl : l.stackTraces = false) {S : wS} {E0 : Nat} {G : wG} {X : wM} (hC : RC E0 S G X) {m9 : Int} (hm : 0 ≤ m9 ∧ m9 ≤ 1000) : Ct l yX5_isWearWithin cX5_isWearWithin 3 (some FieldType.boolean) 5 0 0 [.ref (G 6 0), .int (iN m9)] S (fun r S' => r = .inl (some (.int (iN (bN (!withX X m9 (X 17 0).toNat))))) ∧ S' = S) := by
  refine Ct.of cal_X5_isWearWithin hfl (Nat.le_of_ble_eq_true rfl) ?_
  intro p e s m args below meth c D sz C ME
  have hR : RCF E0 S S G X := ⟨hC, cF.rf⟩
  have w6 := hC.w6
  unfold wf6 at w6
  refine j_iconst C dX5_isWearWithin_0 ?_
  refine j_istore_n C dX5_isWearWithin_1 (by decide) ?_
  have key : ∀ (fuel : Nat) (i : Nat), X 17 0 - i < fuel → (i : Int) ≤ X 17 0 → withX X m9 i = false → J p l e { frames := 20 * 5, cells := 0, slots := 0, locals := 200 * 5 } s m args below meth c 3 D (wA S sz) (wQ below D sz S (fun r S' => r = .inl (some (.int (iN (bN (!withX X m9 (X 17 0).toNat))))) ∧ S' = S) args s 0 0) 2 [(0, .ref (G 6 0)), (1, .int (iN m9)), (2, .int (iN ((i : Nat) : Int)))] [] S 0 0 := by
    intro fuel
    induction fuel with
    | zero => intro i h1 h2 h3; omega
    | succ fuel ih =>
      intro i h1 h2 h3
      refine j_iload_n C dX5_isWearWithin_2 rfl ?_
      refine j_aload_n C dX5_isWearWithin_3 rfl ?_
      refine jg_6_2 C hR fl_Sp_19 dX5_isWearWithin_4 ?_
      refine j_callV C (z_L2 l hfl hR.1 ) cal_Jx4a65c_size_8abf5 vi_Jx4a65c_size_8abf5 ml_Sp_39 (hR.1.q_L2 ) ⟨by decide, by decide, rfl⟩ rfl rfl (Nat.le_of_ble_eq_true rfl) ⟨by decide, by decide⟩ ⟨(by first | omega | (dsimp only; omega)), (by first | omega | (dsimp only; omega))⟩ dX5_isWearWithin_7 (fun E S9 h => nomatch h.1) (fun v9 S9 h => ?_)
      obtain ⟨h, h9⟩ := h
      have h9 := h9.symm
      subst h9
      cases h
      refine j_icmp_ge (tgt := 40) C dX5_isWearWithin_10 (by decide) (by unfold rg at *; omega) (by unfold rg at *; omega) (fun c10 => ?_) (fun c10 => ?_)
      · refine j_iconst C dX5_isWearWithin_40 ?_
        refine j_zret C ME (by first | exact Or.inl rfl | exact Or.inr rfl | (unfold bN; split <;> simp)) ?_ (by omega) (by omega) dX5_isWearWithin_41
        exact ⟨rI (bT (by rw [show (X 17 0).toNat = i by omega, h3]; rfl)), rfl⟩
      · refine j_aload_n C dX5_isWearWithin_13 rfl ?_
        refine jg_6_2 C hR fl_Sp_19 dX5_isWearWithin_14 ?_
        refine j_iload_n C dX5_isWearWithin_17 rfl ?_
        refine j_callV C (g_L2 l hfl hR.1 (by omega)) cal_Jx4a65c_get_915e3 vi_Jx4a65c_get_915e3 ml_Sp_146 (hR.1.q_L2 ) ⟨by decide, by decide, rfl⟩ rfl rfl (Nat.le_of_ble_eq_true rfl) ⟨by decide, by decide⟩ ⟨(by first | omega | (dsimp only; omega)), (by first | omega | (dsimp only; omega))⟩ dX5_isWearWithin_18 (fun E S9 h => nomatch h.1) (fun v9 S9 h => ?_)
        obtain ⟨h, h9, -⟩ := h
        have h9 := h9.symm
        subst h9
        cases h
        refine j_cast (kd := 3) C (hR.1.k3 (by omega)) ⟨by decide, by decide⟩ cl_Sp_86 dX5_isWearWithin_21 ?_
        refine j_iconst C dX5_isWearWithin_24 ?_
        refine j_iload_n C dX5_isWearWithin_25 rfl ?_
        refine j_callV C (k_take l hfl hR.1 (by omega) (by omega) (by omega)) cal_X2_canTake vi_X2_canTake ml_Sp_189 (hR.1.k3 (by omega)) ⟨by decide, by decide, rfl⟩ rfl rfl (Nat.le_of_ble_eq_true rfl) ⟨by decide, by decide⟩ ⟨(by first | omega | (dsimp only; omega)), (by first | omega | (dsimp only; omega))⟩ dX5_isWearWithin_26 (fun E S9 h => nomatch h.1) (fun v9 S9 h => ?_)
        obtain ⟨h, h9⟩ := h
        have h9 := h9.symm
        subst h9
        cases h
        refine j_ifne_b (tgt := 34) C dX5_isWearWithin_29 (by decide) (fun c29 => ?_) (fun c29 => ?_)
        · refine j_iinc C dX5_isWearWithin_34 rfl (by decide) ?_
          refine j_goto (tgt := 2) C dX5_isWearWithin_37 (by decide) ?_
          refine J.lvs (lv' := [(0, .ref (G 6 0)), (1, .int (iN m9)), (2, .int (iN (((i + 1) : Nat) : Int)))]) ?_ (ih (i + 1) (by omega) (by omega) (by unfold withX at *; rw [anyI, h3, c29]; rfl))
          intro q hq; simp only [List.mem_cons, List.not_mem_nil, or_false] at hq; rcases hq with rfl | rfl | rfl <;> rfl
        · refine j_iconst C dX5_isWearWithin_32 ?_
          refine j_zret C ME (by first | exact Or.inl rfl | exact Or.inr rfl | (unfold bN; split <;> simp)) ?_ (by omega) (by omega) dX5_isWearWithin_33
          exact ⟨rI (bF (by unfold withX; rw [(anyI_iff _ _).mpr ⟨i, by omega, by rw [c29]; rfl⟩]; rfl)), rfl⟩
  refine J.lvs (lv' := [(0, .ref (G 6 0)), (1, .int (iN m9)), (2, .int (iN ((0 : Nat) : Int)))]) ?_ (key ((X 17 0).toNat + 1) 0 (by omega) (by omega) rfl)
  intro q hq; simp only [List.mem_cons, List.not_mem_nil, or_false] at hq; rcases hq with rfl | rfl | rfl <;> rfl

set_option maxHeartbeats 4000000 in
set_option maxRecDepth 100000 in
theorem k_worn (l : Launch) (hfl : l.stackTraces = false) {S : wS} {E0 : Nat} {G : wG} {X : wM} (hC : RC E0 S G X) {r9 z9 : Int} (hr : 0 ≤ r9 ∧ r9 < X 17 0) (hz : -1 ≤ z9 ∧ z9 ≤ 1000) : Ct l yX5_isWorn cX5_isWorn 3 (some FieldType.boolean) 4 0 0 [.ref (G 6 0), .ref (G 3 r9), .int (iN z9)] S (fun r S' => r = .inl (some (.int (iN (bN (wornX X r9 z9))))) ∧ S' = S) := by
  refine Ct.of cal_X5_isWorn hfl (Nat.le_of_ble_eq_true rfl) ?_
  intro p e s m args below meth c D sz C ME
  have hR : RCF E0 S S G X := ⟨hC, cF.rf⟩
  have wf := hC.w3 hr
  unfold wf3 at wf
  refine j_iload_n C dX5_isWorn_0 rfl ?_
  refine j_if_lt (tgt := 39) C dX5_isWorn_1 (by decide) (by unfold rg at *; omega) (fun c1 => ?_) (fun c1 => ?_)
  · refine j_iconst C dX5_isWorn_39 ?_
    refine j_zret C ME (by first | exact Or.inl rfl | exact Or.inr rfl | (unfold bN; split <;> simp)) ?_ (by omega) (by omega) dX5_isWorn_40
    exact ⟨rI (by unfold wornX; first | exact b1 (by omega) | exact b0 (by omega)), rfl⟩
  · refine j_iload_n C dX5_isWorn_4 rfl ?_
    refine j_aload_n C dX5_isWorn_5 rfl ?_
    refine j_callV C (k_splices l hfl hR.1 (by omega)) cal_X2_spliceCount vi_X2_spliceCount ml_Sp_342 (hR.1.k3 (by omega)) ⟨by decide, by decide, rfl⟩ rfl rfl (Nat.le_of_ble_eq_true rfl) ⟨by decide, by decide⟩ ⟨(by first | omega | (dsimp only; omega)), (by first | omega | (dsimp only; omega))⟩ dX5_isWorn_6 (fun E S9 h => nomatch h.1) (fun v9 S9 h => ?_)
    obtain ⟨h, h9⟩ := h
    have h9 := h9.symm
    subst h9
    cases h
    refine j_icmp_ge (tgt := 39) C dX5_isWorn_9 (by decide) (by unfold rg at *; omega) (by unfold rg at *; omega) (fun c9 => ?_) (fun c9 => ?_)
    · refine j_iconst C dX5_isWorn_39 ?_
      refine j_zret C ME (by first | exact Or.inl rfl | exact Or.inr rfl | (unfold bN; split <;> simp)) ?_ (by omega) (by omega) dX5_isWorn_40
      exact ⟨rI (by unfold wornX; first | exact b1 (by omega) | exact b0 (by omega)), rfl⟩
    · refine j_iconst C dX5_isWorn_12 ?_
      refine j_aload_n C dX5_isWorn_13 rfl ?_
      refine jg_3_2 C hR (by omega) fl_Sp_127 dX5_isWorn_14 ?_
      refine j_iload_n C dX5_isWorn_17 rfl ?_
      refine j_callV C (g_rrow l hfl hR.1 (by omega) (by omega)) cal_Jx4a65c_get_915e3 vi_Jx4a65c_get_915e3 ml_Sp_146 (hR.1.q_rrow (by omega)) ⟨by decide, by decide, rfl⟩ rfl rfl (Nat.le_of_ble_eq_true rfl) ⟨by decide, by decide⟩ ⟨(by first | omega | (dsimp only; omega)), (by first | omega | (dsimp only; omega))⟩ dX5_isWorn_18 (fun E S9 h => nomatch h.1) (fun v9 S9 h => ?_)
      obtain ⟨h, h9, w18⟩ := h
      have h9 := h9.symm
      subst h9
      cases h
      refine j_cast (kd := 4) C (hR.1.k4 (by omega)) ⟨by decide, by decide⟩ cl_Sp_75 dX5_isWorn_21 ?_
      refine jg_4_5 C hR (by omega) fl_Sp_206 dX5_isWorn_24 (fun w24 => ?_)
      refine j_imul C dX5_isWorn_27 ?_
      refine j_aload_n C dX5_isWorn_28 rfl ?_
      refine jg_6_5 C hR fl_Sp_28 dX5_isWorn_29 (fun w29 => ?_)
      refine j_icmp_lt (tgt := 39) C dX5_isWorn_32 (by decide) (by unfold rg at *; omega) (by unfold rg at *; omega) (fun c32 => ?_) (fun c32 => ?_)
      · refine j_iconst C dX5_isWorn_39 ?_
        refine j_zret C ME (by first | exact Or.inl rfl | exact Or.inr rfl | (unfold bN; split <;> simp)) ?_ (by omega) (by omega) dX5_isWorn_40
        exact ⟨rI (by unfold wornX; first | exact b1 (by omega) | exact b0 (by omega)), rfl⟩
      · refine j_iconst C dX5_isWorn_35 ?_
        refine j_goto (tgt := 40) C dX5_isWorn_36 (by decide) ?_
        refine j_zret C ME (by first | exact Or.inl rfl | exact Or.inr rfl | (unfold bN; split <;> simp)) ?_ (by omega) (by omega) dX5_isWorn_40
        exact ⟨rI (by unfold wornX; first | exact b1 (by omega) | exact b0 (by omega)), rfl⟩

set_option maxHeartbeats 4000000 in
set_option maxRecDepth 100000 in
theorem k_lost (l : Launch) (hfl : l.stackTraces = false) {S : wS} {E0 : Nat} {G : wG} {X : wM} (hC : RC E0 S G X) {r9 z9 : Int} (hr : 0 ≤ r9 ∧ r9 < X 17 0) (hz : 0 ≤ z9 ∧ z9 < X 16 r9) : Ct l yX5_framesLostAt cX5_framesLostAt 4 (some FieldType.int) 5 0 0 [.ref (G 6 0), .ref (G 3 r9), .int (iN z9)] S (fun r S' => r = .inl (some (.int (iN (min (bN (wornX X r9 (z9 - 1)) + bN (wornX X r9 z9)) (X 5 (X 14 (60 * r9 + z9))))))) ∧ S' = S) := by
  refine Ct.of cal_X5_framesLostAt hfl (Nat.le_of_ble_eq_true rfl) ?_
  intro p e s m args below meth c D sz C ME
  have hR : RCF E0 S S G X := ⟨hC, cF.rf⟩
  have wf := hC.w3 hr
  unfold wf3 at wf
  refine j_iconst C dX5_framesLostAt_0 ?_
  refine j_istore_n C dX5_framesLostAt_1 (by decide) ?_
  refine j_aload_n C dX5_framesLostAt_2 rfl ?_
  refine j_aload_n C dX5_framesLostAt_3 rfl ?_
  refine j_iload_n C dX5_framesLostAt_4 rfl ?_
  refine j_iconst C dX5_framesLostAt_5 ?_
  refine j_isub C dX5_framesLostAt_6 ?_
  refine j_callV C (k_worn l hfl hR.1 (by omega) (by omega)) cal_X5_isWorn vi_X5_isWorn ml_Sp_377 (hR.1.k6) ⟨by decide, by decide, rfl⟩ rfl rfl (Nat.le_of_ble_eq_true rfl) ⟨by decide, by decide⟩ ⟨(by first | omega | (dsimp only; omega)), (by first | omega | (dsimp only; omega))⟩ dX5_framesLostAt_7 (fun E S9 h => nomatch h.1) (fun v9 S9 h => ?_)
  obtain ⟨h, h9⟩ := h
  have h9 := h9.symm
  subst h9
  cases h
  refine j_ifeq_b (tgt := 16) C dX5_framesLostAt_10 (by decide) (fun c10 => ?_) (fun c10 => ?_)
  · refine j_aload_n C dX5_framesLostAt_16 rfl ?_
    refine j_aload_n C dX5_framesLostAt_17 rfl ?_
    refine j_iload_n C dX5_framesLostAt_18 rfl ?_
    refine j_callV C (k_worn l hfl hR.1 (by omega) (by omega)) cal_X5_isWorn vi_X5_isWorn ml_Sp_377 (hR.1.k6) ⟨by decide, by decide, rfl⟩ rfl rfl (Nat.le_of_ble_eq_true rfl) ⟨by decide, by decide⟩ ⟨(by first | omega | (dsimp only; omega)), (by first | omega | (dsimp only; omega))⟩ dX5_framesLostAt_19 (fun E S9 h => nomatch h.1) (fun v9 S9 h => ?_)
    obtain ⟨h, h9⟩ := h
    have h9 := h9.symm
    subst h9
    cases h
    refine j_ifeq_b (tgt := 28) C dX5_framesLostAt_22 (by decide) (fun c22 => ?_) (fun c22 => ?_)
    · refine j_iload_n C dX5_framesLostAt_28 rfl ?_
      refine j_aload_n C dX5_framesLostAt_29 rfl ?_
      refine jg_3_2 C hR (by omega) fl_Sp_127 dX5_framesLostAt_30 ?_
      refine j_iload_n C dX5_framesLostAt_33 rfl ?_
      refine j_callV C (g_rrow l hfl hR.1 (by omega) (by omega)) cal_Jx4a65c_get_915e3 vi_Jx4a65c_get_915e3 ml_Sp_146 (hR.1.q_rrow (by omega)) ⟨by decide, by decide, rfl⟩ rfl rfl (Nat.le_of_ble_eq_true rfl) ⟨by decide, by decide⟩ ⟨(by first | omega | (dsimp only; omega)), (by first | omega | (dsimp only; omega))⟩ dX5_framesLostAt_34 (fun E S9 h => nomatch h.1) (fun v9 S9 h => ?_)
      obtain ⟨h, h9, w34⟩ := h
      have h9 := h9.symm
      subst h9
      cases h
      refine j_cast (kd := 4) C (hR.1.k4 (by omega)) ⟨by decide, by decide⟩ cl_Sp_75 dX5_framesLostAt_37 ?_
      refine jg_4_3 C hR (by omega) fl_Sp_153 dX5_framesLostAt_40 (fun w40 => ?_)
      refine j_mmin C ml_Sp_285 (by unfold rg at *; omega) (by unfold rg at *; omega) ⟨by decide, (Nat.le_of_ble_eq_true rfl), (by first | omega | (dsimp only; omega)), (by first | omega | (dsimp only; omega))⟩ dX5_framesLostAt_43 ?_
      refine j_iret C ME ?_ (by omega) (by omega) dX5_framesLostAt_46
      exact ⟨rI (by rw [c10, c22]; rfl), rfl⟩
    · refine j_iinc C dX5_framesLostAt_25 rfl (by decide) ?_
      refine j_iload_n C dX5_framesLostAt_28 rfl ?_
      refine j_aload_n C dX5_framesLostAt_29 rfl ?_
      refine jg_3_2 C hR (by omega) fl_Sp_127 dX5_framesLostAt_30 ?_
      refine j_iload_n C dX5_framesLostAt_33 rfl ?_
      refine j_callV C (g_rrow l hfl hR.1 (by omega) (by omega)) cal_Jx4a65c_get_915e3 vi_Jx4a65c_get_915e3 ml_Sp_146 (hR.1.q_rrow (by omega)) ⟨by decide, by decide, rfl⟩ rfl rfl (Nat.le_of_ble_eq_true rfl) ⟨by decide, by decide⟩ ⟨(by first | omega | (dsimp only; omega)), (by first | omega | (dsimp only; omega))⟩ dX5_framesLostAt_34 (fun E S9 h => nomatch h.1) (fun v9 S9 h => ?_)
      obtain ⟨h, h9, w34⟩ := h
      have h9 := h9.symm
      subst h9
      cases h
      refine j_cast (kd := 4) C (hR.1.k4 (by omega)) ⟨by decide, by decide⟩ cl_Sp_75 dX5_framesLostAt_37 ?_
      refine jg_4_3 C hR (by omega) fl_Sp_153 dX5_framesLostAt_40 (fun w40 => ?_)
      refine j_mmin C ml_Sp_285 (by unfold rg at *; omega) (by unfold rg at *; omega) ⟨by decide, (Nat.le_of_ble_eq_true rfl), (by first | omega | (dsimp only; omega)), (by first | omega | (dsimp only; omega))⟩ dX5_framesLostAt_43 ?_
      refine j_iret C ME ?_ (by omega) (by omega) dX5_framesLostAt_46
      exact ⟨rI (by rw [c10, c22]; rfl), rfl⟩
  · refine j_iinc C dX5_framesLostAt_13 rfl (by decide) ?_
    refine j_aload_n C dX5_framesLostAt_16 rfl ?_
    refine j_aload_n C dX5_framesLostAt_17 rfl ?_
    refine j_iload_n C dX5_framesLostAt_18 rfl ?_
    refine j_callV C (k_worn l hfl hR.1 (by omega) (by omega)) cal_X5_isWorn vi_X5_isWorn ml_Sp_377 (hR.1.k6) ⟨by decide, by decide, rfl⟩ rfl rfl (Nat.le_of_ble_eq_true rfl) ⟨by decide, by decide⟩ ⟨(by first | omega | (dsimp only; omega)), (by first | omega | (dsimp only; omega))⟩ dX5_framesLostAt_19 (fun E S9 h => nomatch h.1) (fun v9 S9 h => ?_)
    obtain ⟨h, h9⟩ := h
    have h9 := h9.symm
    subst h9
    cases h
    refine j_ifeq_b (tgt := 28) C dX5_framesLostAt_22 (by decide) (fun c22 => ?_) (fun c22 => ?_)
    · refine j_iload_n C dX5_framesLostAt_28 rfl ?_
      refine j_aload_n C dX5_framesLostAt_29 rfl ?_
      refine jg_3_2 C hR (by omega) fl_Sp_127 dX5_framesLostAt_30 ?_
      refine j_iload_n C dX5_framesLostAt_33 rfl ?_
      refine j_callV C (g_rrow l hfl hR.1 (by omega) (by omega)) cal_Jx4a65c_get_915e3 vi_Jx4a65c_get_915e3 ml_Sp_146 (hR.1.q_rrow (by omega)) ⟨by decide, by decide, rfl⟩ rfl rfl (Nat.le_of_ble_eq_true rfl) ⟨by decide, by decide⟩ ⟨(by first | omega | (dsimp only; omega)), (by first | omega | (dsimp only; omega))⟩ dX5_framesLostAt_34 (fun E S9 h => nomatch h.1) (fun v9 S9 h => ?_)
      obtain ⟨h, h9, w34⟩ := h
      have h9 := h9.symm
      subst h9
      cases h
      refine j_cast (kd := 4) C (hR.1.k4 (by omega)) ⟨by decide, by decide⟩ cl_Sp_75 dX5_framesLostAt_37 ?_
      refine jg_4_3 C hR (by omega) fl_Sp_153 dX5_framesLostAt_40 (fun w40 => ?_)
      refine j_mmin C ml_Sp_285 (by unfold rg at *; omega) (by unfold rg at *; omega) ⟨by decide, (Nat.le_of_ble_eq_true rfl), (by first | omega | (dsimp only; omega)), (by first | omega | (dsimp only; omega))⟩ dX5_framesLostAt_43 ?_
      refine j_iret C ME ?_ (by omega) (by omega) dX5_framesLostAt_46
      exact ⟨rI (by rw [c10, c22]; rfl), rfl⟩
    · refine j_iinc C dX5_framesLostAt_25 rfl (by decide) ?_
      refine j_iload_n C dX5_framesLostAt_28 rfl ?_
      refine j_aload_n C dX5_framesLostAt_29 rfl ?_
      refine jg_3_2 C hR (by omega) fl_Sp_127 dX5_framesLostAt_30 ?_
      refine j_iload_n C dX5_framesLostAt_33 rfl ?_
      refine j_callV C (g_rrow l hfl hR.1 (by omega) (by omega)) cal_Jx4a65c_get_915e3 vi_Jx4a65c_get_915e3 ml_Sp_146 (hR.1.q_rrow (by omega)) ⟨by decide, by decide, rfl⟩ rfl rfl (Nat.le_of_ble_eq_true rfl) ⟨by decide, by decide⟩ ⟨(by first | omega | (dsimp only; omega)), (by first | omega | (dsimp only; omega))⟩ dX5_framesLostAt_34 (fun E S9 h => nomatch h.1) (fun v9 S9 h => ?_)
      obtain ⟨h, h9, w34⟩ := h
      have h9 := h9.symm
      subst h9
      cases h
      refine j_cast (kd := 4) C (hR.1.k4 (by omega)) ⟨by decide, by decide⟩ cl_Sp_75 dX5_framesLostAt_37 ?_
      refine jg_4_3 C hR (by omega) fl_Sp_153 dX5_framesLostAt_40 (fun w40 => ?_)
      refine j_mmin C ml_Sp_285 (by unfold rg at *; omega) (by unfold rg at *; omega) ⟨by decide, (Nat.le_of_ble_eq_true rfl), (by first | omega | (dsimp only; omega)), (by first | omega | (dsimp only; omega))⟩ dX5_framesLostAt_43 ?_
      refine j_iret C ME ?_ (by omega) (by omega) dX5_framesLostAt_46
      exact ⟨rI (by rw [c10, c22]; rfl), rfl⟩

