/-! THE CLASS: methods that change numbers. -/
def tkX (X : wM) (s z n : Int) : wM := if X 8 s ≤ z then mup (mup X 8 s z) 9 s n else X
def awX (X : wM) (r w : Int) : Nat → wM
  | 0 => X
  | k + 1 => mup (awX X r w k) 31 (X 14 (60 * r + k)) (awX X r w k 31 (X 14 (60 * r + k)) + w)
theorem awX_o {X : wM} {r w : Int} {j : Nat} {i : Int} (hj : j ≠ 31) : ∀ k, awX X r w k j i = X j i
  | 0 => rfl
  | k + 1 => by
    show (if j = 31 ∧ _ then _ else awX X r w k j i) = _
    rw [if_neg (fun z => hj z.1)]
    exact awX_o hj k
def plX (X : wM) (r w : Int) : wM := mup (awX X r w (X 16 r - 1).toNat) 30 0 (X 30 0 + onM X r)
def drX (X : wM) (f s : Int) : Nat → wM
  | 0 => X
  | k + 1 => if drX X f s k 11 (X 2 (60 * f + k)) = s then mup (drX X f s k) 11 (X 2 (60 * f + k)) (-1) else drX X f s k
theorem drX_o {X : wM} {f s : Int} {j : Nat} {i : Int} (hj : j ≠ 11) : ∀ k, drX X f s k j i = X j i
  | 0 => rfl
  | k + 1 => by
    show (if _ then mup (drX X f s k) 11 _ _ else drX X f s k) j i = _
    split
    · show (if j = 11 ∧ _ then _ else drX X f s k j i) = _
      rw [if_neg (fun z => hj z.1)]
      exact drX_o hj k
    · exact drX_o hj k
def tlX (X : wM) (s : Int) : Nat → wM
  | 0 => X
  | k + 1 => if X 19 k = X 4 s then mkK (tlX X s k) k s (X 5 s - 1) (X 5 s) false 16 else tlX X s k
theorem tlX_o {X : wM} {s : Int} {j : Nat} {i : Int} (hj : j ≠ 33) : ∀ k, tlX X s k j i = X j i
  | 0 => rfl
  | k + 1 => by
    show (if _ then mkK (tlX X s k) k s (X 5 s - 1) (X 5 s) false 16 else tlX X s k) j i = _
    split
    · show (if j = 33 ∧ _ then _ else tlX X s k j i) = _
      rw [if_neg (fun z => hj z.1)]
      exact tlX_o hj k
    · exact tlX_o hj k
def tfX (X : wM) (s : Int) : wM := mup (mup (tlX X s (X 21 0).toNat) 5 s (X 5 s - 1)) 9 s (min (X 9 s) (X 5 s - 1))
set_option maxHeartbeats 4000000 in
set_option maxRecDepth 100000 in
theorem u_takeScan (l : Launch) (hfl : l.stackTraces = false) {S : wS} {E0 : Nat} {G : wG} {X : wM} (hC : RC E0 S G X) {s9 z9 n9 : Int} (hs : 0 ≤ s9 ∧ s9 < X 12 0) (hz : 0 ≤ z9 ∧ z9 ≤ 4) (hn : 0 ≤ n9 ∧ n9 ≤ 999) : Ct l yX3_takeScan cX3_takeScan 3 none 1 0 0 [.ref (G 4 s9), .int (iN z9), .int (iN n9)] S (fun r S' => r = .inl none ∧ RCF E0 S S' G (tkX X s9 z9 n9)) := by
  refine Ct.of cal_X3_takeScan hfl (Nat.le_of_ble_eq_true rfl) ?_
  intro p e s m args below meth c D sz C ME
  have hR : RCF E0 S S G X := ⟨hC, cF.rf⟩
  refine j_iload_n C dX3_takeScan_0 rfl ?_
  refine j_aload_n C dX3_takeScan_1 rfl ?_
  refine jg_4_6 C hR (by omega) fl_Sh_32 dX3_takeScan_2 (fun w2 => ?_)
  refine j_icmp_lt (tgt := 18) C dX3_takeScan_5 (by decide) (by unfold rg at *; omega) (by unfold rg at *; omega) (fun c5 => ?_) (fun c5 => ?_)
  · refine j_vret C ME ?_ (by omega) (by omega) dX3_takeScan_18
    unfold tkX
    first
    | (rw [if_neg (by omega)]; exact ⟨rfl, hR⟩)
    | (rw [if_pos (by omega)]; exact ⟨rfl, hR⟩)
  · refine j_aload_n C dX3_takeScan_8 rfl ?_
    refine j_iload_n C dX3_takeScan_9 rfl ?_
    refine jp_4_6 C hR (by omega) (by omega) fl_Sh_32 dX3_takeScan_10 (fun S2 hR => ?_)
    refine j_aload_n C dX3_takeScan_13 rfl ?_
    refine j_iload_n C dX3_takeScan_14 rfl ?_
    refine jp_4_7 C hR (by exact hs) (by omega) fl_Sh_35 dX3_takeScan_15 (fun S2 hR => ?_)
    refine j_vret C ME ?_ (by omega) (by omega) dX3_takeScan_18
    unfold tkX
    first
    | (rw [if_neg (by omega)]; exact ⟨rfl, hR⟩)
    | (rw [if_pos (by omega)]; exact ⟨rfl, hR⟩)

set_option maxHeartbeats 4000000 in
set_option maxRecDepth 100000 in
theorem u_addWear (l : Launch) (hfl : l.stackTraces = false) {S : wS} {E0 : Nat} {G : wG} {X : wM} (hC : RC E0 S G X) {r9 w9 : Int} (hr : 0 ≤ r9 ∧ r9 < X 17 0) (hw : ∀ k : Nat, (k : Int) < X 16 r9 - 1 → 0 ≤ awX X r9 w9 k 31 (X 14 (60 * r9 + k)) + w9 ∧ awX X r9 w9 k 31 (X 14 (60 * r9 + k)) + w9 ≤ 100) : Ct l yX2_addWear cX2_addWear 3 none 4 0 0 [.ref (G 3 r9), .int (iN w9)] S (fun r S' => r = .inl none ∧ RCF E0 S S' G (awX X r9 w9 (X 16 r9 - 1).toNat)) := by
  refine Ct.of cal_X2_addWear hfl (Nat.le_of_ble_eq_true rfl) ?_
  intro p e s m args below meth c D sz C ME
  have wf := hC.w3 hr
  unfold wf3 at wf
  refine j_iconst C dX2_addWear_0 ?_
  refine j_istore_n C dX2_addWear_1 (by decide) ?_
  have key : ∀ (fuel : Nat) (i : Nat) (S2 : wS), X 16 r9 - i < fuel → i = 0 ∨ (i : Int) ≤ X 16 r9 - 1 → RCF E0 S S2 G (awX X r9 w9 i) → J p l e { frames := 20 * 4, cells := 0, slots := 0, locals := 200 * 4 } s m args below meth c 3 D (wA S sz) (wQ below D sz S (fun r S' => r = .inl none ∧ RCF E0 S S' G (awX X r9 w9 (X 16 r9 - 1).toNat)) args s 0 0) 2 [(0, .ref (G 3 r9)), (1, .int (iN w9)), (2, .int (iN ((i : Nat) : Int)))] [] S2 0 0 := by
    intro fuel
    induction fuel with
    | zero => intro i S2 h1 h2 hR; omega
    | succ fuel ih =>
      intro i S2 h1 h2 hR
      have e16 : awX X r9 w9 i 16 r9 = X 16 r9 := awX_o (by decide) i
      have e17 : awX X r9 w9 i 17 0 = X 17 0 := awX_o (by decide) i
      have e12 : awX X r9 w9 i 12 0 = X 12 0 := awX_o (by decide) i
      have e14 : awX X r9 w9 i 14 (60 * r9 + (i : Int)) = X 14 (60 * r9 + (i : Int)) := awX_o (by decide) i
      refine j_iload_n C dX2_addWear_2 rfl ?_
      refine j_aload_n C dX2_addWear_3 rfl ?_
      refine jg_3_2 C hR (by omega) fl_Re_10 dX2_addWear_4 ?_
      refine j_callV C (z_rrow l hfl hR.1 (by omega)) cal_Jx4a65c_size_8abf5 vi_Jx4a65c_size_8abf5 ml_Re_34 (hR.1.q_rrow (by omega)) ⟨by decide, by decide, rfl⟩ rfl rfl (Nat.le_of_ble_eq_true rfl) ⟨by decide, by decide⟩ ⟨(by first | omega | (dsimp only; omega)), (by first | omega | (dsimp only; omega))⟩ dX2_addWear_7 (fun E S9 h => nomatch h.1) (fun v9 S9 h => ?_)
      obtain ⟨h, h9⟩ := h
      have h9 := h9.symm
      subst h9
      cases h
      rw [e16]
      refine j_iconst C dX2_addWear_10 ?_
      refine j_isub C dX2_addWear_11 ?_
      refine j_icmp_ge (tgt := 41) C dX2_addWear_12 (by decide) (by unfold rg at *; omega) (by unfold rg at *; omega) (fun c12 => ?_) (fun c12 => ?_)
      · refine j_vret C ME ?_ (by omega) (by omega) dX2_addWear_41
        exact ⟨rfl, by rw [show (X 16 r9 - 1).toNat = i by omega]; exact hR⟩
      · refine j_aload_n C dX2_addWear_15 rfl ?_
        refine jg_3_2 C hR (by omega) fl_Re_10 dX2_addWear_16 ?_
        refine j_iload_n C dX2_addWear_19 rfl ?_
        refine j_callV C (g_rrow l hfl hR.1 (by omega) (by omega)) cal_Jx4a65c_get_915e3 vi_Jx4a65c_get_915e3 ml_Re_44 (hR.1.q_rrow (by omega)) ⟨by decide, by decide, rfl⟩ rfl rfl (Nat.le_of_ble_eq_true rfl) ⟨by decide, by decide⟩ ⟨(by first | omega | (dsimp only; omega)), (by first | omega | (dsimp only; omega))⟩ dX2_addWear_20 (fun E S9 h => nomatch h.1) (fun v9 S9 h => ?_)
        obtain ⟨h, h9, w20⟩ := h
        have h9 := h9.symm
        subst h9
        cases h
        have hw2 := hw i (by omega)
        rw [e14] at w20 ⊢
        refine j_cast (kd := 4) C (hR.1.k4 (by omega)) ⟨by decide, by decide⟩ cl_Re_29 dX2_addWear_23 ?_
        refine j_dup C dX2_addWear_26 rfl ?_
        refine jg_4_5 C hR (by omega) fl_Re_51 dX2_addWear_27 (fun w27 => ?_)
        refine j_iload_n C dX2_addWear_30 rfl ?_
        refine j_iadd C dX2_addWear_31 ?_
        refine jp_4_5 C hR (by omega) (by omega) fl_Re_51 dX2_addWear_32 (fun S2 hR => ?_)
        refine j_iinc C dX2_addWear_35 rfl (by decide) ?_
        refine j_goto (tgt := 2) C dX2_addWear_38 (by decide) ?_
        refine J.lvs (lv' := [(0, .ref (G 3 r9)), (1, .int (iN w9)), (2, .int (iN (((i + 1) : Nat) : Int)))]) ?_ (ih (i + 1) S2 (by omega) (by omega) hR)
        intro q hq; simp only [List.mem_cons, List.not_mem_nil, or_false] at hq; rcases hq with rfl | rfl | rfl <;> rfl
  refine J.lvs (lv' := [(0, .ref (G 3 r9)), (1, .int (iN w9)), (2, .int (iN ((0 : Nat) : Int)))]) ?_ (key ((X 16 r9).toNat + 1) 0 S (by omega) (by omega) ⟨hC, cF.rf⟩)
  intro q hq; simp only [List.mem_cons, List.not_mem_nil, or_false] at hq; rcases hq with rfl | rfl | rfl <;> rfl

set_option maxHeartbeats 4000000 in
set_option maxRecDepth 100000 in
theorem u_play (l : Launch) (hfl : l.stackTraces = false) {S : wS} {E0 : Nat} {G : wG} {X : wM} (hC : RC E0 S G X) {r9 w9 : Int} (hr : 0 ≤ r9 ∧ r9 < X 17 0) (hw : ∀ k : Nat, (k : Int) < X 16 r9 - 1 → 0 ≤ awX X r9 w9 k 31 (X 14 (60 * r9 + k)) + w9 ∧ awX X r9 w9 k 31 (X 14 (60 * r9 + k)) + w9 ≤ 100) : Ct l yX5_play cX5_play 3 none 5 0 0 [.ref (G 6 0), .ref (G 3 r9), .int (iN w9)] S (fun r S' => r = .inl none ∧ RCF E0 S S' G (plX X r9 w9)) := by
  refine Ct.of cal_X5_play hfl (Nat.le_of_ble_eq_true rfl) ?_
  intro p e s m args below meth c D sz C ME
  have hR : RCF E0 S S G X := ⟨hC, cF.rf⟩
  have wf := hC.w3 hr
  unfold wf3 at wf
  refine j_aload_n C dX5_play_0 rfl ?_
  refine j_iload_n C dX5_play_1 rfl ?_
  refine j_callV C (u_addWear l hfl hR.1 hr hw) cal_X2_addWear vi_X2_addWear ml_Sp_372 (hR.1.k3 (by omega)) ⟨by decide, by decide, rfl⟩ rfl rfl (Nat.le_of_ble_eq_true rfl) ⟨by decide, by decide⟩ ⟨(by first | omega | (dsimp only; omega)), (by first | omega | (dsimp only; omega))⟩ dX5_play_2 (fun E S9 h => nomatch h.1) (fun v9 S9 h => ?_)
  obtain ⟨h, hR2⟩ := h
  cases h
  have hR := hR.tr hR2
  clear hR2
  have hr2 : 0 ≤ r9 ∧ r9 < awX X r9 w9 (X 16 r9 - 1).toNat 17 0 := by rw [awX_o (by decide)]; exact hr
  have eon : onM (awX X r9 w9 (X 16 r9 - 1).toNat) r9 = onM X r9 := by
    unfold onM
    rw [awX_o (by decide)]
    refine sumI_cong (fun k hk => ?_)
    rw [awX_o (by decide), awX_o (by decide)]
  have e30 : awX X r9 w9 (X 16 r9 - 1).toNat 30 0 = X 30 0 := awX_o (by decide) _
  have hon : 0 ≤ onM X r9 ∧ onM X r9 ≤ (X 16 r9).toNat * 999 := onX_b hC hr (by omega)
  refine j_aload_n C dX5_play_5 rfl ?_
  refine j_dup C dX5_play_6 rfl ?_
  refine jg_6_7 C hR fl_Sp_35 dX5_play_7 ?_
  refine j_aload_n C dX5_play_10 rfl ?_
  refine j_callV C (k_rcount l hfl hR.1 (by rw [awX_o (by decide)]; exact hr)) cal_X2_frameCount vi_X2_frameCount ml_Sp_376 (hR.1.k3 hr2) ⟨by decide, by decide, rfl⟩ rfl rfl (Nat.le_of_ble_eq_true rfl) ⟨by decide, by decide⟩ ⟨(by first | omega | (dsimp only; omega)), (by first | omega | (dsimp only; omega))⟩ dX5_play_11 (fun E S9 h => nomatch h.1) (fun v9 S9 h => ?_)
  obtain ⟨h, h9⟩ := h
  have h9 := h9.symm
  subst h9
  cases h
  rw [eon]
  refine j_i2l C (by unfold rg; omega) dX5_play_14 ?_
  refine j_laddI C dX5_play_15 ?_
  rw [e30]
  refine jp_6_7 C hR fl_Sp_35 dX5_play_16 (fun S2 hR => ?_)
  refine j_vret C ME ?_ (by omega) (by omega) dX5_play_19
  exact ⟨rfl, hR⟩

set_option maxHeartbeats 4000000 in
set_option maxRecDepth 100000 in
theorem u_drop (l : Launch) (hfl : l.stackTraces = false) {S : wS} {E0 : Nat} {G : wG} {X : wM} (hC : RC E0 S G X) {f9 s9 : Int} (hf : 0 ≤ f9 ∧ f9 < X 1 0) (hs : 0 ≤ s9 ∧ s9 < X 12 0) : Ct l yX0_dropGradesFrom cX0_dropGradesFrom 4 none 4 0 0 [.ref (G 1 f9), .ref (G 4 s9)] S (fun r S' => r = .inl none ∧ RCF E0 S S' G (drX X f9 s9 (X 3 f9).toNat)) := by
  refine Ct.of cal_X0_dropGradesFrom hfl (Nat.le_of_ble_eq_true rfl) ?_
  intro p e s m args below meth c D sz C ME
  have wf := hC.w1 hf
  unfold wf1 at wf
  refine j_iconst C dX0_dropGradesFrom_0 ?_
  refine j_istore_n C dX0_dropGradesFrom_1 (by decide) ?_
  have key : ∀ (fuel : Nat) (i : Nat) (S2 : wS), X 3 f9 - i < fuel → (i : Int) ≤ X 3 f9 → RCF E0 S S2 G (drX X f9 s9 i) → J p l e { frames := 20 * 4, cells := 0, slots := 0, locals := 200 * 4 } s m args below meth c 4 D (wA S sz) (wQ below D sz S (fun r S' => r = .inl none ∧ RCF E0 S S' G (drX X f9 s9 (X 3 f9).toNat)) args s 0 0) 2 [(0, .ref (G 1 f9)), (1, .ref (G 4 s9)), (2, .int (iN ((i : Nat) : Int)))] [] S2 0 0 := by
    intro fuel
    induction fuel with
    | zero => intro i S2 h1 h2 hR; omega
    | succ fuel ih =>
      intro i S2 h1 h2 hR
      have e3 : drX X f9 s9 i 3 f9 = X 3 f9 := drX_o (by decide) i
      have e1 : drX X f9 s9 i 1 0 = X 1 0 := drX_o (by decide) i
      have e12 : drX X f9 s9 i 12 0 = X 12 0 := drX_o (by decide) i
      have e2 : drX X f9 s9 i 2 (60 * f9 + (i : Int)) = X 2 (60 * f9 + (i : Int)) := drX_o (by decide) i
      refine j_iload_n C dX0_dropGradesFrom_2 rfl ?_
      refine j_aload_n C dX0_dropGradesFrom_3 rfl ?_
      refine jg_1_0 C hR (by omega) fl_Fi_12 dX0_dropGradesFrom_4 ?_
      refine j_callV C (z_row l hfl hR.1 (by omega)) cal_Jx4a65c_size_8abf5 vi_Jx4a65c_size_8abf5 ml_Fi_18 (hR.1.q_row (by omega)) ⟨by decide, by decide, rfl⟩ rfl rfl (Nat.le_of_ble_eq_true rfl) ⟨by decide, by decide⟩ ⟨(by first | omega | (dsimp only; omega)), (by first | omega | (dsimp only; omega))⟩ dX0_dropGradesFrom_7 (fun E S9 h => nomatch h.1) (fun v9 S9 h => ?_)
      obtain ⟨h, h9⟩ := h
      have h9 := h9.symm
      subst h9
      cases h
      rw [e3]
      refine j_icmp_ge (tgt := 44) C dX0_dropGradesFrom_10 (by decide) (by unfold rg at *; omega) (by unfold rg at *; omega) (fun c10 => ?_) (fun c10 => ?_)
      · refine j_vret C ME ?_ (by omega) (by omega) dX0_dropGradesFrom_44
        exact ⟨rfl, by rw [show (X 3 f9).toNat = i by omega]; exact hR⟩
      · refine j_aload_n C dX0_dropGradesFrom_13 rfl ?_
        refine jg_1_0 C hR (by omega) fl_Fi_12 dX0_dropGradesFrom_14 ?_
        refine j_iload_n C dX0_dropGradesFrom_17 rfl ?_
        refine j_callV C (g_row l hfl hR.1 (by omega) (by omega)) cal_Jx4a65c_get_915e3 vi_Jx4a65c_get_915e3 ml_Fi_22 (hR.1.q_row (by omega)) ⟨by decide, by decide, rfl⟩ rfl rfl (Nat.le_of_ble_eq_true rfl) ⟨by decide, by decide⟩ ⟨(by first | omega | (dsimp only; omega)), (by first | omega | (dsimp only; omega))⟩ dX0_dropGradesFrom_18 (fun E S9 h => nomatch h.1) (fun v9 S9 h => ?_)
        obtain ⟨h, h9, w18⟩ := h
        have h9 := h9.symm
        subst h9
        cases h
        rw [e2] at w18 ⊢
        refine j_cast (kd := 4) C (hR.1.k4 (by omega)) ⟨by decide, by decide⟩ cl_Fi_26 dX0_dropGradesFrom_21 ?_
        refine j_astore_n C dX0_dropGradesFrom_24 (by decide) ?_
        refine j_aload_n C dX0_dropGradesFrom_25 rfl ?_
        refine jn_4_9 C hR (by omega) fl_Fi_35 dX0_dropGradesFrom_26 (fun z26 => ?_) (fun z26 => ?_)
        · refine j_aload_n C dX0_dropGradesFrom_29 rfl ?_
          refine j_acmp_neN (tgt := 38) C dX0_dropGradesFrom_30 (by decide) ?_
          refine j_iinc C dX0_dropGradesFrom_38 rfl (by decide) ?_
          refine j_goto (tgt := 2) C dX0_dropGradesFrom_41 (by decide) ?_
          refine J.lvs (lv' := [(0, .ref (G 1 f9)), (1, .ref (G 4 s9)), (2, .int (iN (((i + 1) : Nat) : Int)))]) ?_ (ih (i + 1) _ (by omega) (by omega) (by show RCF E0 S _ G (if _ then _ else _); first | (rw [if_pos (by omega)]; exact hR) | (rw [if_neg (by omega)]; exact hR)))
          intro q hq; simp only [List.mem_cons, List.not_mem_nil, or_false] at hq; rcases hq with rfl | rfl | rfl <;> rfl
        · refine j_aload_n C dX0_dropGradesFrom_29 rfl ?_
          refine j_acmp_ne (tgt := 38) C dX0_dropGradesFrom_30 (by decide) (fun c30 => ?_) (fun c30 => ?_)
          · have c30 : ¬ drX X f9 s9 i 11 (X 2 (60 * f9 + (i : Int))) = s9 := fun z => c30 (by rw [z])
            refine j_iinc C dX0_dropGradesFrom_38 rfl (by decide) ?_
            refine j_goto (tgt := 2) C dX0_dropGradesFrom_41 (by decide) ?_
            refine J.lvs (lv' := [(0, .ref (G 1 f9)), (1, .ref (G 4 s9)), (2, .int (iN (((i + 1) : Nat) : Int)))]) ?_ (ih (i + 1) _ (by omega) (by omega) (by show RCF E0 S _ G (if _ then _ else _); first | (rw [if_pos (by omega)]; exact hR) | (rw [if_neg (by omega)]; exact hR)))
            intro q hq; simp only [List.mem_cons, List.not_mem_nil, or_false] at hq; rcases hq with rfl | rfl | rfl <;> rfl
          · have c30 := hR.1.inj4 (by omega) (by omega) c30
            refine j_aload_n C dX0_dropGradesFrom_33 rfl ?_
            refine j_null C dX0_dropGradesFrom_34 ?_
            refine jp_4_9N C hR (by omega) fl_Fi_35 dX0_dropGradesFrom_35 (fun S2 hR => ?_)
            refine j_iinc C dX0_dropGradesFrom_38 rfl (by decide) ?_
            refine j_goto (tgt := 2) C dX0_dropGradesFrom_41 (by decide) ?_
            refine J.lvs (lv' := [(0, .ref (G 1 f9)), (1, .ref (G 4 s9)), (2, .int (iN (((i + 1) : Nat) : Int)))]) ?_ (ih (i + 1) _ (by omega) (by omega) (by show RCF E0 S _ G (if _ then _ else _); first | (rw [if_pos (by omega)]; exact hR) | (rw [if_neg (by omega)]; exact hR)))
            intro q hq; simp only [List.mem_cons, List.not_mem_nil, or_false] at hq; rcases hq with rfl | rfl | rfl <;> rfl
  refine J.lvs (lv' := [(0, .ref (G 1 f9)), (1, .ref (G 4 s9)), (2, .int (iN ((0 : Nat) : Int)))]) ?_ (key ((X 3 f9).toNat + 1) 0 S (by omega) (by omega) ⟨hC, cF.rf⟩)
  intro q hq; simp only [List.mem_cons, List.not_mem_nil, or_false] at hq; rcases hq with rfl | rfl | rfl <;> rfl

set_option maxHeartbeats 4000000 in
set_option maxRecDepth 100000 in
theorem u_tlf (l : Launch) (hfl : l.stackTraces = false) {S : wS} {E0 : Nat} {G : wG} {X : wM} (hC : RC E0 S G X) {s9 : Int} (hs : 0 ≤ s9 ∧ s9 < X 12 0) (hl : 2 ≤ X 5 s9) : Ct l yX5_takeLastFrame cX5_takeLastFrame 4 none 4 0 0 [.ref (G 6 0), .ref (G 4 s9)] S (fun r S' => r = .inl none ∧ RCF E0 S S' G (tfX X s9)) := by
  refine Ct.of cal_X5_takeLastFrame hfl (Nat.le_of_ble_eq_true rfl) ?_
  intro p e s m args below meth c D sz C ME
  have w6 := hC.w6
  unfold wf6 at w6
  refine j_iconst C dX5_takeLastFrame_0 ?_
  refine j_istore_n C dX5_takeLastFrame_1 (by decide) ?_
  have key : ∀ (fuel : Nat) (i : Nat) (S2 : wS), X 21 0 - i < fuel → (i : Int) ≤ X 21 0 → RCF E0 S S2 G (tlX X s9 i) → J p l e { frames := 20 * 4, cells := 0, slots := 0, locals := 200 * 4 } s m args below meth c 4 D (wA S sz) (wQ below D sz S (fun r S' => r = .inl none ∧ RCF E0 S S' G (tfX X s9)) args s 0 0) 2 [(0, .ref (G 6 0)), (1, .ref (G 4 s9)), (2, .int (iN ((i : Nat) : Int)))] [] S2 0 0 := by
    intro fuel
    induction fuel with
    | zero => intro i S2 h1 h2 hR; omega
    | succ fuel ih =>
      intro i S2 h1 h2 hR
      have e21 : tlX X s9 i 21 0 = X 21 0 := tlX_o (by decide) i
      have e12 : tlX X s9 i 12 0 = X 12 0 := tlX_o (by decide) i
      have e1 : tlX X s9 i 1 0 = X 1 0 := tlX_o (by decide) i
      have e19 : tlX X s9 i 19 (i : Int) = X 19 (i : Int) := tlX_o (by decide) i
      have e4 : tlX X s9 i 4 s9 = X 4 s9 := tlX_o (by decide) i
      have e5 : tlX X s9 i 5 s9 = X 5 s9 := tlX_o (by decide) i
      have e9 : tlX X s9 i 9 s9 = X 9 s9 := tlX_o (by decide) i
      have w4 := hC.w4 hs
      unfold wf4 at w4
      refine j_iload_n C dX5_takeLastFrame_2 rfl ?_
      refine j_aload_n C dX5_takeLastFrame_3 rfl ?_
      refine jg_6_3 C hR fl_Sp_22 dX5_takeLastFrame_4 ?_
      refine j_callV C (z_L3 l hfl hR.1 ) cal_Jx4a65c_size_8abf5 vi_Jx4a65c_size_8abf5 ml_Sp_39 (hR.1.q_L3 ) ⟨by decide, by decide, rfl⟩ rfl rfl (Nat.le_of_ble_eq_true rfl) ⟨by decide, by decide⟩ ⟨(by first | omega | (dsimp only; omega)), (by first | omega | (dsimp only; omega))⟩ dX5_takeLastFrame_7 (fun E S9 h => nomatch h.1) (fun v9 S9 h => ?_)
      obtain ⟨h, h9⟩ := h
      have h9 := h9.symm
      subst h9
      cases h
      rw [e21]
      refine j_icmp_ge (tgt := 59) C dX5_takeLastFrame_10 (by decide) (by unfold rg at *; omega) (by unfold rg at *; omega) (fun c10 => ?_) (fun c10 => ?_)
      · refine j_aload_n C dX5_takeLastFrame_59 rfl ?_
        refine j_dup C dX5_takeLastFrame_60 rfl ?_
        refine jg_4_3 C hR (by omega) fl_Sp_153 dX5_takeLastFrame_61 (fun w61 => ?_)
        refine j_iconst C dX5_takeLastFrame_64 ?_
        refine j_isub C dX5_takeLastFrame_65 ?_
        rw [e5]
        refine jp_4_3 C hR (by omega) (by omega) fl_Sp_153 dX5_takeLastFrame_66 (fun S2 hR => ?_)
        refine j_aload_n C dX5_takeLastFrame_69 rfl ?_
        refine j_aload_n C dX5_takeLastFrame_70 rfl ?_
        refine jg_4_7 C hR (by show 0 ≤ s9 ∧ s9 < tlX X s9 i 12 0; omega) fl_Sp_231 dX5_takeLastFrame_71 (fun w71 => ?_)
        rw [show mup (tlX X s9 i) 5 s9 (X 5 s9 - 1) 9 s9 = X 9 s9 from e9] at w71 ⊢
        refine j_aload_n C dX5_takeLastFrame_74 rfl ?_
        refine jg_4_3 C hR (by show 0 ≤ s9 ∧ s9 < tlX X s9 i 12 0; omega) fl_Sp_153 dX5_takeLastFrame_75 (fun w75 => ?_)
        rw [mup_eq]
        refine j_mmin C ml_Sp_285 (by unfold rg at *; omega) (by unfold rg at *; omega) ⟨by decide, (Nat.le_of_ble_eq_true rfl), (by first | omega | (dsimp only; omega)), (by first | omega | (dsimp only; omega))⟩ dX5_takeLastFrame_78 ?_
        refine jp_4_7 C hR (by show 0 ≤ s9 ∧ s9 < tlX X s9 i 12 0; omega) (by omega) fl_Sp_231 dX5_takeLastFrame_81 (fun S2 hR => ?_)
        refine j_vret C ME ?_ (by omega) (by omega) dX5_takeLastFrame_84
        exact ⟨rfl, by unfold tfX; rw [show (X 21 0).toNat = i by omega]; exact hR⟩
      · refine j_aload_n C dX5_takeLastFrame_13 rfl ?_
        refine jg_6_3 C hR fl_Sp_22 dX5_takeLastFrame_14 ?_
        refine j_iload_n C dX5_takeLastFrame_17 rfl ?_
        refine j_callV C (g_L3 l hfl hR.1 (by omega)) cal_Jx4a65c_get_915e3 vi_Jx4a65c_get_915e3 ml_Sp_146 (hR.1.q_L3 ) ⟨by decide, by decide, rfl⟩ rfl rfl (Nat.le_of_ble_eq_true rfl) ⟨by decide, by decide⟩ ⟨(by first | omega | (dsimp only; omega)), (by first | omega | (dsimp only; omega))⟩ dX5_takeLastFrame_18 (fun E S9 h => nomatch h.1) (fun v9 S9 h => ?_)
        obtain ⟨h, h9, -⟩ := h
        have h9 := h9.symm
        subst h9
        cases h
        refine j_cast (kd := 5) C (hR.1.k5 (by omega)) ⟨by decide, by decide⟩ cl_Sp_264 dX5_takeLastFrame_21 ?_
        refine j_astore_n C dX5_takeLastFrame_24 (by decide) ?_
        refine j_aload_n C dX5_takeLastFrame_25 rfl ?_
        refine jg_5_0 C hR (by omega) fl_Sp_273 dX5_takeLastFrame_26 (fun w26 => ?_)
        refine j_aload_n C dX5_takeLastFrame_29 rfl ?_
        refine jg_4_0 C hR (by omega) fl_Sp_100 dX5_takeLastFrame_30 (fun w30 => ?_)
        refine j_acmp_ne (tgt := 53) C dX5_takeLastFrame_33 (by decide) (fun c33 => ?_) (fun c33 => ?_)
        · have c33 : ¬ X 19 (i : Int) = X 4 s9 := fun z => c33 (by rw [e19, e4, z])
          refine j_iinc C dX5_takeLastFrame_53 rfl (by decide) ?_
          refine j_goto (tgt := 2) C dX5_takeLastFrame_56 (by decide) ?_
          refine J.lvs (lv' := [(0, .ref (G 6 0)), (1, .ref (G 4 s9)), (2, .int (iN (((i + 1) : Nat) : Int)))]) ?_ (ih (i + 1) _ (by omega) (by omega) (by show RCF E0 S _ G (if _ then _ else _); first | (rw [if_pos (by omega)]; exact hR) | (rw [if_neg (by omega)]; exact hR)))
          intro q hq; simp only [List.mem_cons, List.not_mem_nil, or_false] at hq; rcases hq with rfl | rfl | rfl <;> rfl
        · have c33 := hR.1.inj1 (by omega) (by omega) c33
          rw [e19, e4] at c33
          refine j_aload_n C dX5_takeLastFrame_36 rfl ?_
          refine j_aload_n C dX5_takeLastFrame_37 rfl ?_
          refine j_aload_n C dX5_takeLastFrame_38 rfl ?_
          refine jg_4_3 C hR (by omega) fl_Sp_153 dX5_takeLastFrame_39 (fun w39 => ?_)
          refine j_iconst C dX5_takeLastFrame_42 ?_
          refine j_isub C dX5_takeLastFrame_43 ?_
          refine j_aload_n C dX5_takeLastFrame_44 rfl ?_
          refine jg_4_3 C hR (by omega) fl_Sp_153 dX5_takeLastFrame_45 (fun w45 => ?_)
          refine j_iconst C dX5_takeLastFrame_48 ?_
          rw [e5]
          refine j_callV C (v_mark l hfl (o9 := false) hR.1 (by omega) (by omega) (by omega) (by omega)) cal_X4_mark vi_X4_mark ml_Sp_288 (hR.1.k5 (by omega)) ⟨by decide, by decide, rfl⟩ rfl rfl (Nat.le_of_ble_eq_true rfl) ⟨by decide, by decide⟩ ⟨(by first | omega | (dsimp only; omega)), (by first | omega | (dsimp only; omega))⟩ dX5_takeLastFrame_49 (fun E S9 h => nomatch h.1) (fun v9 S9 h => ?_)
          obtain ⟨h, hR2⟩ := h
          cases h
          have hR := hR.tr hR2
          clear hR2
          refine j_pop C dX5_takeLastFrame_52 rfl ?_
          refine j_iinc C dX5_takeLastFrame_53 rfl (by decide) ?_
          refine j_goto (tgt := 2) C dX5_takeLastFrame_56 (by decide) ?_
          refine J.lvs (lv' := [(0, .ref (G 6 0)), (1, .ref (G 4 s9)), (2, .int (iN (((i + 1) : Nat) : Int)))]) ?_ (ih (i + 1) _ (by omega) (by omega) (by show RCF E0 S _ G (if _ then _ else _); first | (rw [if_pos (by omega)]; exact hR) | (rw [if_neg (by omega)]; exact hR)))
          intro q hq; simp only [List.mem_cons, List.not_mem_nil, or_false] at hq; rcases hq with rfl | rfl | rfl <;> rfl
  refine J.lvs (lv' := [(0, .ref (G 6 0)), (1, .ref (G 4 s9)), (2, .int (iN ((0 : Nat) : Int)))]) ?_ (key ((X 21 0).toNat + 1) 0 S (by omega) (by omega) ⟨hC, cF.rf⟩)
  intro q hq; simp only [List.mem_cons, List.not_mem_nil, or_false] at hq; rcases hq with rfl | rfl | rfl <;> rfl

