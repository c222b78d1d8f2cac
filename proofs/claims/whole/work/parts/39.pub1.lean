/-! THE CLASS: its public methods. -/
/-- a public call's end: by the code, an answer and the new numbers, or an exception and nothing changed -/
def pubP (E : Nat) (S : wS) (G : wG) (xc : Int) (es : List String) (v : Option Value) (X' : wM) (r : wR) (S' : wS) : Prop :=
  (xc = 0 ∧ r = .inl v ∧ ∃ G' : wG, G' 6 0 = G 6 0 ∧ RCF E S S' G' X') ∨ ∃ (k : Nat) (e : String), es[k]? = some e ∧ xc = (k : Int) + 1 ∧ r = .inr e ∧ S' = S
def awOK (X : wM) (r w : Int) : Prop := ∀ k : Nat, (k : Int) < X 16 r - 1 → 0 ≤ awX X r w k 31 (X 14 (60 * r + k)) + w ∧ awX X r w k 31 (X 14 (60 * r + k)) + w ≤ 100
def cx_run (X : wM) (r : Int) : Int := if ¬ (0 ≤ r ∧ r < X 17 0) then 1 else if takeP X r 1 (X 18 0) = false ∨ ¬ X 32 (X 13 r) = 0 then 2 else 0
def cx_setLimit (X : wM) (a : Int) : Int := if ¬ (2 ≤ a ∧ a ≤ 50) then 1 else if withX X a (X 17 0).toNat = true ∨ (a < X 18 0 ∧ lentX X (X 1 0).toNat = true) then 2 else 0
def cx_wear (X : wM) (r z : Int) : Int := if ¬ ((0 ≤ r ∧ r < X 17 0) ∧ 0 ≤ z ∧ z ≤ X 16 r - 2) then 1 else 0
def cx_frames (X : wM) (z : Int) : Int := if ¬ (0 ≤ z ∧ z < X 21 0) then 1 else 0
theorem mup_oj {X : wM} {j j' : Nat} {i i' z : Int} (h : j' ≠ j) : mup X j i z j' i' = X j' i' := if_neg (fun q => h q.1)
theorem aw16 {X : wM} {r w : Int} : plX X r w 16 r = X 16 r := by
  unfold plX
  rw [mup_oj (by decide)]
  exact awX_o (by decide) _
theorem aw17 {X : wM} {r w : Int} : plX X r w 17 0 = X 17 0 := by
  unfold plX
  rw [mup_oj (by decide)]
  exact awX_o (by decide) _
set_option maxHeartbeats 4000000 in
set_option maxRecDepth 100000 in
theorem p_shots (l : Launch) (hfl : l.stackTraces = false) {S : wS} {E0 : Nat} {G : wG} {X : wM} (hC : RC E0 S G X) {f : Int} (h_f : rg f)  : Ct l yX5_shots cX5_shots 2 (some FieldType.int) 20 100 6000 [.ref (G 6 0), .int (iN f)] S (pubP E0 S G (x_shots X f) ["java/lang/IndexOutOfBoundsException"] (some (.int (iN (v_shots X f)))) (X)) := by
  refine Ct.of cal_X5_shots hfl (Nat.le_of_ble_eq_true rfl) ?_
  intro p e s m args below meth c D sz C ME
  have hR : RCF E0 S S G X := ⟨hC, cF.rf⟩
  have w6 := hC.w6
  unfold wf6 at w6
  refine j_aload_n C dX5_shots_0 rfl ?_
  refine j_iload_n C dX5_shots_1 rfl ?_
  refine j_callV C (n_film l hfl hR.1 (by unfold rg at *; omega)) cal_X5_filmNumbered vi_X5_filmNumbered ml_Sp_57 (hR.1.k6) ⟨by decide, by decide, rfl⟩ rfl rfl (Nat.le_of_ble_eq_true rfl) ⟨by decide, by decide⟩ ⟨(by first | omega | (dsimp only; omega) | exact Nat.le_of_ble_eq_true rfl), (by first | omega | (dsimp only; omega) | exact Nat.le_of_ble_eq_true rfl)⟩ dX5_shots_2 (fun E S9 h => ?_) (fun v9 S9 h => ?_)
  · obtain ⟨h9, h | h⟩ := h
    · exact nomatch h.2
    · obtain ⟨c2, h⟩ := h
      have h9 := h9.symm
      subst h9
      cases h
      refine j_out C ME ?_ (by omega) (by omega)
      exact Or.inr ⟨0, _, rfl, (by clear hR hC ME C; (try clear key); (try clear ih); unfold x_shots; (repeat' split) <;> first | rfl | omega | (simp_all; done) | (simp_all; omega)), rfl, rfl⟩
  obtain ⟨h9, h | h⟩ := h
  rotate_left
  · exact nomatch h.2
  obtain ⟨c2, h⟩ := h
  have h9 := h9.symm
  subst h9
  cases h
  refine jg_1_0 C hR (by omega) fl_Sp_71 dX5_shots_5 ?_
  refine j_callV C (z_row l hfl hR.1 (by omega)) cal_Jx4a65c_size_8abf5 vi_Jx4a65c_size_8abf5 ml_Sp_39 (hR.1.q_row (by omega)) ⟨by decide, by decide, rfl⟩ rfl rfl (Nat.le_of_ble_eq_true rfl) ⟨by decide, by decide⟩ ⟨(by first | omega | (dsimp only; omega) | exact Nat.le_of_ble_eq_true rfl), (by first | omega | (dsimp only; omega) | exact Nat.le_of_ble_eq_true rfl)⟩ dX5_shots_8 (fun E S9 h => nomatch h.1) (fun v9 S9 h => ?_)
  obtain ⟨h, h9⟩ := h
  have h9 := h9.symm
  subst h9
  cases h
  refine j_iret C ME ?_ (by first | omega | exact Nat.le_of_ble_eq_true rfl) (by first | omega | exact Nat.le_of_ble_eq_true rfl) dX5_shots_11
  refine Or.inl ⟨?_, ?_, G, rfl, hR⟩
  · exact (by clear hR hC ME C; (try clear key); (try clear ih); unfold x_shots; (repeat' split) <;> first | rfl | omega | (simp_all; done) | (simp_all; omega))
  · first | rfl | exact rI (by first | rfl | omega | (simp_all; done) | (simp_all; omega))

set_option maxHeartbeats 4000000 in
set_option maxRecDepth 100000 in
theorem p_lengthOf (l : Launch) (hfl : l.stackTraces = false) {S : wS} {E0 : Nat} {G : wG} {X : wM} (hC : RC E0 S G X) {z : Int} (h_z : rg z)  : Ct l yX5_lengthOf cX5_lengthOf 2 (some FieldType.int) 20 100 6000 [.ref (G 6 0), .int (iN z)] S (pubP E0 S G (x_lengthOf X z) ["java/lang/IndexOutOfBoundsException"] (some (.int (iN (v_lengthOf X z)))) (X)) := by
  refine Ct.of cal_X5_lengthOf hfl (Nat.le_of_ble_eq_true rfl) ?_
  intro p e s m args below meth c D sz C ME
  have hR : RCF E0 S S G X := ⟨hC, cF.rf⟩
  have w6 := hC.w6
  unfold wf6 at w6
  refine j_aload_n C dX5_lengthOf_0 rfl ?_
  refine j_iload_n C dX5_lengthOf_1 rfl ?_
  refine j_callV C (n_shot l hfl hR.1 (by unfold rg at *; omega)) cal_X5_shotNumbered vi_X5_shotNumbered ml_Sp_92 (hR.1.k6) ⟨by decide, by decide, rfl⟩ rfl rfl (Nat.le_of_ble_eq_true rfl) ⟨by decide, by decide⟩ ⟨(by first | omega | (dsimp only; omega) | exact Nat.le_of_ble_eq_true rfl), (by first | omega | (dsimp only; omega) | exact Nat.le_of_ble_eq_true rfl)⟩ dX5_lengthOf_2 (fun E S9 h => ?_) (fun v9 S9 h => ?_)
  · obtain ⟨h9, h | h⟩ := h
    · exact nomatch h.2
    · obtain ⟨c2, h⟩ := h
      have h9 := h9.symm
      subst h9
      cases h
      refine j_out C ME ?_ (by omega) (by omega)
      exact Or.inr ⟨0, _, rfl, (by clear hR hC ME C; (try clear key); (try clear ih); unfold x_lengthOf; (repeat' split) <;> first | rfl | omega | (simp_all; done) | (simp_all; omega)), rfl, rfl⟩
  obtain ⟨h9, h | h⟩ := h
  rotate_left
  · exact nomatch h.2
  obtain ⟨c2, h⟩ := h
  have h9 := h9.symm
  subst h9
  cases h
  refine jg_4_3 C hR (by omega) fl_Sp_153 dX5_lengthOf_5 (fun w5 => ?_)
  refine j_iret C ME ?_ (by first | omega | exact Nat.le_of_ble_eq_true rfl) (by first | omega | exact Nat.le_of_ble_eq_true rfl) dX5_lengthOf_8
  refine Or.inl ⟨?_, ?_, G, rfl, hR⟩
  · exact (by clear hR hC ME C; (try clear key); (try clear ih); unfold x_lengthOf; (repeat' split) <;> first | rfl | omega | (simp_all; done) | (simp_all; omega))
  · first | rfl | exact rI (by unfold v_lengthOf; omega)

set_option maxHeartbeats 4000000 in
set_option maxRecDepth 100000 in
theorem p_scanned (l : Launch) (hfl : l.stackTraces = false) {S : wS} {E0 : Nat} {G : wG} {X : wM} (hC : RC E0 S G X) {z : Int} (h_z : rg z)  : Ct l yX5_scanned cX5_scanned 2 (some FieldType.int) 20 100 6000 [.ref (G 6 0), .int (iN z)] S (pubP E0 S G (x_scanned X z) ["java/lang/IndexOutOfBoundsException"] (some (.int (iN (v_scanned X z)))) (X)) := by
  refine Ct.of cal_X5_scanned hfl (Nat.le_of_ble_eq_true rfl) ?_
  intro p e s m args below meth c D sz C ME
  have hR : RCF E0 S S G X := ⟨hC, cF.rf⟩
  have w6 := hC.w6
  unfold wf6 at w6
  refine j_aload_n C dX5_scanned_0 rfl ?_
  refine j_iload_n C dX5_scanned_1 rfl ?_
  refine j_callV C (n_shot l hfl hR.1 (by unfold rg at *; omega)) cal_X5_shotNumbered vi_X5_shotNumbered ml_Sp_92 (hR.1.k6) ⟨by decide, by decide, rfl⟩ rfl rfl (Nat.le_of_ble_eq_true rfl) ⟨by decide, by decide⟩ ⟨(by first | omega | (dsimp only; omega) | exact Nat.le_of_ble_eq_true rfl), (by first | omega | (dsimp only; omega) | exact Nat.le_of_ble_eq_true rfl)⟩ dX5_scanned_2 (fun E S9 h => ?_) (fun v9 S9 h => ?_)
  · obtain ⟨h9, h | h⟩ := h
    · exact nomatch h.2
    · obtain ⟨c2, h⟩ := h
      have h9 := h9.symm
      subst h9
      cases h
      refine j_out C ME ?_ (by omega) (by omega)
      exact Or.inr ⟨0, _, rfl, (by clear hR hC ME C; (try clear key); (try clear ih); unfold x_scanned; (repeat' split) <;> first | rfl | omega | (simp_all; done) | (simp_all; omega)), rfl, rfl⟩
  obtain ⟨h9, h | h⟩ := h
  rotate_left
  · exact nomatch h.2
  obtain ⟨c2, h⟩ := h
  have h9 := h9.symm
  subst h9
  cases h
  refine jg_4_6 C hR (by omega) fl_Sp_228 dX5_scanned_5 (fun w5 => ?_)
  refine j_iret C ME ?_ (by first | omega | exact Nat.le_of_ble_eq_true rfl) (by first | omega | exact Nat.le_of_ble_eq_true rfl) dX5_scanned_8
  refine Or.inl ⟨?_, ?_, G, rfl, hR⟩
  · exact (by clear hR hC ME C; (try clear key); (try clear ih); unfold x_scanned; (repeat' split) <;> first | rfl | omega | (simp_all; done) | (simp_all; omega))
  · first | rfl | exact rI (by unfold v_scanned; omega)

set_option maxHeartbeats 4000000 in
set_option maxRecDepth 100000 in
theorem p_missed (l : Launch) (hfl : l.stackTraces = false) {S : wS} {E0 : Nat} {G : wG} {X : wM} (hC : RC E0 S G X) {z : Int} (h_z : rg z)  : Ct l yX5_missed cX5_missed 2 (some FieldType.int) 20 100 6000 [.ref (G 6 0), .int (iN z)] S (pubP E0 S G (x_missed X z) ["java/lang/IndexOutOfBoundsException"] (some (.int (iN (v_missed X z)))) (X)) := by
  refine Ct.of cal_X5_missed hfl (Nat.le_of_ble_eq_true rfl) ?_
  intro p e s m args below meth c D sz C ME
  have hR : RCF E0 S S G X := ⟨hC, cF.rf⟩
  have w6 := hC.w6
  unfold wf6 at w6
  refine j_aload_n C dX5_missed_0 rfl ?_
  refine j_iload_n C dX5_missed_1 rfl ?_
  refine j_callV C (n_shot l hfl hR.1 (by unfold rg at *; omega)) cal_X5_shotNumbered vi_X5_shotNumbered ml_Sp_92 (hR.1.k6) ⟨by decide, by decide, rfl⟩ rfl rfl (Nat.le_of_ble_eq_true rfl) ⟨by decide, by decide⟩ ⟨(by first | omega | (dsimp only; omega) | exact Nat.le_of_ble_eq_true rfl), (by first | omega | (dsimp only; omega) | exact Nat.le_of_ble_eq_true rfl)⟩ dX5_missed_2 (fun E S9 h => ?_) (fun v9 S9 h => ?_)
  · obtain ⟨h9, h | h⟩ := h
    · exact nomatch h.2
    · obtain ⟨c2, h⟩ := h
      have h9 := h9.symm
      subst h9
      cases h
      refine j_out C ME ?_ (by omega) (by omega)
      exact Or.inr ⟨0, _, rfl, (by clear hR hC ME C; (try clear key); (try clear ih); unfold x_missed; (repeat' split) <;> first | rfl | omega | (simp_all; done) | (simp_all; omega)), rfl, rfl⟩
  obtain ⟨h9, h | h⟩ := h
  rotate_left
  · exact nomatch h.2
  obtain ⟨c2, h⟩ := h
  have h9 := h9.symm
  subst h9
  cases h
  refine jg_4_7 C hR (by omega) fl_Sp_231 dX5_missed_5 (fun w5 => ?_)
  refine j_iret C ME ?_ (by first | omega | exact Nat.le_of_ble_eq_true rfl) (by first | omega | exact Nat.le_of_ble_eq_true rfl) dX5_missed_8
  refine Or.inl ⟨?_, ?_, G, rfl, hR⟩
  · exact (by clear hR hC ME C; (try clear key); (try clear ih); unfold x_missed; (repeat' split) <;> first | rfl | omega | (simp_all; done) | (simp_all; omega))
  · first | rfl | exact rI (by unfold v_missed; omega)

set_option maxHeartbeats 4000000 in
set_option maxRecDepth 100000 in
theorem p_reelOf (l : Launch) (hfl : l.stackTraces = false) {S : wS} {E0 : Nat} {G : wG} {X : wM} (hC : RC E0 S G X) {z : Int} (h_z : rg z)  : Ct l yX5_reelOf cX5_reelOf 3 (some FieldType.int) 20 100 6000 [.ref (G 6 0), .int (iN z)] S (pubP E0 S G (x_reelOf X z) ["java/lang/IndexOutOfBoundsException"] (some (.int (iN (v_reelOf X z)))) (X)) := by
  refine Ct.of cal_X5_reelOf hfl (Nat.le_of_ble_eq_true rfl) ?_
  intro p e s m args below meth c D sz C ME
  have hR : RCF E0 S S G X := ⟨hC, cF.rf⟩
  have w6 := hC.w6
  unfold wf6 at w6
  refine j_aload_n C dX5_reelOf_0 rfl ?_
  refine j_iload_n C dX5_reelOf_1 rfl ?_
  refine j_callV C (n_shot l hfl hR.1 (by unfold rg at *; omega)) cal_X5_shotNumbered vi_X5_shotNumbered ml_Sp_92 (hR.1.k6) ⟨by decide, by decide, rfl⟩ rfl rfl (Nat.le_of_ble_eq_true rfl) ⟨by decide, by decide⟩ ⟨(by first | omega | (dsimp only; omega) | exact Nat.le_of_ble_eq_true rfl), (by first | omega | (dsimp only; omega) | exact Nat.le_of_ble_eq_true rfl)⟩ dX5_reelOf_2 (fun E S9 h => ?_) (fun v9 S9 h => ?_)
  · obtain ⟨h9, h | h⟩ := h
    · exact nomatch h.2
    · obtain ⟨c2, h⟩ := h
      have h9 := h9.symm
      subst h9
      cases h
      refine j_out C ME ?_ (by omega) (by omega)
      exact Or.inr ⟨0, _, rfl, (by clear hR hC ME C; (try clear key); (try clear ih); unfold x_reelOf; (repeat' split) <;> first | rfl | omega | (simp_all; done) | (simp_all; omega)), rfl, rfl⟩
  obtain ⟨h9, h | h⟩ := h
  rotate_left
  · exact nomatch h.2
  obtain ⟨c2, h⟩ := h
  have h9 := h9.symm
  subst h9
  cases h
  refine jn_4_4 C hR (by omega) fl_Sp_174 dX5_reelOf_5 (fun z5 => ?_) (fun z5 => ?_)
  · refine j_astore_nN C dX5_reelOf_8 (by decide) ?_
    refine j_aload_nN C dX5_reelOf_9 rfl ?_
    refine j_ifnonnullN C dX5_reelOf_10 ?_
    refine j_iconst C dX5_reelOf_13 ?_
    refine j_goto (tgt := 21) C dX5_reelOf_14 (by decide) ?_
    refine j_iret C ME ?_ (by first | omega | exact Nat.le_of_ble_eq_true rfl) (by first | omega | exact Nat.le_of_ble_eq_true rfl) dX5_reelOf_21
    refine Or.inl ⟨?_, ?_, G, rfl, hR⟩
    · exact (by clear hR hC ME C; (try clear key); (try clear ih); unfold x_reelOf; (repeat' split) <;> first | rfl | omega | (simp_all; done) | (simp_all; omega))
    · first | rfl | exact rI (by unfold v_reelOf; omega)
  · refine j_astore_n C dX5_reelOf_8 (by decide) ?_
    refine j_aload_n C dX5_reelOf_9 rfl ?_
    refine j_ifnonnull (tgt := 17) C dX5_reelOf_10 (by decide) ?_
    refine j_aload_n C dX5_reelOf_17 rfl ?_
    refine jg_3_1 C hR (by omega) fl_Sp_85 dX5_reelOf_18 ?_
    refine j_iret C ME ?_ (by first | omega | exact Nat.le_of_ble_eq_true rfl) (by first | omega | exact Nat.le_of_ble_eq_true rfl) dX5_reelOf_21
    refine Or.inl ⟨?_, ?_, G, rfl, hR⟩
    · exact (by clear hR hC ME C; (try clear key); (try clear ih); unfold x_reelOf; (repeat' split) <;> first | rfl | omega | (simp_all; done) | (simp_all; omega))
    · first | rfl | exact rI (by unfold v_reelOf; omega)

set_option maxHeartbeats 4000000 in
set_option maxRecDepth 100000 in
theorem p_gradeOf (l : Launch) (hfl : l.stackTraces = false) {S : wS} {E0 : Nat} {G : wG} {X : wM} (hC : RC E0 S G X) {z : Int} (h_z : rg z)  : Ct l yX5_gradeOf cX5_gradeOf 2 (some FieldType.int) 20 100 6000 [.ref (G 6 0), .int (iN z)] S (pubP E0 S G (x_gradeOf X z) ["java/lang/IndexOutOfBoundsException"] (some (.int (iN (v_gradeOf X z)))) (X)) := by
  refine Ct.of cal_X5_gradeOf hfl (Nat.le_of_ble_eq_true rfl) ?_
  intro p e s m args below meth c D sz C ME
  have hR : RCF E0 S S G X := ⟨hC, cF.rf⟩
  have w6 := hC.w6
  unfold wf6 at w6
  refine j_aload_n C dX5_gradeOf_0 rfl ?_
  refine j_iload_n C dX5_gradeOf_1 rfl ?_
  refine j_callV C (n_shot l hfl hR.1 (by unfold rg at *; omega)) cal_X5_shotNumbered vi_X5_shotNumbered ml_Sp_92 (hR.1.k6) ⟨by decide, by decide, rfl⟩ rfl rfl (Nat.le_of_ble_eq_true rfl) ⟨by decide, by decide⟩ ⟨(by first | omega | (dsimp only; omega) | exact Nat.le_of_ble_eq_true rfl), (by first | omega | (dsimp only; omega) | exact Nat.le_of_ble_eq_true rfl)⟩ dX5_gradeOf_2 (fun E S9 h => ?_) (fun v9 S9 h => ?_)
  · obtain ⟨h9, h | h⟩ := h
    · exact nomatch h.2
    · obtain ⟨c2, h⟩ := h
      have h9 := h9.symm
      subst h9
      cases h
      refine j_out C ME ?_ (by omega) (by omega)
      exact Or.inr ⟨0, _, rfl, (by clear hR hC ME C; (try clear key); (try clear ih); unfold x_gradeOf; (repeat' split) <;> first | rfl | omega | (simp_all; done) | (simp_all; omega)), rfl, rfl⟩
  obtain ⟨h9, h | h⟩ := h
  rotate_left
  · exact nomatch h.2
  obtain ⟨c2, h⟩ := h
  have h9 := h9.symm
  subst h9
  cases h
  refine j_callV C (k_grade l hfl hR.1 (by omega)) cal_X3_currentGrade vi_X3_currentGrade ml_Sp_241 (hR.1.k4 (by omega)) ⟨by decide, by decide, rfl⟩ rfl rfl (Nat.le_of_ble_eq_true rfl) ⟨by decide, by decide⟩ ⟨(by first | omega | (dsimp only; omega) | exact Nat.le_of_ble_eq_true rfl), (by first | omega | (dsimp only; omega) | exact Nat.le_of_ble_eq_true rfl)⟩ dX5_gradeOf_5 (fun E S9 h => nomatch h.1) (fun v9 S9 h => ?_)
  obtain ⟨h, h9⟩ := h
  have h9 := h9.symm
  subst h9
  cases h
  refine j_iret C ME ?_ (by first | omega | exact Nat.le_of_ble_eq_true rfl) (by first | omega | exact Nat.le_of_ble_eq_true rfl) dX5_gradeOf_8
  refine Or.inl ⟨?_, ?_, G, rfl, hR⟩
  · exact (by clear hR hC ME C; (try clear key); (try clear ih); unfold x_gradeOf; (repeat' split) <;> first | rfl | omega | (simp_all; done) | (simp_all; omega))
  · first | rfl | exact rI (by first | rfl | omega | (simp_all; done) | (simp_all; omega))

set_option maxHeartbeats 4000000 in
set_option maxRecDepth 100000 in
theorem p_gradeFrom (l : Launch) (hfl : l.stackTraces = false) {S : wS} {E0 : Nat} {G : wG} {X : wM} (hC : RC E0 S G X) {z : Int} (h_z : rg z)  : Ct l yX5_gradeFrom cX5_gradeFrom 4 (some FieldType.int) 20 100 6000 [.ref (G 6 0), .int (iN z)] S (pubP E0 S G (x_gradeFrom X z) ["java/lang/IndexOutOfBoundsException"] (some (.int (iN (v_gradeFrom X z)))) (X)) := by
  refine Ct.of cal_X5_gradeFrom hfl (Nat.le_of_ble_eq_true rfl) ?_
  intro p e s m args below meth c D sz C ME
  have hR : RCF E0 S S G X := ⟨hC, cF.rf⟩
  have w6 := hC.w6
  unfold wf6 at w6
  refine j_aload_n C dX5_gradeFrom_0 rfl ?_
  refine j_iload_n C dX5_gradeFrom_1 rfl ?_
  refine j_callV C (n_shot l hfl hR.1 (by unfold rg at *; omega)) cal_X5_shotNumbered vi_X5_shotNumbered ml_Sp_92 (hR.1.k6) ⟨by decide, by decide, rfl⟩ rfl rfl (Nat.le_of_ble_eq_true rfl) ⟨by decide, by decide⟩ ⟨(by first | omega | (dsimp only; omega) | exact Nat.le_of_ble_eq_true rfl), (by first | omega | (dsimp only; omega) | exact Nat.le_of_ble_eq_true rfl)⟩ dX5_gradeFrom_2 (fun E S9 h => ?_) (fun v9 S9 h => ?_)
  · obtain ⟨h9, h | h⟩ := h
    · exact nomatch h.2
    · obtain ⟨c2, h⟩ := h
      have h9 := h9.symm
      subst h9
      cases h
      refine j_out C ME ?_ (by omega) (by omega)
      exact Or.inr ⟨0, _, rfl, (by clear hR hC ME C; (try clear key); (try clear ih); unfold x_gradeFrom; (repeat' split) <;> first | rfl | omega | (simp_all; done) | (simp_all; omega)), rfl, rfl⟩
  obtain ⟨h9, h | h⟩ := h
  rotate_left
  · exact nomatch h.2
  obtain ⟨c2, h⟩ := h
  have h9 := h9.symm
  subst h9
  cases h
  refine j_astore_n C dX5_gradeFrom_5 (by decide) ?_
  refine j_aload_n C dX5_gradeFrom_6 rfl ?_
  refine jg_4_8 C hR (by omega) fl_Sp_236 dX5_gradeFrom_7 (fun w7 => ?_)
  refine j_iconst C dX5_gradeFrom_10 ?_
  refine j_icmp_eq (tgt := 19) C dX5_gradeFrom_11 (by decide) (by unfold rg at *; omega) (by unfold rg at *; omega) (fun c11 => ?_) (fun c11 => ?_)
  · refine j_aload_n C dX5_gradeFrom_19 rfl ?_
    refine jn_4_9 C hR (by omega) fl_Sp_244 dX5_gradeFrom_20 (fun z20 => ?_) (fun z20 => ?_)
    · refine j_astore_nN C dX5_gradeFrom_23 (by decide) ?_
      refine j_aload_nN C dX5_gradeFrom_24 rfl ?_
      refine j_ifnonnullN C dX5_gradeFrom_25 ?_
      refine j_iconst C dX5_gradeFrom_28 ?_
      refine j_goto (tgt := 36) C dX5_gradeFrom_29 (by decide) ?_
      refine j_iret C ME ?_ (by first | omega | exact Nat.le_of_ble_eq_true rfl) (by first | omega | exact Nat.le_of_ble_eq_true rfl) dX5_gradeFrom_36
      refine Or.inl ⟨?_, ?_, G, rfl, hR⟩
      · exact (by clear hR hC ME C; (try clear key); (try clear ih); unfold x_gradeFrom; (repeat' split) <;> first | rfl | omega | (simp_all; done) | (simp_all; omega))
      · unfold v_gradeFrom
        first
        | (rw [if_pos c11]; exact rI (by omega))
        | (rw [if_pos c11]; done)
        | (rw [if_neg c11]; done)
    · refine j_astore_n C dX5_gradeFrom_23 (by decide) ?_
      refine j_aload_n C dX5_gradeFrom_24 rfl ?_
      refine j_ifnonnull (tgt := 32) C dX5_gradeFrom_25 (by decide) ?_
      refine j_aload_n C dX5_gradeFrom_32 rfl ?_
      refine jg_4_1 C hR (by omega) fl_Sp_74 dX5_gradeFrom_33 ?_
      refine j_iret C ME ?_ (by first | omega | exact Nat.le_of_ble_eq_true rfl) (by first | omega | exact Nat.le_of_ble_eq_true rfl) dX5_gradeFrom_36
      refine Or.inl ⟨?_, ?_, G, rfl, hR⟩
      · exact (by clear hR hC ME C; (try clear key); (try clear ih); unfold x_gradeFrom; (repeat' split) <;> first | rfl | omega | (simp_all; done) | (simp_all; omega))
      · unfold v_gradeFrom
        first
        | (rw [if_pos c11]; exact rI (by omega))
        | (rw [if_pos c11]; done)
        | (rw [if_neg c11]; done)
  · refine j_aload_n C dX5_gradeFrom_14 rfl ?_
    refine jg_4_1 C hR (by omega) fl_Sp_74 dX5_gradeFrom_15 ?_
    refine j_iret C ME ?_ (by first | omega | exact Nat.le_of_ble_eq_true rfl) (by first | omega | exact Nat.le_of_ble_eq_true rfl) dX5_gradeFrom_18
    refine Or.inl ⟨?_, ?_, G, rfl, hR⟩
    · exact (by clear hR hC ME C; (try clear key); (try clear ih); unfold x_gradeFrom; (repeat' split) <;> first | rfl | omega | (simp_all; done) | (simp_all; omega))
    · unfold v_gradeFrom
      first
      | (rw [if_pos c11]; exact rI (by omega))
      | (rw [if_pos c11]; done)
      | (rw [if_neg c11]; done)

set_option maxHeartbeats 4000000 in
set_option maxRecDepth 100000 in
theorem p_shotOf (l : Launch) (hfl : l.stackTraces = false) {S : wS} {E0 : Nat} {G : wG} {X : wM} (hC : RC E0 S G X) {f z : Int} (h_f : rg f)  (h_z : rg z)  : Ct l yX5_shotOf cX5_shotOf 4 (some FieldType.int) 20 100 6000 [.ref (G 6 0), .int (iN f), .int (iN z)] S (pubP E0 S G (x_shotOf X f z) ["java/lang/IndexOutOfBoundsException"] (some (.int (iN (v_shotOf X f z)))) (X)) := by
  refine Ct.of cal_X5_shotOf hfl (Nat.le_of_ble_eq_true rfl) ?_
  intro p e s m args below meth c D sz C ME
  have hR : RCF E0 S S G X := ⟨hC, cF.rf⟩
  have w6 := hC.w6
  unfold wf6 at w6
  refine j_aload_n C dX5_shotOf_0 rfl ?_
  refine j_iload_n C dX5_shotOf_1 rfl ?_
  refine j_callV C (n_film l hfl hR.1 (by unfold rg at *; omega)) cal_X5_filmNumbered vi_X5_filmNumbered ml_Sp_57 (hR.1.k6) ⟨by decide, by decide, rfl⟩ rfl rfl (Nat.le_of_ble_eq_true rfl) ⟨by decide, by decide⟩ ⟨(by first | omega | (dsimp only; omega) | exact Nat.le_of_ble_eq_true rfl), (by first | omega | (dsimp only; omega) | exact Nat.le_of_ble_eq_true rfl)⟩ dX5_shotOf_2 (fun E S9 h => ?_) (fun v9 S9 h => ?_)
  · obtain ⟨h9, h | h⟩ := h
    · exact nomatch h.2
    · obtain ⟨c2, h⟩ := h
      have h9 := h9.symm
      subst h9
      cases h
      refine j_out C ME ?_ (by omega) (by omega)
      exact Or.inr ⟨0, _, rfl, (by clear hR hC ME C; (try clear key); (try clear ih); unfold x_shotOf; (repeat' split) <;> first | rfl | omega | (simp_all; done) | (simp_all; omega)), rfl, rfl⟩
  obtain ⟨h9, h | h⟩ := h
  rotate_left
  · exact nomatch h.2
  obtain ⟨c2, h⟩ := h
  have h9 := h9.symm
  subst h9
  cases h
  have wf := hC.w1 c2
  unfold wf1 at wf
  refine j_astore_n C dX5_shotOf_5 (by decide) ?_
  refine j_iload_n C dX5_shotOf_6 rfl ?_
  refine j_if_lt (tgt := 21) C dX5_shotOf_7 (by decide) (by unfold rg at *; omega) (fun c7 => ?_) (fun c7 => ?_)
  · refine j_throwS (text := "no such place") C ME thr_IOB cl_Sp_128 ini_IOB (by decide +kernel) ?_ dX5_shotOf_21 dX5_shotOf_24 dX5_shotOf_25 dX5_shotOf_27 dX5_shotOf_30 ⟨by decide, (Nat.le_of_ble_eq_true rfl), (by first | omega | (dsimp only; omega) | exact Nat.le_of_ble_eq_true rfl), (by first | omega | (dsimp only; omega) | exact Nat.le_of_ble_eq_true rfl)⟩ (by omega) (by omega)
    exact Or.inr ⟨0, _, rfl, (by clear hR hC ME C; (try clear key); (try clear ih); unfold x_shotOf; (repeat' split) <;> first | rfl | omega | (simp_all; done) | (simp_all; omega)), rfl, rfl⟩
  · refine j_iload_n C dX5_shotOf_10 rfl ?_
    refine j_aload_n C dX5_shotOf_11 rfl ?_
    refine jg_1_0 C hR (by omega) fl_Sp_71 dX5_shotOf_12 ?_
    refine j_callV C (z_row l hfl hR.1 (by omega)) cal_Jx4a65c_size_8abf5 vi_Jx4a65c_size_8abf5 ml_Sp_39 (hR.1.q_row (by omega)) ⟨by decide, by decide, rfl⟩ rfl rfl (Nat.le_of_ble_eq_true rfl) ⟨by decide, by decide⟩ ⟨(by first | omega | (dsimp only; omega) | exact Nat.le_of_ble_eq_true rfl), (by first | omega | (dsimp only; omega) | exact Nat.le_of_ble_eq_true rfl)⟩ dX5_shotOf_15 (fun E S9 h => nomatch h.1) (fun v9 S9 h => ?_)
    obtain ⟨h, h9⟩ := h
    have h9 := h9.symm
    subst h9
    cases h
    refine j_icmp_lt (tgt := 31) C dX5_shotOf_18 (by decide) (by unfold rg at *; omega) (by unfold rg at *; omega) (fun c18 => ?_) (fun c18 => ?_)
    · refine j_aload_n C dX5_shotOf_31 rfl ?_
      refine jg_1_0 C hR (by omega) fl_Sp_71 dX5_shotOf_32 ?_
      refine j_iload_n C dX5_shotOf_35 rfl ?_
      refine j_callV C (g_row l hfl hR.1 (by omega) (by omega)) cal_Jx4a65c_get_915e3 vi_Jx4a65c_get_915e3 ml_Sp_146 (hR.1.q_row (by omega)) ⟨by decide, by decide, rfl⟩ rfl rfl (Nat.le_of_ble_eq_true rfl) ⟨by decide, by decide⟩ ⟨(by first | omega | (dsimp only; omega) | exact Nat.le_of_ble_eq_true rfl), (by first | omega | (dsimp only; omega) | exact Nat.le_of_ble_eq_true rfl)⟩ dX5_shotOf_36 (fun E S9 h => nomatch h.1) (fun v9 S9 h => ?_)
      obtain ⟨h, h9, w36⟩ := h
      have h9 := h9.symm
      subst h9
      cases h
      refine j_cast (kd := 4) C (hR.1.k4 (by omega)) ⟨by decide, by decide⟩ cl_Sp_75 dX5_shotOf_39 ?_
      refine jg_4_1 C hR (by omega) fl_Sp_74 dX5_shotOf_42 ?_
      refine j_iret C ME ?_ (by first | omega | exact Nat.le_of_ble_eq_true rfl) (by first | omega | exact Nat.le_of_ble_eq_true rfl) dX5_shotOf_45
      refine Or.inl ⟨?_, ?_, G, rfl, hR⟩
      · exact (by clear hR hC ME C; (try clear key); (try clear ih); unfold x_shotOf; (repeat' split) <;> first | rfl | omega | (simp_all; done) | (simp_all; omega))
      · first | rfl | exact rI (by first | rfl | omega | (simp_all; done) | (simp_all; omega))
    · refine j_throwS (text := "no such place") C ME thr_IOB cl_Sp_128 ini_IOB (by decide +kernel) ?_ dX5_shotOf_21 dX5_shotOf_24 dX5_shotOf_25 dX5_shotOf_27 dX5_shotOf_30 ⟨by decide, (Nat.le_of_ble_eq_true rfl), (by first | omega | (dsimp only; omega) | exact Nat.le_of_ble_eq_true rfl), (by first | omega | (dsimp only; omega) | exact Nat.le_of_ble_eq_true rfl)⟩ (by omega) (by omega)
      exact Or.inr ⟨0, _, rfl, (by clear hR hC ME C; (try clear key); (try clear ih); unfold x_shotOf; (repeat' split) <;> first | rfl | omega | (simp_all; done) | (simp_all; omega)), rfl, rfl⟩

set_option maxHeartbeats 4000000 in
set_option maxRecDepth 100000 in
theorem p_frames (l : Launch) (hfl : l.stackTraces = false) {S : wS} {E0 : Nat} {G : wG} {X : wM} (hC : RC E0 S G X) {z : Int} (h_z : rg z)  : Ct l yX5_frames cX5_frames 2 (some FieldType.int) 20 100 6000 [.ref (G 6 0), .int (iN z)] S (pubP E0 S G (cx_frames X z) ["java/lang/IndexOutOfBoundsException"] (some (.int (iN (lenSX X z (X 19 z) (X 3 (X 19 z)).toNat)))) (X)) := by
  refine Ct.of cal_X5_frames hfl (Nat.le_of_ble_eq_true rfl) ?_
  intro p e s m args below meth c D sz C ME
  have hR : RCF E0 S S G X := ⟨hC, cF.rf⟩
  have w6 := hC.w6
  unfold wf6 at w6
  refine j_aload_n C dX5_frames_0 rfl ?_
  refine j_iload_n C dX5_frames_1 rfl ?_
  refine j_callV C (n_version l hfl hR.1 (by unfold rg at *; omega)) cal_X5_versionNumbered vi_X5_versionNumbered ml_Sp_269 (hR.1.k6) ⟨by decide, by decide, rfl⟩ rfl rfl (Nat.le_of_ble_eq_true rfl) ⟨by decide, by decide⟩ ⟨(by first | omega | (dsimp only; omega) | exact Nat.le_of_ble_eq_true rfl), (by first | omega | (dsimp only; omega) | exact Nat.le_of_ble_eq_true rfl)⟩ dX5_frames_2 (fun E S9 h => ?_) (fun v9 S9 h => ?_)
  · obtain ⟨h9, h | h⟩ := h
    · exact nomatch h.2
    · obtain ⟨c2, h⟩ := h
      have h9 := h9.symm
      subst h9
      cases h
      refine j_out C ME ?_ (by omega) (by omega)
      exact Or.inr ⟨0, _, rfl, (by clear hR hC ME C; (try clear key); (try clear ih); unfold cx_frames; (repeat' split) <;> first | rfl | omega | (simp_all; done) | (simp_all; omega)), rfl, rfl⟩
  obtain ⟨h9, h | h⟩ := h
  rotate_left
  · exact nomatch h.2
  obtain ⟨c2, h⟩ := h
  have h9 := h9.symm
  subst h9
  cases h
  refine j_callV C (v_lenS l hfl hR.1 (by omega)) cal_X4_lengthByShots vi_X4_lengthByShots ml_Sp_292 (hR.1.k5 (by omega)) ⟨by decide, by decide, rfl⟩ rfl rfl (Nat.le_of_ble_eq_true rfl) ⟨by decide, by decide⟩ ⟨(by first | omega | (dsimp only; omega) | exact Nat.le_of_ble_eq_true rfl), (by first | omega | (dsimp only; omega) | exact Nat.le_of_ble_eq_true rfl)⟩ dX5_frames_5 (fun E S9 h => nomatch h.1) (fun v9 S9 h => ?_)
  obtain ⟨h, h9⟩ := h
  have h9 := h9.symm
  subst h9
  cases h
  refine j_iret C ME ?_ (by first | omega | exact Nat.le_of_ble_eq_true rfl) (by first | omega | exact Nat.le_of_ble_eq_true rfl) dX5_frames_8
  refine Or.inl ⟨?_, ?_, G, rfl, hR⟩
  · exact (by clear hR hC ME C; (try clear key); (try clear ih); unfold cx_frames; (repeat' split) <;> first | rfl | omega | (simp_all; done) | (simp_all; omega))
  · first | rfl | exact rI (by first | rfl | omega | (simp_all; done) | (simp_all; omega))

set_option maxHeartbeats 4000000 in
set_option maxRecDepth 100000 in
theorem p_wear (l : Launch) (hfl : l.stackTraces = false) {S : wS} {E0 : Nat} {G : wG} {X : wM} (hC : RC E0 S G X) {r z : Int} (h_r : rg r)  (h_z : rg z)  : Ct l yX5_wear cX5_wear 3 (some FieldType.int) 20 100 6000 [.ref (G 6 0), .int (iN r), .int (iN z)] S (pubP E0 S G (cx_wear X r z) ["java/lang/IndexOutOfBoundsException"] (some (.int (iN (X 31 (X 14 (60 * r + z)))))) (X)) := by
  refine Ct.of cal_X5_wear hfl (Nat.le_of_ble_eq_true rfl) ?_
  intro p e s m args below meth c D sz C ME
  have hR : RCF E0 S S G X := ⟨hC, cF.rf⟩
  have w6 := hC.w6
  unfold wf6 at w6
  refine j_aload_n C dX5_wear_0 rfl ?_
  refine j_aload_n C dX5_wear_1 rfl ?_
  refine j_iload_n C dX5_wear_2 rfl ?_
  refine j_callV C (n_reel l hfl hR.1 (by unfold rg at *; omega)) cal_X5_reelNumbered vi_X5_reelNumbered ml_Sp_88 (hR.1.k6) ⟨by decide, by decide, rfl⟩ rfl rfl (Nat.le_of_ble_eq_true rfl) ⟨by decide, by decide⟩ ⟨(by first | omega | (dsimp only; omega) | exact Nat.le_of_ble_eq_true rfl), (by first | omega | (dsimp only; omega) | exact Nat.le_of_ble_eq_true rfl)⟩ dX5_wear_3 (fun E S9 h => ?_) (fun v9 S9 h => ?_)
  · obtain ⟨h9, h | h⟩ := h
    · exact nomatch h.2
    · obtain ⟨c3, h⟩ := h
      have h9 := h9.symm
      subst h9
      cases h
      refine j_out C ME ?_ (by omega) (by omega)
      exact Or.inr ⟨0, _, rfl, (by clear hR hC ME C; (try clear key); (try clear ih); unfold cx_wear; (repeat' split) <;> first | rfl | omega | (simp_all; done) | (simp_all; omega)), rfl, rfl⟩
  obtain ⟨h9, h | h⟩ := h
  rotate_left
  · exact nomatch h.2
  obtain ⟨c3, h⟩ := h
  have h9 := h9.symm
  subst h9
  cases h
  refine j_iload_n C dX5_wear_6 rfl ?_
  refine j_callV C (n_splice l hfl hR.1 (by omega) (by unfold rg at *; omega)) cal_X5_shotAheadOfSplice vi_X5_shotAheadOfSplice ml_Sp_202 (hR.1.k6) ⟨by decide, by decide, rfl⟩ rfl rfl (Nat.le_of_ble_eq_true rfl) ⟨by decide, by decide⟩ ⟨(by first | omega | (dsimp only; omega) | exact Nat.le_of_ble_eq_true rfl), (by first | omega | (dsimp only; omega) | exact Nat.le_of_ble_eq_true rfl)⟩ dX5_wear_7 (fun E S9 h => ?_) (fun v9 S9 h => ?_)
  · obtain ⟨h9, h | h⟩ := h
    · exact nomatch h.2
    · obtain ⟨c7, h⟩ := h
      have h9 := h9.symm
      subst h9
      cases h
      refine j_out C ME ?_ (by omega) (by omega)
      exact Or.inr ⟨0, _, rfl, (by clear hR hC ME C; (try clear key); (try clear ih); unfold cx_wear; (repeat' split) <;> first | rfl | omega | (simp_all; done) | (simp_all; omega)), rfl, rfl⟩
  obtain ⟨h9, h | h⟩ := h
  rotate_left
  · exact nomatch h.2
  obtain ⟨c7, h⟩ := h
  have h9 := h9.symm
  subst h9
  cases h
  have wf := hC.w3 (i9 := r) (by omega)
  unfold wf3 at wf
  have hs9 := wf.2.2 z (by omega) (by omega)
  refine jg_4_5 C hR (by omega) fl_Sp_206 dX5_wear_10 (fun w10 => ?_)
  refine j_iret C ME ?_ (by first | omega | exact Nat.le_of_ble_eq_true rfl) (by first | omega | exact Nat.le_of_ble_eq_true rfl) dX5_wear_13
  refine Or.inl ⟨?_, ?_, G, rfl, hR⟩
  · exact (by clear hR hC ME C; (try clear key); (try clear ih); unfold cx_wear; (repeat' split) <;> first | rfl | omega | (simp_all; done) | (simp_all; omega))
  · first | rfl | exact rI (by first | rfl | omega | (simp_all; done) | (simp_all; omega))

set_option maxHeartbeats 4000000 in
set_option maxRecDepth 100000 in
theorem p_setLimit (l : Launch) (hfl : l.stackTraces = false) {S : wS} {E0 : Nat} {G : wG} {X : wM} (hC : RC E0 S G X) {a : Int} (h_a : rg a)  : Ct l yX5_setLimit cX5_setLimit 3 (some FieldType.int) 20 100 6000 [.ref (G 6 0), .int (iN a)] S (pubP E0 S G (cx_setLimit X a) ["java/lang/IllegalArgumentException", "java/lang/UnsupportedOperationException"] (some (.int (iN (X 18 0)))) (mup X 18 0 a)) := by
  refine Ct.of cal_X5_setLimit hfl (Nat.le_of_ble_eq_true rfl) ?_
  intro p e s m args below meth c D sz C ME
  have hR : RCF E0 S S G X := ⟨hC, cF.rf⟩
  have w6 := hC.w6
  unfold wf6 at w6
  refine j_iload_n C dX5_setLimit_0 rfl ?_
  refine j_iconst C dX5_setLimit_1 ?_
  refine j_icmp_lt (tgt := 11) C dX5_setLimit_2 (by decide) (by unfold rg at *; omega) (by unfold rg at *; omega) (fun c2 => ?_) (fun c2 => ?_)
  · refine j_throwS (text := "no such limit") C ME thr_IAE cl_Sp_101 ini_IAE (by decide +kernel) ?_ dX5_setLimit_11 dX5_setLimit_14 dX5_setLimit_15 dX5_setLimit_17 dX5_setLimit_20 ⟨by decide, (Nat.le_of_ble_eq_true rfl), (by first | omega | (dsimp only; omega) | exact Nat.le_of_ble_eq_true rfl), (by first | omega | (dsimp only; omega) | exact Nat.le_of_ble_eq_true rfl)⟩ (by omega) (by omega)
    exact Or.inr ⟨0, _, rfl, (by clear hR hC ME C; (try clear key); (try clear ih); unfold cx_setLimit; (repeat' split) <;> first | rfl | omega | (simp_all; done) | (simp_all; omega)), rfl, rfl⟩
  · refine j_iload_n C dX5_setLimit_5 rfl ?_
    refine j_bipush C dX5_setLimit_6 (by decide) ?_
    refine j_icmp_le (tgt := 21) C dX5_setLimit_8 (by decide) (by unfold rg at *; omega) (by unfold rg at *; omega) (fun c8 => ?_) (fun c8 => ?_)
    · refine j_aload_n C dX5_setLimit_21 rfl ?_
      refine j_iload_n C dX5_setLimit_22 rfl ?_
      refine j_callV C (k_within l hfl hR.1 (by omega)) cal_X5_isWearWithin vi_X5_isWearWithin ml_Sp_180 (hR.1.k6) ⟨by decide, by decide, rfl⟩ rfl rfl (Nat.le_of_ble_eq_true rfl) ⟨by decide, by decide⟩ ⟨(by first | omega | (dsimp only; omega) | exact Nat.le_of_ble_eq_true rfl), (by first | omega | (dsimp only; omega) | exact Nat.le_of_ble_eq_true rfl)⟩ dX5_setLimit_23 (fun E S9 h => nomatch h.1) (fun v9 S9 h => ?_)
      obtain ⟨h, h9⟩ := h
      have h9 := h9.symm
      subst h9
      cases h
      refine j_ifeq_b (tgt := 44) C dX5_setLimit_26 (by decide) (fun c26 => ?_) (fun c26 => ?_)
      · refine j_throwS (text := "a splice has more, or a film is lent") C ME thr_UOE cl_Sp_114 ini_UOE (by decide +kernel) ?_ dX5_setLimit_44 dX5_setLimit_47 dX5_setLimit_48 dX5_setLimit_50 dX5_setLimit_53 ⟨by decide, (Nat.le_of_ble_eq_true rfl), (by first | omega | (dsimp only; omega) | exact Nat.le_of_ble_eq_true rfl), (by first | omega | (dsimp only; omega) | exact Nat.le_of_ble_eq_true rfl)⟩ (by omega) (by omega)
        exact Or.inr ⟨1, _, rfl, (by clear hR hC ME C; (try clear key); (try clear ih); unfold cx_setLimit; (repeat' split) <;> first | rfl | omega | (simp_all; done) | (simp_all; omega)), rfl, rfl⟩
      · refine j_iload_n C dX5_setLimit_29 rfl ?_
        refine j_aload_n C dX5_setLimit_30 rfl ?_
        refine jg_6_5 C hR fl_Sp_28 dX5_setLimit_31 (fun w31 => ?_)
        refine j_icmp_ge (tgt := 54) C dX5_setLimit_34 (by decide) (by unfold rg at *; omega) (by unfold rg at *; omega) (fun c34 => ?_) (fun c34 => ?_)
        · refine j_aload_n C dX5_setLimit_54 rfl ?_
          refine jg_6_5 C hR fl_Sp_28 dX5_setLimit_55 (fun w55 => ?_)
          refine j_istore_n C dX5_setLimit_58 (by decide) ?_
          refine j_aload_n C dX5_setLimit_59 rfl ?_
          refine j_iload_n C dX5_setLimit_60 rfl ?_
          refine jp_6_5 C hR (by omega) fl_Sp_28 dX5_setLimit_61 (fun S2 hR => ?_)
          refine j_iload_n C dX5_setLimit_64 rfl ?_
          refine j_iret C ME ?_ (by first | omega | exact Nat.le_of_ble_eq_true rfl) (by first | omega | exact Nat.le_of_ble_eq_true rfl) dX5_setLimit_65
          refine Or.inl ⟨?_, ?_, G, rfl, hR⟩
          · exact (by clear hR hC ME C; (try clear key); (try clear ih); unfold cx_setLimit; (repeat' split) <;> first | rfl | omega | (simp_all; done) | (simp_all; omega))
          · first | rfl | exact rI (by first | rfl | omega | (simp_all; done) | (simp_all; omega))
        · refine j_aload_n C dX5_setLimit_37 rfl ?_
          refine j_callV C (k_anylent l hfl hR.1) cal_X5_isAnyFilmLent vi_X5_isAnyFilmLent ml_Sp_184 (hR.1.k6) ⟨by decide, by decide, rfl⟩ rfl rfl (Nat.le_of_ble_eq_true rfl) ⟨by decide, by decide⟩ ⟨(by first | omega | (dsimp only; omega) | exact Nat.le_of_ble_eq_true rfl), (by first | omega | (dsimp only; omega) | exact Nat.le_of_ble_eq_true rfl)⟩ dX5_setLimit_38 (fun E S9 h => nomatch h.1) (fun v9 S9 h => ?_)
          obtain ⟨h, h9⟩ := h
          have h9 := h9.symm
          subst h9
          cases h
          refine j_ifeq_b (tgt := 54) C dX5_setLimit_41 (by decide) (fun c41 => ?_) (fun c41 => ?_)
          · refine j_aload_n C dX5_setLimit_54 rfl ?_
            refine jg_6_5 C hR fl_Sp_28 dX5_setLimit_55 (fun w55 => ?_)
            refine j_istore_n C dX5_setLimit_58 (by decide) ?_
            refine j_aload_n C dX5_setLimit_59 rfl ?_
            refine j_iload_n C dX5_setLimit_60 rfl ?_
            refine jp_6_5 C hR (by omega) fl_Sp_28 dX5_setLimit_61 (fun S2 hR => ?_)
            refine j_iload_n C dX5_setLimit_64 rfl ?_
            refine j_iret C ME ?_ (by first | omega | exact Nat.le_of_ble_eq_true rfl) (by first | omega | exact Nat.le_of_ble_eq_true rfl) dX5_setLimit_65
            refine Or.inl ⟨?_, ?_, G, rfl, hR⟩
            · exact (by clear hR hC ME C; (try clear key); (try clear ih); unfold cx_setLimit; (repeat' split) <;> first | rfl | omega | (simp_all; done) | (simp_all; omega))
            · first | rfl | exact rI (by first | rfl | omega | (simp_all; done) | (simp_all; omega))
          · refine j_throwS (text := "a splice has more, or a film is lent") C ME thr_UOE cl_Sp_114 ini_UOE (by decide +kernel) ?_ dX5_setLimit_44 dX5_setLimit_47 dX5_setLimit_48 dX5_setLimit_50 dX5_setLimit_53 ⟨by decide, (Nat.le_of_ble_eq_true rfl), (by first | omega | (dsimp only; omega) | exact Nat.le_of_ble_eq_true rfl), (by first | omega | (dsimp only; omega) | exact Nat.le_of_ble_eq_true rfl)⟩ (by omega) (by omega)
            exact Or.inr ⟨1, _, rfl, (by clear hR hC ME C; (try clear key); (try clear ih); unfold cx_setLimit; (repeat' split) <;> first | rfl | omega | (simp_all; done) | (simp_all; omega)), rfl, rfl⟩
    · refine j_throwS (text := "no such limit") C ME thr_IAE cl_Sp_101 ini_IAE (by decide +kernel) ?_ dX5_setLimit_11 dX5_setLimit_14 dX5_setLimit_15 dX5_setLimit_17 dX5_setLimit_20 ⟨by decide, (Nat.le_of_ble_eq_true rfl), (by first | omega | (dsimp only; omega) | exact Nat.le_of_ble_eq_true rfl), (by first | omega | (dsimp only; omega) | exact Nat.le_of_ble_eq_true rfl)⟩ (by omega) (by omega)
      exact Or.inr ⟨0, _, rfl, (by clear hR hC ME C; (try clear key); (try clear ih); unfold cx_setLimit; (repeat' split) <;> first | rfl | omega | (simp_all; done) | (simp_all; omega)), rfl, rfl⟩

set_option maxHeartbeats 4000000 in
set_option maxRecDepth 100000 in
theorem p_run (l : Launch) (hfl : l.stackTraces = false) {S : wS} {E0 : Nat} {G : wG} {X : wM} (hC : RC E0 S G X) {r : Int} (h_r : rg r) (ha : ∀ r, 0 ≤ r → r < X 17 0 → awOK X r 1) : Ct l yX5_run cX5_run 3 (some FieldType.int) 20 100 6000 [.ref (G 6 0), .int (iN r)] S (pubP E0 S G (cx_run X r) ["java/lang/IndexOutOfBoundsException", "java/lang/UnsupportedOperationException"] (some (.int (iN (greatX (plX X r 1) r (X 16 r - 1).toNat)))) (plX X r 1)) := by
  refine Ct.of cal_X5_run hfl (Nat.le_of_ble_eq_true rfl) ?_
  intro p e s m args below meth c D sz C ME
  have hR : RCF E0 S S G X := ⟨hC, cF.rf⟩
  have w6 := hC.w6
  unfold wf6 at w6
  refine j_aload_n C dX5_run_0 rfl ?_
  refine j_iload_n C dX5_run_1 rfl ?_
  refine j_callV C (n_reel l hfl hR.1 (by unfold rg at *; omega)) cal_X5_reelNumbered vi_X5_reelNumbered ml_Sp_88 (hR.1.k6) ⟨by decide, by decide, rfl⟩ rfl rfl (Nat.le_of_ble_eq_true rfl) ⟨by decide, by decide⟩ ⟨(by first | omega | (dsimp only; omega) | exact Nat.le_of_ble_eq_true rfl), (by first | omega | (dsimp only; omega) | exact Nat.le_of_ble_eq_true rfl)⟩ dX5_run_2 (fun E S9 h => ?_) (fun v9 S9 h => ?_)
  · obtain ⟨h9, h | h⟩ := h
    · exact nomatch h.2
    · obtain ⟨c2, h⟩ := h
      have h9 := h9.symm
      subst h9
      cases h
      refine j_out C ME ?_ (by omega) (by omega)
      exact Or.inr ⟨0, _, rfl, (by clear hR hC ME C; (try clear key); (try clear ih); unfold cx_run; (repeat' split) <;> first | rfl | omega | (simp_all; done) | (simp_all; omega)), rfl, rfl⟩
  obtain ⟨h9, h | h⟩ := h
  rotate_left
  · exact nomatch h.2
  obtain ⟨c2, h⟩ := h
  have h9 := h9.symm
  subst h9
  cases h
  refine j_astore_n C dX5_run_5 (by decide) ?_
  refine j_aload_n C dX5_run_6 rfl ?_
  refine j_iconst C dX5_run_7 ?_
  refine j_aload_n C dX5_run_8 rfl ?_
  refine jg_6_5 C hR fl_Sp_28 dX5_run_9 (fun w9 => ?_)
  refine j_callV C (k_take l hfl hR.1 (by omega) (by omega) (by omega)) cal_X2_canTake vi_X2_canTake ml_Sp_189 (hR.1.k3 (by omega)) ⟨by decide, by decide, rfl⟩ rfl rfl (Nat.le_of_ble_eq_true rfl) ⟨by decide, by decide⟩ ⟨(by first | omega | (dsimp only; omega) | exact Nat.le_of_ble_eq_true rfl), (by first | omega | (dsimp only; omega) | exact Nat.le_of_ble_eq_true rfl)⟩ dX5_run_12 (fun E S9 h => nomatch h.1) (fun v9 S9 h => ?_)
  obtain ⟨h, h9⟩ := h
  have h9 := h9.symm
  subst h9
  cases h
  refine j_ifne_b (tgt := 28) C dX5_run_15 (by decide) (fun c15 => ?_) (fun c15 => ?_)
  · refine j_aload_n C dX5_run_28 rfl ?_
    refine j_aload_n C dX5_run_29 rfl ?_
    refine jg_3_0 C hR (by omega) fl_Sp_96 dX5_run_30 (fun w30 => ?_)
    refine j_callV C (n_lent l hfl hR.1 (by omega)) cal_X5_requireNotLent vi_X5_requireNotLent ml_Sp_119 (hR.1.k6) ⟨by decide, by decide, rfl⟩ rfl rfl (Nat.le_of_ble_eq_true rfl) ⟨by decide, by decide⟩ ⟨(by first | omega | (dsimp only; omega) | exact Nat.le_of_ble_eq_true rfl), (by first | omega | (dsimp only; omega) | exact Nat.le_of_ble_eq_true rfl)⟩ dX5_run_33 (fun E S9 h => ?_) (fun v9 S9 h => ?_)
    · obtain ⟨h9, h | h⟩ := h
      · exact nomatch h.2
      · obtain ⟨c33, h⟩ := h
        have h9 := h9.symm
        subst h9
        cases h
        refine j_out C ME ?_ (by omega) (by omega)
        exact Or.inr ⟨1, _, rfl, (by clear hR hC ME C; (try clear key); (try clear ih); unfold cx_run; (repeat' split) <;> first | rfl | omega | (simp_all; done) | (simp_all; omega)), rfl, rfl⟩
    obtain ⟨h9, h | h⟩ := h
    rotate_left
    · exact nomatch h.2
    obtain ⟨c33, h⟩ := h
    have h9 := h9.symm
    subst h9
    cases h
    refine j_aload_n C dX5_run_36 rfl ?_
    refine j_aload_n C dX5_run_37 rfl ?_
    refine j_iconst C dX5_run_38 ?_
    refine j_callV C (u_play l hfl hR.1 (by omega) (ha _ (by omega) (by omega))) cal_X5_play vi_X5_play ml_Sp_195 (hR.1.k6) ⟨by decide, by decide, rfl⟩ rfl rfl (Nat.le_of_ble_eq_true rfl) ⟨by decide, by decide⟩ ⟨(by first | omega | (dsimp only; omega) | exact Nat.le_of_ble_eq_true rfl), (by first | omega | (dsimp only; omega) | exact Nat.le_of_ble_eq_true rfl)⟩ dX5_run_39 (fun E S9 h => nomatch h.1) (fun v9 S9 h => ?_)
    obtain ⟨h, hR2⟩ := h
    cases h
    have hR := hR.tr hR2
    clear hR2
    refine j_aload_n C dX5_run_42 rfl ?_
    refine j_callV C (k_great l hfl hR.1 (by rw [aw17]; omega)) cal_X2_greatestWear vi_X2_greatestWear ml_Sp_199 (hR.1.k3 (by rw [aw17]; omega)) ⟨by decide, by decide, rfl⟩ rfl rfl (Nat.le_of_ble_eq_true rfl) ⟨by decide, by decide⟩ ⟨(by first | omega | (dsimp only; omega) | exact Nat.le_of_ble_eq_true rfl), (by first | omega | (dsimp only; omega) | exact Nat.le_of_ble_eq_true rfl)⟩ dX5_run_43 (fun E S9 h => nomatch h.1) (fun v9 S9 h => ?_)
    obtain ⟨h, h9⟩ := h
    have h9 := h9.symm
    subst h9
    cases h
    refine j_iret C ME ?_ (by first | omega | exact Nat.le_of_ble_eq_true rfl) (by first | omega | exact Nat.le_of_ble_eq_true rfl) dX5_run_46
    refine Or.inl ⟨?_, ?_, G, rfl, hR⟩
    · exact (by clear hR hC ME C; (try clear key); (try clear ih); unfold cx_run; (repeat' split) <;> first | rfl | omega | (simp_all; done) | (simp_all; omega))
    · rw [aw16]
  · refine j_throwS (text := "a splice would be worn beyond the limit") C ME thr_UOE cl_Sp_114 ini_UOE (by decide +kernel) ?_ dX5_run_18 dX5_run_21 dX5_run_22 dX5_run_24 dX5_run_27 ⟨by decide, (Nat.le_of_ble_eq_true rfl), (by first | omega | (dsimp only; omega) | exact Nat.le_of_ble_eq_true rfl), (by first | omega | (dsimp only; omega) | exact Nat.le_of_ble_eq_true rfl)⟩ (by omega) (by omega)
    exact Or.inr ⟨1, _, rfl, (by clear hR hC ME C; (try clear key); (try clear ih); unfold cx_run; (repeat' split) <;> first | rfl | omega | (simp_all; done) | (simp_all; omega)), rfl, rfl⟩

set_option maxHeartbeats 4000000 in
set_option maxRecDepth 100000 in
theorem p_giveBack (l : Launch) (hfl : l.stackTraces = false) {S : wS} {E0 : Nat} {G : wG} {X : wM} (hC : RC E0 S G X) {z : Int} (h_z : rg z)  : Ct l yX5_giveBack cX5_giveBack 3 (some FieldType.int) 20 100 6000 [.ref (G 6 0), .int (iN z)] S (pubP E0 S G (x_giveBack X z) ["java/lang/IndexOutOfBoundsException", "java/lang/UnsupportedOperationException"] (some (.int (iN (v_giveBack X z)))) (mup (mup X 27 z 1) 32 (X 34 z) 0)) := by
  refine Ct.of cal_X5_giveBack hfl (Nat.le_of_ble_eq_true rfl) ?_
  intro p e s m args below meth c D sz C ME
  have hR : RCF E0 S S G X := ⟨hC, cF.rf⟩
  have w6 := hC.w6
  unfold wf6 at w6
  refine j_aload_n C dX5_giveBack_0 rfl ?_
  refine j_iload_n C dX5_giveBack_1 rfl ?_
  refine j_callV C (n_loan l hfl hR.1 (by unfold rg at *; omega)) cal_X5_loanNumbered vi_X5_loanNumbered ml_Sp_311 (hR.1.k6) ⟨by decide, by decide, rfl⟩ rfl rfl (Nat.le_of_ble_eq_true rfl) ⟨by decide, by decide⟩ ⟨(by first | omega | (dsimp only; omega) | exact Nat.le_of_ble_eq_true rfl), (by first | omega | (dsimp only; omega) | exact Nat.le_of_ble_eq_true rfl)⟩ dX5_giveBack_2 (fun E S9 h => ?_) (fun v9 S9 h => ?_)
  · obtain ⟨h9, h | h⟩ := h
    · exact nomatch h.2
    · obtain ⟨c2, h⟩ := h
      have h9 := h9.symm
      subst h9
      cases h
      refine j_out C ME ?_ (by omega) (by omega)
      exact Or.inr ⟨0, _, rfl, (by clear hR hC ME C; (try clear key); (try clear ih); unfold x_giveBack; (repeat' split) <;> first | rfl | omega | (simp_all; done) | (simp_all; omega)), rfl, rfl⟩
  obtain ⟨h9, h | h⟩ := h
  rotate_left
  · exact nomatch h.2
  obtain ⟨c2, h⟩ := h
  have h9 := h9.symm
  subst h9
  cases h
  refine j_astore_n C dX5_giveBack_5 (by decide) ?_
  refine j_aload_n C dX5_giveBack_6 rfl ?_
  refine jg_2_4 C hR (by omega) fl_Sp_315 dX5_giveBack_7 (fun w7 => ?_)
  refine j_if_eq (tgt := 24) C dX5_giveBack_10 (by decide) (by unfold rg at *; omega) (fun c10 => ?_) (fun c10 => ?_)
  · refine j_aload_n C dX5_giveBack_24 rfl ?_
    refine j_iconst C dX5_giveBack_25 ?_
    refine jp_2_4 C hR (by omega) (by omega) fl_Sp_315 dX5_giveBack_26 (fun S2 hR => ?_)
    refine j_aload_n C dX5_giveBack_29 rfl ?_
    refine jg_2_0 C hR (by show 0 ≤ z ∧ z < X 28 0; omega) fl_Sp_323 dX5_giveBack_30 (fun w30 => ?_)
    refine j_iconst C dX5_giveBack_33 ?_
    refine jp_1_1 C hR w30 (by omega) fl_Sp_307 dX5_giveBack_34 (fun S2 hR => ?_)
    refine j_aload_n C dX5_giveBack_37 rfl ?_
    refine jg_6_6 C hR fl_Sp_32 dX5_giveBack_38 (fun w38 => ?_)
    refine j_aload_n C dX5_giveBack_41 rfl ?_
    refine jg_2_2 C hR (by show 0 ≤ z ∧ z < X 28 0; omega) fl_Sp_329 dX5_giveBack_42 (fun w42 => ?_)
    refine j_isub C dX5_giveBack_45 ?_
    refine j_iconst C dX5_giveBack_46 ?_
    refine j_mmax C ml_Sp_279 (by show rg (X 29 0 - X 26 z); have w38 : 0 ≤ X 29 0 ∧ X 29 0 ≤ 60000 := w38; have w42 : 0 ≤ X 26 z ∧ X 26 z ≤ 60000 := w42; unfold rg; omega) (by unfold rg; omega) ⟨by decide, (Nat.le_of_ble_eq_true rfl), (by first | omega | exact Nat.le_of_ble_eq_true rfl), (by first | omega | exact Nat.le_of_ble_eq_true rfl)⟩ dX5_giveBack_47 ?_
    refine j_iret C ME ?_ (by first | omega | exact Nat.le_of_ble_eq_true rfl) (by first | omega | exact Nat.le_of_ble_eq_true rfl) dX5_giveBack_50
    refine Or.inl ⟨?_, ?_, G, rfl, hR⟩
    · exact (by clear hR hC ME C; (try clear key); (try clear ih); unfold x_giveBack; (repeat' split) <;> first | rfl | omega | (simp_all; done) | (simp_all; omega))
    · exact rI (by show max (X 29 0 - X 26 z) 0 = v_giveBack X z; unfold v_giveBack; split <;> omega)
  · refine j_throwSW (text := "given back before") C ME thr_UOE cl_Sp_114 ini_UOE (by decide +kernel) ?_ dX5_giveBack_13 dX5_giveBack_16 dX5_giveBack_17 dX5_giveBack_20 dX5_giveBack_23 ⟨by decide, (Nat.le_of_ble_eq_true rfl), (by first | omega | (dsimp only; omega) | exact Nat.le_of_ble_eq_true rfl), (by first | omega | (dsimp only; omega) | exact Nat.le_of_ble_eq_true rfl)⟩ (by omega) (by omega)
    exact Or.inr ⟨1, _, rfl, (by clear hR hC ME C; (try clear key); (try clear ih); unfold x_giveBack; (repeat' split) <;> first | rfl | omega | (simp_all; done) | (simp_all; omega)), rfl, rfl⟩

set_option maxHeartbeats 4000000 in
set_option maxRecDepth 100000 in
theorem p_advance (l : Launch) (hfl : l.stackTraces = false) {S : wS} {E0 : Nat} {G : wG} {X : wM} (hC : RC E0 S G X) {a : Int} (h_a : rg a) (hd : X 29 0 + 99 ≤ 60000) : Ct l yX5_advance cX5_advance 5 (some FieldType.int) 20 100 6000 [.ref (G 6 0), .int (iN a)] S (pubP E0 S G (x_advance X a) ["java/lang/IllegalArgumentException"] (some (.int (iN (v_advance X a)))) (mup X 29 0 (X 29 0 + a))) := by
  refine Ct.of cal_X5_advance hfl (Nat.le_of_ble_eq_true rfl) ?_
  intro p e s m args below meth c D sz C ME
  have hR : RCF E0 S S G X := ⟨hC, cF.rf⟩
  have w6 := hC.w6
  unfold wf6 at w6
  refine j_iload_n C dX5_advance_0 rfl ?_
  refine j_iconst C dX5_advance_1 ?_
  refine j_icmp_lt (tgt := 11) C dX5_advance_2 (by decide) (by unfold rg at *; omega) (by unfold rg at *; omega) (fun c2 => ?_) (fun c2 => ?_)
  · refine j_throwSW (text := "no such number of days") C ME thr_IAE cl_Sp_101 ini_IAE (by decide +kernel) ?_ dX5_advance_11 dX5_advance_14 dX5_advance_15 dX5_advance_18 dX5_advance_21 ⟨by decide, (Nat.le_of_ble_eq_true rfl), (by first | omega | (dsimp only; omega) | exact Nat.le_of_ble_eq_true rfl), (by first | omega | (dsimp only; omega) | exact Nat.le_of_ble_eq_true rfl)⟩ (by omega) (by omega)
    exact Or.inr ⟨0, _, rfl, (by clear hR hC ME C; (try clear key); (try clear ih); unfold x_advance; (repeat' split) <;> first | rfl | omega | (simp_all; done) | (simp_all; omega)), rfl, rfl⟩
  · refine j_iload_n C dX5_advance_5 rfl ?_
    refine j_bipush C dX5_advance_6 (by decide) ?_
    refine j_icmp_le (tgt := 22) C dX5_advance_8 (by decide) (by unfold rg at *; omega) (by unfold rg at *; omega) (fun c8 => ?_) (fun c8 => ?_)
    · refine j_aload_n C dX5_advance_22 rfl ?_
      refine j_dup C dX5_advance_23 rfl ?_
      refine jg_6_6 C hR fl_Sp_32 dX5_advance_24 (fun w24 => ?_)
      refine j_iload_n C dX5_advance_27 rfl ?_
      refine j_iadd C dX5_advance_28 ?_
      refine jp_6_6 C hR (by omega) fl_Sp_32 dX5_advance_29 (fun S2 hR => ?_)
      have hlb : ∀ n, 0 ≤ lateM X (X 29 0 + a) n ∧ lateM X (X 29 0 + a) n ≤ n * 1 := fun n => sumI_bound (fun k _ => by show 0 ≤ (if _ then (1 : Int) else 0) ∧ _ ≤ (1 : Int); split <;> omega)
      refine j_iconst C dX5_advance_32 ?_
      refine j_istore_n C dX5_advance_33 (by decide) ?_
      refine j_iconst C dX5_advance_34 ?_
      refine j_istore_n C dX5_advance_35 (by decide) ?_
      have key : ∀ (fuel : Nat) (i : Nat), X 28 0 - i < fuel → (i : Int) ≤ X 28 0 → J p l e { frames := 20 * 20, cells := 100, slots := 6000, locals := 200 * 20 } s m args below meth c 5 D (wA S sz) (wQ below D sz S (pubP E0 S G (x_advance X a) ["java/lang/IllegalArgumentException"] (some (.int (iN (v_advance X a)))) (mup X 29 0 (X 29 0 + a))) args s 100 6000) 36 [(0, .ref (G 6 0)), (1, .int (iN a)), (2, .int (iN (lateM X (X 29 0 + a) i))), (3, .int (iN ((i : Nat) : Int)))] [] S2 0 0 := by
        intro fuel
        induction fuel with
        | zero => intro i h1 h2; omega
        | succ fuel ih =>
          intro i h1 h2
          have e28 : mup X 29 0 (X 29 0 + a) 28 0 = X 28 0 := rfl
          have e27 : mup X 29 0 (X 29 0 + a) 27 (i : Int) = X 27 i := rfl
          have e26 : mup X 29 0 (X 29 0 + a) 26 (i : Int) = X 26 i := rfl
          have e29 : mup X 29 0 (X 29 0 + a) 29 0 = X 29 0 + a := mup_eq
          have hlb2 := hlb i
          refine j_iload_n C dX5_advance_36 rfl ?_
          refine j_aload_n C dX5_advance_37 rfl ?_
          refine jg_6_4 C hR fl_Sp_25 dX5_advance_38 ?_
          refine j_callV C (z_L4 l hfl hR.1 ) cal_Jx4a65c_size_8abf5 vi_Jx4a65c_size_8abf5 ml_Sp_39 (hR.1.q_L4 ) ⟨by decide, by decide, rfl⟩ rfl rfl (Nat.le_of_ble_eq_true rfl) ⟨by decide, by decide⟩ ⟨(by first | omega | (dsimp only; omega) | exact Nat.le_of_ble_eq_true rfl), (by first | omega | (dsimp only; omega) | exact Nat.le_of_ble_eq_true rfl)⟩ dX5_advance_41 (fun E S9 h => nomatch h.1) (fun v9 S9 h => ?_)
          obtain ⟨h, h9⟩ := h
          have h9 := h9.symm
          subst h9
          cases h
          refine j_icmp_ge (tgt := 89) C dX5_advance_44 (by decide) (by unfold rg at *; omega) (by unfold rg at *; omega) (fun c44 => ?_) (fun c44 => ?_)
          · refine j_iload_n C dX5_advance_89 rfl ?_
            refine j_iret C ME ?_ (by first | omega | exact Nat.le_of_ble_eq_true rfl) (by first | omega | exact Nat.le_of_ble_eq_true rfl) dX5_advance_90
            refine Or.inl ⟨?_, ?_, G, rfl, hR⟩
            · exact (by clear hR hC ME C; (try clear key); (try clear ih); unfold x_advance; (repeat' split) <;> first | rfl | omega | (simp_all; done) | (simp_all; omega))
            · unfold v_advance
              exact rI (by rw [show (X 28 0).toNat = i by omega])
          · refine j_aload_n C dX5_advance_47 rfl ?_
            refine jg_6_4 C hR fl_Sp_25 dX5_advance_48 ?_
            refine j_iload_n C dX5_advance_51 rfl ?_
            refine j_callV C (g_L4 l hfl hR.1 (by omega)) cal_Jx4a65c_get_915e3 vi_Jx4a65c_get_915e3 ml_Sp_146 (hR.1.q_L4 ) ⟨by decide, by decide, rfl⟩ rfl rfl (Nat.le_of_ble_eq_true rfl) ⟨by decide, by decide⟩ ⟨(by first | omega | (dsimp only; omega) | exact Nat.le_of_ble_eq_true rfl), (by first | omega | (dsimp only; omega) | exact Nat.le_of_ble_eq_true rfl)⟩ dX5_advance_52 (fun E S9 h => nomatch h.1) (fun v9 S9 h => ?_)
            obtain ⟨h, h9, -⟩ := h
            have h9 := h9.symm
            subst h9
            cases h
            refine j_cast (kd := 2) C (hR.1.k2 (by omega)) ⟨by decide, by decide⟩ cl_Sp_302 dX5_advance_55 ?_
            refine j_astore C dX5_advance_58 (by decide) ?_
            refine j_aload C dX5_advance_60 rfl ?_
            refine jg_2_4 C hR (by omega) fl_Sp_315 dX5_advance_62 (fun w62 => ?_)
            refine j_if_ne (tgt := 83) C dX5_advance_65 (by decide) (by unfold rg at *; omega) (fun c65 => ?_) (fun c65 => ?_)
            · refine j_iinc C dX5_advance_83 rfl (by decide) ?_
              refine j_goto (tgt := 36) C dX5_advance_86 (by decide) ?_
              have e7 : lateM X (X 29 0 + a) (i + 1) = lateM X (X 29 0 + a) i + (if X 27 i = 0 ∧ X 26 i < X 29 0 + a then 1 else 0) := rfl
              first
              | (rw [if_neg (by omega), Int.add_zero] at e7
                 refine J.lvs (lv' := [(0, .ref (G 6 0)), (1, .int (iN a)), (2, .int (iN (lateM X (X 29 0 + a) (i + 1)))), (3, .int (iN (((i + 1) : Nat) : Int)))]) ?_ (ih (i + 1) (by omega) (by omega))
                 rw [e7]
                 intro q hq; simp only [List.mem_cons, List.not_mem_nil, or_false] at hq; rcases hq with rfl | rfl | rfl | rfl <;> rfl)
              | (rw [if_pos (by omega)] at e7
                 refine J.lvs (lv' := [(0, .ref (G 6 0)), (1, .int (iN a)), (2, .int (iN (lateM X (X 29 0 + a) (i + 1)))), (3, .int (iN (((i + 1) : Nat) : Int)))]) ?_ (ih (i + 1) (by omega) (by omega))
                 rw [e7]
                 intro q hq; simp only [List.mem_cons, List.not_mem_nil, or_false] at hq; rcases hq with rfl | rfl | rfl | rfl <;> rfl)
            · refine j_aload_n C dX5_advance_68 rfl ?_
              refine jg_6_6 C hR fl_Sp_32 dX5_advance_69 (fun w69 => ?_)
              refine j_aload C dX5_advance_72 rfl ?_
              refine jg_2_2 C hR (by omega) fl_Sp_329 dX5_advance_74 (fun w74 => ?_)
              refine j_icmp_le (tgt := 83) C dX5_advance_77 (by decide) (by unfold rg at *; omega) (by unfold rg at *; omega) (fun c77 => ?_) (fun c77 => ?_)
              · refine j_iinc C dX5_advance_83 rfl (by decide) ?_
                refine j_goto (tgt := 36) C dX5_advance_86 (by decide) ?_
                have e7 : lateM X (X 29 0 + a) (i + 1) = lateM X (X 29 0 + a) i + (if X 27 i = 0 ∧ X 26 i < X 29 0 + a then 1 else 0) := rfl
                first
                | (rw [if_neg (by omega), Int.add_zero] at e7
                   refine J.lvs (lv' := [(0, .ref (G 6 0)), (1, .int (iN a)), (2, .int (iN (lateM X (X 29 0 + a) (i + 1)))), (3, .int (iN (((i + 1) : Nat) : Int)))]) ?_ (ih (i + 1) (by omega) (by omega))
                   rw [e7]
                   intro q hq; simp only [List.mem_cons, List.not_mem_nil, or_false] at hq; rcases hq with rfl | rfl | rfl | rfl <;> rfl)
                | (rw [if_pos (by omega)] at e7
                   refine J.lvs (lv' := [(0, .ref (G 6 0)), (1, .int (iN a)), (2, .int (iN (lateM X (X 29 0 + a) (i + 1)))), (3, .int (iN (((i + 1) : Nat) : Int)))]) ?_ (ih (i + 1) (by omega) (by omega))
                   rw [e7]
                   intro q hq; simp only [List.mem_cons, List.not_mem_nil, or_false] at hq; rcases hq with rfl | rfl | rfl | rfl <;> rfl)
              · refine j_iinc C dX5_advance_80 rfl (by decide) ?_
                refine j_iinc C dX5_advance_83 rfl (by decide) ?_
                refine j_goto (tgt := 36) C dX5_advance_86 (by decide) ?_
                have e7 : lateM X (X 29 0 + a) (i + 1) = lateM X (X 29 0 + a) i + (if X 27 i = 0 ∧ X 26 i < X 29 0 + a then 1 else 0) := rfl
                first
                | (rw [if_neg (by omega), Int.add_zero] at e7
                   refine J.lvs (lv' := [(0, .ref (G 6 0)), (1, .int (iN a)), (2, .int (iN (lateM X (X 29 0 + a) (i + 1)))), (3, .int (iN (((i + 1) : Nat) : Int)))]) ?_ (ih (i + 1) (by omega) (by omega))
                   rw [e7]
                   intro q hq; simp only [List.mem_cons, List.not_mem_nil, or_false] at hq; rcases hq with rfl | rfl | rfl | rfl <;> rfl)
                | (rw [if_pos (by omega)] at e7
                   refine J.lvs (lv' := [(0, .ref (G 6 0)), (1, .int (iN a)), (2, .int (iN (lateM X (X 29 0 + a) (i + 1)))), (3, .int (iN (((i + 1) : Nat) : Int)))]) ?_ (ih (i + 1) (by omega) (by omega))
                   rw [e7]
                   intro q hq; simp only [List.mem_cons, List.not_mem_nil, or_false] at hq; rcases hq with rfl | rfl | rfl | rfl <;> rfl)
      refine J.lvs (lv' := [(0, .ref (G 6 0)), (1, .int (iN a)), (2, .int (iN (lateM X (X 29 0 + a) 0))), (3, .int (iN ((0 : Nat) : Int)))]) ?_ (key ((X 28 0).toNat + 1) 0 (by omega) (by omega))
      intro q hq; simp only [List.mem_cons, List.not_mem_nil, or_false] at hq; rcases hq with rfl | rfl | rfl | rfl <;> rfl
    · refine j_throwSW (text := "no such number of days") C ME thr_IAE cl_Sp_101 ini_IAE (by decide +kernel) ?_ dX5_advance_11 dX5_advance_14 dX5_advance_15 dX5_advance_18 dX5_advance_21 ⟨by decide, (Nat.le_of_ble_eq_true rfl), (by first | omega | (dsimp only; omega) | exact Nat.le_of_ble_eq_true rfl), (by first | omega | (dsimp only; omega) | exact Nat.le_of_ble_eq_true rfl)⟩ (by omega) (by omega)
      exact Or.inr ⟨0, _, rfl, (by clear hR hC ME C; (try clear key); (try clear ih); unfold x_advance; (repeat' split) <;> first | rfl | omega | (simp_all; done) | (simp_all; omega)), rfl, rfl⟩

