/-! THE CLASS: more public methods. -/
def cx_put (X : wM) (r z : Int) : Int := if ¬ ((0 ≤ r ∧ r < X 17 0) ∧ 0 ≤ z ∧ z < X 12 0) then 1 else if ¬ X 4 z = X 13 r then 2 else if ¬ X 7 z = -1 ∨ aheadX X z r = true ∨ ¬ X 32 (X 13 r) = 0 then 3 else 0
def asX (X : wM) (f a b : Int) : wM := rset (xShot X f a b) 3 2 f (X 3 f + 1) (fun k => if k = X 3 f then X 12 0 else X 2 (60 * f + k))
def grX (X : wM) (z g : Int) : wM := if g = -1 then drX (mup (mup X 10 z g) 11 z (-1)) (X 4 z) z (X 3 (X 4 z)).toNat else mup (mup X 10 z g) 11 z (-1)
def cx_mend (X : wM) (r z : Int) : Int := if ¬ ((0 ≤ r ∧ r < X 17 0) ∧ 0 ≤ z ∧ z ≤ X 16 r - 2) then 1 else if X 5 (X 14 (60 * r + z)) < 2 ∨ ¬ X 32 (X 13 r) = 0 then 2 else 0
def lostX (X : wM) (r k : Int) : Int := min (bN (wornX X r (k - 1)) + bN (wornX X r k)) (X 5 (X 14 (60 * r + k)))
def scX (X : wM) (r z : Int) : Nat → wM
  | 0 => X
  | k + 1 => tkX (scX X r z k) (X 14 (60 * r + k)) z (lostX X r k)
theorem tkX_o {X : wM} {s z n i : Int} {j : Nat} (h1 : j ≠ 8) (h2 : j ≠ 9) : tkX X s z n j i = X j i := by
  unfold tkX
  split
  · rw [mup_oj h2, mup_oj h1]
  · rfl
theorem scX_o {X : wM} {r z i : Int} {j : Nat} (h1 : j ≠ 8) (h2 : j ≠ 9) : ∀ k, scX X r z k j i = X j i
  | 0 => rfl
  | k + 1 => by rw [scX, tkX_o h1 h2, scX_o h1 h2 k]
theorem worn_sc {X : wM} {r z k : Int} {n : Nat} : wornX (scX X r z n) r k = wornX X r k := by
  unfold wornX
  rw [scX_o (by decide) (by decide), scX_o (by decide) (by decide), scX_o (by decide) (by decide), scX_o (by decide) (by decide)]
theorem lostX_b {E : Nat} {S : wS} {G : wG} {X : wM} {r k : Int} (h : RC E S G X) (hr : 0 ≤ r ∧ r < X 17 0) (hk : 0 ≤ k ∧ k < X 16 r) : 0 ≤ lostX X r k ∧ lostX X r k ≤ 2 := by
  have w := h.w3 hr
  unfold wf3 at w
  have w4 := h.w4 (w.2.2 k hk.1 hk.2)
  unfold wf4 at w4
  have b1 : ∀ b, 0 ≤ bN b ∧ bN b ≤ 1 := fun b => by cases b <;> (unfold bN; simp)
  have c1 := b1 (wornX X r (k - 1))
  have c2 := b1 (wornX X r k)
  unfold lostX
  omega
def cx_scan (X : wM) (r z : Int) : Int := if ¬ (0 ≤ r ∧ r < X 17 0) then 1 else if ¬ (1 ≤ z ∧ z ≤ 4) then 2 else if X 16 r = 0 ∨ ¬ X 32 (X 13 r) = 0 then 3 else 0
def meanXs (X : wM) (k : Nat) : Int := sumI (fun r => sumX X r (X 16 r - 1).toNat) k
def meanXn (X : wM) (k : Nat) : Int := sumI (fun r => max (X 16 r - 1) 0) k
def cx_meanWear (X : wM) : Int := if meanXn X (X 17 0).toNat = 0 then 1 else 0
set_option maxHeartbeats 4000000 in
set_option maxRecDepth 100000 in
theorem p_addShot (l : Launch) (hfl : l.stackTraces = false) {D : wD} {S : wS} {G : wG} {X : wM} (hC : RC D.2.2.1 S G X) {f a b : Int} (h_f : rg f)  (h_a : rg a)  (h_b : rg b) (hlen : ∀ f, 0 ≤ f → f < X 1 0 → X 3 f ≤ X 12 0) : CtD l D yX5_addShot cX5_addShot 6 (some FieldType.int) 20 100 6000 [.ref (G 6 0), .int (iN f), .int (iN a), .int (iN b)] S (pubP D.2.2.1 S G (x_addShot X f a b) ["java/lang/IndexOutOfBoundsException", "java/lang/IllegalArgumentException", "java/lang/IllegalStateException"] (some (.int (iN (v_addShot X f a b)))) (asX X f a b)) := by
  refine CtD.of cal_X5_addShot hfl (Nat.le_of_ble_eq_true rfl) ?_
  intro p e s m args below meth c sz C ME
  have hR : RCF D.2.2.1 S S G X := ⟨hC, cF.rf⟩
  have w6 := hC.w6
  unfold wf6 at w6
  refine j_aload_n C dX5_addShot_0 rfl ?_
  refine j_iload_n C dX5_addShot_1 rfl ?_
  refine j_callV C (n_film l hfl hR.1 (by unfold rg at *; omega)) cal_X5_filmNumbered vi_X5_filmNumbered ml_Sp_57 (hR.1.k6) ⟨by decide, by decide, rfl⟩ rfl rfl (Nat.le_of_ble_eq_true rfl) ⟨by decide, by decide⟩ ⟨(by first | omega | (dsimp only; omega) | exact Nat.le_of_ble_eq_true rfl), (by first | omega | (dsimp only; omega) | exact Nat.le_of_ble_eq_true rfl)⟩ dX5_addShot_2 (fun E S9 h => ?_) (fun v9 S9 h => ?_)
  · obtain ⟨h9, h | h⟩ := h
    · exact nomatch h.2
    · obtain ⟨c2, h⟩ := h
      have h9 := h9.symm
      subst h9
      cases h
      refine j_out C ME ?_ (by omega) (by omega)
      exact Or.inr ⟨0, _, rfl, (by clear hR hC ME C; (try clear key); (try clear ih); unfold x_addShot; (repeat' split) <;> first | rfl | omega | (simp_all; done) | (simp_all; omega)), rfl, rfl⟩
  obtain ⟨h9, h | h⟩ := h
  rotate_left
  · exact nomatch h.2
  obtain ⟨c2, h⟩ := h
  have h9 := h9.symm
  subst h9
  cases h
  have wf := hC.w1 c2
  unfold wf1 at wf
  have hlf := hlen f c2.1 c2.2
  refine j_astore C dX5_addShot_5 (by decide) ?_
  refine j_aload_n C dX5_addShot_7 rfl ?_
  refine j_iload_n C dX5_addShot_8 rfl ?_
  refine j_iload_n C dX5_addShot_9 rfl ?_
  refine j_callV C (n_fine l hfl hR.1 (by unfold rg at *; omega) (by unfold rg at *; omega)) cal_X5_requireLengthAndScene vi_X5_requireLengthAndScene ml_Sp_61 (hR.1.k6) ⟨by decide, by decide, rfl⟩ rfl rfl (Nat.le_of_ble_eq_true rfl) ⟨by decide, by decide⟩ ⟨(by first | omega | (dsimp only; omega) | exact Nat.le_of_ble_eq_true rfl), (by first | omega | (dsimp only; omega) | exact Nat.le_of_ble_eq_true rfl)⟩ dX5_addShot_10 (fun E S9 h => ?_) (fun v9 S9 h => ?_)
  · obtain ⟨h9, h | h⟩ := h
    · exact nomatch h.2
    · obtain ⟨c10, h⟩ := h
      have h9 := h9.symm
      subst h9
      cases h
      refine j_out C ME ?_ (by omega) (by omega)
      exact Or.inr ⟨1, _, rfl, (by clear hR hC ME C; (try clear key); (try clear ih); unfold x_addShot; (repeat' split) <;> first | rfl | omega | (simp_all; done) | (simp_all; omega)), rfl, rfl⟩
  obtain ⟨h9, h | h⟩ := h
  rotate_left
  · exact nomatch h.2
  obtain ⟨c10, h⟩ := h
  have h9 := h9.symm
  subst h9
  cases h
  refine j_aload_n C dX5_addShot_13 rfl ?_
  refine jg_6_1 C hR fl_Sp_16 dX5_addShot_14 ?_
  refine j_callV C (z_L1 l hfl hR.1 ) cal_Jx4a65c_size_8abf5 vi_Jx4a65c_size_8abf5 ml_Sp_39 (hR.1.q_L1 ) ⟨by decide, by decide, rfl⟩ rfl rfl (Nat.le_of_ble_eq_true rfl) ⟨by decide, by decide⟩ ⟨(by first | omega | (dsimp only; omega) | exact Nat.le_of_ble_eq_true rfl), (by first | omega | (dsimp only; omega) | exact Nat.le_of_ble_eq_true rfl)⟩ dX5_addShot_17 (fun E S9 h => nomatch h.1) (fun v9 S9 h => ?_)
  obtain ⟨h, h9⟩ := h
  have h9 := h9.symm
  subst h9
  cases h
  refine j_bipush C dX5_addShot_20 (by decide) ?_
  refine j_icmp_lt (tgt := 35) C dX5_addShot_22 (by decide) (by unfold rg at *; omega) (by unfold rg at *; omega) (fun c22 => ?_) (fun c22 => ?_)
  · refine j_aload_n C dX5_addShot_35 rfl ?_
    refine j_aload C dX5_addShot_36 rfl ?_
    refine j_iload_n C dX5_addShot_38 rfl ?_
    refine j_iload_n C dX5_addShot_39 rfl ?_
    refine j_callVD C (u_newShot l hfl hR.1 (by omega) (by omega) (by omega) (by omega)) cal_X5_newShot vi_X5_newShot ml_Sp_67 (hR.1.k6) ⟨by decide, by decide, rfl⟩ rfl rfl (Nat.le_of_ble_eq_true rfl) ⟨by decide, by decide⟩ ⟨(by first | omega | (dsimp only; omega) | exact Nat.le_of_ble_eq_true rfl), (by first | omega | (dsimp only; omega) | exact Nat.le_of_ble_eq_true rfl)⟩ dX5_addShot_40 (fun E S9 h => by obtain ⟨q, h, -⟩ := h; exact nomatch h) (fun v9 S9 h => ?_)
    obtain ⟨q4, h, hR2⟩ := h
    cases h
    have hR := hR.tr hR2
    clear hR2
    refine j_astore C dX5_addShot_43 (by decide) ?_
    refine j_aload C dX5_addShot_45 rfl ?_
    refine jg_1_0 C hR (show 0 ≤ f ∧ f < X 1 0 from c2) fl_Sp_71 dX5_addShot_47 ?_
    refine j_aload C dX5_addShot_50 rfl ?_
    obtain ⟨T, hh⟩ := hR.1.2
    have wr := hR.1.w1 (i9 := f) (show 0 ≤ f ∧ f < X 1 0 from c2)
    unfold wf1 at wr
    have ec : xShot X f a b 12 0 = X 12 0 + 1 := xnew_c
    refine j_callVD C (c_alAdd l hfl (y := gup G 4 (X 12 0) q4 4 (X 12 0)) (hh.2.2.2.2.2.2.1.2.1 f c2.1 c2.2) (by show X 3 f ≤ 65; omega) (by rw [hR.1.k4 (i9 := X 12 0) (by omega)]; decide) (fun k hk => by rw [hR.1.k4 (wr.2.2 k (by omega) hk)]; decide)) cal_Jx4a65c_add_9ea2d vi_Jx4a65c_add_9ea2d ml_Sp_53 (hR.1.q_row (show 0 ≤ f ∧ f < X 1 0 from c2)) ⟨by decide, by decide, rfl⟩ rfl rfl (Nat.le_of_ble_eq_true rfl) ⟨by decide, by decide⟩ ⟨(by first | omega | (dsimp only; omega) | exact Nat.le_of_ble_eq_true rfl), (by first | omega | (dsimp only; omega) | exact Nat.le_of_ble_eq_true rfl)⟩ dX5_addShot_52 (fun E S9 h => nomatch h.1) (fun v9 S3 h => ?_)
    obtain ⟨h, hL⟩ := h
    cases h
    have hR : RCF D.2.2.1 S S3 (gup G 4 (X 12 0) q4) (asX X f a b) := hR.tr (RC.row1 (g := fun k => if k = X 3 f then X 12 0 else X 2 (60 * f + k)) hR.1.1 hh (show 0 ≤ f ∧ f < X 1 0 from c2) hL (fun k k1 k2 => by show (if k = X 3 f then gup G 4 (X 12 0) q4 4 (X 12 0) else gup G 4 (X 12 0) q4 4 (X 2 (60 * f + k))) = gup G 4 (X 12 0) q4 4 (if k = X 3 f then X 12 0 else X 2 (60 * f + k)); split <;> rfl) (by show 0 ≤ X 3 f + 1 ∧ X 3 f + 1 ≤ 60; omega) (fun k k1 k2 => by
      show 0 ≤ (if k = X 3 f then X 12 0 else X 2 (60 * f + k)) ∧ (if k = X 3 f then X 12 0 else X 2 (60 * f + k)) < xShot X f a b 12 0
      split
      · omega
      · have k2 : k < X 3 f + 1 := k2
        exact wr.2.2 k k1 (by show k < X 3 f; omega)))
    refine j_pop C dX5_addShot_55 rfl ?_
    refine j_aload C dX5_addShot_56 rfl ?_
    refine jg_4_1 C hR (i9 := X 12 0) (by show 0 ≤ X 12 0 ∧ X 12 0 < xShot X f a b 12 0; omega) fl_Sp_74 dX5_addShot_58 ?_
    refine j_iret C ME ?_ (by first | omega | exact Nat.le_of_ble_eq_true rfl) (by first | omega | exact Nat.le_of_ble_eq_true rfl) dX5_addShot_61
    refine Or.inl ⟨?_, ?_, gup G 4 (X 12 0) q4, rfl, hR⟩
    · exact (by clear hR hC ME C; (try clear key); (try clear ih); unfold x_addShot; (repeat' split) <;> first | rfl | omega | (simp_all; done) | (simp_all; omega))
    · first | rfl | exact rI (by first | rfl | omega | (simp_all; done) | (simp_all; omega))
  · refine j_throwS (text := "no room for a shot") C ME thr_ISE cl_Sp_43 ini_ISE (by decide +kernel) ?_ dX5_addShot_25 dX5_addShot_28 dX5_addShot_29 dX5_addShot_31 dX5_addShot_34 ⟨by decide, (Nat.le_of_ble_eq_true rfl), (by first | omega | (dsimp only; omega) | exact Nat.le_of_ble_eq_true rfl), (by first | omega | (dsimp only; omega) | exact Nat.le_of_ble_eq_true rfl)⟩ (by omega) (by omega)
    exact Or.inr ⟨2, _, rfl, (by clear hR hC ME C; (try clear key); (try clear ih); unfold x_addShot; (repeat' split) <;> first | rfl | omega | (simp_all; done) | (simp_all; omega)), rfl, rfl⟩

set_option maxHeartbeats 4000000 in
set_option maxRecDepth 100000 in
theorem p_addReel (l : Launch) (hfl : l.stackTraces = false) {D : wD} {S : wS} {G : wG} {X : wM} (hC : RC D.2.2.1 S G X) {f : Int} (h_f : rg f)  : CtD l D yX5_addReel cX5_addReel 3 (some FieldType.int) 20 100 6000 [.ref (G 6 0), .int (iN f)] S (pubP D.2.2.1 S G (x_addReel X f) ["java/lang/IndexOutOfBoundsException", "java/lang/IllegalStateException"] (some (.int (iN (v_addReel X f)))) (xReel X f)) := by
  refine CtD.of cal_X5_addReel hfl (Nat.le_of_ble_eq_true rfl) ?_
  intro p e s m args below meth c sz C ME
  have hR : RCF D.2.2.1 S S G X := ⟨hC, cF.rf⟩
  have w6 := hC.w6
  unfold wf6 at w6
  refine j_aload_n C dX5_addReel_0 rfl ?_
  refine j_iload_n C dX5_addReel_1 rfl ?_
  refine j_callV C (n_film l hfl hR.1 (by unfold rg at *; omega)) cal_X5_filmNumbered vi_X5_filmNumbered ml_Sp_57 (hR.1.k6) ⟨by decide, by decide, rfl⟩ rfl rfl (Nat.le_of_ble_eq_true rfl) ⟨by decide, by decide⟩ ⟨(by first | omega | (dsimp only; omega) | exact Nat.le_of_ble_eq_true rfl), (by first | omega | (dsimp only; omega) | exact Nat.le_of_ble_eq_true rfl)⟩ dX5_addReel_2 (fun E S9 h => ?_) (fun v9 S9 h => ?_)
  · obtain ⟨h9, h | h⟩ := h
    · exact nomatch h.2
    · obtain ⟨c2, h⟩ := h
      have h9 := h9.symm
      subst h9
      cases h
      refine j_out C ME ?_ (by omega) (by omega)
      exact Or.inr ⟨0, _, rfl, (by clear hR hC ME C; (try clear key); (try clear ih); unfold x_addReel; (repeat' split) <;> first | rfl | omega | (simp_all; done) | (simp_all; omega)), rfl, rfl⟩
  obtain ⟨h9, h | h⟩ := h
  rotate_left
  · exact nomatch h.2
  obtain ⟨c2, h⟩ := h
  have h9 := h9.symm
  subst h9
  cases h
  refine j_astore_n C dX5_addReel_5 (by decide) ?_
  refine j_aload_n C dX5_addReel_6 rfl ?_
  refine jg_6_2 C hR fl_Sp_19 dX5_addReel_7 ?_
  refine j_callV C (z_L2 l hfl hR.1 ) cal_Jx4a65c_size_8abf5 vi_Jx4a65c_size_8abf5 ml_Sp_39 (hR.1.q_L2 ) ⟨by decide, by decide, rfl⟩ rfl rfl (Nat.le_of_ble_eq_true rfl) ⟨by decide, by decide⟩ ⟨(by first | omega | (dsimp only; omega) | exact Nat.le_of_ble_eq_true rfl), (by first | omega | (dsimp only; omega) | exact Nat.le_of_ble_eq_true rfl)⟩ dX5_addReel_10 (fun E S9 h => nomatch h.1) (fun v9 S9 h => ?_)
  obtain ⟨h, h9⟩ := h
  have h9 := h9.symm
  subst h9
  cases h
  refine j_bipush C dX5_addReel_13 (by decide) ?_
  refine j_icmp_lt (tgt := 28) C dX5_addReel_15 (by decide) (by unfold rg at *; omega) (by unfold rg at *; omega) (fun c15 => ?_) (fun c15 => ?_)
  · refine j_aload_n C dX5_addReel_28 rfl ?_
    refine j_aload_n C dX5_addReel_29 rfl ?_
    refine j_callVD C (u_newReel l hfl hR.1 (by omega) (by omega)) cal_X5_newReel vi_X5_newReel ml_Sp_81 (hR.1.k6) ⟨by decide, by decide, rfl⟩ rfl rfl (Nat.le_of_ble_eq_true rfl) ⟨by decide, by decide⟩ ⟨(by first | omega | (dsimp only; omega) | exact Nat.le_of_ble_eq_true rfl), (by first | omega | (dsimp only; omega) | exact Nat.le_of_ble_eq_true rfl)⟩ dX5_addReel_30 (fun E S9 h => by obtain ⟨q, a, h, -⟩ := h; exact nomatch h) (fun v9 S9 h => ?_)
    obtain ⟨q3, a3, h, hR2⟩ := h
    cases h
    have hR := hR.tr hR2
    clear hR2
    refine jg_3_1 C hR (i9 := X 17 0) (by have ec : xReel X f 17 0 = X 17 0 + 1 := xnew_c; omega) fl_Sp_85 dX5_addReel_33 ?_
    refine j_iret C ME ?_ (by first | omega | exact Nat.le_of_ble_eq_true rfl) (by first | omega | exact Nat.le_of_ble_eq_true rfl) dX5_addReel_36
    refine Or.inl ⟨?_, ?_, gup (gup G 3 (X 17 0) q3) 22 (X 17 0) a3, rfl, hR⟩
    · exact (by clear hR hC ME C; (try clear key); (try clear ih); unfold x_addReel; (repeat' split) <;> first | rfl | omega | (simp_all; done) | (simp_all; omega))
    · first | rfl | exact rI (by first | rfl | omega | (simp_all; done) | (simp_all; omega))
  · refine j_throwS (text := "no room for a reel") C ME thr_ISE cl_Sp_43 ini_ISE (by decide +kernel) ?_ dX5_addReel_18 dX5_addReel_21 dX5_addReel_22 dX5_addReel_24 dX5_addReel_27 ⟨by decide, (Nat.le_of_ble_eq_true rfl), (by first | omega | (dsimp only; omega) | exact Nat.le_of_ble_eq_true rfl), (by first | omega | (dsimp only; omega) | exact Nat.le_of_ble_eq_true rfl)⟩ (by omega) (by omega)
    exact Or.inr ⟨1, _, rfl, (by clear hR hC ME C; (try clear key); (try clear ih); unfold x_addReel; (repeat' split) <;> first | rfl | omega | (simp_all; done) | (simp_all; omega)), rfl, rfl⟩

set_option maxHeartbeats 4000000 in
set_option maxRecDepth 100000 in
theorem p_put (l : Launch) (hfl : l.stackTraces = false) {D : wD} {S : wS} {G : wG} {X : wM} (hC : RC D.2.2.1 S G X) {r z : Int} (h_r : rg r)  (h_z : rg z) (hP : ∀ s, 0 ≤ s → s < X 12 0 → PLs X s) (hm : ∀ r, 0 ≤ r → r < X 17 0 → 0 < X 16 r → X 4 (lastM X r) = X 13 r) (h16 : ∀ r s, 0 ≤ r → r < X 17 0 → 0 ≤ s → s < X 12 0 → X 7 s = -1 → X 16 r < 60) : CtD l D yX5_put cX5_put 5 (some FieldType.int) 20 100 6000 [.ref (G 6 0), .int (iN r), .int (iN z)] S (pubP D.2.2.1 S G (cx_put X r z) ["java/lang/IndexOutOfBoundsException", "java/lang/IllegalArgumentException", "java/lang/UnsupportedOperationException"] (some (.int (iN (X 16 r + 1)))) (apX X r z)) := by
  refine CtD.of cal_X5_put hfl (Nat.le_of_ble_eq_true rfl) ?_
  intro p e s m args below meth c sz C ME
  have hR : RCF D.2.2.1 S S G X := ⟨hC, cF.rf⟩
  have w6 := hC.w6
  unfold wf6 at w6
  refine j_aload_n C dX5_put_0 rfl ?_
  refine j_iload_n C dX5_put_1 rfl ?_
  refine j_callV C (n_reel l hfl hR.1 (by unfold rg at *; omega)) cal_X5_reelNumbered vi_X5_reelNumbered ml_Sp_88 (hR.1.k6) ⟨by decide, by decide, rfl⟩ rfl rfl (Nat.le_of_ble_eq_true rfl) ⟨by decide, by decide⟩ ⟨(by first | omega | (dsimp only; omega) | exact Nat.le_of_ble_eq_true rfl), (by first | omega | (dsimp only; omega) | exact Nat.le_of_ble_eq_true rfl)⟩ dX5_put_2 (fun E S9 h => ?_) (fun v9 S9 h => ?_)
  · obtain ⟨h9, h | h⟩ := h
    · exact nomatch h.2
    · obtain ⟨c2, h⟩ := h
      have h9 := h9.symm
      subst h9
      cases h
      refine j_out C ME ?_ (by omega) (by omega)
      exact Or.inr ⟨0, _, rfl, (by clear hR hC ME C; (try clear key); (try clear ih); unfold cx_put; (repeat' split) <;> first | rfl | omega | (simp_all; done) | (simp_all; omega)), rfl, rfl⟩
  obtain ⟨h9, h | h⟩ := h
  rotate_left
  · exact nomatch h.2
  obtain ⟨c2, h⟩ := h
  have h9 := h9.symm
  subst h9
  cases h
  refine j_astore_n C dX5_put_5 (by decide) ?_
  refine j_aload_n C dX5_put_6 rfl ?_
  refine j_iload_n C dX5_put_7 rfl ?_
  refine j_callV C (n_shot l hfl hR.1 (by unfold rg at *; omega)) cal_X5_shotNumbered vi_X5_shotNumbered ml_Sp_92 (hR.1.k6) ⟨by decide, by decide, rfl⟩ rfl rfl (Nat.le_of_ble_eq_true rfl) ⟨by decide, by decide⟩ ⟨(by first | omega | (dsimp only; omega) | exact Nat.le_of_ble_eq_true rfl), (by first | omega | (dsimp only; omega) | exact Nat.le_of_ble_eq_true rfl)⟩ dX5_put_8 (fun E S9 h => ?_) (fun v9 S9 h => ?_)
  · obtain ⟨h9, h | h⟩ := h
    · exact nomatch h.2
    · obtain ⟨c8, h⟩ := h
      have h9 := h9.symm
      subst h9
      cases h
      refine j_out C ME ?_ (by omega) (by omega)
      exact Or.inr ⟨0, _, rfl, (by clear hR hC ME C; (try clear key); (try clear ih); unfold cx_put; (repeat' split) <;> first | rfl | omega | (simp_all; done) | (simp_all; omega)), rfl, rfl⟩
  obtain ⟨h9, h | h⟩ := h
  rotate_left
  · exact nomatch h.2
  obtain ⟨c8, h⟩ := h
  have h9 := h9.symm
  subst h9
  cases h
  refine j_astore C dX5_put_11 (by decide) ?_
  refine j_aload_n C dX5_put_13 rfl ?_
  refine jg_3_0 C hR (by omega) fl_Sp_96 dX5_put_14 (fun w14 => ?_)
  refine j_aload C dX5_put_17 rfl ?_
  refine jg_4_0 C hR (by omega) fl_Sp_100 dX5_put_19 (fun w19 => ?_)
  refine j_acmp_eq (tgt := 35) C dX5_put_22 (by decide) (fun c22 => ?_) (fun c22 => ?_)
  · have c22 := hR.1.inj1 (by omega) (by omega) c22
    refine j_aload C dX5_put_35 rfl ?_
    refine j_callV C (k_isMissing l hfl hR.1 (by omega)) cal_X3_isMissing vi_X3_isMissing ml_Sp_106 (hR.1.k4 (by omega)) ⟨by decide, by decide, rfl⟩ rfl rfl (Nat.le_of_ble_eq_true rfl) ⟨by decide, by decide⟩ ⟨(by first | omega | (dsimp only; omega) | exact Nat.le_of_ble_eq_true rfl), (by first | omega | (dsimp only; omega) | exact Nat.le_of_ble_eq_true rfl)⟩ dX5_put_37 (fun E S9 h => nomatch h.1) (fun v9 S9 h => ?_)
    obtain ⟨h, h9⟩ := h
    have h9 := h9.symm
    subst h9
    cases h
    refine j_ifeq_b (tgt := 53) C dX5_put_40 (by decide) (fun c40 => ?_) (fun c40 => ?_)
    · refine j_throwS (text := "not missing, or out of order") C ME thr_UOE cl_Sp_114 ini_UOE (by decide +kernel) ?_ dX5_put_53 dX5_put_56 dX5_put_57 dX5_put_59 dX5_put_62 ⟨by decide, (Nat.le_of_ble_eq_true rfl), (by first | omega | (dsimp only; omega) | exact Nat.le_of_ble_eq_true rfl), (by first | omega | (dsimp only; omega) | exact Nat.le_of_ble_eq_true rfl)⟩ (by omega) (by omega)
      exact Or.inr ⟨2, _, rfl, (by clear hR hC ME C; (try clear key); (try clear ih); unfold cx_put; (repeat' split) <;> first | rfl | omega | (simp_all; done) | (simp_all; omega)), rfl, rfl⟩
    · refine j_aload_n C dX5_put_43 rfl ?_
      refine j_aload C dX5_put_44 rfl ?_
      refine j_aload_n C dX5_put_46 rfl ?_
      refine j_callV C (k_ahead l hfl hR.1 hP (by omega) (by omega) (fun q => (hm r (by omega) (by omega) q).trans c22)) cal_X5_isAheadOfEnd vi_X5_isAheadOfEnd ml_Sp_110 (hR.1.k6) ⟨by decide, by decide, rfl⟩ rfl rfl (Nat.le_of_ble_eq_true rfl) ⟨by decide, by decide⟩ ⟨(by first | omega | (dsimp only; omega) | exact Nat.le_of_ble_eq_true rfl), (by first | omega | (dsimp only; omega) | exact Nat.le_of_ble_eq_true rfl)⟩ dX5_put_47 (fun E S9 h => nomatch h.1) (fun v9 S9 h => ?_)
      obtain ⟨h, h9⟩ := h
      have h9 := h9.symm
      subst h9
      cases h
      refine j_ifeq_b (tgt := 63) C dX5_put_50 (by decide) (fun c50 => ?_) (fun c50 => ?_)
      · refine j_aload_n C dX5_put_63 rfl ?_
        refine j_aload_n C dX5_put_64 rfl ?_
        refine jg_3_0 C hR (by omega) fl_Sp_96 dX5_put_65 (fun w65 => ?_)
        refine j_callV C (n_lent l hfl hR.1 (by omega)) cal_X5_requireNotLent vi_X5_requireNotLent ml_Sp_119 (hR.1.k6) ⟨by decide, by decide, rfl⟩ rfl rfl (Nat.le_of_ble_eq_true rfl) ⟨by decide, by decide⟩ ⟨(by first | omega | (dsimp only; omega) | exact Nat.le_of_ble_eq_true rfl), (by first | omega | (dsimp only; omega) | exact Nat.le_of_ble_eq_true rfl)⟩ dX5_put_68 (fun E S9 h => ?_) (fun v9 S9 h => ?_)
        · obtain ⟨h9, h | h⟩ := h
          · exact nomatch h.2
          · obtain ⟨c68, h⟩ := h
            have h9 := h9.symm
            subst h9
            cases h
            refine j_out C ME ?_ (by omega) (by omega)
            exact Or.inr ⟨2, _, rfl, (by clear hR hC ME C; (try clear key); (try clear ih); unfold cx_put; (repeat' split) <;> first | rfl | omega | (simp_all; done) | (simp_all; omega)), rfl, rfl⟩
        obtain ⟨h9, h | h⟩ := h
        rotate_left
        · exact nomatch h.2
        obtain ⟨c68, h⟩ := h
        have h9 := h9.symm
        subst h9
        cases h
        refine j_aload_n C dX5_put_71 rfl ?_
        refine j_aload C dX5_put_72 rfl ?_
        refine j_callVD C (u_append l hfl hR.1 (by omega) (by omega) (h16 r z (by omega) (by omega) (by omega) (by omega) (of_decide_eq_true c40))) cal_X2_append vi_X2_append ml_Sp_123 (hR.1.k3 (by omega)) ⟨by decide, by decide, rfl⟩ rfl rfl (Nat.le_of_ble_eq_true rfl) ⟨by decide, by decide⟩ ⟨(by first | omega | (dsimp only; omega) | exact Nat.le_of_ble_eq_true rfl), (by first | omega | (dsimp only; omega) | exact Nat.le_of_ble_eq_true rfl)⟩ dX5_put_74 (fun E S9 h => nomatch h.1) (fun v9 S9 h => ?_)
        obtain ⟨h, hR2⟩ := h
        cases h
        have hR := hR.tr hR2
        clear hR2
        refine j_aload_n C dX5_put_77 rfl ?_
        refine jg_3_2 C hR (show 0 ≤ r ∧ r < X 17 0 by omega) fl_Sp_127 dX5_put_78 ?_
        refine j_callV C (z_rrow l hfl hR.1 (show 0 ≤ r ∧ r < X 17 0 by omega)) cal_Jx4a65c_size_8abf5 vi_Jx4a65c_size_8abf5 ml_Sp_39 (hR.1.q_rrow (show 0 ≤ r ∧ r < X 17 0 by omega)) ⟨by decide, by decide, rfl⟩ rfl rfl (Nat.le_of_ble_eq_true rfl) ⟨by decide, by decide⟩ ⟨(by first | omega | (dsimp only; omega) | exact Nat.le_of_ble_eq_true rfl), (by first | omega | (dsimp only; omega) | exact Nat.le_of_ble_eq_true rfl)⟩ dX5_put_81 (fun E S9 h => nomatch h.1) (fun v9 S9 h => ?_)
        obtain ⟨h, h9⟩ := h
        have h9 := h9.symm
        subst h9
        cases h
        refine j_iret C ME ?_ (by first | omega | exact Nat.le_of_ble_eq_true rfl) (by first | omega | exact Nat.le_of_ble_eq_true rfl) dX5_put_84
        refine Or.inl ⟨?_, ?_, G, rfl, hR⟩
        · exact (by clear hR hC ME C; (try clear key); (try clear ih); unfold cx_put; (repeat' split) <;> first | rfl | omega | (simp_all; done) | (simp_all; omega))
        · exact rI (by unfold apX; rw [mup_oj (by decide), rset_n])
      · refine j_throwS (text := "not missing, or out of order") C ME thr_UOE cl_Sp_114 ini_UOE (by decide +kernel) ?_ dX5_put_53 dX5_put_56 dX5_put_57 dX5_put_59 dX5_put_62 ⟨by decide, (Nat.le_of_ble_eq_true rfl), (by first | omega | (dsimp only; omega) | exact Nat.le_of_ble_eq_true rfl), (by first | omega | (dsimp only; omega) | exact Nat.le_of_ble_eq_true rfl)⟩ (by omega) (by omega)
        exact Or.inr ⟨2, _, rfl, (by clear hR hC ME C; (try clear key); (try clear ih); unfold cx_put; (repeat' split) <;> first | rfl | omega | (simp_all; done) | (simp_all; omega)), rfl, rfl⟩
  · have c22 : ¬ X 13 r = X 4 z := fun q => c22 (by rw [q])
    refine j_throwS (text := "of two films") C ME thr_IAE cl_Sp_101 ini_IAE (by decide +kernel) ?_ dX5_put_25 dX5_put_28 dX5_put_29 dX5_put_31 dX5_put_34 ⟨by decide, (Nat.le_of_ble_eq_true rfl), (by first | omega | (dsimp only; omega) | exact Nat.le_of_ble_eq_true rfl), (by first | omega | (dsimp only; omega) | exact Nat.le_of_ble_eq_true rfl)⟩ (by omega) (by omega)
    exact Or.inr ⟨1, _, rfl, (by clear hR hC ME C; (try clear key); (try clear ih); unfold cx_put; (repeat' split) <;> first | rfl | omega | (simp_all; done) | (simp_all; omega)), rfl, rfl⟩

set_option maxHeartbeats 4000000 in
set_option maxRecDepth 100000 in
theorem p_grade (l : Launch) (hfl : l.stackTraces = false) {S : wS} {E0 : Nat} {G : wG} {X : wM} (hC : RC E0 S G X) {z g : Int} (h_z : rg z)  (h_g : rg g)  : Ct l yX5_grade cX5_grade 5 (some FieldType.int) 20 100 6000 [.ref (G 6 0), .int (iN z), .int (iN g)] S (pubP E0 S G (x_grade X z g) ["java/lang/IndexOutOfBoundsException", "java/lang/IllegalArgumentException", "java/lang/UnsupportedOperationException"] (some (.int (iN (v_grade X z g)))) (grX X z g)) := by
  refine Ct.of cal_X5_grade hfl (Nat.le_of_ble_eq_true rfl) ?_
  intro p e s m args below meth c D sz C ME
  have hR : RCF E0 S S G X := ⟨hC, cF.rf⟩
  have w6 := hC.w6
  unfold wf6 at w6
  refine j_aload_n C dX5_grade_0 rfl ?_
  refine j_iload_n C dX5_grade_1 rfl ?_
  refine j_callV C (n_shot l hfl hR.1 (by unfold rg at *; omega)) cal_X5_shotNumbered vi_X5_shotNumbered ml_Sp_92 (hR.1.k6) ⟨by decide, by decide, rfl⟩ rfl rfl (Nat.le_of_ble_eq_true rfl) ⟨by decide, by decide⟩ ⟨(by first | omega | (dsimp only; omega) | exact Nat.le_of_ble_eq_true rfl), (by first | omega | (dsimp only; omega) | exact Nat.le_of_ble_eq_true rfl)⟩ dX5_grade_2 (fun E S9 h => ?_) (fun v9 S9 h => ?_)
  · obtain ⟨h9, h | h⟩ := h
    · exact nomatch h.2
    · obtain ⟨c2, h⟩ := h
      have h9 := h9.symm
      subst h9
      cases h
      refine j_out C ME ?_ (by omega) (by omega)
      exact Or.inr ⟨0, _, rfl, (by clear hR hC ME C; (try clear key); (try clear ih); unfold x_grade; (repeat' split) <;> first | rfl | omega | (simp_all; done) | (simp_all; omega)), rfl, rfl⟩
  obtain ⟨h9, h | h⟩ := h
  rotate_left
  · exact nomatch h.2
  obtain ⟨c2, h⟩ := h
  have h9 := h9.symm
  subst h9
  cases h
  refine j_astore_n C dX5_grade_5 (by decide) ?_
  refine j_iload_n C dX5_grade_6 rfl ?_
  refine j_iconst C dX5_grade_7 ?_
  refine j_icmp_lt (tgt := 17) C dX5_grade_8 (by decide) (by unfold rg at *; omega) (by unfold rg at *; omega) (fun c8 => ?_) (fun c8 => ?_)
  · refine j_throwS (text := "no such grade") C ME thr_IAE cl_Sp_101 ini_IAE (by decide +kernel) ?_ dX5_grade_17 dX5_grade_20 dX5_grade_21 dX5_grade_23 dX5_grade_26 ⟨by decide, (Nat.le_of_ble_eq_true rfl), (by first | omega | (dsimp only; omega) | exact Nat.le_of_ble_eq_true rfl), (by first | omega | (dsimp only; omega) | exact Nat.le_of_ble_eq_true rfl)⟩ (by omega) (by omega)
    exact Or.inr ⟨1, _, rfl, (by clear hR hC ME C; (try clear key); (try clear ih); unfold x_grade; (repeat' split) <;> first | rfl | omega | (simp_all; done) | (simp_all; omega)), rfl, rfl⟩
  · refine j_iload_n C dX5_grade_11 rfl ?_
    refine j_bipush C dX5_grade_12 (by decide) ?_
    refine j_icmp_le (tgt := 27) C dX5_grade_14 (by decide) (by unfold rg at *; omega) (by unfold rg at *; omega) (fun c14 => ?_) (fun c14 => ?_)
    · refine j_iload_n C dX5_grade_27 rfl ?_
      refine j_iconst C dX5_grade_28 ?_
      refine j_icmp_ne (tgt := 50) C dX5_grade_29 (by decide) (by unfold rg at *; omega) (by unfold rg at *; omega) (fun c29 => ?_) (fun c29 => ?_)
      · refine j_aload_n C dX5_grade_50 rfl ?_
        refine j_callV C (k_grade l hfl hR.1 (by omega)) cal_X3_currentGrade vi_X3_currentGrade ml_Sp_241 (hR.1.k4 (by omega)) ⟨by decide, by decide, rfl⟩ rfl rfl (Nat.le_of_ble_eq_true rfl) ⟨by decide, by decide⟩ ⟨(by first | omega | (dsimp only; omega) | exact Nat.le_of_ble_eq_true rfl), (by first | omega | (dsimp only; omega) | exact Nat.le_of_ble_eq_true rfl)⟩ dX5_grade_51 (fun E S9 h => nomatch h.1) (fun v9 S9 h => ?_)
        obtain ⟨h, h9⟩ := h
        have h9 := h9.symm
        subst h9
        cases h
        refine j_istore C dX5_grade_54 (by decide) ?_
        refine j_aload_n C dX5_grade_56 rfl ?_
        refine j_iload_n C dX5_grade_57 rfl ?_
        refine jp_4_8 C hR (by omega) (by omega) fl_Sp_236 dX5_grade_58 (fun S2 hR => ?_)
        refine j_aload_n C dX5_grade_61 rfl ?_
        refine j_null C dX5_grade_62 ?_
        refine jp_4_9N C hR (show 0 ≤ z ∧ z < X 12 0 from c2) fl_Sp_244 dX5_grade_63 (fun S2 hR => ?_)
        refine j_iload_n C dX5_grade_66 rfl ?_
        refine j_iconst C dX5_grade_67 ?_
        refine j_icmp_ne (tgt := 79) C dX5_grade_68 (by decide) (by unfold rg at *; omega) (by unfold rg at *; omega) (fun c68 => ?_) (fun c68 => ?_)
        · refine j_iload C dX5_grade_79 rfl ?_
          refine j_iret C ME ?_ (by first | omega | exact Nat.le_of_ble_eq_true rfl) (by first | omega | exact Nat.le_of_ble_eq_true rfl) dX5_grade_81
          refine Or.inl ⟨?_, rfl, G, rfl, ?_⟩
          · exact (by clear hR hC ME C; unfold x_grade; (repeat' split) <;> first | rfl | omega | (simp_all; done) | (simp_all; omega))
          · unfold grX
            first
            | (rw [if_pos c68]; exact hR)
            | (rw [if_neg c68]; exact hR)
        · refine j_aload_n C dX5_grade_71 rfl ?_
          refine jg_4_0 C hR (show 0 ≤ z ∧ z < X 12 0 from c2) fl_Sp_100 dX5_grade_72 (fun w72 => ?_)
          refine j_aload_n C dX5_grade_75 rfl ?_
          refine j_callV C (u_drop l hfl hR.1 w72 (show 0 ≤ z ∧ z < X 12 0 from c2)) cal_X0_dropGradesFrom vi_X0_dropGradesFrom ml_Sp_248 (hR.1.k1 w72) ⟨by decide, by decide, rfl⟩ rfl rfl (Nat.le_of_ble_eq_true rfl) ⟨by decide, by decide⟩ ⟨(by first | omega | (dsimp only; omega) | exact Nat.le_of_ble_eq_true rfl), (by first | omega | (dsimp only; omega) | exact Nat.le_of_ble_eq_true rfl)⟩ dX5_grade_76 (fun E S9 h => nomatch h.1) (fun v9 S9 h => ?_)
          obtain ⟨h, hR2⟩ := h
          cases h
          have hR := hR.tr hR2
          clear hR2
          refine j_iload C dX5_grade_79 rfl ?_
          refine j_iret C ME ?_ (by first | omega | exact Nat.le_of_ble_eq_true rfl) (by first | omega | exact Nat.le_of_ble_eq_true rfl) dX5_grade_81
          refine Or.inl ⟨?_, rfl, G, rfl, ?_⟩
          · exact (by clear hR hC ME C; unfold x_grade; (repeat' split) <;> first | rfl | omega | (simp_all; done) | (simp_all; omega))
          · unfold grX
            first
            | (rw [if_pos c68]; exact hR)
            | (rw [if_neg c68]; exact hR)
      · refine j_aload_n C dX5_grade_32 rfl ?_
        refine jg_4_8 C hR (by omega) fl_Sp_236 dX5_grade_33 (fun w33 => ?_)
        refine j_iconst C dX5_grade_36 ?_
        refine j_icmp_ne (tgt := 50) C dX5_grade_37 (by decide) (by unfold rg at *; omega) (by unfold rg at *; omega) (fun c37 => ?_) (fun c37 => ?_)
        · refine j_aload_n C dX5_grade_50 rfl ?_
          refine j_callV C (k_grade l hfl hR.1 (by omega)) cal_X3_currentGrade vi_X3_currentGrade ml_Sp_241 (hR.1.k4 (by omega)) ⟨by decide, by decide, rfl⟩ rfl rfl (Nat.le_of_ble_eq_true rfl) ⟨by decide, by decide⟩ ⟨(by first | omega | (dsimp only; omega) | exact Nat.le_of_ble_eq_true rfl), (by first | omega | (dsimp only; omega) | exact Nat.le_of_ble_eq_true rfl)⟩ dX5_grade_51 (fun E S9 h => nomatch h.1) (fun v9 S9 h => ?_)
          obtain ⟨h, h9⟩ := h
          have h9 := h9.symm
          subst h9
          cases h
          refine j_istore C dX5_grade_54 (by decide) ?_
          refine j_aload_n C dX5_grade_56 rfl ?_
          refine j_iload_n C dX5_grade_57 rfl ?_
          refine jp_4_8 C hR (by omega) (by omega) fl_Sp_236 dX5_grade_58 (fun S2 hR => ?_)
          refine j_aload_n C dX5_grade_61 rfl ?_
          refine j_null C dX5_grade_62 ?_
          refine jp_4_9N C hR (show 0 ≤ z ∧ z < X 12 0 from c2) fl_Sp_244 dX5_grade_63 (fun S2 hR => ?_)
          refine j_iload_n C dX5_grade_66 rfl ?_
          refine j_iconst C dX5_grade_67 ?_
          refine j_icmp_ne (tgt := 79) C dX5_grade_68 (by decide) (by unfold rg at *; omega) (by unfold rg at *; omega) (fun c68 => ?_) (fun c68 => ?_)
          · refine j_iload C dX5_grade_79 rfl ?_
            refine j_iret C ME ?_ (by first | omega | exact Nat.le_of_ble_eq_true rfl) (by first | omega | exact Nat.le_of_ble_eq_true rfl) dX5_grade_81
            refine Or.inl ⟨?_, rfl, G, rfl, ?_⟩
            · exact (by clear hR hC ME C; unfold x_grade; (repeat' split) <;> first | rfl | omega | (simp_all; done) | (simp_all; omega))
            · unfold grX
              first
              | (rw [if_pos c68]; exact hR)
              | (rw [if_neg c68]; exact hR)
          · refine j_aload_n C dX5_grade_71 rfl ?_
            refine jg_4_0 C hR (show 0 ≤ z ∧ z < X 12 0 from c2) fl_Sp_100 dX5_grade_72 (fun w72 => ?_)
            refine j_aload_n C dX5_grade_75 rfl ?_
            refine j_callV C (u_drop l hfl hR.1 w72 (show 0 ≤ z ∧ z < X 12 0 from c2)) cal_X0_dropGradesFrom vi_X0_dropGradesFrom ml_Sp_248 (hR.1.k1 w72) ⟨by decide, by decide, rfl⟩ rfl rfl (Nat.le_of_ble_eq_true rfl) ⟨by decide, by decide⟩ ⟨(by first | omega | (dsimp only; omega) | exact Nat.le_of_ble_eq_true rfl), (by first | omega | (dsimp only; omega) | exact Nat.le_of_ble_eq_true rfl)⟩ dX5_grade_76 (fun E S9 h => nomatch h.1) (fun v9 S9 h => ?_)
            obtain ⟨h, hR2⟩ := h
            cases h
            have hR := hR.tr hR2
            clear hR2
            refine j_iload C dX5_grade_79 rfl ?_
            refine j_iret C ME ?_ (by first | omega | exact Nat.le_of_ble_eq_true rfl) (by first | omega | exact Nat.le_of_ble_eq_true rfl) dX5_grade_81
            refine Or.inl ⟨?_, rfl, G, rfl, ?_⟩
            · exact (by clear hR hC ME C; unfold x_grade; (repeat' split) <;> first | rfl | omega | (simp_all; done) | (simp_all; omega))
            · unfold grX
              first
              | (rw [if_pos c68]; exact hR)
              | (rw [if_neg c68]; exact hR)
        · refine j_throwS (text := "no grade of its own") C ME thr_UOE cl_Sp_114 ini_UOE (by decide +kernel) ?_ dX5_grade_40 dX5_grade_43 dX5_grade_44 dX5_grade_46 dX5_grade_49 ⟨by decide, (Nat.le_of_ble_eq_true rfl), (by first | omega | (dsimp only; omega) | exact Nat.le_of_ble_eq_true rfl), (by first | omega | (dsimp only; omega) | exact Nat.le_of_ble_eq_true rfl)⟩ (by omega) (by omega)
          exact Or.inr ⟨2, _, rfl, (by clear hR hC ME C; (try clear key); (try clear ih); unfold x_grade; (repeat' split) <;> first | rfl | omega | (simp_all; done) | (simp_all; omega)), rfl, rfl⟩
    · refine j_throwS (text := "no such grade") C ME thr_IAE cl_Sp_101 ini_IAE (by decide +kernel) ?_ dX5_grade_17 dX5_grade_20 dX5_grade_21 dX5_grade_23 dX5_grade_26 ⟨by decide, (Nat.le_of_ble_eq_true rfl), (by first | omega | (dsimp only; omega) | exact Nat.le_of_ble_eq_true rfl), (by first | omega | (dsimp only; omega) | exact Nat.le_of_ble_eq_true rfl)⟩ (by omega) (by omega)
      exact Or.inr ⟨1, _, rfl, (by clear hR hC ME C; (try clear key); (try clear ih); unfold x_grade; (repeat' split) <;> first | rfl | omega | (simp_all; done) | (simp_all; omega)), rfl, rfl⟩

set_option maxHeartbeats 4000000 in
set_option maxRecDepth 100000 in
theorem p_mend (l : Launch) (hfl : l.stackTraces = false) {S : wS} {E0 : Nat} {G : wG} {X : wM} (hC : RC E0 S G X) {r z : Int} (h_r : rg r)  (h_z : rg z)  : Ct l yX5_mend cX5_mend 6 (some FieldType.int) 20 100 6000 [.ref (G 6 0), .int (iN r), .int (iN z)] S (pubP E0 S G (cx_mend X r z) ["java/lang/IndexOutOfBoundsException", "java/lang/UnsupportedOperationException"] (some (.int (iN (X 31 (X 14 (60 * r + z)))))) (tfX (mup X 31 (X 14 (60 * r + z)) 0) (X 14 (60 * r + z)))) := by
  refine Ct.of cal_X5_mend hfl (Nat.le_of_ble_eq_true rfl) ?_
  intro p e s m args below meth c D sz C ME
  have hR : RCF E0 S S G X := ⟨hC, cF.rf⟩
  have w6 := hC.w6
  unfold wf6 at w6
  refine j_aload_n C dX5_mend_0 rfl ?_
  refine j_iload_n C dX5_mend_1 rfl ?_
  refine j_callV C (n_reel l hfl hR.1 (by unfold rg at *; omega)) cal_X5_reelNumbered vi_X5_reelNumbered ml_Sp_88 (hR.1.k6) ⟨by decide, by decide, rfl⟩ rfl rfl (Nat.le_of_ble_eq_true rfl) ⟨by decide, by decide⟩ ⟨(by first | omega | (dsimp only; omega) | exact Nat.le_of_ble_eq_true rfl), (by first | omega | (dsimp only; omega) | exact Nat.le_of_ble_eq_true rfl)⟩ dX5_mend_2 (fun E S9 h => ?_) (fun v9 S9 h => ?_)
  · obtain ⟨h9, h | h⟩ := h
    · exact nomatch h.2
    · obtain ⟨c2, h⟩ := h
      have h9 := h9.symm
      subst h9
      cases h
      refine j_out C ME ?_ (by omega) (by omega)
      exact Or.inr ⟨0, _, rfl, (by clear hR hC ME C; (try clear key); (try clear ih); unfold cx_mend; (repeat' split) <;> first | rfl | omega | (simp_all; done) | (simp_all; omega)), rfl, rfl⟩
  obtain ⟨h9, h | h⟩ := h
  rotate_left
  · exact nomatch h.2
  obtain ⟨c2, h⟩ := h
  have h9 := h9.symm
  subst h9
  cases h
  have wf := hC.w3 c2
  unfold wf3 at wf
  refine j_astore_n C dX5_mend_5 (by decide) ?_
  refine j_aload_n C dX5_mend_6 rfl ?_
  refine j_aload_n C dX5_mend_7 rfl ?_
  refine j_iload_n C dX5_mend_8 rfl ?_
  refine j_callV C (n_splice l hfl hR.1 (by omega) (by unfold rg at *; omega)) cal_X5_shotAheadOfSplice vi_X5_shotAheadOfSplice ml_Sp_202 (hR.1.k6) ⟨by decide, by decide, rfl⟩ rfl rfl (Nat.le_of_ble_eq_true rfl) ⟨by decide, by decide⟩ ⟨(by first | omega | (dsimp only; omega) | exact Nat.le_of_ble_eq_true rfl), (by first | omega | (dsimp only; omega) | exact Nat.le_of_ble_eq_true rfl)⟩ dX5_mend_9 (fun E S9 h => ?_) (fun v9 S9 h => ?_)
  · obtain ⟨h9, h | h⟩ := h
    · exact nomatch h.2
    · obtain ⟨c9, h⟩ := h
      have h9 := h9.symm
      subst h9
      cases h
      refine j_out C ME ?_ (by omega) (by omega)
      exact Or.inr ⟨0, _, rfl, (by clear hR hC ME C; (try clear key); (try clear ih); unfold cx_mend; (repeat' split) <;> first | rfl | omega | (simp_all; done) | (simp_all; omega)), rfl, rfl⟩
  obtain ⟨h9, h | h⟩ := h
  rotate_left
  · exact nomatch h.2
  obtain ⟨c9, h⟩ := h
  have h9 := h9.symm
  subst h9
  cases h
  have hs9 := wf.2.2 z (by omega) (by omega)
  refine j_astore C dX5_mend_12 (by decide) ?_
  refine j_aload C dX5_mend_14 rfl ?_
  refine jg_4_3 C hR (by omega) fl_Sp_153 dX5_mend_16 (fun w16 => ?_)
  refine j_iconst C dX5_mend_19 ?_
  refine j_icmp_ge (tgt := 33) C dX5_mend_20 (by decide) (by unfold rg at *; omega) (by unfold rg at *; omega) (fun c20 => ?_) (fun c20 => ?_)
  · refine j_aload_n C dX5_mend_33 rfl ?_
    refine j_aload_n C dX5_mend_34 rfl ?_
    refine jg_3_0 C hR (by omega) fl_Sp_96 dX5_mend_35 (fun w35 => ?_)
    refine j_callV C (n_lent l hfl hR.1 (by omega)) cal_X5_requireNotLent vi_X5_requireNotLent ml_Sp_119 (hR.1.k6) ⟨by decide, by decide, rfl⟩ rfl rfl (Nat.le_of_ble_eq_true rfl) ⟨by decide, by decide⟩ ⟨(by first | omega | (dsimp only; omega) | exact Nat.le_of_ble_eq_true rfl), (by first | omega | (dsimp only; omega) | exact Nat.le_of_ble_eq_true rfl)⟩ dX5_mend_38 (fun E S9 h => ?_) (fun v9 S9 h => ?_)
    · obtain ⟨h9, h | h⟩ := h
      · exact nomatch h.2
      · obtain ⟨c38, h⟩ := h
        have h9 := h9.symm
        subst h9
        cases h
        refine j_out C ME ?_ (by omega) (by omega)
        exact Or.inr ⟨1, _, rfl, (by clear hR hC ME C; (try clear key); (try clear ih); unfold cx_mend; (repeat' split) <;> first | rfl | omega | (simp_all; done) | (simp_all; omega)), rfl, rfl⟩
    obtain ⟨h9, h | h⟩ := h
    rotate_left
    · exact nomatch h.2
    obtain ⟨c38, h⟩ := h
    have h9 := h9.symm
    subst h9
    cases h
    refine j_aload C dX5_mend_41 rfl ?_
    refine jg_4_5 C hR (by omega) fl_Sp_206 dX5_mend_43 (fun w43 => ?_)
    refine j_istore C dX5_mend_46 (by decide) ?_
    refine j_aload C dX5_mend_48 rfl ?_
    refine j_iconst C dX5_mend_50 ?_
    refine jp_4_5 C hR (by omega) (by omega) fl_Sp_206 dX5_mend_51 (fun S2 hR => ?_)
    refine j_aload_n C dX5_mend_54 rfl ?_
    refine j_aload C dX5_mend_55 rfl ?_
    refine j_callV C (u_tlf l hfl hR.1 (show 0 ≤ (X 14 (60 * r + z)) ∧ (X 14 (60 * r + z)) < X 12 0 from hs9) (show 2 ≤ X 5 (X 14 (60 * r + z)) by omega)) cal_X5_takeLastFrame vi_X5_takeLastFrame ml_Sp_211 (hR.1.k6) ⟨by decide, by decide, rfl⟩ rfl rfl (Nat.le_of_ble_eq_true rfl) ⟨by decide, by decide⟩ ⟨(by first | omega | (dsimp only; omega) | exact Nat.le_of_ble_eq_true rfl), (by first | omega | (dsimp only; omega) | exact Nat.le_of_ble_eq_true rfl)⟩ dX5_mend_57 (fun E S9 h => nomatch h.1) (fun v9 S9 h => ?_)
    obtain ⟨h, hR2⟩ := h
    cases h
    have hR := hR.tr hR2
    clear hR2
    refine j_iload C dX5_mend_60 rfl ?_
    refine j_iret C ME ?_ (by first | omega | exact Nat.le_of_ble_eq_true rfl) (by first | omega | exact Nat.le_of_ble_eq_true rfl) dX5_mend_62
    refine Or.inl ⟨?_, ?_, G, rfl, hR⟩
    · exact (by clear hR hC ME C; (try clear key); (try clear ih); unfold cx_mend; (repeat' split) <;> first | rfl | omega | (simp_all; done) | (simp_all; omega))
    · first | rfl | exact rI (by first | rfl | omega | (simp_all; done) | (simp_all; omega))
  · refine j_throwS (text := "the shot ahead has one frame") C ME thr_UOE cl_Sp_114 ini_UOE (by decide +kernel) ?_ dX5_mend_23 dX5_mend_26 dX5_mend_27 dX5_mend_29 dX5_mend_32 ⟨by decide, (Nat.le_of_ble_eq_true rfl), (by first | omega | (dsimp only; omega) | exact Nat.le_of_ble_eq_true rfl), (by first | omega | (dsimp only; omega) | exact Nat.le_of_ble_eq_true rfl)⟩ (by omega) (by omega)
    exact Or.inr ⟨1, _, rfl, (by clear hR hC ME C; (try clear key); (try clear ih); unfold cx_mend; (repeat' split) <;> first | rfl | omega | (simp_all; done) | (simp_all; omega)), rfl, rfl⟩

set_option maxHeartbeats 4000000 in
set_option maxRecDepth 100000 in
theorem p_scan (l : Launch) (hfl : l.stackTraces = false) {S : wS} {E0 : Nat} {G : wG} {X : wM} (hC : RC E0 S G X) {r z : Int} (h_r : rg r)  (h_z : rg z)  : Ct l yX5_scan cX5_scan 7 (some FieldType.int) 20 100 6000 [.ref (G 6 0), .int (iN r), .int (iN z)] S (pubP E0 S G (cx_scan X r z) ["java/lang/IndexOutOfBoundsException", "java/lang/IllegalArgumentException", "java/lang/UnsupportedOperationException"] (some (.int (iN (sumI (fun k : Nat => lostX X r k) (X 16 r).toNat)))) (scX X r z (X 16 r).toNat)) := by
  refine Ct.of cal_X5_scan hfl (Nat.le_of_ble_eq_true rfl) ?_
  intro p e s m args below meth c D sz C ME
  have hR : RCF E0 S S G X := ⟨hC, cF.rf⟩
  have w6 := hC.w6
  unfold wf6 at w6
  refine j_aload_n C dX5_scan_0 rfl ?_
  refine j_iload_n C dX5_scan_1 rfl ?_
  refine j_callV C (n_reel l hfl hR.1 (by unfold rg at *; omega)) cal_X5_reelNumbered vi_X5_reelNumbered ml_Sp_88 (hR.1.k6) ⟨by decide, by decide, rfl⟩ rfl rfl (Nat.le_of_ble_eq_true rfl) ⟨by decide, by decide⟩ ⟨(by first | omega | (dsimp only; omega) | exact Nat.le_of_ble_eq_true rfl), (by first | omega | (dsimp only; omega) | exact Nat.le_of_ble_eq_true rfl)⟩ dX5_scan_2 (fun E S9 h => ?_) (fun v9 S9 h => ?_)
  · obtain ⟨h9, h | h⟩ := h
    · exact nomatch h.2
    · obtain ⟨c2, h⟩ := h
      have h9 := h9.symm
      subst h9
      cases h
      refine j_out C ME ?_ (by omega) (by omega)
      exact Or.inr ⟨0, _, rfl, (by clear hR hC ME C; (try clear key); (try clear ih); unfold cx_scan; (repeat' split) <;> first | rfl | omega | (simp_all; done) | (simp_all; omega)), rfl, rfl⟩
  obtain ⟨h9, h | h⟩ := h
  rotate_left
  · exact nomatch h.2
  obtain ⟨c2, h⟩ := h
  have h9 := h9.symm
  subst h9
  cases h
  have wf := hC.w3 c2
  unfold wf3 at wf
  refine j_astore_n C dX5_scan_5 (by decide) ?_
  refine j_iload_n C dX5_scan_6 rfl ?_
  refine j_iconst C dX5_scan_7 ?_
  refine j_icmp_lt (tgt := 16) C dX5_scan_8 (by decide) (by unfold rg at *; omega) (by unfold rg at *; omega) (fun c8 => ?_) (fun c8 => ?_)
  · refine j_throwS (text := "no such size") C ME thr_IAE cl_Sp_101 ini_IAE (by decide +kernel) ?_ dX5_scan_16 dX5_scan_19 dX5_scan_20 dX5_scan_22 dX5_scan_25 ⟨by decide, (Nat.le_of_ble_eq_true rfl), (by first | omega | (dsimp only; omega) | exact Nat.le_of_ble_eq_true rfl), (by first | omega | (dsimp only; omega) | exact Nat.le_of_ble_eq_true rfl)⟩ (by omega) (by omega)
    exact Or.inr ⟨1, _, rfl, (by clear hR hC ME C; (try clear key); (try clear ih); unfold cx_scan; (repeat' split) <;> first | rfl | omega | (simp_all; done) | (simp_all; omega)), rfl, rfl⟩
  · refine j_iload_n C dX5_scan_11 rfl ?_
    refine j_iconst C dX5_scan_12 ?_
    refine j_icmp_le (tgt := 26) C dX5_scan_13 (by decide) (by unfold rg at *; omega) (by unfold rg at *; omega) (fun c13 => ?_) (fun c13 => ?_)
    · refine j_aload_n C dX5_scan_26 rfl ?_
      refine jg_3_2 C hR (by omega) fl_Sp_127 dX5_scan_27 ?_
      refine j_callV C (e_rrow l hfl hR.1 (by omega)) cal_Jx4a65c_isEmpty_aae02 vi_Jx4a65c_isEmpty_aae02 ml_Sp_216 (hR.1.q_rrow (by omega)) ⟨by decide, by decide, rfl⟩ rfl rfl (Nat.le_of_ble_eq_true rfl) ⟨by decide, by decide⟩ ⟨(by first | omega | (dsimp only; omega) | exact Nat.le_of_ble_eq_true rfl), (by first | omega | (dsimp only; omega) | exact Nat.le_of_ble_eq_true rfl)⟩ dX5_scan_30 (fun E S9 h => nomatch h.1) (fun v9 S9 h => ?_)
      obtain ⟨h, h9⟩ := h
      have h9 := h9.symm
      subst h9
      cases h
      refine j_ifeq_b (tgt := 46) C dX5_scan_33 (by decide) (fun c33 => ?_) (fun c33 => ?_)
      · have c33 := of_decide_eq_false c33
        refine j_aload_n C dX5_scan_46 rfl ?_
        refine j_aload_n C dX5_scan_47 rfl ?_
        refine jg_3_0 C hR (by omega) fl_Sp_96 dX5_scan_48 (fun w48 => ?_)
        refine j_callV C (n_lent l hfl hR.1 (by omega)) cal_X5_requireNotLent vi_X5_requireNotLent ml_Sp_119 (hR.1.k6) ⟨by decide, by decide, rfl⟩ rfl rfl (Nat.le_of_ble_eq_true rfl) ⟨by decide, by decide⟩ ⟨(by first | omega | (dsimp only; omega) | exact Nat.le_of_ble_eq_true rfl), (by first | omega | (dsimp only; omega) | exact Nat.le_of_ble_eq_true rfl)⟩ dX5_scan_51 (fun E S9 h => ?_) (fun v9 S9 h => ?_)
        · obtain ⟨h9, h | h⟩ := h
          · exact nomatch h.2
          · obtain ⟨c51, h⟩ := h
            have h9 := h9.symm
            subst h9
            cases h
            refine j_out C ME ?_ (by omega) (by omega)
            exact Or.inr ⟨2, _, rfl, (by clear hR hC ME C; (try clear key); (try clear ih); unfold cx_scan; (repeat' split) <;> first | rfl | omega | (simp_all; done) | (simp_all; omega)), rfl, rfl⟩
        obtain ⟨h9, h | h⟩ := h
        rotate_left
        · exact nomatch h.2
        obtain ⟨c51, h⟩ := h
        have h9 := h9.symm
        subst h9
        cases h
        refine j_iconst C dX5_scan_54 ?_
        refine j_istore C dX5_scan_55 (by decide) ?_
        refine j_iconst C dX5_scan_57 ?_
        refine j_istore C dX5_scan_58 (by decide) ?_
        have key : ∀ (fuel : Nat) (i : Nat) (S2 : wS), X 16 r - i < fuel → (i : Int) ≤ X 16 r → RCF E0 S S2 G (scX X r z i) → J p l e { frames := 20 * 20, cells := 100, slots := 6000, locals := 200 * 20 } s m args below meth c 7 D (wA S sz) (wQ below D sz S (pubP E0 S G (cx_scan X r z) ["java/lang/IndexOutOfBoundsException", "java/lang/IllegalArgumentException", "java/lang/UnsupportedOperationException"] (some (.int (iN (sumI (fun k : Nat => lostX X r k) (X 16 r).toNat)))) (scX X r z (X 16 r).toNat)) args s 100 6000) 60 [(0, .ref (G 6 0)), (1, .int (iN r)), (2, .int (iN z)), (3, .ref (G 3 r)), (4, .int (iN (sumI (fun k => lostX X r k) i))), (5, .int (iN ((i : Nat) : Int)))] [] S2 50 3000 := by
          intro fuel
          induction fuel with
          | zero => intro i S2 h1 h2 hR; omega
          | succ fuel ih =>
            intro i S2 h1 h2 hR
            have e16 : scX X r z i 16 r = X 16 r := scX_o (by decide) (by decide) i
            have e17 : scX X r z i 17 0 = X 17 0 := scX_o (by decide) (by decide) i
            have e12 : scX X r z i 12 0 = X 12 0 := scX_o (by decide) (by decide) i
            have e14 : scX X r z i 14 (60 * r + (i : Int)) = X 14 (60 * r + (i : Int)) := scX_o (by decide) (by decide) i
            have e5 : scX X r z i 5 (X 14 (60 * r + (i : Int))) = X 5 (X 14 (60 * r + (i : Int))) := scX_o (by decide) (by decide) i
            have hsb : 0 ≤ sumI (fun k => lostX X r k) i ∧ sumI (fun k => lostX X r k) i ≤ i * 2 := sumI_bound (fun k hk => lostX_b hC (by omega) (by omega))
            refine j_iload C dX5_scan_60 rfl ?_
            refine j_aload_n C dX5_scan_62 rfl ?_
            refine jg_3_2 C hR (by omega) fl_Sp_127 dX5_scan_63 ?_
            refine j_callV C (z_rrow l hfl hR.1 (by omega)) cal_Jx4a65c_size_8abf5 vi_Jx4a65c_size_8abf5 ml_Sp_39 (hR.1.q_rrow (by omega)) ⟨by decide, by decide, rfl⟩ rfl rfl (Nat.le_of_ble_eq_true rfl) ⟨by decide, by decide⟩ ⟨(by first | omega | (dsimp only; omega) | exact Nat.le_of_ble_eq_true rfl), (by first | omega | (dsimp only; omega) | exact Nat.le_of_ble_eq_true rfl)⟩ dX5_scan_66 (fun E S9 h => nomatch h.1) (fun v9 S9 h => ?_)
            obtain ⟨h, h9⟩ := h
            have h9 := h9.symm
            subst h9
            cases h
            rw [e16]
            refine j_icmp_ge (tgt := 112) C dX5_scan_69 (by decide) (by unfold rg at *; omega) (by unfold rg at *; omega) (fun c69 => ?_) (fun c69 => ?_)
            · refine j_iload C dX5_scan_112 rfl ?_
              refine j_iret C ME ?_ (by first | omega | exact Nat.le_of_ble_eq_true rfl) (by first | omega | exact Nat.le_of_ble_eq_true rfl) dX5_scan_114
              have e : (X 16 r).toNat = i := by omega
              refine Or.inl ⟨?_, ?_, G, rfl, ?_⟩
              · exact (by clear hR hC ME C; (try clear key); (try clear ih); (try clear hsb); unfold cx_scan; (repeat' split) <;> first | rfl | omega | (simp_all; done) | (simp_all; omega))
              · rw [e]
              · rw [e]; exact hR
            · refine j_aload_n C dX5_scan_72 rfl ?_
              refine j_aload_n C dX5_scan_73 rfl ?_
              refine j_iload C dX5_scan_74 rfl ?_
              refine j_callV C (k_lost l hfl hR.1 (by omega) (by omega)) cal_X5_framesLostAt vi_X5_framesLostAt ml_Sp_221 (hR.1.k6) ⟨by decide, by decide, rfl⟩ rfl rfl (Nat.le_of_ble_eq_true rfl) ⟨by decide, by decide⟩ ⟨(by first | omega | (dsimp only; omega) | exact Nat.le_of_ble_eq_true rfl), (by first | omega | (dsimp only; omega) | exact Nat.le_of_ble_eq_true rfl)⟩ dX5_scan_76 (fun E S9 h => nomatch h.1) (fun v9 S9 h => ?_)
              obtain ⟨h, h9⟩ := h
              have h9 := h9.symm
              subst h9
              cases h
              have hlb := lostX_b hC (r := r) (k := (i : Int)) (by omega) (by omega)
              rw [show min (bN (wornX (scX X r z i) r ((i : Int) - 1)) + bN (wornX (scX X r z i) r (i : Int))) (scX X r z i 5 (scX X r z i 14 (60 * r + (i : Int)))) = lostX X r i by unfold lostX; rw [worn_sc, worn_sc, e14, e5]]
              refine j_istore C dX5_scan_79 (by decide) ?_
              refine j_aload_n C dX5_scan_81 rfl ?_
              refine jg_3_2 C hR (by omega) fl_Sp_127 dX5_scan_82 ?_
              refine j_iload C dX5_scan_85 rfl ?_
              refine j_callV C (g_rrow l hfl hR.1 (by omega) (by omega)) cal_Jx4a65c_get_915e3 vi_Jx4a65c_get_915e3 ml_Sp_146 (hR.1.q_rrow (by omega)) ⟨by decide, by decide, rfl⟩ rfl rfl (Nat.le_of_ble_eq_true rfl) ⟨by decide, by decide⟩ ⟨(by first | omega | (dsimp only; omega) | exact Nat.le_of_ble_eq_true rfl), (by first | omega | (dsimp only; omega) | exact Nat.le_of_ble_eq_true rfl)⟩ dX5_scan_87 (fun E S9 h => nomatch h.1) (fun v9 S9 h => ?_)
              obtain ⟨h, h9, w87⟩ := h
              have h9 := h9.symm
              subst h9
              cases h
              rw [e14] at w87 ⊢
              refine j_cast (kd := 4) C (hR.1.k4 (by omega)) ⟨by decide, by decide⟩ cl_Sp_75 dX5_scan_90 ?_
              refine j_iload_n C dX5_scan_93 rfl ?_
              refine j_iload C dX5_scan_94 rfl ?_
              refine j_callV C (u_takeScan l hfl hR.1 w87 (by omega) (by omega)) cal_X3_takeScan vi_X3_takeScan ml_Sp_225 (hR.1.k4 (by omega)) ⟨by decide, by decide, rfl⟩ rfl rfl (Nat.le_of_ble_eq_true rfl) ⟨by decide, by decide⟩ ⟨(by first | omega | (dsimp only; omega) | exact Nat.le_of_ble_eq_true rfl), (by first | omega | (dsimp only; omega) | exact Nat.le_of_ble_eq_true rfl)⟩ dX5_scan_96 (fun E S9 h => nomatch h.1) (fun v9 S9 h => ?_)
              obtain ⟨h, hR2⟩ := h
              cases h
              have hR := hR.tr hR2
              clear hR2
              refine j_iload C dX5_scan_99 rfl ?_
              refine j_iload C dX5_scan_101 rfl ?_
              refine j_iadd C dX5_scan_103 ?_
              refine j_istore C dX5_scan_104 (by decide) ?_
              refine j_iinc C dX5_scan_106 rfl (by decide) ?_
              refine j_goto (tgt := 60) C dX5_scan_109 (by decide) ?_
              refine J.lvs (lv' := [(0, .ref (G 6 0)), (1, .int (iN r)), (2, .int (iN z)), (3, .ref (G 3 r)), (4, .int (iN (sumI (fun k => lostX X r k) (i + 1)))), (5, .int (iN (((i + 1) : Nat) : Int)))]) ?_ ((ih (i + 1) _ (by omega) (by omega) hR))
              intro q hq; simp only [List.mem_cons, List.not_mem_nil, or_false] at hq; rcases hq with rfl | rfl | rfl | rfl | rfl | rfl <;> rfl
        refine J.lvs (lv' := [(0, .ref (G 6 0)), (1, .int (iN r)), (2, .int (iN z)), (3, .ref (G 3 r)), (4, .int (iN (sumI (fun k => lostX X r k) 0))), (5, .int (iN ((0 : Nat) : Int)))]) ?_ (J.widen (by first | omega | exact Nat.le_of_ble_eq_true rfl) (by first | omega | exact Nat.le_of_ble_eq_true rfl) (key ((X 16 r).toNat + 1) 0 _ (by omega) (by omega) hR))
        intro q hq; simp only [List.mem_cons, List.not_mem_nil, or_false] at hq; rcases hq with rfl | rfl | rfl | rfl | rfl | rfl <;> rfl
      · have c33 := of_decide_eq_true c33
        refine j_throwS (text := "the reel is empty") C ME thr_UOE cl_Sp_114 ini_UOE (by decide +kernel) ?_ dX5_scan_36 dX5_scan_39 dX5_scan_40 dX5_scan_42 dX5_scan_45 ⟨by decide, (Nat.le_of_ble_eq_true rfl), (by first | omega | (dsimp only; omega) | exact Nat.le_of_ble_eq_true rfl), (by first | omega | (dsimp only; omega) | exact Nat.le_of_ble_eq_true rfl)⟩ (by omega) (by omega)
        exact Or.inr ⟨2, _, rfl, (by clear hR hC ME C; (try clear key); (try clear ih); unfold cx_scan; (repeat' split) <;> first | rfl | omega | (simp_all; done) | (simp_all; omega)), rfl, rfl⟩
    · refine j_throwS (text := "no such size") C ME thr_IAE cl_Sp_101 ini_IAE (by decide +kernel) ?_ dX5_scan_16 dX5_scan_19 dX5_scan_20 dX5_scan_22 dX5_scan_25 ⟨by decide, (Nat.le_of_ble_eq_true rfl), (by first | omega | (dsimp only; omega) | exact Nat.le_of_ble_eq_true rfl), (by first | omega | (dsimp only; omega) | exact Nat.le_of_ble_eq_true rfl)⟩ (by omega) (by omega)
      exact Or.inr ⟨1, _, rfl, (by clear hR hC ME C; (try clear key); (try clear ih); unfold cx_scan; (repeat' split) <;> first | rfl | omega | (simp_all; done) | (simp_all; omega)), rfl, rfl⟩

set_option maxHeartbeats 4000000 in
set_option maxRecDepth 100000 in
theorem p_shown (l : Launch) (hfl : l.stackTraces = false) {S : wS} {E0 : Nat} {G : wG} {X : wM} (hC : RC E0 S G X) : Ct l yX5_shown cX5_shown 1 (some FieldType.long) 20 100 6000 [.ref (G 6 0)] S (pubP E0 S G 0 [] (some (.long (iL (X 30 0)))) X) := by
  refine Ct.of cal_X5_shown hfl (Nat.le_of_ble_eq_true rfl) ?_
  intro p e s m args below meth c D sz C ME
  have hR : RCF E0 S S G X := ⟨hC, cF.rf⟩
  refine j_aload_n C dX5_shown_0 rfl ?_
  refine jg_6_7 C hR fl_Sp_35 dX5_shown_1 ?_
  refine j_lret C ME ?_ (by first | omega | exact Nat.le_of_ble_eq_true rfl) (by first | omega | exact Nat.le_of_ble_eq_true rfl) dX5_shown_4
  exact Or.inl ⟨rfl, rfl, G, rfl, hR⟩

set_option maxHeartbeats 4000000 in
set_option maxRecDepth 100000 in
theorem p_keptShare (l : Launch) (hfl : l.stackTraces = false) {S : wS} {E0 : Nat} {G : wG} {X : wM} (hC : RC E0 S G X)  : Ct l yX5_keptShare cX5_keptShare 4 (some FieldType.float) 20 100 6000 [.ref (G 6 0)] S (pubP E0 S G (x_keptShare X) ["java/lang/ArithmeticException"] (some (.float (v_keptShare X))) (X)) := by
  refine Ct.of cal_X5_keptShare hfl (Nat.le_of_ble_eq_true rfl) ?_
  intro p e s m args below meth c D sz C ME
  have hR : RCF E0 S S G X := ⟨hC, cF.rf⟩
  have w6 := hC.w6
  unfold wf6 at w6
  refine j_aload_n C dX5_keptShare_0 rfl ?_
  refine jg_6_1 C hR fl_Sp_16 dX5_keptShare_1 ?_
  refine j_callV C (z_L1 l hfl hR.1 ) cal_Jx4a65c_size_8abf5 vi_Jx4a65c_size_8abf5 ml_Sp_39 (hR.1.q_L1 ) ⟨by decide, by decide, rfl⟩ rfl rfl (Nat.le_of_ble_eq_true rfl) ⟨by decide, by decide⟩ ⟨(by first | omega | (dsimp only; omega) | exact Nat.le_of_ble_eq_true rfl), (by first | omega | (dsimp only; omega) | exact Nat.le_of_ble_eq_true rfl)⟩ dX5_keptShare_4 (fun E S9 h => nomatch h.1) (fun v9 S9 h => ?_)
  obtain ⟨h, h9⟩ := h
  have h9 := h9.symm
  subst h9
  cases h
  refine j_istore_n C dX5_keptShare_7 (by decide) ?_
  refine j_iload_n C dX5_keptShare_8 rfl ?_
  refine j_if_ne (tgt := 23) C dX5_keptShare_9 (by decide) (by unfold rg at *; omega) (fun c9 => ?_) (fun c9 => ?_)
  · refine j_iconst C dX5_keptShare_23 ?_
    refine j_istore_n C dX5_keptShare_24 (by decide) ?_
    refine j_iconst C dX5_keptShare_25 ?_
    refine j_istore_n C dX5_keptShare_26 (by decide) ?_
    have key : ∀ (fuel : Nat) (i : Nat), X 12 0 - i < fuel → (i : Int) ≤ X 12 0 → J p l e { frames := 20 * 20, cells := 100, slots := 6000, locals := 200 * 20 } s m args below meth c 4 D (wA S sz) (wQ below D sz S (pubP E0 S G (x_keptShare X) ["java/lang/ArithmeticException"] (some (.float (v_keptShare X))) (X)) args s 100 6000) 27 [(0, .ref (G 6 0)), (1, .int (iN (X 12 0))), (2, .int (iN (keptN X i))), (3, .int (iN ((i : Nat) : Int)))] [] S 0 0 := by
      intro fuel
      induction fuel with
      | zero => intro i h1 h2; omega
      | succ fuel ih =>
        intro i h1 h2
        have hkb := keptN_rg (M := X) (k := i)
        refine j_iload_n C dX5_keptShare_27 rfl ?_
        refine j_iload_n C dX5_keptShare_28 rfl ?_
        refine j_icmp_ge (tgt := 58) C dX5_keptShare_29 (by decide) (by unfold rg at *; omega) (by unfold rg at *; omega) (fun c29 => ?_) (fun c29 => ?_)
        · refine j_iload_n C dX5_keptShare_58 rfl ?_
          refine j_i2f C dX5_keptShare_59 ?_
          refine j_iload_n C dX5_keptShare_60 rfl ?_
          refine j_i2f C dX5_keptShare_61 ?_
          refine j_fdiv C (fp_fdiv (by omega) (show 1 ≤ X 12 0 ∧ X 12 0 ≤ 60 by omega)) dX5_keptShare_62 ?_
          refine j_fret C ME ?_ (by first | omega | exact Nat.le_of_ble_eq_true rfl) (by first | omega | exact Nat.le_of_ble_eq_true rfl) dX5_keptShare_63
          refine Or.inl ⟨?_, ?_, G, rfl, hR⟩
          · exact (by clear hR hC ME C; (try clear key); (try clear ih); unfold x_keptShare; (repeat' split) <;> first | rfl | omega | (simp_all; done) | (simp_all; omega))
          · unfold v_keptShare
            rw [show (X 12 0).toNat = i by omega]
        · refine j_aload_n C dX5_keptShare_32 rfl ?_
          refine jg_6_1 C hR fl_Sp_16 dX5_keptShare_33 ?_
          refine j_iload_n C dX5_keptShare_36 rfl ?_
          refine j_callV C (g_L1 l hfl hR.1 (by omega)) cal_Jx4a65c_get_915e3 vi_Jx4a65c_get_915e3 ml_Sp_146 (hR.1.q_L1 ) ⟨by decide, by decide, rfl⟩ rfl rfl (Nat.le_of_ble_eq_true rfl) ⟨by decide, by decide⟩ ⟨(by first | omega | (dsimp only; omega) | exact Nat.le_of_ble_eq_true rfl), (by first | omega | (dsimp only; omega) | exact Nat.le_of_ble_eq_true rfl)⟩ dX5_keptShare_37 (fun E S9 h => nomatch h.1) (fun v9 S9 h => ?_)
          obtain ⟨h, h9, -⟩ := h
          have h9 := h9.symm
          subst h9
          cases h
          refine j_cast (kd := 4) C (hR.1.k4 (by omega)) ⟨by decide, by decide⟩ cl_Sp_75 dX5_keptShare_40 ?_
          refine j_callV C (k_isMissing l hfl hR.1 (by omega)) cal_X3_isMissing vi_X3_isMissing ml_Sp_106 (hR.1.k4 (by omega)) ⟨by decide, by decide, rfl⟩ rfl rfl (Nat.le_of_ble_eq_true rfl) ⟨by decide, by decide⟩ ⟨(by first | omega | (dsimp only; omega) | exact Nat.le_of_ble_eq_true rfl), (by first | omega | (dsimp only; omega) | exact Nat.le_of_ble_eq_true rfl)⟩ dX5_keptShare_43 (fun E S9 h => nomatch h.1) (fun v9 S9 h => ?_)
          obtain ⟨h, h9⟩ := h
          have h9 := h9.symm
          subst h9
          cases h
          refine j_ifne_b (tgt := 52) C dX5_keptShare_46 (by decide) (fun c46 => ?_) (fun c46 => ?_)
          · refine j_iinc C dX5_keptShare_52 rfl (by decide) ?_
            refine j_goto (tgt := 27) C dX5_keptShare_55 (by decide) ?_
            have e7 : keptN X (i + 1) = keptN X i + (if X 7 i = -1 then 0 else 1) := rfl
            first
            | (have c46b := of_decide_eq_true c46
               rw [if_pos c46b, Int.add_zero] at e7
               refine J.lvs (lv' := [(0, .ref (G 6 0)), (1, .int (iN (X 12 0))), (2, .int (iN (keptN X (i + 1)))), (3, .int (iN (((i + 1) : Nat) : Int)))]) ?_ ((ih (i + 1) (by omega) (by omega)))
               rw [e7]
               intro q hq; simp only [List.mem_cons, List.not_mem_nil, or_false] at hq; rcases hq with rfl | rfl | rfl | rfl <;> rfl)
            | (have c46b := of_decide_eq_false c46
               rw [if_neg c46b] at e7
               refine J.lvs (lv' := [(0, .ref (G 6 0)), (1, .int (iN (X 12 0))), (2, .int (iN (keptN X (i + 1)))), (3, .int (iN (((i + 1) : Nat) : Int)))]) ?_ ((ih (i + 1) (by omega) (by omega)))
               rw [e7]
               intro q hq; simp only [List.mem_cons, List.not_mem_nil, or_false] at hq; rcases hq with rfl | rfl | rfl | rfl <;> rfl)
          · refine j_iinc C dX5_keptShare_49 rfl (by decide) ?_
            refine j_iinc C dX5_keptShare_52 rfl (by decide) ?_
            refine j_goto (tgt := 27) C dX5_keptShare_55 (by decide) ?_
            have e7 : keptN X (i + 1) = keptN X i + (if X 7 i = -1 then 0 else 1) := rfl
            first
            | (have c46b := of_decide_eq_true c46
               rw [if_pos c46b, Int.add_zero] at e7
               refine J.lvs (lv' := [(0, .ref (G 6 0)), (1, .int (iN (X 12 0))), (2, .int (iN (keptN X (i + 1)))), (3, .int (iN (((i + 1) : Nat) : Int)))]) ?_ ((ih (i + 1) (by omega) (by omega)))
               rw [e7]
               intro q hq; simp only [List.mem_cons, List.not_mem_nil, or_false] at hq; rcases hq with rfl | rfl | rfl | rfl <;> rfl)
            | (have c46b := of_decide_eq_false c46
               rw [if_neg c46b] at e7
               refine J.lvs (lv' := [(0, .ref (G 6 0)), (1, .int (iN (X 12 0))), (2, .int (iN (keptN X (i + 1)))), (3, .int (iN (((i + 1) : Nat) : Int)))]) ?_ ((ih (i + 1) (by omega) (by omega)))
               rw [e7]
               intro q hq; simp only [List.mem_cons, List.not_mem_nil, or_false] at hq; rcases hq with rfl | rfl | rfl | rfl <;> rfl)
    refine J.lvs (lv' := [(0, .ref (G 6 0)), (1, .int (iN (X 12 0))), (2, .int (iN (keptN X 0))), (3, .int (iN ((0 : Nat) : Int)))]) ?_ ((key ((X 12 0).toNat + 1) 0 (by omega) (by omega)))
    intro q hq; simp only [List.mem_cons, List.not_mem_nil, or_false] at hq; rcases hq with rfl | rfl | rfl | rfl <;> rfl
  · refine j_throwSW (text := "no shots") C ME thr_ARE cl_Sp_334 ini_ARE (by decide +kernel) ?_ dX5_keptShare_12 dX5_keptShare_15 dX5_keptShare_16 dX5_keptShare_19 dX5_keptShare_22 ⟨by decide, (Nat.le_of_ble_eq_true rfl), (by first | omega | (dsimp only; omega) | exact Nat.le_of_ble_eq_true rfl), (by first | omega | (dsimp only; omega) | exact Nat.le_of_ble_eq_true rfl)⟩ (by omega) (by omega)
    exact Or.inr ⟨0, _, rfl, (by clear hR hC ME C; (try clear key); (try clear ih); unfold x_keptShare; (repeat' split) <;> first | rfl | omega | (simp_all; done) | (simp_all; omega)), rfl, rfl⟩

set_option maxHeartbeats 4000000 in
set_option maxRecDepth 100000 in
theorem p_meanWear (l : Launch) (hfl : l.stackTraces = false) {S : wS} {E0 : Nat} {G : wG} {X : wM} (hC : RC E0 S G X)  : Ct l yX5_meanWear cX5_meanWear 5 (some FieldType.double) 20 100 6000 [.ref (G 6 0)] S (pubP E0 S G (cx_meanWear X) ["java/lang/ArithmeticException"] (some (.double (FP.ddiv (FP.i2d (iN (meanXs X (X 17 0).toNat))) (FP.i2d (iN (meanXn X (X 17 0).toNat)))))) (X)) := by
  refine Ct.of cal_X5_meanWear hfl (Nat.le_of_ble_eq_true rfl) ?_
  intro p e s m args below meth c D sz C ME
  have hR : RCF E0 S S G X := ⟨hC, cF.rf⟩
  have w6 := hC.w6
  unfold wf6 at w6
  refine j_iconst C dX5_meanWear_0 ?_
  refine j_istore_n C dX5_meanWear_1 (by decide) ?_
  refine j_iconst C dX5_meanWear_2 ?_
  refine j_istore_n C dX5_meanWear_3 (by decide) ?_
  refine j_iconst C dX5_meanWear_4 ?_
  refine j_istore_n C dX5_meanWear_5 (by decide) ?_
  have key : ∀ (fuel : Nat) (i : Nat), X 17 0 - i < fuel → (i : Int) ≤ X 17 0 → J p l e { frames := 20 * 20, cells := 100, slots := 6000, locals := 200 * 20 } s m args below meth c 5 D (wA S sz) (wQ below D sz S (pubP E0 S G (cx_meanWear X) ["java/lang/ArithmeticException"] (some (.double (FP.ddiv (FP.i2d (iN (meanXs X (X 17 0).toNat))) (FP.i2d (iN (meanXn X (X 17 0).toNat)))))) (X)) args s 100 6000) 6 [(0, .ref (G 6 0)), (1, .int (iN (meanXs X i))), (2, .int (iN (meanXn X i))), (3, .int (iN ((i : Nat) : Int)))] [] S 0 0 := by
    intro fuel
    induction fuel with
    | zero => intro i h1 h2; omega
    | succ fuel ih =>
      intro i h1 h2
      have hsb : 0 ≤ meanXs X i ∧ meanXs X i ≤ i * 6000 := sumI_bound (fun k hk => by
        have w := hC.w3 (i9 := (k : Int)) (by omega)
        unfold wf3 at w
        have := sumX_b hC (r9 := (k : Int)) (n := (X 16 k - 1).toNat) (by omega) (by omega)
        omega)
      have hnb : 0 ≤ meanXn X i ∧ meanXn X i ≤ i * 60 := sumI_bound (fun k hk => by
        have w := hC.w3 (i9 := (k : Int)) (by omega)
        unfold wf3 at w
        omega)
      refine j_iload_n C dX5_meanWear_6 rfl ?_
      refine j_aload_n C dX5_meanWear_7 rfl ?_
      refine jg_6_2 C hR fl_Sp_19 dX5_meanWear_8 ?_
      refine j_callV C (z_L2 l hfl hR.1 ) cal_Jx4a65c_size_8abf5 vi_Jx4a65c_size_8abf5 ml_Sp_39 (hR.1.q_L2 ) ⟨by decide, by decide, rfl⟩ rfl rfl (Nat.le_of_ble_eq_true rfl) ⟨by decide, by decide⟩ ⟨(by first | omega | (dsimp only; omega) | exact Nat.le_of_ble_eq_true rfl), (by first | omega | (dsimp only; omega) | exact Nat.le_of_ble_eq_true rfl)⟩ dX5_meanWear_11 (fun E S9 h => nomatch h.1) (fun v9 S9 h => ?_)
      obtain ⟨h, h9⟩ := h
      have h9 := h9.symm
      subst h9
      cases h
      refine j_icmp_ge (tgt := 52) C dX5_meanWear_14 (by decide) (by unfold rg at *; omega) (by unfold rg at *; omega) (fun c14 => ?_) (fun c14 => ?_)
      · refine j_iload_n C dX5_meanWear_52 rfl ?_
        refine j_if_ne (tgt := 67) C dX5_meanWear_53 (by decide) (by unfold rg at *; omega) (fun c53 => ?_) (fun c53 => ?_)
        · refine j_iload_n C dX5_meanWear_67 rfl ?_
          refine j_i2d C dX5_meanWear_68 ?_
          refine j_iload_n C dX5_meanWear_69 rfl ?_
          refine j_i2d C dX5_meanWear_70 ?_
          refine j_ddiv C (fp_ddiv (by omega) (by omega)) dX5_meanWear_71 ?_
          refine j_dret C ME ?_ (by first | omega | exact Nat.le_of_ble_eq_true rfl) (by first | omega | exact Nat.le_of_ble_eq_true rfl) dX5_meanWear_72
          refine Or.inl ⟨?_, ?_, G, rfl, hR⟩
          · exact (by clear hR hC ME C; (try clear key); (try clear ih); unfold cx_meanWear; rw [show (X 17 0).toNat = i by omega]; (repeat' split) <;> first | rfl | omega | (simp_all; done) | (simp_all; omega))
          · rw [show (X 17 0).toNat = i by omega]
        · refine j_throwSW (text := "no splices") C ME thr_ARE cl_Sp_334 ini_ARE (by decide +kernel) ?_ dX5_meanWear_56 dX5_meanWear_59 dX5_meanWear_60 dX5_meanWear_63 dX5_meanWear_66 ⟨by decide, (Nat.le_of_ble_eq_true rfl), (by first | omega | (dsimp only; omega) | exact Nat.le_of_ble_eq_true rfl), (by first | omega | (dsimp only; omega) | exact Nat.le_of_ble_eq_true rfl)⟩ (by omega) (by omega)
          exact Or.inr ⟨0, _, rfl, (by clear hR hC ME C; (try clear key); (try clear ih); unfold cx_meanWear; rw [show (X 17 0).toNat = i by omega]; (repeat' split) <;> first | rfl | omega | (simp_all; done) | (simp_all; omega)), rfl, rfl⟩
      · refine j_aload_n C dX5_meanWear_17 rfl ?_
        refine jg_6_2 C hR fl_Sp_19 dX5_meanWear_18 ?_
        refine j_iload_n C dX5_meanWear_21 rfl ?_
        refine j_callV C (g_L2 l hfl hR.1 (by omega)) cal_Jx4a65c_get_915e3 vi_Jx4a65c_get_915e3 ml_Sp_146 (hR.1.q_L2 ) ⟨by decide, by decide, rfl⟩ rfl rfl (Nat.le_of_ble_eq_true rfl) ⟨by decide, by decide⟩ ⟨(by first | omega | (dsimp only; omega) | exact Nat.le_of_ble_eq_true rfl), (by first | omega | (dsimp only; omega) | exact Nat.le_of_ble_eq_true rfl)⟩ dX5_meanWear_22 (fun E S9 h => nomatch h.1) (fun v9 S9 h => ?_)
        obtain ⟨h, h9, -⟩ := h
        have h9 := h9.symm
        subst h9
        cases h
        refine j_cast (kd := 3) C (hR.1.k3 (by omega)) ⟨by decide, by decide⟩ cl_Sp_86 dX5_meanWear_25 ?_
        refine j_astore C dX5_meanWear_28 (by decide) ?_
        refine j_iload_n C dX5_meanWear_30 rfl ?_
        refine j_aload C dX5_meanWear_31 rfl ?_
        refine j_callV C (k_wsum l hfl hR.1 (by omega)) cal_X2_wearSum vi_X2_wearSum ml_Sp_339 (hR.1.k3 (by omega)) ⟨by decide, by decide, rfl⟩ rfl rfl (Nat.le_of_ble_eq_true rfl) ⟨by decide, by decide⟩ ⟨(by first | omega | (dsimp only; omega) | exact Nat.le_of_ble_eq_true rfl), (by first | omega | (dsimp only; omega) | exact Nat.le_of_ble_eq_true rfl)⟩ dX5_meanWear_33 (fun E S9 h => nomatch h.1) (fun v9 S9 h => ?_)
        obtain ⟨h, h9⟩ := h
        have h9 := h9.symm
        subst h9
        cases h
        refine j_iadd C dX5_meanWear_36 ?_
        refine j_istore_n C dX5_meanWear_37 (by decide) ?_
        refine j_iload_n C dX5_meanWear_38 rfl ?_
        refine j_aload C dX5_meanWear_39 rfl ?_
        refine j_callV C (k_splices l hfl hR.1 (by omega)) cal_X2_spliceCount vi_X2_spliceCount ml_Sp_342 (hR.1.k3 (by omega)) ⟨by decide, by decide, rfl⟩ rfl rfl (Nat.le_of_ble_eq_true rfl) ⟨by decide, by decide⟩ ⟨(by first | omega | (dsimp only; omega) | exact Nat.le_of_ble_eq_true rfl), (by first | omega | (dsimp only; omega) | exact Nat.le_of_ble_eq_true rfl)⟩ dX5_meanWear_41 (fun E S9 h => nomatch h.1) (fun v9 S9 h => ?_)
        obtain ⟨h, h9⟩ := h
        have h9 := h9.symm
        subst h9
        cases h
        refine j_iadd C dX5_meanWear_44 ?_
        refine j_istore_n C dX5_meanWear_45 (by decide) ?_
        refine j_iinc C dX5_meanWear_46 rfl (by decide) ?_
        refine j_goto (tgt := 6) C dX5_meanWear_49 (by decide) ?_
        refine J.lvs (lv' := [(0, .ref (G 6 0)), (1, .int (iN (meanXs X (i + 1)))), (2, .int (iN (meanXn X (i + 1)))), (3, .int (iN (((i + 1) : Nat) : Int)))]) ?_ ((ih (i + 1) (by omega) (by omega)))
        intro q hq; simp only [List.mem_cons, List.not_mem_nil, or_false] at hq; rcases hq with rfl | rfl | rfl | rfl <;> rfl
  refine J.lvs (lv' := [(0, .ref (G 6 0)), (1, .int (iN (meanXs X 0))), (2, .int (iN (meanXn X 0))), (3, .int (iN ((0 : Nat) : Int)))]) ?_ ((key ((X 17 0).toNat + 1) 0 (by omega) (by omega)))
  intro q hq; simp only [List.mem_cons, List.not_mem_nil, or_false] at hq; rcases hq with rfl | rfl | rfl | rfl <;> rfl

set_option maxHeartbeats 4000000 in
set_option maxRecDepth 100000 in
theorem k_gsound (l : Launch) (hfl : l.stackTraces = false) {S : wS} {E0 : Nat} {G : wG} {X : wM} (hC : RC E0 S G X) (hg : ∀ s, 0 ≤ s → s < X 12 0 → ¬ X 11 s = -1 → ¬ X 10 (X 11 s) = -1 ∧ gradeM X s = X 10 (X 11 s) ∧ X 4 (X 11 s) = X 4 s ∧ X 6 (X 11 s) = X 6 s) : Ct l yX5_arePassedGradesSound cX5_arePassedGradesSound 4 (some FieldType.boolean) 5 0 0 [.ref (G 6 0)] S (fun r S' => r = .inl (some (.int (iN (bN true)))) ∧ S' = S) := by
  refine Ct.of cal_X5_arePassedGradesSound hfl (Nat.le_of_ble_eq_true rfl) ?_
  intro p e s m args below meth c D sz C ME
  have hR : RCF E0 S S G X := ⟨hC, cF.rf⟩
  have w6 := hC.w6
  unfold wf6 at w6
  refine j_iconst C dX5_arePassedGradesSound_0 ?_
  refine j_istore_n C dX5_arePassedGradesSound_1 (by decide) ?_
  have key : ∀ (fuel : Nat) (i : Nat), X 12 0 - i < fuel → (i : Int) ≤ X 12 0 → J p l e { frames := 20 * 5, cells := 0, slots := 0, locals := 200 * 5 } s m args below meth c 4 D (wA S sz) (wQ below D sz S (fun r S' => r = .inl (some (.int (iN (bN true)))) ∧ S' = S) args s 0 0) 2 [(0, .ref (G 6 0)), (1, .int (iN ((i : Nat) : Int)))] [] S 0 0 := by
    intro fuel
    induction fuel with
    | zero => intro i h1 h2; omega
    | succ fuel ih =>
      intro i h1 h2
      refine j_iload_n C dX5_arePassedGradesSound_2 rfl ?_
      refine j_aload_n C dX5_arePassedGradesSound_3 rfl ?_
      refine jg_6_1 C hR fl_Sp_16 dX5_arePassedGradesSound_4 ?_
      refine j_callV C (z_L1 l hfl hR.1 ) cal_Jx4a65c_size_8abf5 vi_Jx4a65c_size_8abf5 ml_Sp_39 (hR.1.q_L1 ) ⟨by decide, by decide, rfl⟩ rfl rfl (Nat.le_of_ble_eq_true rfl) ⟨by decide, by decide⟩ ⟨(by first | omega | (dsimp only; omega) | exact Nat.le_of_ble_eq_true rfl), (by first | omega | (dsimp only; omega) | exact Nat.le_of_ble_eq_true rfl)⟩ dX5_arePassedGradesSound_7 (fun E S9 h => nomatch h.1) (fun v9 S9 h => ?_)
      obtain ⟨h, h9⟩ := h
      have h9 := h9.symm
      subst h9
      cases h
      refine j_icmp_ge (tgt := 50) C dX5_arePassedGradesSound_10 (by decide) (by unfold rg at *; omega) (by unfold rg at *; omega) (fun c10 => ?_) (fun c10 => ?_)
      · refine j_iconst C dX5_arePassedGradesSound_50 ?_
        refine j_zret C ME (by first | exact Or.inl rfl | exact Or.inr rfl | (unfold bN; split <;> simp)) ?_ (by first | omega | exact Nat.le_of_ble_eq_true rfl) (by first | omega | exact Nat.le_of_ble_eq_true rfl) dX5_arePassedGradesSound_51
        exact ⟨rfl, rfl⟩
      · refine j_aload_n C dX5_arePassedGradesSound_13 rfl ?_
        refine jg_6_1 C hR fl_Sp_16 dX5_arePassedGradesSound_14 ?_
        refine j_iload_n C dX5_arePassedGradesSound_17 rfl ?_
        refine j_callV C (g_L1 l hfl hR.1 (by omega)) cal_Jx4a65c_get_915e3 vi_Jx4a65c_get_915e3 ml_Sp_146 (hR.1.q_L1 ) ⟨by decide, by decide, rfl⟩ rfl rfl (Nat.le_of_ble_eq_true rfl) ⟨by decide, by decide⟩ ⟨(by first | omega | (dsimp only; omega) | exact Nat.le_of_ble_eq_true rfl), (by first | omega | (dsimp only; omega) | exact Nat.le_of_ble_eq_true rfl)⟩ dX5_arePassedGradesSound_18 (fun E S9 h => nomatch h.1) (fun v9 S9 h => ?_)
        obtain ⟨h, h9, -⟩ := h
        have h9 := h9.symm
        subst h9
        cases h
        refine j_cast (kd := 4) C (hR.1.k4 (by omega)) ⟨by decide, by decide⟩ cl_Sp_75 dX5_arePassedGradesSound_21 ?_
        refine j_astore_n C dX5_arePassedGradesSound_24 (by decide) ?_
        refine j_aload_n C dX5_arePassedGradesSound_25 rfl ?_
        refine jn_4_9 C hR (by omega) fl_Sp_244 dX5_arePassedGradesSound_26 (fun z26 => ?_) (fun z26 => ?_)
        · refine j_astore_nN C dX5_arePassedGradesSound_29 (by decide) ?_
          refine j_aload_nN C dX5_arePassedGradesSound_30 rfl ?_
          refine j_ifnullN (tgt := 44) C dX5_arePassedGradesSound_31 (by decide) ?_
          refine j_iinc C dX5_arePassedGradesSound_44 rfl (by decide) ?_
          refine j_goto (tgt := 2) C dX5_arePassedGradesSound_47 (by decide) ?_
          refine J.lvs (lv' := [(0, .ref (G 6 0)), (1, .int (iN (((i + 1) : Nat) : Int)))]) ?_ ((ih (i + 1) (by omega) (by omega)))
          intro q hq; simp only [List.mem_cons, List.not_mem_nil, or_false] at hq; rcases hq with rfl | rfl <;> rfl
        · refine j_astore_n C dX5_arePassedGradesSound_29 (by decide) ?_
          refine j_aload_n C dX5_arePassedGradesSound_30 rfl ?_
          refine j_ifnull C dX5_arePassedGradesSound_31 ?_
          refine j_aload_n C dX5_arePassedGradesSound_34 rfl ?_
          refine j_aload_n C dX5_arePassedGradesSound_35 rfl ?_
          refine j_callV C (k_pass l hfl hR.1 (by omega) (by omega)) cal_X3_canHavePassedTo vi_X3_canHavePassedTo ml_Sp_381 (hR.1.k4 (by omega)) ⟨by decide, by decide, rfl⟩ rfl rfl (Nat.le_of_ble_eq_true rfl) ⟨by decide, by decide⟩ ⟨(by first | omega | (dsimp only; omega) | exact Nat.le_of_ble_eq_true rfl), (by first | omega | (dsimp only; omega) | exact Nat.le_of_ble_eq_true rfl)⟩ dX5_arePassedGradesSound_36 (fun E S9 h => nomatch h.1) (fun v9 S9 h => ?_)
          obtain ⟨h, h9⟩ := h
          have h9 := h9.symm
          subst h9
          cases h
          refine j_ifne_b (tgt := 44) C dX5_arePassedGradesSound_39 (by decide) (fun c39 => ?_) (fun c39 => ?_)
          · refine j_iinc C dX5_arePassedGradesSound_44 rfl (by decide) ?_
            refine j_goto (tgt := 2) C dX5_arePassedGradesSound_47 (by decide) ?_
            refine J.lvs (lv' := [(0, .ref (G 6 0)), (1, .int (iN (((i + 1) : Nat) : Int)))]) ?_ ((ih (i + 1) (by omega) (by omega)))
            intro q hq; simp only [List.mem_cons, List.not_mem_nil, or_false] at hq; rcases hq with rfl | rfl <;> rfl
          · exact absurd (hg i (by omega) (by omega) z26.1) (of_decide_eq_false c39)
  refine J.lvs (lv' := [(0, .ref (G 6 0)), (1, .int (iN ((0 : Nat) : Int)))]) ?_ ((key ((X 12 0).toNat + 1) 0 (by omega) (by omega)))
  intro q hq; simp only [List.mem_cons, List.not_mem_nil, or_false] at hq; rcases hq with rfl | rfl <;> rfl

set_option maxHeartbeats 4000000 in
set_option maxRecDepth 100000 in
theorem k_lsound (l : Launch) (hfl : l.stackTraces = false) {S : wS} {E0 : Nat} {G : wG} {X : wM} (hC : RC E0 S G X) (hl : ∀ v, 0 ≤ v → v < X 21 0 → lenSX X v (X 19 v) (X 3 (X 19 v)).toNat = lenFX X v (X 19 v) (X 3 (X 19 v)).toNat) : Ct l yX5_areVersionLengthsSound cX5_areVersionLengthsSound 3 (some FieldType.boolean) 6 0 0 [.ref (G 6 0)] S (fun r S' => r = .inl (some (.int (iN (bN true)))) ∧ S' = S) := by
  refine Ct.of cal_X5_areVersionLengthsSound hfl (Nat.le_of_ble_eq_true rfl) ?_
  intro p e s m args below meth c D sz C ME
  have hR : RCF E0 S S G X := ⟨hC, cF.rf⟩
  have w6 := hC.w6
  unfold wf6 at w6
  refine j_iconst C dX5_areVersionLengthsSound_0 ?_
  refine j_istore_n C dX5_areVersionLengthsSound_1 (by decide) ?_
  have key : ∀ (fuel : Nat) (i : Nat), X 21 0 - i < fuel → (i : Int) ≤ X 21 0 → J p l e { frames := 20 * 6, cells := 0, slots := 0, locals := 200 * 6 } s m args below meth c 3 D (wA S sz) (wQ below D sz S (fun r S' => r = .inl (some (.int (iN (bN true)))) ∧ S' = S) args s 0 0) 2 [(0, .ref (G 6 0)), (1, .int (iN ((i : Nat) : Int)))] [] S 0 0 := by
    intro fuel
    induction fuel with
    | zero => intro i h1 h2; omega
    | succ fuel ih =>
      intro i h1 h2
      refine j_iload_n C dX5_areVersionLengthsSound_2 rfl ?_
      refine j_aload_n C dX5_areVersionLengthsSound_3 rfl ?_
      refine jg_6_3 C hR fl_Sp_22 dX5_areVersionLengthsSound_4 ?_
      refine j_callV C (z_L3 l hfl hR.1 ) cal_Jx4a65c_size_8abf5 vi_Jx4a65c_size_8abf5 ml_Sp_39 (hR.1.q_L3 ) ⟨by decide, by decide, rfl⟩ rfl rfl (Nat.le_of_ble_eq_true rfl) ⟨by decide, by decide⟩ ⟨(by first | omega | (dsimp only; omega) | exact Nat.le_of_ble_eq_true rfl), (by first | omega | (dsimp only; omega) | exact Nat.le_of_ble_eq_true rfl)⟩ dX5_areVersionLengthsSound_7 (fun E S9 h => nomatch h.1) (fun v9 S9 h => ?_)
      obtain ⟨h, h9⟩ := h
      have h9 := h9.symm
      subst h9
      cases h
      refine j_icmp_ge (tgt := 44) C dX5_areVersionLengthsSound_10 (by decide) (by unfold rg at *; omega) (by unfold rg at *; omega) (fun c10 => ?_) (fun c10 => ?_)
      · refine j_iconst C dX5_areVersionLengthsSound_44 ?_
        refine j_zret C ME (by first | exact Or.inl rfl | exact Or.inr rfl | (unfold bN; split <;> simp)) ?_ (by first | omega | exact Nat.le_of_ble_eq_true rfl) (by first | omega | exact Nat.le_of_ble_eq_true rfl) dX5_areVersionLengthsSound_45
        exact ⟨rfl, rfl⟩
      · refine j_aload_n C dX5_areVersionLengthsSound_13 rfl ?_
        refine jg_6_3 C hR fl_Sp_22 dX5_areVersionLengthsSound_14 ?_
        refine j_iload_n C dX5_areVersionLengthsSound_17 rfl ?_
        refine j_callV C (g_L3 l hfl hR.1 (by omega)) cal_Jx4a65c_get_915e3 vi_Jx4a65c_get_915e3 ml_Sp_146 (hR.1.q_L3 ) ⟨by decide, by decide, rfl⟩ rfl rfl (Nat.le_of_ble_eq_true rfl) ⟨by decide, by decide⟩ ⟨(by first | omega | (dsimp only; omega) | exact Nat.le_of_ble_eq_true rfl), (by first | omega | (dsimp only; omega) | exact Nat.le_of_ble_eq_true rfl)⟩ dX5_areVersionLengthsSound_18 (fun E S9 h => nomatch h.1) (fun v9 S9 h => ?_)
        obtain ⟨h, h9, -⟩ := h
        have h9 := h9.symm
        subst h9
        cases h
        refine j_cast (kd := 5) C (hR.1.k5 (by omega)) ⟨by decide, by decide⟩ cl_Sp_264 dX5_areVersionLengthsSound_21 ?_
        refine j_astore_n C dX5_areVersionLengthsSound_24 (by decide) ?_
        refine j_aload_n C dX5_areVersionLengthsSound_25 rfl ?_
        refine j_callV C (v_lenS l hfl hR.1 (by omega)) cal_X4_lengthByShots vi_X4_lengthByShots ml_Sp_292 (hR.1.k5 (by omega)) ⟨by decide, by decide, rfl⟩ rfl rfl (Nat.le_of_ble_eq_true rfl) ⟨by decide, by decide⟩ ⟨(by first | omega | (dsimp only; omega) | exact Nat.le_of_ble_eq_true rfl), (by first | omega | (dsimp only; omega) | exact Nat.le_of_ble_eq_true rfl)⟩ dX5_areVersionLengthsSound_26 (fun E S9 h => nomatch h.1) (fun v9 S9 h => ?_)
        obtain ⟨h, h9⟩ := h
        have h9 := h9.symm
        subst h9
        cases h
        have w5 := hC.w5 (i9 := (i : Int)) (by omega)
        unfold wf5 at w5
        have w1 := hC.w1 w5.1
        unfold wf1 at w1
        have hb1 := lenSX_b hC (v := (i : Int)) (by omega) w5.1 (n := (X 3 (X 19 i)).toNat) (by omega)
        have hb2 := lenFX_b (v := (i : Int)) hC w5.1 (n := (X 3 (X 19 i)).toNat) (by omega)
        refine j_aload_n C dX5_areVersionLengthsSound_29 rfl ?_
        refine j_callV C (v_lenF l hfl hR.1 (by omega)) cal_X4_lengthByFrames vi_X4_lengthByFrames ml_Sp_385 (hR.1.k5 (by omega)) ⟨by decide, by decide, rfl⟩ rfl rfl (Nat.le_of_ble_eq_true rfl) ⟨by decide, by decide⟩ ⟨(by first | omega | (dsimp only; omega) | exact Nat.le_of_ble_eq_true rfl), (by first | omega | (dsimp only; omega) | exact Nat.le_of_ble_eq_true rfl)⟩ dX5_areVersionLengthsSound_30 (fun E S9 h => nomatch h.1) (fun v9 S9 h => ?_)
        obtain ⟨h, h9⟩ := h
        have h9 := h9.symm
        subst h9
        cases h
        refine j_icmp_eq (tgt := 38) C dX5_areVersionLengthsSound_33 (by decide) (by unfold rg at *; omega) (by unfold rg at *; omega) (fun c33 => ?_) (fun c33 => ?_)
        · refine j_iinc C dX5_areVersionLengthsSound_38 rfl (by decide) ?_
          refine j_goto (tgt := 2) C dX5_areVersionLengthsSound_41 (by decide) ?_
          refine J.lvs (lv' := [(0, .ref (G 6 0)), (1, .int (iN (((i + 1) : Nat) : Int)))]) ?_ ((ih (i + 1) (by omega) (by omega)))
          intro q hq; simp only [List.mem_cons, List.not_mem_nil, or_false] at hq; rcases hq with rfl | rfl <;> rfl
        · exact absurd (hl i (by omega) (by omega)) c33
  refine J.lvs (lv' := [(0, .ref (G 6 0)), (1, .int (iN ((0 : Nat) : Int)))]) ?_ ((key ((X 21 0).toNat + 1) 0 (by omega) (by omega)))
  intro q hq; simp only [List.mem_cons, List.not_mem_nil, or_false] at hq; rcases hq with rfl | rfl <;> rfl

set_option maxHeartbeats 4000000 in
set_option maxRecDepth 100000 in
theorem p_isSound (l : Launch) (hfl : l.stackTraces = false) {S : wS} {E0 : Nat} {G : wG} {X : wM} (hC : RC E0 S G X) (hw : withX X (X 18 0) (X 17 0).toNat = false) (hg : ∀ s, 0 ≤ s → s < X 12 0 → ¬ X 11 s = -1 → ¬ X 10 (X 11 s) = -1 ∧ gradeM X s = X 10 (X 11 s) ∧ X 4 (X 11 s) = X 4 s ∧ X 6 (X 11 s) = X 6 s) (hl : ∀ v, 0 ≤ v → v < X 21 0 → lenSX X v (X 19 v) (X 3 (X 19 v)).toNat = lenFX X v (X 19 v) (X 3 (X 19 v)).toNat) : Ct l yX5_isSound cX5_isSound 1 (some FieldType.boolean) 20 100 6000 [.ref (G 6 0)] S (pubP E0 S G 0 [] (some (.int (iN 1))) X) := by
  refine Ct.of cal_X5_isSound hfl (Nat.le_of_ble_eq_true rfl) ?_
  intro p e s m args below meth c D sz C ME
  have hR : RCF E0 S S G X := ⟨hC, cF.rf⟩
  have w6 := hC.w6
  unfold wf6 at w6
  refine j_aload_n C dX5_isSound_0 rfl ?_
  refine j_aload_n C dX5_isSound_1 rfl ?_
  refine jg_6_5 C hR fl_Sp_28 dX5_isSound_2 (fun w2 => ?_)
  refine j_callV C (k_within l hfl hR.1 (by omega)) cal_X5_isWearWithin vi_X5_isWearWithin ml_Sp_180 (hR.1.k6) ⟨by decide, by decide, rfl⟩ rfl rfl (Nat.le_of_ble_eq_true rfl) ⟨by decide, by decide⟩ ⟨(by first | omega | (dsimp only; omega) | exact Nat.le_of_ble_eq_true rfl), (by first | omega | (dsimp only; omega) | exact Nat.le_of_ble_eq_true rfl)⟩ dX5_isSound_5 (fun E S9 h => nomatch h.1) (fun v9 S9 h => ?_)
  obtain ⟨h, h9⟩ := h
  have h9 := h9.symm
  subst h9
  cases h
  refine j_ifeq_b (tgt := 29) C dX5_isSound_8 (by decide) (fun c8 => ?_) (fun c8 => ?_)
  · rw [hw] at c8
    exact nomatch c8
  · refine j_aload_n C dX5_isSound_11 rfl ?_
    refine j_callV C (k_gsound l hfl hR.1 hg) cal_X5_arePassedGradesSound vi_X5_arePassedGradesSound ml_Sp_347 (hR.1.k6) ⟨by decide, by decide, rfl⟩ rfl rfl (Nat.le_of_ble_eq_true rfl) ⟨by decide, by decide⟩ ⟨(by first | omega | (dsimp only; omega) | exact Nat.le_of_ble_eq_true rfl), (by first | omega | (dsimp only; omega) | exact Nat.le_of_ble_eq_true rfl)⟩ dX5_isSound_12 (fun E S9 h => nomatch h.1) (fun v9 S9 h => ?_)
    obtain ⟨h, h9⟩ := h
    have h9 := h9.symm
    subst h9
    cases h
    refine j_ifeq_b (tgt := 29) C dX5_isSound_15 (by decide) (fun c15 => ?_) (fun c15 => ?_)
    · exact nomatch c15
    · refine j_aload_n C dX5_isSound_18 rfl ?_
      refine j_callV C (k_lsound l hfl hR.1 hl) cal_X5_areVersionLengthsSound vi_X5_areVersionLengthsSound ml_Sp_350 (hR.1.k6) ⟨by decide, by decide, rfl⟩ rfl rfl (Nat.le_of_ble_eq_true rfl) ⟨by decide, by decide⟩ ⟨(by first | omega | (dsimp only; omega) | exact Nat.le_of_ble_eq_true rfl), (by first | omega | (dsimp only; omega) | exact Nat.le_of_ble_eq_true rfl)⟩ dX5_isSound_19 (fun E S9 h => nomatch h.1) (fun v9 S9 h => ?_)
      obtain ⟨h, h9⟩ := h
      have h9 := h9.symm
      subst h9
      cases h
      refine j_ifeq_b (tgt := 29) C dX5_isSound_22 (by decide) (fun c22 => ?_) (fun c22 => ?_)
      · exact nomatch c22
      · refine j_iconst C dX5_isSound_25 ?_
        refine j_goto (tgt := 30) C dX5_isSound_26 (by decide) ?_
        refine j_zret C ME (by first | exact Or.inl rfl | exact Or.inr rfl | (unfold bN; split <;> simp)) ?_ (by first | omega | exact Nat.le_of_ble_eq_true rfl) (by first | omega | exact Nat.le_of_ble_eq_true rfl) dX5_isSound_30
        exact Or.inl ⟨rfl, rfl, G, rfl, hR⟩

