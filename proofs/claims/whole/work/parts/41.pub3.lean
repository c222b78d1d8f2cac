/-! THE CLASS: the last public methods. -/
def fiX (X : wM) (f z : Int) : Int → Int := fun k => if k < z then X 2 (60 * f + k) else if k = z then X 12 0 else X 2 (60 * f + (k - 1))
def fd1 (X : wM) (f z a b : Int) : wM := rset (xShot X f a b) 3 2 f (X 3 f + 1) (fiX X f z)
def fdX (X : wM) (f z a b : Int) : wM := apX (xReel (fd1 X f z a b) f) (X 17 0) (X 12 0)
def cx_found (X : wM) (f z a b : Int) : Int := if ¬ ((0 ≤ f ∧ f < X 1 0) ∧ 0 ≤ z ∧ z ≤ X 3 f) then 1 else if ¬ ((1 ≤ a ∧ a ≤ 999) ∧ 0 ≤ b ∧ b ≤ 9) then 2 else if ¬ X 32 f = 0 then 3 else if X 12 0 = 60 ∨ X 17 0 = 24 then 4 else 0
def jnX (X : wM) (r q : Int) : Nat → wM
  | 0 => X
  | k + 1 => apX (jnX X r q k) r (X 14 (60 * q + k))
def joX (X : wM) (r q : Int) : wM := rset (jnX X r q (X 16 q).toNat) 16 14 q 0 (fun k => jnX X r q (X 16 q).toNat 14 (60 * q + k))
def cx_join (X : wM) (r q : Int) : Int := if ¬ ((0 ≤ r ∧ r < X 17 0) ∧ 0 ≤ q ∧ q < X 17 0) then 1 else if ¬ (¬ r = q ∧ X 13 r = X 13 q) then 2 else if X 16 r = 0 ∨ X 16 q = 0 ∨ aheadX X (X 14 (60 * q)) r = true ∨ ¬ X 32 (X 13 r) = 0 then 3 else 0
theorem apX_o {X : wM} {r s i : Int} {j : Nat} (h1 : j ≠ 7) (h2 : j ≠ 16) (h3 : j ≠ 14) : apX X r s j i = X j i := by
  unfold apX
  rw [mup_oj h1, rset_o h2 h3]
theorem jnX_o {X : wM} {r q i : Int} {j : Nat} (h1 : j ≠ 7) (h2 : j ≠ 16) (h3 : j ≠ 14) : ∀ k, jnX X r q k j i = X j i
  | 0 => rfl
  | k + 1 => by rw [jnX, apX_o h1 h2 h3, jnX_o h1 h2 h3 k]
theorem jnX_r {X : wM} {r q : Int} : ∀ k : Nat, jnX X r q k 16 r = X 16 r + k
  | 0 => by simp [jnX]
  | k + 1 => by
    rw [jnX, apX, mup_oj (by decide), rset_n, jnX_r k]
    omega
theorem jnX_q {X : wM} {r q : Int} (h : q ≠ r) : ∀ k : Nat, jnX X r q k 16 q = X 16 q
  | 0 => rfl
  | k + 1 => by rw [jnX, apX, mup_oj (by decide), rset_n' (by decide) h, jnX_q h k]
theorem jnX_e {X : wM} {r q i : Int} (h : q ≠ r) (hi : 0 ≤ i ∧ i < 60) : ∀ k : Nat, jnX X r q k 14 (60 * q + i) = X 14 (60 * q + i)
  | 0 => rfl
  | k + 1 => by rw [jnX, apX, mup_oj (by decide), rset_e' (by decide) hi h, jnX_e h hi k]
def qoP (X : wM) (f z : Int) (k : Nat) : Bool := decide (¬ X 2 (60 * f + k) = z ∧ X 6 (X 2 (60 * f + k)) = X 6 z ∧ X 10 (X 2 (60 * f + k)) = -1)
def pnX (X : wM) (f z : Int) : Nat → wM
  | 0 => X
  | k + 1 => if qoP X f z k = true then mup (pnX X f z k) 11 (X 2 (60 * f + k)) z else pnX X f z k
theorem pnX_o {X : wM} {f z i : Int} {j : Nat} (hj : j ≠ 11) : ∀ k, pnX X f z k j i = X j i
  | 0 => rfl
  | k + 1 => by
    rw [pnX]
    split
    · rw [mup_oj hj, pnX_o hj k]
    · exact pnX_o hj k
def poN (X : wM) (f z : Int) (k : Nat) : Int := sumI (fun i => bN (qoP X f z i)) k
def lvX (X : wM) (v f a b : Int) (o : Bool) : Nat → wM
  | 0 => X
  | k + 1 => mkK (lvX X v f a b o k) v (X 2 (60 * f + k)) (max (a - aheadM X f k) 0) (min (b - aheadM X f k) (keptM X (X 2 (60 * f + k)))) o 16
def lvN (X : wM) (v f a b : Int) (o : Bool) (k : Nat) : Int := sumI (fun i => mkN (lvX X v f a b o i) v (X 2 (60 * f + i)) (max (a - aheadM X f i) 0) (min (b - aheadM X f i) (keptM X (X 2 (60 * f + i)))) o 1024) k
theorem lvX_o {X : wM} {v f a b i : Int} {o : Bool} {j : Nat} (hj : j ≠ 33) : ∀ k, lvX X v f a b o k j i = X j i
  | 0 => rfl
  | k + 1 => by
    rw [lvX]
    show (if j = 33 ∧ _ then _ else lvX X v f a b o k j i) = _
    rw [if_neg (fun z => hj z.1), lvX_o hj k]
theorem lvN_b {X : wM} {v f a b : Int} {o : Bool} (n : Nat) : 0 ≤ lvN X v f a b o n ∧ lvN X v f a b o n ≤ n * 1024 := sumI_bound (fun k _ => by have := @mkN_b (lvX X v f a b o k) v (X 2 (60 * f + k)) (max (a - aheadM X f k) 0) (min (b - aheadM X f k) (keptM X (X 2 (60 * f + k)))) o 1024; omega)
def cx_leaveOut (X : wM) (v a b : Int) : Int := if ¬ (0 ≤ v ∧ v < X 21 0) then 1 else if ¬ (0 ≤ a ∧ a < b ∧ b ≤ aheadM X (X 19 v) (X 3 (X 19 v)).toNat) then 2 else 0
def leX (X : wM) (f a b g : Int) : wM := mup (xLoan X (X 19 f) (1 + b) (X 29 0 + g) a) 32 (X 19 f) 1
def cx_lend (X : wM) (f a b g : Int) : Int := if ¬ (0 ≤ f ∧ f < X 21 0) then 1 else if ¬ ((1 ≤ a ∧ a ≤ 9) ∧ (0 ≤ b ∧ b ≤ 3) ∧ 1 ≤ g ∧ g ≤ 99) then 2 else if ¬ X 32 (X 19 f) = 0 ∨ filmX X (X 19 f) (a * (1 + b)) (X 17 0).toNat = true then 3 else if X 28 0 = 20 then 4 else 0
theorem plX_o {X : wM} {r w i : Int} {j : Nat} (h1 : j ≠ 30) (h2 : j ≠ 31) : plX X r w j i = X j i := by
  unfold plX
  rw [mup_oj h1]
  exact awX_o h2 _
def swX (X : wM) (z : Int) : Nat → wM
  | 0 => X
  | k + 1 => if X 13 k = X 34 z then plX (swX X z k) k (X 35 z) else swX X z k
theorem swX_o {X : wM} {z i : Int} {j : Nat} (h1 : j ≠ 30) (h2 : j ≠ 31) : ∀ k, swX X z k j i = X j i
  | 0 => rfl
  | k + 1 => by
    rw [swX]
    split
    · rw [plX_o h1 h2, swX_o h1 h2 k]
    · exact swX_o h1 h2 k
def cx_show (X : wM) (z : Int) : Int := if ¬ (0 ≤ z ∧ z < X 28 0) then 1 else if ¬ X 27 z = 0 ∨ X 24 z = 0 then 2 else 0
set_option maxHeartbeats 4000000 in
set_option maxRecDepth 100000 in
theorem p_addFilm (l : Launch) (hfl : l.stackTraces = false) {D : wD} {S : wS} {G : wG} {X : wM} (hC : RC D.2.2.1 S G X)  : CtN l D yX5_addFilm cX5_addFilm 1 (some FieldType.int) 20 100 6000 [.ref (G 6 0)] S (pubP D.2.2.1 S G (x_addFilm X) ["java/lang/IllegalStateException"] (some (.int (iN (v_addFilm X)))) (xFilm X)) := by
  refine CtN.of cal_X5_addFilm hfl (Nat.le_of_ble_eq_true rfl) ?_
  intro p e s m args below meth c sz hN C ME
  have hR : RCF D.2.2.1 S S G X := ⟨hC, cF.rf⟩
  have w6 := hC.w6
  unfold wf6 at w6
  obtain ⟨T, hh⟩ := hC.2
  refine j_aload_n C dX5_addFilm_0 rfl ?_
  refine jg_6_0 C hR fl_Sp_12 dX5_addFilm_1 ?_
  refine j_callV C (z_L0 l hfl hR.1 ) cal_Jx4a65c_size_8abf5 vi_Jx4a65c_size_8abf5 ml_Sp_39 (hR.1.q_L0 ) ⟨by decide, by decide, rfl⟩ rfl rfl (Nat.le_of_ble_eq_true rfl) ⟨by decide, by decide⟩ ⟨(by first | omega | (dsimp only; omega) | exact Nat.le_of_ble_eq_true rfl), (by first | omega | (dsimp only; omega) | exact Nat.le_of_ble_eq_true rfl)⟩ dX5_addFilm_4 (fun E S9 h => nomatch h.1) (fun v9 S9 h => ?_)
  obtain ⟨h, h9⟩ := h
  have h9 := h9.symm
  subst h9
  cases h
  refine j_bipush C dX5_addFilm_7 (by decide) ?_
  refine j_icmp_lt (tgt := 22) C dX5_addFilm_9 (by decide) (by unfold rg at *; omega) (by unfold rg at *; omega) (fun c9 => ?_) (fun c9 => ?_)
  · refine j_aload_n C dX5_addFilm_22 rfl ?_
    refine jg_6_0 C hR fl_Sp_12 dX5_addFilm_23 ?_
    refine j_new C (kd := 1) ⟨by decide, by decide⟩ cl_Sp_50 nw_Fi ⟨(by first | omega | (dsimp only; omega) | exact Nat.le_of_ble_eq_true rfl), (by first | omega | (dsimp only; omega) | exact Nat.le_of_ble_eq_true rfl)⟩ dX5_addFilm_26 (fun q9 hq hqE => ?_)
    have hn1 : nE S (sNew S 1 q9 (fun j => defaultValue (kT 1 j))) := nE.rf.new hq
    refine j_dup C dX5_addFilm_29 rfl ?_
    refine j_callIND C hN (c_fiInit l hfl (q9 := q9) (sK_new (k := 1))) cal_X0_init in_X0_init (by decide) rfl (Nat.le_of_ble_eq_true rfl) ⟨by decide, by decide⟩ ⟨(by first | omega | (dsimp only; omega) | exact Nat.le_of_ble_eq_true rfl), (by first | omega | (dsimp only; omega) | exact Nat.le_of_ble_eq_true rfl)⟩ dX5_addFilm_30 (fun E S9 h => by obtain ⟨a, h, -⟩ := h; exact nomatch h) (fun v9 S2 h => ?_)
    obtain ⟨a9, h, ha9, haq, hce, hk2, ⟨l1, l2, l3, l4⟩, f0, fo⟩ := h
    cases h
    have ha0 : sK S a9 = 0 := hn1.z ha9
    have hn2 : nE S S2 := fun c hc => (hn1 c hc).tr (hce c (fun z => hc (by rw [z]; exact hq)) (fun z => hc (by rw [z]; exact ha0)))
    have hR : RCF D.2.2.1 S S2 G X := ⟨hC.ne hn2, hn2.cF⟩
    refine j_callVD C (c_alAdd l hfl (y := q9) (hh.ne hn2).2.2.2.2.2.2.1.1.1 (by omega) (by rw [hk2]; decide) (fun k hk => by rw [hR.1.k1 (i9 := (k : Int)) ⟨by omega, hk⟩]; decide)) cal_Jx4a65c_add_9ea2d vi_Jx4a65c_add_9ea2d ml_Sp_53 hR.1.q_L0 ⟨by decide, by decide, rfl⟩ rfl rfl (Nat.le_of_ble_eq_true rfl) ⟨by decide, by decide⟩ ⟨(by first | omega | (dsimp only; omega) | exact Nat.le_of_ble_eq_true rfl), (by first | omega | (dsimp only; omega) | exact Nat.le_of_ble_eq_true rfl)⟩ dX5_addFilm_33 (fun E S9 h => nomatch h.1) (fun v9 S3 h => ?_)
    obtain ⟨h, hL⟩ := h
    cases h
    have hR : RCF D.2.2.1 S S3 (gup (gup G 1 (X 1 0) q9) 21 (X 1 0) a9) (xFilm X) := RC.new_film hC.1 hh hq ha0 haq l1 l2 l3 l4 hn2 hk2 (fun j hj => by
      rcases (show j = 0 ∨ j = 1 by omega) with rfl | rfl
      · refine f0.trans ?_
        show _ = Value.ref (gup (gup G 1 (X 1 0) q9) 21 (X 1 0) a9 21 (X 1 0))
        rw [gup_at]
      · refine ((fo 65 (by decide) (by decide)).trans (sG_new (k := 1) (j := 1) (by decide))).trans ?_
        show _ = Value.int (iN (xFilm X 32 (X 1 0)))
        rw [show xFilm X 32 (X 1 0) = 0 from xnew_v (by decide) rfl]
        rfl) (by omega) hL
    have ec : xFilm X 1 0 = X 1 0 + 1 := xnew_c
    refine j_pop C dX5_addFilm_36 rfl ?_
    refine j_aload_n C dX5_addFilm_37 rfl ?_
    refine jg_6_0 (G := gup (gup G 1 (X 1 0) q9) 21 (X 1 0) a9) C hR fl_Sp_12 dX5_addFilm_38 ?_
    refine j_callV C (z_L0 l hfl hR.1 ) cal_Jx4a65c_size_8abf5 vi_Jx4a65c_size_8abf5 ml_Sp_39 (hR.1.q_L0 ) ⟨by decide, by decide, rfl⟩ rfl rfl (Nat.le_of_ble_eq_true rfl) ⟨by decide, by decide⟩ ⟨(by first | omega | (dsimp only; omega) | exact Nat.le_of_ble_eq_true rfl), (by first | omega | (dsimp only; omega) | exact Nat.le_of_ble_eq_true rfl)⟩ dX5_addFilm_41 (fun E S9 h => nomatch h.1) (fun v9 S9 h => ?_)
    obtain ⟨h, h9⟩ := h
    have h9 := h9.symm
    subst h9
    cases h
    refine j_iconst C dX5_addFilm_44 ?_
    refine j_isub C dX5_addFilm_45 ?_
    refine j_iret C ME ?_ (by first | omega | exact Nat.le_of_ble_eq_true rfl) (by first | omega | exact Nat.le_of_ble_eq_true rfl) dX5_addFilm_46
    refine Or.inl ⟨?_, ?_, gup (gup G 1 (X 1 0) q9) 21 (X 1 0) a9, rfl, hR⟩
    · exact (by clear hR hC ME C; (try clear key); (try clear ih); unfold x_addFilm; (repeat' split) <;> first | rfl | omega | (simp_all; done) | (simp_all; omega))
    · exact rI (by unfold v_addFilm; omega)
  · refine j_throwS (text := "no room for a film") C ME thr_ISE cl_Sp_43 ini_ISE (by decide +kernel) ?_ dX5_addFilm_12 dX5_addFilm_15 dX5_addFilm_16 dX5_addFilm_18 dX5_addFilm_21 ⟨by decide, (Nat.le_of_ble_eq_true rfl), (by first | omega | (dsimp only; omega) | exact Nat.le_of_ble_eq_true rfl), (by first | omega | (dsimp only; omega) | exact Nat.le_of_ble_eq_true rfl)⟩ (by omega) (by omega)
    exact Or.inr ⟨0, _, rfl, (by clear hR hC ME C; (try clear key); (try clear ih); unfold x_addFilm; (repeat' split) <;> first | rfl | omega | (simp_all; done) | (simp_all; omega)), rfl, rfl⟩

set_option maxHeartbeats 4000000 in
set_option maxRecDepth 100000 in
theorem p_found (l : Launch) (hfl : l.stackTraces = false) {D : wD} {S : wS} {G : wG} {X : wM} (hC : RC D.2.2.1 S G X) {f z a b : Int} (h_f : rg f)  (h_z : rg z)  (h_a : rg a)  (h_b : rg b) (hlen : ∀ f, 0 ≤ f → f < X 1 0 → X 3 f ≤ X 12 0) : CtD l D yX5_found cX5_found 8 (some FieldType.int) 20 100 6000 [.ref (G 6 0), .int (iN f), .int (iN z), .int (iN a), .int (iN b)] S (pubP D.2.2.1 S G (cx_found X f z a b) ["java/lang/IndexOutOfBoundsException", "java/lang/IllegalArgumentException", "java/lang/UnsupportedOperationException", "java/lang/IllegalStateException"] (some (.int (iN (X 17 0)))) (fdX X f z a b)) := by
  refine CtD.of cal_X5_found hfl (Nat.le_of_ble_eq_true rfl) ?_
  intro p e s m args below meth c sz C ME
  have hR : RCF D.2.2.1 S S G X := ⟨hC, cF.rf⟩
  have w6 := hC.w6
  unfold wf6 at w6
  refine j_aload_n C dX5_found_0 rfl ?_
  refine j_iload_n C dX5_found_1 rfl ?_
  refine j_callV C (n_film l hfl hR.1 (by unfold rg at *; omega)) cal_X5_filmNumbered vi_X5_filmNumbered ml_Sp_57 (hR.1.k6) ⟨by decide, by decide, rfl⟩ rfl rfl (Nat.le_of_ble_eq_true rfl) ⟨by decide, by decide⟩ ⟨(by first | omega | (dsimp only; omega) | exact Nat.le_of_ble_eq_true rfl), (by first | omega | (dsimp only; omega) | exact Nat.le_of_ble_eq_true rfl)⟩ dX5_found_2 (fun E S9 h => ?_) (fun v9 S9 h => ?_)
  · obtain ⟨h9, h | h⟩ := h
    · exact nomatch h.2
    · obtain ⟨c2, h⟩ := h
      have h9 := h9.symm
      subst h9
      cases h
      refine j_out C ME ?_ (by omega) (by omega)
      exact Or.inr ⟨0, _, rfl, (by clear hR hC ME C; (try clear key); (try clear ih); unfold cx_found; (repeat' split) <;> first | rfl | omega | (simp_all; done) | (simp_all; omega)), rfl, rfl⟩
  obtain ⟨h9, h | h⟩ := h
  rotate_left
  · exact nomatch h.2
  obtain ⟨c2, h⟩ := h
  have h9 := h9.symm
  subst h9
  cases h
  have wf := hC.w1 c2
  unfold wf1 at wf
  have hlf := hlen f c2.1 c2.2
  refine j_astore C dX5_found_5 (by decide) ?_
  refine j_iload_n C dX5_found_7 rfl ?_
  refine j_if_lt (tgt := 23) C dX5_found_8 (by decide) (by unfold rg at *; omega) (fun c8 => ?_) (fun c8 => ?_)
  · refine j_throwS (text := "no such place") C ME thr_IOB cl_Sp_128 ini_IOB (by decide +kernel) ?_ dX5_found_23 dX5_found_26 dX5_found_27 dX5_found_29 dX5_found_32 ⟨by decide, (Nat.le_of_ble_eq_true rfl), (by first | omega | (dsimp only; omega) | exact Nat.le_of_ble_eq_true rfl), (by first | omega | (dsimp only; omega) | exact Nat.le_of_ble_eq_true rfl)⟩ (by omega) (by omega)
    exact Or.inr ⟨0, _, rfl, (by clear hR hC ME C; (try clear key); (try clear ih); unfold cx_found; (repeat' split) <;> first | rfl | omega | (simp_all; done) | (simp_all; omega)), rfl, rfl⟩
  · refine j_iload_n C dX5_found_11 rfl ?_
    refine j_aload C dX5_found_12 rfl ?_
    refine jg_1_0 C hR (by omega) fl_Sp_71 dX5_found_14 ?_
    refine j_callV C (z_row l hfl hR.1 (by omega)) cal_Jx4a65c_size_8abf5 vi_Jx4a65c_size_8abf5 ml_Sp_39 (hR.1.q_row (by omega)) ⟨by decide, by decide, rfl⟩ rfl rfl (Nat.le_of_ble_eq_true rfl) ⟨by decide, by decide⟩ ⟨(by first | omega | (dsimp only; omega) | exact Nat.le_of_ble_eq_true rfl), (by first | omega | (dsimp only; omega) | exact Nat.le_of_ble_eq_true rfl)⟩ dX5_found_17 (fun E S9 h => nomatch h.1) (fun v9 S9 h => ?_)
    obtain ⟨h, h9⟩ := h
    have h9 := h9.symm
    subst h9
    cases h
    refine j_icmp_le (tgt := 33) C dX5_found_20 (by decide) (by unfold rg at *; omega) (by unfold rg at *; omega) (fun c20 => ?_) (fun c20 => ?_)
    · refine j_aload_n C dX5_found_33 rfl ?_
      refine j_iload_n C dX5_found_34 rfl ?_
      refine j_iload C dX5_found_35 rfl ?_
      refine j_callV C (n_fine l hfl hR.1 (by unfold rg at *; omega) (by unfold rg at *; omega)) cal_X5_requireLengthAndScene vi_X5_requireLengthAndScene ml_Sp_61 (hR.1.k6) ⟨by decide, by decide, rfl⟩ rfl rfl (Nat.le_of_ble_eq_true rfl) ⟨by decide, by decide⟩ ⟨(by first | omega | (dsimp only; omega) | exact Nat.le_of_ble_eq_true rfl), (by first | omega | (dsimp only; omega) | exact Nat.le_of_ble_eq_true rfl)⟩ dX5_found_37 (fun E S9 h => ?_) (fun v9 S9 h => ?_)
      · obtain ⟨h9, h | h⟩ := h
        · exact nomatch h.2
        · obtain ⟨c37, h⟩ := h
          have h9 := h9.symm
          subst h9
          cases h
          refine j_out C ME ?_ (by omega) (by omega)
          exact Or.inr ⟨1, _, rfl, (by clear hR hC ME C; (try clear key); (try clear ih); unfold cx_found; (repeat' split) <;> first | rfl | omega | (simp_all; done) | (simp_all; omega)), rfl, rfl⟩
      obtain ⟨h9, h | h⟩ := h
      rotate_left
      · exact nomatch h.2
      obtain ⟨c37, h⟩ := h
      have h9 := h9.symm
      subst h9
      cases h
      refine j_aload_n C dX5_found_40 rfl ?_
      refine j_aload C dX5_found_41 rfl ?_
      refine j_callV C (n_lent l hfl hR.1 (by omega)) cal_X5_requireNotLent vi_X5_requireNotLent ml_Sp_119 (hR.1.k6) ⟨by decide, by decide, rfl⟩ rfl rfl (Nat.le_of_ble_eq_true rfl) ⟨by decide, by decide⟩ ⟨(by first | omega | (dsimp only; omega) | exact Nat.le_of_ble_eq_true rfl), (by first | omega | (dsimp only; omega) | exact Nat.le_of_ble_eq_true rfl)⟩ dX5_found_43 (fun E S9 h => ?_) (fun v9 S9 h => ?_)
      · obtain ⟨h9, h | h⟩ := h
        · exact nomatch h.2
        · obtain ⟨c43, h⟩ := h
          have h9 := h9.symm
          subst h9
          cases h
          refine j_out C ME ?_ (by omega) (by omega)
          exact Or.inr ⟨2, _, rfl, (by clear hR hC ME C; (try clear key); (try clear ih); unfold cx_found; (repeat' split) <;> first | rfl | omega | (simp_all; done) | (simp_all; omega)), rfl, rfl⟩
      obtain ⟨h9, h | h⟩ := h
      rotate_left
      · exact nomatch h.2
      obtain ⟨c43, h⟩ := h
      have h9 := h9.symm
      subst h9
      cases h
      refine j_aload_n C dX5_found_46 rfl ?_
      refine jg_6_1 C hR fl_Sp_16 dX5_found_47 ?_
      refine j_callV C (z_L1 l hfl hR.1 ) cal_Jx4a65c_size_8abf5 vi_Jx4a65c_size_8abf5 ml_Sp_39 (hR.1.q_L1 ) ⟨by decide, by decide, rfl⟩ rfl rfl (Nat.le_of_ble_eq_true rfl) ⟨by decide, by decide⟩ ⟨(by first | omega | (dsimp only; omega) | exact Nat.le_of_ble_eq_true rfl), (by first | omega | (dsimp only; omega) | exact Nat.le_of_ble_eq_true rfl)⟩ dX5_found_50 (fun E S9 h => nomatch h.1) (fun v9 S9 h => ?_)
      obtain ⟨h, h9⟩ := h
      have h9 := h9.symm
      subst h9
      cases h
      refine j_bipush C dX5_found_53 (by decide) ?_
      refine j_icmp_ge (tgt := 70) C dX5_found_55 (by decide) (by unfold rg at *; omega) (by unfold rg at *; omega) (fun c55 => ?_) (fun c55 => ?_)
      · refine j_throwS (text := "no room for a shot or its reel") C ME thr_ISE cl_Sp_43 ini_ISE (by decide +kernel) ?_ dX5_found_70 dX5_found_73 dX5_found_74 dX5_found_76 dX5_found_79 ⟨by decide, (Nat.le_of_ble_eq_true rfl), (by first | omega | (dsimp only; omega) | exact Nat.le_of_ble_eq_true rfl), (by first | omega | (dsimp only; omega) | exact Nat.le_of_ble_eq_true rfl)⟩ (by omega) (by omega)
        exact Or.inr ⟨3, _, rfl, (by clear hR hC ME C; (try clear key); (try clear ih); unfold cx_found; (repeat' split) <;> first | rfl | omega | (simp_all; done) | (simp_all; omega)), rfl, rfl⟩
      · refine j_aload_n C dX5_found_58 rfl ?_
        refine jg_6_2 C hR fl_Sp_19 dX5_found_59 ?_
        refine j_callV C (z_L2 l hfl hR.1 ) cal_Jx4a65c_size_8abf5 vi_Jx4a65c_size_8abf5 ml_Sp_39 (hR.1.q_L2 ) ⟨by decide, by decide, rfl⟩ rfl rfl (Nat.le_of_ble_eq_true rfl) ⟨by decide, by decide⟩ ⟨(by first | omega | (dsimp only; omega) | exact Nat.le_of_ble_eq_true rfl), (by first | omega | (dsimp only; omega) | exact Nat.le_of_ble_eq_true rfl)⟩ dX5_found_62 (fun E S9 h => nomatch h.1) (fun v9 S9 h => ?_)
        obtain ⟨h, h9⟩ := h
        have h9 := h9.symm
        subst h9
        cases h
        refine j_bipush C dX5_found_65 (by decide) ?_
        refine j_icmp_lt (tgt := 80) C dX5_found_67 (by decide) (by unfold rg at *; omega) (by unfold rg at *; omega) (fun c67 => ?_) (fun c67 => ?_)
        · refine j_aload_n C dX5_found_80 rfl ?_
          refine j_aload C dX5_found_81 rfl ?_
          refine j_iload_n C dX5_found_83 rfl ?_
          refine j_iload C dX5_found_84 rfl ?_
          refine j_callVD C (u_newShot l hfl hR.1 (by omega) (by omega) (by omega) (by omega)) cal_X5_newShot vi_X5_newShot ml_Sp_67 (hR.1.k6) ⟨by decide, by decide, rfl⟩ rfl rfl (Nat.le_of_ble_eq_true rfl) ⟨by decide, by decide⟩ ⟨(by first | omega | (dsimp only; omega) | exact Nat.le_of_ble_eq_true rfl), (by first | omega | (dsimp only; omega) | exact Nat.le_of_ble_eq_true rfl)⟩ dX5_found_86 (fun E S9 h => by obtain ⟨q, h, -⟩ := h; exact nomatch h) (fun v9 S9 h => ?_)
          obtain ⟨q4, h, hR2⟩ := h
          cases h
          have hR := hR.tr hR2
          clear hR2
          refine j_astore C dX5_found_89 (by decide) ?_
          refine j_aload C dX5_found_91 rfl ?_
          refine jg_1_0 C hR (show 0 ≤ f ∧ f < X 1 0 from c2) fl_Sp_71 dX5_found_93 ?_
          refine j_iload_n C dX5_found_96 rfl ?_
          refine j_aload C dX5_found_97 rfl ?_
          obtain ⟨T, hh⟩ := hR.1.2
          have wr := hR.1.w1 (i9 := f) (show 0 ≤ f ∧ f < X 1 0 from c2)
          unfold wf1 at wr
          have ec : xShot X f a b 12 0 = X 12 0 + 1 := xnew_c
          refine j_callVD C (c_alIns l hfl (y := gup G 4 (X 12 0) q4 4 (X 12 0)) (hh.2.2.2.2.2.2.1.2.1 f c2.1 c2.2) (by show X 3 f ≤ 65; omega) (i := z) (by show 0 ≤ z ∧ z ≤ X 3 f; omega) (by rw [hR.1.k4 (i9 := X 12 0) (by omega)]; decide) (fun k hk => by rw [hR.1.k4 (wr.2.2 k (by omega) hk)]; decide)) cal_Jx4a65c_add_7a177 vi_Jx4a65c_add_7a177 ml_Sp_135 (hR.1.q_row (show 0 ≤ f ∧ f < X 1 0 from c2)) ⟨by decide, by decide, rfl⟩ rfl rfl (Nat.le_of_ble_eq_true rfl) ⟨by decide, by decide⟩ ⟨(by first | omega | (dsimp only; omega) | exact Nat.le_of_ble_eq_true rfl), (by first | omega | (dsimp only; omega) | exact Nat.le_of_ble_eq_true rfl)⟩ dX5_found_99 (fun E S9 h => nomatch h.1) (fun v9 S3 h => ?_)
          obtain ⟨h, hL⟩ := h
          cases h
          have hR : RCF D.2.2.1 S S3 (gup G 4 (X 12 0) q4) (fd1 X f z a b) := hR.tr (RC.row1 (g := fiX X f z) hR.1.1 hh (show 0 ≤ f ∧ f < X 1 0 from c2) hL (fun k k1 k2 => by
            show (if k < z then gup G 4 (X 12 0) q4 4 (X 2 (60 * f + k)) else if k = z then gup G 4 (X 12 0) q4 4 (X 12 0) else gup G 4 (X 12 0) q4 4 (X 2 (60 * f + (k - 1)))) = gup G 4 (X 12 0) q4 4 (fiX X f z k)
            unfold fiX
            split
            · rfl
            · split <;> rfl) (by show 0 ≤ X 3 f + 1 ∧ X 3 f + 1 ≤ 60; omega) (fun k k1 k2 => by
            have k2 : k < X 3 f + 1 := k2
            show 0 ≤ fiX X f z k ∧ fiX X f z k < xShot X f a b 12 0
            unfold fiX
            split
            · exact wr.2.2 k k1 (by show k < X 3 f; omega)
            · split
              · omega
              · exact wr.2.2 (k - 1) (by omega) (by show k - 1 < X 3 f; omega)))
          refine j_aload_n C dX5_found_102 rfl ?_
          refine j_aload C dX5_found_103 rfl ?_
          refine j_callVD C (u_newReel l hfl hR.1 (show 0 ≤ f ∧ f < X 1 0 from c2) (show X 17 0 < 24 by omega)) cal_X5_newReel vi_X5_newReel ml_Sp_81 (hR.1.k6) ⟨by decide, by decide, rfl⟩ rfl rfl (Nat.le_of_ble_eq_true rfl) ⟨by decide, by decide⟩ ⟨(by first | omega | (dsimp only; omega) | exact Nat.le_of_ble_eq_true rfl), (by first | omega | (dsimp only; omega) | exact Nat.le_of_ble_eq_true rfl)⟩ dX5_found_105 (fun E S9 h => by obtain ⟨q, a, h, -⟩ := h; exact nomatch h) (fun v9 S9 h => ?_)
          obtain ⟨q3, a3, h, hR2⟩ := h
          cases h
          have hR := hR.tr hR2
          clear hR2
          refine j_astore C dX5_found_108 (by decide) ?_
          refine j_aload C dX5_found_110 rfl ?_
          refine j_aload C dX5_found_112 rfl ?_
          have ec3 : xReel (fd1 X f z a b) f 17 0 = X 17 0 + 1 := xnew_c
          have e16 : xReel (fd1 X f z a b) f 16 (X 17 0) = 0 := xnew_v (X := fd1 X f z a b) (cr := 17) (by decide) rfl
          refine j_callVD C (u_append l hfl (r9 := X 17 0) (s9 := X 12 0) hR.1 (by omega) (by show 0 ≤ X 12 0 ∧ X 12 0 < xShot X f a b 12 0; omega) (by rw [e16]; decide)) cal_X2_append vi_X2_append ml_Sp_123 (hR.1.k3 (i9 := X 17 0) (by omega)) ⟨by decide, by decide, rfl⟩ rfl rfl (Nat.le_of_ble_eq_true rfl) ⟨by decide, by decide⟩ ⟨(by first | omega | (dsimp only; omega) | exact Nat.le_of_ble_eq_true rfl), (by first | omega | (dsimp only; omega) | exact Nat.le_of_ble_eq_true rfl)⟩ dX5_found_114 (fun E S9 h => nomatch h.1) (fun v9 S9 h => ?_)
          obtain ⟨h, hR2⟩ := h
          cases h
          have hR := hR.tr hR2
          clear hR2
          have ec4 : apX (xReel (fd1 X f z a b) f) (X 17 0) (X 12 0) 17 0 = X 17 0 + 1 := ec3
          refine j_aload C dX5_found_117 rfl ?_
          refine jg_3_1 C hR (i9 := X 17 0) (by omega) fl_Sp_85 dX5_found_119 ?_
          refine j_iret C ME ?_ (by first | omega | exact Nat.le_of_ble_eq_true rfl) (by first | omega | exact Nat.le_of_ble_eq_true rfl) dX5_found_122
          refine Or.inl ⟨?_, ?_, gup (gup (gup G 4 (X 12 0) q4) 3 (X 17 0) q3) 22 (X 17 0) a3, rfl, hR⟩
          · exact (by clear hR hC ME C; (try clear key); (try clear ih); unfold cx_found; (repeat' split) <;> first | rfl | omega | (simp_all; done) | (simp_all; omega))
          · first | rfl | exact rI (by first | rfl | omega | (simp_all; done) | (simp_all; omega))
        · refine j_throwS (text := "no room for a shot or its reel") C ME thr_ISE cl_Sp_43 ini_ISE (by decide +kernel) ?_ dX5_found_70 dX5_found_73 dX5_found_74 dX5_found_76 dX5_found_79 ⟨by decide, (Nat.le_of_ble_eq_true rfl), (by first | omega | (dsimp only; omega) | exact Nat.le_of_ble_eq_true rfl), (by first | omega | (dsimp only; omega) | exact Nat.le_of_ble_eq_true rfl)⟩ (by omega) (by omega)
          exact Or.inr ⟨3, _, rfl, (by clear hR hC ME C; (try clear key); (try clear ih); unfold cx_found; (repeat' split) <;> first | rfl | omega | (simp_all; done) | (simp_all; omega)), rfl, rfl⟩
    · refine j_throwS (text := "no such place") C ME thr_IOB cl_Sp_128 ini_IOB (by decide +kernel) ?_ dX5_found_23 dX5_found_26 dX5_found_27 dX5_found_29 dX5_found_32 ⟨by decide, (Nat.le_of_ble_eq_true rfl), (by first | omega | (dsimp only; omega) | exact Nat.le_of_ble_eq_true rfl), (by first | omega | (dsimp only; omega) | exact Nat.le_of_ble_eq_true rfl)⟩ (by omega) (by omega)
      exact Or.inr ⟨0, _, rfl, (by clear hR hC ME C; (try clear key); (try clear ih); unfold cx_found; (repeat' split) <;> first | rfl | omega | (simp_all; done) | (simp_all; omega)), rfl, rfl⟩

set_option maxHeartbeats 4000000 in
set_option maxRecDepth 100000 in
theorem p_join (l : Launch) (hfl : l.stackTraces = false) {D : wD} {S : wS} {G : wG} {X : wM} (hC : RC D.2.2.1 S G X) {r q : Int} (h_r : rg r)  (h_q : rg q) (hP : ∀ s, 0 ≤ s → s < X 12 0 → PLs X s) (hm : ∀ r q, 0 ≤ r → r < X 17 0 → 0 ≤ q → q < X 17 0 → X 13 r = X 13 q → 0 < X 16 r → 0 < X 16 q → X 4 (lastM X r) = X 4 (X 14 (60 * q))) (hcap : ∀ r q, 0 ≤ r → r < X 17 0 → 0 ≤ q → q < X 17 0 → ¬ r = q → X 16 r + X 16 q ≤ 60) : CtD l D yX5_join cX5_join 7 (some FieldType.int) 20 100 10000 [.ref (G 6 0), .int (iN r), .int (iN q)] S (pubP D.2.2.1 S G (cx_join X r q) ["java/lang/IndexOutOfBoundsException", "java/lang/IllegalArgumentException", "java/lang/UnsupportedOperationException"] (some (.int (iN (X 16 r + X 16 q)))) (joX X r q)) := by
  refine CtD.of cal_X5_join hfl (Nat.le_of_ble_eq_true rfl) ?_
  intro p e s m args below meth c sz C ME
  have hR : RCF D.2.2.1 S S G X := ⟨hC, cF.rf⟩
  have w6 := hC.w6
  unfold wf6 at w6
  refine j_aload_n C dX5_join_0 rfl ?_
  refine j_iload_n C dX5_join_1 rfl ?_
  refine j_callV C (n_reel l hfl hR.1 (by unfold rg at *; omega)) cal_X5_reelNumbered vi_X5_reelNumbered ml_Sp_88 (hR.1.k6) ⟨by decide, by decide, rfl⟩ rfl rfl (Nat.le_of_ble_eq_true rfl) ⟨by decide, by decide⟩ ⟨(by first | omega | (dsimp only; omega) | exact Nat.le_of_ble_eq_true rfl), (by first | omega | (dsimp only; omega) | exact Nat.le_of_ble_eq_true rfl)⟩ dX5_join_2 (fun E S9 h => ?_) (fun v9 S9 h => ?_)
  · obtain ⟨h9, h | h⟩ := h
    · exact nomatch h.2
    · obtain ⟨c2, h⟩ := h
      have h9 := h9.symm
      subst h9
      cases h
      refine j_out C ME ?_ (by omega) (by omega)
      exact Or.inr ⟨0, _, rfl, (by clear hR hC ME C; (try clear key); (try clear ih); unfold cx_join; (repeat' split) <;> first | rfl | omega | (simp_all; done) | (simp_all; omega)), rfl, rfl⟩
  obtain ⟨h9, h | h⟩ := h
  rotate_left
  · exact nomatch h.2
  obtain ⟨c2, h⟩ := h
  have h9 := h9.symm
  subst h9
  cases h
  have wfr := hC.w3 c2
  unfold wf3 at wfr
  refine j_astore_n C dX5_join_5 (by decide) ?_
  refine j_aload_n C dX5_join_6 rfl ?_
  refine j_iload_n C dX5_join_7 rfl ?_
  refine j_callV C (n_reel l hfl hR.1 (by unfold rg at *; omega)) cal_X5_reelNumbered vi_X5_reelNumbered ml_Sp_88 (hR.1.k6) ⟨by decide, by decide, rfl⟩ rfl rfl (Nat.le_of_ble_eq_true rfl) ⟨by decide, by decide⟩ ⟨(by first | omega | (dsimp only; omega) | exact Nat.le_of_ble_eq_true rfl), (by first | omega | (dsimp only; omega) | exact Nat.le_of_ble_eq_true rfl)⟩ dX5_join_8 (fun E S9 h => ?_) (fun v9 S9 h => ?_)
  · obtain ⟨h9, h | h⟩ := h
    · exact nomatch h.2
    · obtain ⟨c8, h⟩ := h
      have h9 := h9.symm
      subst h9
      cases h
      refine j_out C ME ?_ (by omega) (by omega)
      exact Or.inr ⟨0, _, rfl, (by clear hR hC ME C; (try clear key); (try clear ih); unfold cx_join; (repeat' split) <;> first | rfl | omega | (simp_all; done) | (simp_all; omega)), rfl, rfl⟩
  obtain ⟨h9, h | h⟩ := h
  rotate_left
  · exact nomatch h.2
  obtain ⟨c8, h⟩ := h
  have h9 := h9.symm
  subst h9
  cases h
  have wfq := hC.w3 c8
  unfold wf3 at wfq
  refine j_astore C dX5_join_11 (by decide) ?_
  refine j_aload_n C dX5_join_13 rfl ?_
  refine j_aload C dX5_join_14 rfl ?_
  refine j_acmp_eq (tgt := 31) C dX5_join_16 (by decide) (fun c16 => ?_) (fun c16 => ?_)
  · have c16 := hR.1.inj3 (by omega) (by omega) c16
    refine j_throwS (text := "the same reel, or of two films") C ME thr_IAE cl_Sp_101 ini_IAE (by decide +kernel) ?_ dX5_join_31 dX5_join_34 dX5_join_35 dX5_join_37 dX5_join_40 ⟨by decide, (Nat.le_of_ble_eq_true rfl), (by first | omega | (dsimp only; omega) | exact Nat.le_of_ble_eq_true rfl), (by first | omega | (dsimp only; omega) | exact Nat.le_of_ble_eq_true rfl)⟩ (by omega) (by omega)
    exact Or.inr ⟨1, _, rfl, (by clear hR hC ME C; (try clear key); (try clear ih); unfold cx_join; (repeat' split) <;> first | rfl | omega | (simp_all; done) | (simp_all; omega)), rfl, rfl⟩
  · have c16 : ¬ r = q := fun z => c16 (by rw [z])
    refine j_aload_n C dX5_join_19 rfl ?_
    refine jg_3_0 C hR (by omega) fl_Sp_96 dX5_join_20 (fun w20 => ?_)
    refine j_aload C dX5_join_23 rfl ?_
    refine jg_3_0 C hR (by omega) fl_Sp_96 dX5_join_25 (fun w25 => ?_)
    refine j_acmp_eq (tgt := 41) C dX5_join_28 (by decide) (fun c28 => ?_) (fun c28 => ?_)
    · have c28 := hR.1.inj1 (by omega) (by omega) c28
      have hcp := hcap r q (by omega) (by omega) (by omega) (by omega) c16
      refine j_aload_n C dX5_join_41 rfl ?_
      refine j_aload_n C dX5_join_42 rfl ?_
      refine j_aload C dX5_join_43 rfl ?_
      refine j_callV C (k_joined l hfl hR.1 hP (by omega) (by omega) (fun x y => hm r q (by omega) (by omega) (by omega) (by omega) c28 x y)) cal_X5_canBeJoined vi_X5_canBeJoined ml_Sp_140 (hR.1.k6) ⟨by decide, by decide, rfl⟩ rfl rfl (Nat.le_of_ble_eq_true rfl) ⟨by decide, by decide⟩ ⟨(by first | omega | (dsimp only; omega) | exact Nat.le_of_ble_eq_true rfl), (by first | omega | (dsimp only; omega) | exact Nat.le_of_ble_eq_true rfl)⟩ dX5_join_45 (fun E S9 h => nomatch h.1) (fun v9 S9 h => ?_)
      obtain ⟨h, h9⟩ := h
      have h9 := h9.symm
      subst h9
      cases h
      refine j_ifne_b (tgt := 61) C dX5_join_48 (by decide) (fun c48 => ?_) (fun c48 => ?_)
      · have c48 := of_decide_eq_true c48
        refine j_aload_n C dX5_join_61 rfl ?_
        refine j_aload_n C dX5_join_62 rfl ?_
        refine jg_3_0 C hR (by omega) fl_Sp_96 dX5_join_63 (fun w63 => ?_)
        refine j_callV C (n_lent l hfl hR.1 (by omega)) cal_X5_requireNotLent vi_X5_requireNotLent ml_Sp_119 (hR.1.k6) ⟨by decide, by decide, rfl⟩ rfl rfl (Nat.le_of_ble_eq_true rfl) ⟨by decide, by decide⟩ ⟨(by first | omega | (dsimp only; omega) | exact Nat.le_of_ble_eq_true rfl), (by first | omega | (dsimp only; omega) | exact Nat.le_of_ble_eq_true rfl)⟩ dX5_join_66 (fun E S9 h => ?_) (fun v9 S9 h => ?_)
        · obtain ⟨h9, h | h⟩ := h
          · exact nomatch h.2
          · obtain ⟨c66, h⟩ := h
            have h9 := h9.symm
            subst h9
            cases h
            refine j_out C ME ?_ (by omega) (by omega)
            exact Or.inr ⟨2, _, rfl, (by clear hR hC ME C; (try clear key); (try clear ih); unfold cx_join; (repeat' split) <;> first | rfl | omega | (simp_all; done) | (simp_all; omega)), rfl, rfl⟩
        obtain ⟨h9, h | h⟩ := h
        rotate_left
        · exact nomatch h.2
        obtain ⟨c66, h⟩ := h
        have h9 := h9.symm
        subst h9
        cases h
        refine j_aload C dX5_join_69 rfl ?_
        refine jg_3_2 C hR (by omega) fl_Sp_127 dX5_join_71 ?_
        refine j_callV C (z_rrow l hfl hR.1 (by omega)) cal_Jx4a65c_size_8abf5 vi_Jx4a65c_size_8abf5 ml_Sp_39 (hR.1.q_rrow (by omega)) ⟨by decide, by decide, rfl⟩ rfl rfl (Nat.le_of_ble_eq_true rfl) ⟨by decide, by decide⟩ ⟨(by first | omega | (dsimp only; omega) | exact Nat.le_of_ble_eq_true rfl), (by first | omega | (dsimp only; omega) | exact Nat.le_of_ble_eq_true rfl)⟩ dX5_join_74 (fun E S9 h => nomatch h.1) (fun v9 S9 h => ?_)
        obtain ⟨h, h9⟩ := h
        have h9 := h9.symm
        subst h9
        cases h
        refine j_istore C dX5_join_77 (by decide) ?_
        refine j_iconst C dX5_join_79 ?_
        refine j_istore C dX5_join_80 (by decide) ?_
        have hrq : q ≠ r := fun z => c16 z.symm
        have key : ∀ (fuel : Nat) (i : Nat) (S2 : wS), X 16 q - i < fuel → (i : Int) ≤ X 16 q → RCF D.2.2.1 S S2 G (jnX X r q i) → J p l e { frames := 20 * 20, cells := 100, slots := 10000, locals := 200 * 20 } s m args below meth c 7 D (wA S sz) (wQ below D sz S (pubP D.2.2.1 S G (cx_join X r q) ["java/lang/IndexOutOfBoundsException", "java/lang/IllegalArgumentException", "java/lang/UnsupportedOperationException"] (some (.int (iN (X 16 r + X 16 q)))) (joX X r q)) args s 100 10000) 82 [(0, .ref (G 6 0)), (3, .ref (G 3 r)), (4, .ref (G 3 q)), (5, .int (iN (X 16 q))), (6, .int (iN ((i : Nat) : Int)))] [] S2 (10 + i) (100 + 150 * i) := by
          intro fuel
          induction fuel with
          | zero => intro i S2 h1 h2 hR; omega
          | succ fuel ih =>
            intro i S2 h1 h2 hR
            have e16 : jnX X r q i 16 r = X 16 r + i := jnX_r i
            have e16q : jnX X r q i 16 q = X 16 q := jnX_q hrq i
            have e17 : jnX X r q i 17 0 = X 17 0 := jnX_o (by decide) (by decide) (by decide) i
            have e12 : jnX X r q i 12 0 = X 12 0 := jnX_o (by decide) (by decide) (by decide) i
            refine j_iload C dX5_join_82 rfl ?_
            refine j_iload C dX5_join_84 rfl ?_
            refine j_icmp_ge (tgt := 112) C dX5_join_86 (by decide) (by unfold rg at *; omega) (by unfold rg at *; omega) (fun c86 => ?_) (fun c86 => ?_)
            · refine j_aload C dX5_join_112 rfl ?_
              refine jg_3_2 C hR (by omega) fl_Sp_127 dX5_join_114 ?_
              obtain ⟨T, hh⟩ := hR.1.2
              refine j_callVD C (c_alClear l hfl (hh.2.2.2.2.2.2.1.2.2 q (by omega) (by omega))) cal_Jx4a65c_clear_da8c8 vi_Jx4a65c_clear_da8c8 ml_Sp_150 (hR.1.q_rrow (by omega)) ⟨by decide, by decide, rfl⟩ rfl rfl (Nat.le_of_ble_eq_true rfl) ⟨by decide, by decide⟩ ⟨(by first | omega | (dsimp only; omega) | exact Nat.le_of_ble_eq_true rfl), (by first | omega | (dsimp only; omega) | exact Nat.le_of_ble_eq_true rfl)⟩ dX5_join_117 (fun E S9 h => nomatch h.1) (fun v9 S3 h => ?_)
              obtain ⟨h, hL⟩ := h
              cases h
              have hi : (X 16 q).toNat = i := by omega
              have hR : RCF D.2.2.1 S S3 G (joX X r q) := hR.tr (by
                unfold joX
                rw [hi]
                exact RC.row2 hR.1.1 hh (by omega) hL (fun k k1 k2 => absurd k2 (by omega)) (by omega) (fun k k1 k2 => absurd k2 (by omega)))
              have e17b : joX X r q 17 0 = X 17 0 := by unfold joX; rw [rset_o (by decide) (by decide)]; exact jnX_o (by decide) (by decide) (by decide) _
              have e16b : joX X r q 16 r = X 16 r + X 16 q := by unfold joX; rw [rset_n' (by decide) hrq.symm, jnX_r]; omega
              refine j_aload_n C dX5_join_120 rfl ?_
              refine jg_3_2 C hR (by omega) fl_Sp_127 dX5_join_121 ?_
              refine j_callV C (z_rrow l hfl hR.1 (by omega)) cal_Jx4a65c_size_8abf5 vi_Jx4a65c_size_8abf5 ml_Sp_39 (hR.1.q_rrow (by omega)) ⟨by decide, by decide, rfl⟩ rfl rfl (Nat.le_of_ble_eq_true rfl) ⟨by decide, by decide⟩ ⟨(by first | omega | (dsimp only; omega) | exact Nat.le_of_ble_eq_true rfl), (by first | omega | (dsimp only; omega) | exact Nat.le_of_ble_eq_true rfl)⟩ dX5_join_124 (fun E S9 h => nomatch h.1) (fun v9 S9 h => ?_)
              obtain ⟨h, h9⟩ := h
              have h9 := h9.symm
              subst h9
              cases h
              refine j_iret C ME ?_ (by first | omega | exact Nat.le_of_ble_eq_true rfl) (by first | omega | exact Nat.le_of_ble_eq_true rfl) dX5_join_127
              refine Or.inl ⟨?_, ?_, G, rfl, hR⟩
              · exact (by clear hR hC ME C; (try clear key); (try clear ih); unfold cx_join; (repeat' split) <;> first | rfl | omega | (simp_all; done) | (simp_all; omega))
              · exact rI e16b
            · refine j_aload_n C dX5_join_89 rfl ?_
              refine j_aload C dX5_join_90 rfl ?_
              refine jg_3_2 C hR (by omega) fl_Sp_127 dX5_join_92 ?_
              refine j_iload C dX5_join_95 rfl ?_
              refine j_callV C (g_rrow l hfl hR.1 (by omega) (by omega)) cal_Jx4a65c_get_915e3 vi_Jx4a65c_get_915e3 ml_Sp_146 (hR.1.q_rrow (by omega)) ⟨by decide, by decide, rfl⟩ rfl rfl (Nat.le_of_ble_eq_true rfl) ⟨by decide, by decide⟩ ⟨(by first | omega | (dsimp only; omega) | exact Nat.le_of_ble_eq_true rfl), (by first | omega | (dsimp only; omega) | exact Nat.le_of_ble_eq_true rfl)⟩ dX5_join_97 (fun E S9 h => nomatch h.1) (fun v9 S9 h => ?_)
              obtain ⟨h, h9, w97⟩ := h
              have h9 := h9.symm
              subst h9
              cases h
              rw [jnX_e hrq (by omega)] at w97 ⊢
              refine j_cast (kd := 4) C (hR.1.k4 (by omega)) ⟨by decide, by decide⟩ cl_Sp_75 dX5_join_100 ?_
              refine j_callVD C (u_append l hfl hR.1 (by omega) (by omega) (by omega)) cal_X2_append vi_X2_append ml_Sp_123 (hR.1.k3 (by omega)) ⟨by decide, by decide, rfl⟩ rfl rfl (Nat.le_of_ble_eq_true rfl) ⟨by decide, by decide⟩ ⟨(by first | omega | (dsimp only; omega) | exact Nat.le_of_ble_eq_true rfl), (by first | omega | (dsimp only; omega) | exact Nat.le_of_ble_eq_true rfl)⟩ dX5_join_103 (fun E S9 h => nomatch h.1) (fun v9 S9 h => ?_)
              obtain ⟨h, hR2⟩ := h
              cases h
              have hR := hR.tr hR2
              clear hR2
              refine j_iinc C dX5_join_106 rfl (by decide) ?_
              refine j_goto (tgt := 82) C dX5_join_109 (by decide) ?_
              refine J.lvs (lv' := [(0, .ref (G 6 0)), (3, .ref (G 3 r)), (4, .ref (G 3 q)), (5, .int (iN (X 16 q))), (6, .int (iN (((i + 1) : Nat) : Int)))]) ?_ (J.widen (by first | omega | exact Nat.le_of_ble_eq_true rfl) (by first | omega | exact Nat.le_of_ble_eq_true rfl) (ih (i + 1) _ (by omega) (by omega) hR))
              intro q hq; simp only [List.mem_cons, List.not_mem_nil, or_false] at hq; rcases hq with rfl | rfl | rfl | rfl | rfl <;> rfl
        refine J.lvs (lv' := [(0, .ref (G 6 0)), (3, .ref (G 3 r)), (4, .ref (G 3 q)), (5, .int (iN (X 16 q))), (6, .int (iN ((0 : Nat) : Int)))]) ?_ (J.widen (by first | omega | exact Nat.le_of_ble_eq_true rfl) (by first | omega | exact Nat.le_of_ble_eq_true rfl) (key ((X 16 q).toNat + 1) 0 _ (by omega) (by omega) hR))
        intro q hq; simp only [List.mem_cons, List.not_mem_nil, or_false] at hq; rcases hq with rfl | rfl | rfl | rfl | rfl <;> rfl
      · have c48 := of_decide_eq_false c48
        refine j_throwS (text := "empty, or out of order") C ME thr_UOE cl_Sp_114 ini_UOE (by decide +kernel) ?_ dX5_join_51 dX5_join_54 dX5_join_55 dX5_join_57 dX5_join_60 ⟨by decide, (Nat.le_of_ble_eq_true rfl), (by first | omega | (dsimp only; omega) | exact Nat.le_of_ble_eq_true rfl), (by first | omega | (dsimp only; omega) | exact Nat.le_of_ble_eq_true rfl)⟩ (by omega) (by omega)
        exact Or.inr ⟨2, _, rfl, (by clear hR hC ME C; (try clear key); (try clear ih); unfold cx_join; (repeat' split) <;> first | rfl | omega | (simp_all; done) | (simp_all; omega)), rfl, rfl⟩
    · have c28 : ¬ X 13 r = X 13 q := fun z => c28 (by rw [z])
      refine j_throwS (text := "the same reel, or of two films") C ME thr_IAE cl_Sp_101 ini_IAE (by decide +kernel) ?_ dX5_join_31 dX5_join_34 dX5_join_35 dX5_join_37 dX5_join_40 ⟨by decide, (Nat.le_of_ble_eq_true rfl), (by first | omega | (dsimp only; omega) | exact Nat.le_of_ble_eq_true rfl), (by first | omega | (dsimp only; omega) | exact Nat.le_of_ble_eq_true rfl)⟩ (by omega) (by omega)
      exact Or.inr ⟨1, _, rfl, (by clear hR hC ME C; (try clear key); (try clear ih); unfold cx_join; (repeat' split) <;> first | rfl | omega | (simp_all; done) | (simp_all; omega)), rfl, rfl⟩

set_option maxHeartbeats 4000000 in
set_option maxRecDepth 100000 in
theorem p_passOn (l : Launch) (hfl : l.stackTraces = false) {S : wS} {E0 : Nat} {G : wG} {X : wM} (hC : RC E0 S G X) {z : Int} (h_z : rg z)  : Ct l yX5_passOn cX5_passOn 7 (some FieldType.int) 20 100 6000 [.ref (G 6 0), .int (iN z)] S (pubP E0 S G (x_passOn X z) ["java/lang/IndexOutOfBoundsException", "java/lang/UnsupportedOperationException"] (some (.int (iN (poN X (X 4 z) z (X 3 (X 4 z)).toNat)))) (pnX X (X 4 z) z (X 3 (X 4 z)).toNat)) := by
  refine Ct.of cal_X5_passOn hfl (Nat.le_of_ble_eq_true rfl) ?_
  intro p e s m args below meth c D sz C ME
  have hR : RCF E0 S S G X := ⟨hC, cF.rf⟩
  have w6 := hC.w6
  unfold wf6 at w6
  refine j_aload_n C dX5_passOn_0 rfl ?_
  refine j_iload_n C dX5_passOn_1 rfl ?_
  refine j_callV C (n_shot l hfl hR.1 (by unfold rg at *; omega)) cal_X5_shotNumbered vi_X5_shotNumbered ml_Sp_92 (hR.1.k6) ⟨by decide, by decide, rfl⟩ rfl rfl (Nat.le_of_ble_eq_true rfl) ⟨by decide, by decide⟩ ⟨(by first | omega | (dsimp only; omega) | exact Nat.le_of_ble_eq_true rfl), (by first | omega | (dsimp only; omega) | exact Nat.le_of_ble_eq_true rfl)⟩ dX5_passOn_2 (fun E S9 h => ?_) (fun v9 S9 h => ?_)
  · obtain ⟨h9, h | h⟩ := h
    · exact nomatch h.2
    · obtain ⟨c2, h⟩ := h
      have h9 := h9.symm
      subst h9
      cases h
      refine j_out C ME ?_ (by omega) (by omega)
      exact Or.inr ⟨0, _, rfl, (by clear hR hC ME C; (try clear key); (try clear ih); unfold x_passOn; (repeat' split) <;> first | rfl | omega | (simp_all; done) | (simp_all; omega)), rfl, rfl⟩
  obtain ⟨h9, h | h⟩ := h
  rotate_left
  · exact nomatch h.2
  obtain ⟨c2, h⟩ := h
  have h9 := h9.symm
  subst h9
  cases h
  refine j_astore_n C dX5_passOn_5 (by decide) ?_
  refine j_aload_n C dX5_passOn_6 rfl ?_
  refine jg_4_8 C hR (by omega) fl_Sp_236 dX5_passOn_7 (fun w7 => ?_)
  refine j_iconst C dX5_passOn_10 ?_
  refine j_icmp_ne (tgt := 24) C dX5_passOn_11 (by decide) (by unfold rg at *; omega) (by unfold rg at *; omega) (fun c11 => ?_) (fun c11 => ?_)
  · refine j_aload_n C dX5_passOn_24 rfl ?_
    refine jg_4_0 C hR (by omega) fl_Sp_100 dX5_passOn_25 (fun w25 => ?_)
    have wf := hC.w1 w25
    unfold wf1 at wf
    refine jg_1_0 C hR (by omega) fl_Sp_71 dX5_passOn_28 ?_
    refine j_astore_n C dX5_passOn_31 (by decide) ?_
    refine j_iconst C dX5_passOn_32 ?_
    refine j_istore C dX5_passOn_33 (by decide) ?_
    refine j_iconst C dX5_passOn_35 ?_
    refine j_istore C dX5_passOn_36 (by decide) ?_
    have key : ∀ (fuel : Nat) (i : Nat) (S2 : wS), X 3 (X 4 z) - i < fuel → (i : Int) ≤ X 3 (X 4 z) → RCF E0 S S2 G (pnX X (X 4 z) z i) → J p l e { frames := 20 * 20, cells := 100, slots := 6000, locals := 200 * 20 } s m args below meth c 7 D (wA S sz) (wQ below D sz S (pubP E0 S G (x_passOn X z) ["java/lang/IndexOutOfBoundsException", "java/lang/UnsupportedOperationException"] (some (.int (iN (poN X (X 4 z) z (X 3 (X 4 z)).toNat)))) (pnX X (X 4 z) z (X 3 (X 4 z)).toNat)) args s 100 6000) 38 [(0, .ref (G 6 0)), (1, .int (iN z)), (2, .ref (G 4 z)), (3, .ref (G 21 (X 4 z))), (4, .int (iN (poN X (X 4 z) z i))), (5, .int (iN ((i : Nat) : Int)))] [] S2 50 3000 := by
      intro fuel
      induction fuel with
      | zero => intro i S2 h1 h2 hR; omega
      | succ fuel ih =>
        intro i S2 h1 h2 hR
        have e3 : pnX X (X 4 z) z i 3 (X 4 z) = X 3 (X 4 z) := pnX_o (by decide) i
        have e1 : pnX X (X 4 z) z i 1 0 = X 1 0 := pnX_o (by decide) i
        have e12 : pnX X (X 4 z) z i 12 0 = X 12 0 := pnX_o (by decide) i
        have e2 : pnX X (X 4 z) z i 2 (60 * X 4 z + (i : Int)) = X 2 (60 * X 4 z + (i : Int)) := pnX_o (by decide) i
        have e6 : pnX X (X 4 z) z i 6 (X 2 (60 * X 4 z + (i : Int))) = X 6 (X 2 (60 * X 4 z + (i : Int))) := pnX_o (by decide) i
        have e6z : pnX X (X 4 z) z i 6 z = X 6 z := pnX_o (by decide) i
        have e10 : pnX X (X 4 z) z i 10 (X 2 (60 * X 4 z + (i : Int))) = X 10 (X 2 (60 * X 4 z + (i : Int))) := pnX_o (by decide) i
        have hpb : 0 ≤ poN X (X 4 z) z i ∧ poN X (X 4 z) z i ≤ i * 1 := sumI_bound (fun k _ => by unfold bN; split <;> omega)
        have e7 : poN X (X 4 z) z (i + 1) = poN X (X 4 z) z i + bN (qoP X (X 4 z) z i) := rfl
        refine j_iload C dX5_passOn_38 rfl ?_
        refine j_aload_n C dX5_passOn_40 rfl ?_
        refine j_callV C (z_row l hfl hR.1 (by omega)) cal_Jx4a65c_size_8abf5 vi_Jx4a65c_size_8abf5 ml_Sp_39 (hR.1.q_row (by omega)) ⟨by decide, by decide, rfl⟩ rfl rfl (Nat.le_of_ble_eq_true rfl) ⟨by decide, by decide⟩ ⟨(by first | omega | (dsimp only; omega) | exact Nat.le_of_ble_eq_true rfl), (by first | omega | (dsimp only; omega) | exact Nat.le_of_ble_eq_true rfl)⟩ dX5_passOn_41 (fun E S9 h => nomatch h.1) (fun v9 S9 h => ?_)
        obtain ⟨h, h9⟩ := h
        have h9 := h9.symm
        subst h9
        cases h
        rw [e3]
        refine j_icmp_ge (tgt := 100) C dX5_passOn_44 (by decide) (by unfold rg at *; omega) (by unfold rg at *; omega) (fun c44 => ?_) (fun c44 => ?_)
        · refine j_iload C dX5_passOn_100 rfl ?_
          refine j_iret C ME ?_ (by first | omega | exact Nat.le_of_ble_eq_true rfl) (by first | omega | exact Nat.le_of_ble_eq_true rfl) dX5_passOn_102
          have e : (X 3 (X 4 z)).toNat = i := by omega
          refine Or.inl ⟨?_, ?_, G, rfl, ?_⟩
          · exact (by clear hR hC ME C; (try clear key); (try clear ih); unfold x_passOn; (repeat' split) <;> first | rfl | omega | (simp_all; done) | (simp_all; omega))
          · rw [e]
          · rw [e]; exact hR
        · refine j_aload_n C dX5_passOn_47 rfl ?_
          refine j_iload C dX5_passOn_48 rfl ?_
          refine j_callV C (g_row l hfl hR.1 (by omega) (by omega)) cal_Jx4a65c_get_915e3 vi_Jx4a65c_get_915e3 ml_Sp_146 (hR.1.q_row (by omega)) ⟨by decide, by decide, rfl⟩ rfl rfl (Nat.le_of_ble_eq_true rfl) ⟨by decide, by decide⟩ ⟨(by first | omega | (dsimp only; omega) | exact Nat.le_of_ble_eq_true rfl), (by first | omega | (dsimp only; omega) | exact Nat.le_of_ble_eq_true rfl)⟩ dX5_passOn_50 (fun E S9 h => nomatch h.1) (fun v9 S9 h => ?_)
          obtain ⟨h, h9, w50⟩ := h
          have h9 := h9.symm
          subst h9
          cases h
          rw [e2] at w50 ⊢
          refine j_cast (kd := 4) C (hR.1.k4 (by omega)) ⟨by decide, by decide⟩ cl_Sp_75 dX5_passOn_53 ?_
          refine j_astore C dX5_passOn_56 (by decide) ?_
          refine j_aload C dX5_passOn_58 rfl ?_
          refine j_aload_n C dX5_passOn_60 rfl ?_
          refine j_acmp_eq (tgt := 94) C dX5_passOn_61 (by decide) (fun c61 => ?_) (fun c61 => ?_)
          · have c61 := hR.1.inj4 (by omega) (by omega) c61
            refine j_iinc C dX5_passOn_94 rfl (by decide) ?_
            refine j_goto (tgt := 38) C dX5_passOn_97 (by decide) ?_
            have hq : qoP X (X 4 z) z i = true ∨ qoP X (X 4 z) z i = false := by cases qoP X (X 4 z) z i <;> simp
            first
            | (have hq9 : qoP X (X 4 z) z i = true := decide_eq_true ⟨c61, by omega, by omega⟩
               rw [hq9] at e7
               refine J.lvs (lv' := [(0, .ref (G 6 0)), (1, .int (iN z)), (2, .ref (G 4 z)), (3, .ref (G 21 (X 4 z))), (4, .int (iN (poN X (X 4 z) z (i + 1)))), (5, .int (iN (((i + 1) : Nat) : Int)))]) ?_ ((ih (i + 1) _ (by omega) (by omega) (by rw [pnX]; first | (rw [if_pos hq9]; exact hR) | (rw [if_neg (by rw [hq9]; decide)]; exact hR))))
               rw [e7]
               intro q hq; simp only [List.mem_cons, List.not_mem_nil, or_false] at hq; rcases hq with rfl | rfl | rfl | rfl | rfl | rfl <;> rfl)
            | (have hq9 : qoP X (X 4 z) z i = false := decide_eq_false (by omega)
               rw [hq9, show bN false = 0 from rfl, Int.add_zero] at e7
               refine J.lvs (lv' := [(0, .ref (G 6 0)), (1, .int (iN z)), (2, .ref (G 4 z)), (3, .ref (G 21 (X 4 z))), (4, .int (iN (poN X (X 4 z) z (i + 1)))), (5, .int (iN (((i + 1) : Nat) : Int)))]) ?_ ((ih (i + 1) _ (by omega) (by omega) (by rw [pnX]; first | (rw [if_pos hq9]; exact hR) | (rw [if_neg (by rw [hq9]; decide)]; exact hR))))
               rw [e7]
               intro q hq; simp only [List.mem_cons, List.not_mem_nil, or_false] at hq; rcases hq with rfl | rfl | rfl | rfl | rfl | rfl <;> rfl)
          · have c61 : ¬ X 2 (60 * X 4 z + (i : Int)) = z := fun q => c61 (by rw [q])
            refine j_aload C dX5_passOn_64 rfl ?_
            refine jg_4_2 C hR (by omega) fl_Sp_251 dX5_passOn_66 (fun w66 => ?_)
            refine j_aload_n C dX5_passOn_69 rfl ?_
            refine jg_4_2 C hR (by omega) fl_Sp_251 dX5_passOn_70 (fun w70 => ?_)
            refine j_icmp_ne (tgt := 94) C dX5_passOn_73 (by decide) (by unfold rg at *; omega) (by unfold rg at *; omega) (fun c73 => ?_) (fun c73 => ?_)
            · refine j_iinc C dX5_passOn_94 rfl (by decide) ?_
              refine j_goto (tgt := 38) C dX5_passOn_97 (by decide) ?_
              have hq : qoP X (X 4 z) z i = true ∨ qoP X (X 4 z) z i = false := by cases qoP X (X 4 z) z i <;> simp
              first
              | (have hq9 : qoP X (X 4 z) z i = true := decide_eq_true ⟨c61, by omega, by omega⟩
                 rw [hq9] at e7
                 refine J.lvs (lv' := [(0, .ref (G 6 0)), (1, .int (iN z)), (2, .ref (G 4 z)), (3, .ref (G 21 (X 4 z))), (4, .int (iN (poN X (X 4 z) z (i + 1)))), (5, .int (iN (((i + 1) : Nat) : Int)))]) ?_ ((ih (i + 1) _ (by omega) (by omega) (by rw [pnX]; first | (rw [if_pos hq9]; exact hR) | (rw [if_neg (by rw [hq9]; decide)]; exact hR))))
                 rw [e7]
                 intro q hq; simp only [List.mem_cons, List.not_mem_nil, or_false] at hq; rcases hq with rfl | rfl | rfl | rfl | rfl | rfl <;> rfl)
              | (have hq9 : qoP X (X 4 z) z i = false := decide_eq_false (by omega)
                 rw [hq9, show bN false = 0 from rfl, Int.add_zero] at e7
                 refine J.lvs (lv' := [(0, .ref (G 6 0)), (1, .int (iN z)), (2, .ref (G 4 z)), (3, .ref (G 21 (X 4 z))), (4, .int (iN (poN X (X 4 z) z (i + 1)))), (5, .int (iN (((i + 1) : Nat) : Int)))]) ?_ ((ih (i + 1) _ (by omega) (by omega) (by rw [pnX]; first | (rw [if_pos hq9]; exact hR) | (rw [if_neg (by rw [hq9]; decide)]; exact hR))))
                 rw [e7]
                 intro q hq; simp only [List.mem_cons, List.not_mem_nil, or_false] at hq; rcases hq with rfl | rfl | rfl | rfl | rfl | rfl <;> rfl)
            · refine j_aload C dX5_passOn_76 rfl ?_
              refine jg_4_8 C hR (by omega) fl_Sp_236 dX5_passOn_78 (fun w78 => ?_)
              refine j_iconst C dX5_passOn_81 ?_
              refine j_icmp_ne (tgt := 94) C dX5_passOn_82 (by decide) (by unfold rg at *; omega) (by unfold rg at *; omega) (fun c82 => ?_) (fun c82 => ?_)
              · refine j_iinc C dX5_passOn_94 rfl (by decide) ?_
                refine j_goto (tgt := 38) C dX5_passOn_97 (by decide) ?_
                have hq : qoP X (X 4 z) z i = true ∨ qoP X (X 4 z) z i = false := by cases qoP X (X 4 z) z i <;> simp
                first
                | (have hq9 : qoP X (X 4 z) z i = true := decide_eq_true ⟨c61, by omega, by omega⟩
                   rw [hq9] at e7
                   refine J.lvs (lv' := [(0, .ref (G 6 0)), (1, .int (iN z)), (2, .ref (G 4 z)), (3, .ref (G 21 (X 4 z))), (4, .int (iN (poN X (X 4 z) z (i + 1)))), (5, .int (iN (((i + 1) : Nat) : Int)))]) ?_ ((ih (i + 1) _ (by omega) (by omega) (by rw [pnX]; first | (rw [if_pos hq9]; exact hR) | (rw [if_neg (by rw [hq9]; decide)]; exact hR))))
                   rw [e7]
                   intro q hq; simp only [List.mem_cons, List.not_mem_nil, or_false] at hq; rcases hq with rfl | rfl | rfl | rfl | rfl | rfl <;> rfl)
                | (have hq9 : qoP X (X 4 z) z i = false := decide_eq_false (by omega)
                   rw [hq9, show bN false = 0 from rfl, Int.add_zero] at e7
                   refine J.lvs (lv' := [(0, .ref (G 6 0)), (1, .int (iN z)), (2, .ref (G 4 z)), (3, .ref (G 21 (X 4 z))), (4, .int (iN (poN X (X 4 z) z (i + 1)))), (5, .int (iN (((i + 1) : Nat) : Int)))]) ?_ ((ih (i + 1) _ (by omega) (by omega) (by rw [pnX]; first | (rw [if_pos hq9]; exact hR) | (rw [if_neg (by rw [hq9]; decide)]; exact hR))))
                   rw [e7]
                   intro q hq; simp only [List.mem_cons, List.not_mem_nil, or_false] at hq; rcases hq with rfl | rfl | rfl | rfl | rfl | rfl <;> rfl)
              · refine j_aload C dX5_passOn_85 rfl ?_
                refine j_aload_n C dX5_passOn_87 rfl ?_
                refine jp_4_9 C hR (by omega) (by omega) fl_Sp_244 dX5_passOn_88 (fun S2 hR => ?_)
                refine j_iinc C dX5_passOn_91 rfl (by decide) ?_
                refine j_iinc C dX5_passOn_94 rfl (by decide) ?_
                refine j_goto (tgt := 38) C dX5_passOn_97 (by decide) ?_
                have hq : qoP X (X 4 z) z i = true ∨ qoP X (X 4 z) z i = false := by cases qoP X (X 4 z) z i <;> simp
                first
                | (have hq9 : qoP X (X 4 z) z i = true := decide_eq_true ⟨c61, by omega, by omega⟩
                   rw [hq9] at e7
                   refine J.lvs (lv' := [(0, .ref (G 6 0)), (1, .int (iN z)), (2, .ref (G 4 z)), (3, .ref (G 21 (X 4 z))), (4, .int (iN (poN X (X 4 z) z (i + 1)))), (5, .int (iN (((i + 1) : Nat) : Int)))]) ?_ ((ih (i + 1) _ (by omega) (by omega) (by rw [pnX]; first | (rw [if_pos hq9]; exact hR) | (rw [if_neg (by rw [hq9]; decide)]; exact hR))))
                   rw [e7]
                   intro q hq; simp only [List.mem_cons, List.not_mem_nil, or_false] at hq; rcases hq with rfl | rfl | rfl | rfl | rfl | rfl <;> rfl)
                | (have hq9 : qoP X (X 4 z) z i = false := decide_eq_false (by omega)
                   rw [hq9, show bN false = 0 from rfl, Int.add_zero] at e7
                   refine J.lvs (lv' := [(0, .ref (G 6 0)), (1, .int (iN z)), (2, .ref (G 4 z)), (3, .ref (G 21 (X 4 z))), (4, .int (iN (poN X (X 4 z) z (i + 1)))), (5, .int (iN (((i + 1) : Nat) : Int)))]) ?_ ((ih (i + 1) _ (by omega) (by omega) (by rw [pnX]; first | (rw [if_pos hq9]; exact hR) | (rw [if_neg (by rw [hq9]; decide)]; exact hR))))
                   rw [e7]
                   intro q hq; simp only [List.mem_cons, List.not_mem_nil, or_false] at hq; rcases hq with rfl | rfl | rfl | rfl | rfl | rfl <;> rfl)
    refine J.lvs (lv' := [(0, .ref (G 6 0)), (1, .int (iN z)), (2, .ref (G 4 z)), (3, .ref (G 21 (X 4 z))), (4, .int (iN (poN X (X 4 z) z 0))), (5, .int (iN ((0 : Nat) : Int)))]) ?_ (J.widen (by first | omega | exact Nat.le_of_ble_eq_true rfl) (by first | omega | exact Nat.le_of_ble_eq_true rfl) (key ((X 3 (X 4 z)).toNat + 1) 0 _ (by omega) (by omega) hR))
    intro q hq; simp only [List.mem_cons, List.not_mem_nil, or_false] at hq; rcases hq with rfl | rfl | rfl | rfl | rfl | rfl <;> rfl
  · refine j_throwS (text := "no grade of its own") C ME thr_UOE cl_Sp_114 ini_UOE (by decide +kernel) ?_ dX5_passOn_14 dX5_passOn_17 dX5_passOn_18 dX5_passOn_20 dX5_passOn_23 ⟨by decide, (Nat.le_of_ble_eq_true rfl), (by first | omega | (dsimp only; omega) | exact Nat.le_of_ble_eq_true rfl), (by first | omega | (dsimp only; omega) | exact Nat.le_of_ble_eq_true rfl)⟩ (by omega) (by omega)
    exact Or.inr ⟨1, _, rfl, (by clear hR hC ME C; (try clear key); (try clear ih); unfold x_passOn; (repeat' split) <;> first | rfl | omega | (simp_all; done) | (simp_all; omega)), rfl, rfl⟩

set_option maxHeartbeats 4000000 in
set_option maxRecDepth 100000 in
theorem p_addVersion (l : Launch) (hfl : l.stackTraces = false) {D : wD} {S : wS} {G : wG} {X : wM} (hC : RC D.2.2.1 S G X) {f a : Int} (h_f : rg f)  (h_a : rg a) (hz : ∀ i, 0 ≤ i → i < 61440 → X 33 (61440 * X 21 0 + i) = 0) : CtD l D yX5_addVersion cX5_addVersion 4 (some FieldType.int) 20 100 6000 [.ref (G 6 0), .int (iN f), .int (iN a)] S (pubP D.2.2.1 S G (x_addVersion X f a) ["java/lang/IndexOutOfBoundsException", "java/lang/IllegalArgumentException", "java/lang/UnsupportedOperationException", "java/lang/IllegalStateException"] (some (.int (iN (v_addVersion X f a)))) (xVersion X f a)) := by
  refine CtD.of cal_X5_addVersion hfl (Nat.le_of_ble_eq_true rfl) ?_
  intro p e s m args below meth c sz C ME
  have hR : RCF D.2.2.1 S S G X := ⟨hC, cF.rf⟩
  have w6 := hC.w6
  unfold wf6 at w6
  obtain ⟨T, hh⟩ := hC.2
  refine j_aload_n C dX5_addVersion_0 rfl ?_
  refine j_iload_n C dX5_addVersion_1 rfl ?_
  refine j_callV C (n_film l hfl hR.1 (by unfold rg at *; omega)) cal_X5_filmNumbered vi_X5_filmNumbered ml_Sp_57 (hR.1.k6) ⟨by decide, by decide, rfl⟩ rfl rfl (Nat.le_of_ble_eq_true rfl) ⟨by decide, by decide⟩ ⟨(by first | omega | (dsimp only; omega) | exact Nat.le_of_ble_eq_true rfl), (by first | omega | (dsimp only; omega) | exact Nat.le_of_ble_eq_true rfl)⟩ dX5_addVersion_2 (fun E S9 h => ?_) (fun v9 S9 h => ?_)
  · obtain ⟨h9, h | h⟩ := h
    · exact nomatch h.2
    · obtain ⟨c2, h⟩ := h
      have h9 := h9.symm
      subst h9
      cases h
      refine j_out C ME ?_ (by omega) (by omega)
      exact Or.inr ⟨0, _, rfl, (by clear hR hC ME C; (try clear key); (try clear ih); unfold x_addVersion; (repeat' split) <;> first | rfl | omega | (simp_all; done) | (simp_all; omega)), rfl, rfl⟩
  obtain ⟨h9, h | h⟩ := h
  rotate_left
  · exact nomatch h.2
  obtain ⟨c2, h⟩ := h
  have h9 := h9.symm
  subst h9
  cases h
  refine j_astore_n C dX5_addVersion_5 (by decide) ?_
  refine j_iload_n C dX5_addVersion_6 rfl ?_
  refine j_if_lt (tgt := 16) C dX5_addVersion_7 (by decide) (by unfold rg at *; omega) (fun c7 => ?_) (fun c7 => ?_)
  · refine j_throwS (text := "no such country") C ME thr_IAE cl_Sp_101 ini_IAE (by decide +kernel) ?_ dX5_addVersion_16 dX5_addVersion_19 dX5_addVersion_20 dX5_addVersion_22 dX5_addVersion_25 ⟨by decide, (Nat.le_of_ble_eq_true rfl), (by first | omega | (dsimp only; omega) | exact Nat.le_of_ble_eq_true rfl), (by first | omega | (dsimp only; omega) | exact Nat.le_of_ble_eq_true rfl)⟩ (by omega) (by omega)
    exact Or.inr ⟨1, _, rfl, (by clear hR hC ME C; (try clear key); (try clear ih); unfold x_addVersion; (repeat' split) <;> first | rfl | omega | (simp_all; done) | (simp_all; omega)), rfl, rfl⟩
  · refine j_iload_n C dX5_addVersion_10 rfl ?_
    refine j_bipush C dX5_addVersion_11 (by decide) ?_
    refine j_icmp_le (tgt := 26) C dX5_addVersion_13 (by decide) (by unfold rg at *; omega) (by unfold rg at *; omega) (fun c13 => ?_) (fun c13 => ?_)
    · refine j_aload_n C dX5_addVersion_26 rfl ?_
      refine j_aload_n C dX5_addVersion_27 rfl ?_
      refine j_iload_n C dX5_addVersion_28 rfl ?_
      refine j_callV C (k_hasv l hfl hR.1 (by omega) (by unfold rg at *; omega)) cal_X5_hasVersion vi_X5_hasVersion ml_Sp_256 (hR.1.k6) ⟨by decide, by decide, rfl⟩ rfl rfl (Nat.le_of_ble_eq_true rfl) ⟨by decide, by decide⟩ ⟨(by first | omega | (dsimp only; omega) | exact Nat.le_of_ble_eq_true rfl), (by first | omega | (dsimp only; omega) | exact Nat.le_of_ble_eq_true rfl)⟩ dX5_addVersion_29 (fun E S9 h => nomatch h.1) (fun v9 S9 h => ?_)
      obtain ⟨h, h9⟩ := h
      have h9 := h9.symm
      subst h9
      cases h
      refine j_ifeq_b (tgt := 46) C dX5_addVersion_32 (by decide) (fun c32 => ?_) (fun c32 => ?_)
      · refine j_aload_n C dX5_addVersion_46 rfl ?_
        refine jg_6_3 C hR fl_Sp_22 dX5_addVersion_47 ?_
        refine j_callV C (z_L3 l hfl hR.1 ) cal_Jx4a65c_size_8abf5 vi_Jx4a65c_size_8abf5 ml_Sp_39 (hR.1.q_L3 ) ⟨by decide, by decide, rfl⟩ rfl rfl (Nat.le_of_ble_eq_true rfl) ⟨by decide, by decide⟩ ⟨(by first | omega | (dsimp only; omega) | exact Nat.le_of_ble_eq_true rfl), (by first | omega | (dsimp only; omega) | exact Nat.le_of_ble_eq_true rfl)⟩ dX5_addVersion_50 (fun E S9 h => nomatch h.1) (fun v9 S9 h => ?_)
        obtain ⟨h, h9⟩ := h
        have h9 := h9.symm
        subst h9
        cases h
        refine j_bipush C dX5_addVersion_53 (by decide) ?_
        refine j_icmp_lt (tgt := 69) C dX5_addVersion_55 (by decide) (by unfold rg at *; omega) (by unfold rg at *; omega) (fun c55 => ?_) (fun c55 => ?_)
        · refine j_aload_n C dX5_addVersion_69 rfl ?_
          refine jg_6_3 C hR fl_Sp_22 dX5_addVersion_70 ?_
          refine j_new C (kd := 5) ⟨by decide, by decide⟩ cl_Sp_264 nw_Ve ⟨(by first | omega | (dsimp only; omega) | exact Nat.le_of_ble_eq_true rfl), (by first | omega | (dsimp only; omega) | exact Nat.le_of_ble_eq_true rfl)⟩ dX5_addVersion_73 (fun q9 hq hqE => ?_)
          have hn1 : nE S (sNew S 5 q9 (fun j => defaultValue (kT 5 j))) := nE.rf.new hq
          refine j_dup C dX5_addVersion_76 rfl ?_
          refine j_aload_n C dX5_addVersion_77 rfl ?_
          refine j_iload_n C dX5_addVersion_78 rfl ?_
          refine j_callI C (c_veInit l hfl (q9 := q9) (sK_new (k := 5))) cal_X4_init in_X4_init ml_Sp_266 (by decide) rfl rfl (Nat.le_of_ble_eq_true rfl) ⟨by decide, by decide⟩ ⟨(by first | omega | (dsimp only; omega) | exact Nat.le_of_ble_eq_true rfl), (by first | omega | (dsimp only; omega) | exact Nat.le_of_ble_eq_true rfl)⟩ dX5_addVersion_79 (fun E S9 h => by obtain ⟨a, h, -⟩ := h; exact nomatch h) (fun v9 S2 h => ?_)
          obtain ⟨a9, h, ha9, haq, hce, hk2, ⟨l1, l2, l3⟩, f0, f1, f2⟩ := h
          cases h
          have ha0 : sK S a9 = 0 := hn1.z ha9
          have hn2 : nE S S2 := fun c hc => (hn1 c hc).tr (hce c (fun z => hc (by rw [z]; exact hq)) (fun z => hc (by rw [z]; exact ha0)))
          have hR : RCF D.2.2.1 S S2 G X := ⟨hC.ne hn2, hn2.cF⟩
          refine j_callVD C (c_alAdd l hfl (y := q9) (hh.ne hn2).2.2.2.2.2.2.1.1.2.2.2.1 (by omega) (by rw [hk2]; decide) (fun k hk => by rw [hR.1.k5 (i9 := (k : Int)) ⟨by omega, hk⟩]; decide)) cal_Jx4a65c_add_9ea2d vi_Jx4a65c_add_9ea2d ml_Sp_53 hR.1.q_L3 ⟨by decide, by decide, rfl⟩ rfl rfl (Nat.le_of_ble_eq_true rfl) ⟨by decide, by decide⟩ ⟨(by first | omega | (dsimp only; omega) | exact Nat.le_of_ble_eq_true rfl), (by first | omega | (dsimp only; omega) | exact Nat.le_of_ble_eq_true rfl)⟩ dX5_addVersion_82 (fun E S9 h => nomatch h.1) (fun v9 S3 h => ?_)
          obtain ⟨h, hL⟩ := h
          cases h
          have hR : RCF D.2.2.1 S S3 (gup (gup G 5 (X 21 0) q9) 9 (X 21 0) a9) (xVersion X f a) := RC.new_version hC.1 hh hq ha0 haq l1 l2 l3 hn2 hk2 (fun j hj => by
            rcases (show j = 0 ∨ j = 1 ∨ j = 2 by omega) with rfl | rfl | rfl
            · refine f0.trans ?_
              show _ = Value.ref (G 1 (xVersion X f a 19 (X 21 0)))
              rw [show xVersion X f a 19 (X 21 0) = f from xnew_v (by decide) rfl]
            · refine f1.trans ?_
              show _ = Value.int (iN (xVersion X f a 20 (X 21 0)))
              rw [show xVersion X f a 20 (X 21 0) = a from xnew_v (by decide) rfl]
            · refine f2.trans ?_
              show _ = Value.ref (gup (gup G 5 (X 21 0) q9) 9 (X 21 0) a9 9 (X 21 0))
              rw [gup_at]) (by omega) c2 (by omega) hz hL
          have ec : xVersion X f a 21 0 = X 21 0 + 1 := xnew_c
          refine j_pop C dX5_addVersion_85 rfl ?_
          refine j_aload_n C dX5_addVersion_86 rfl ?_
          refine jg_6_3 (G := gup (gup G 5 (X 21 0) q9) 9 (X 21 0) a9) C hR fl_Sp_22 dX5_addVersion_87 ?_
          refine j_callV C (z_L3 l hfl hR.1 ) cal_Jx4a65c_size_8abf5 vi_Jx4a65c_size_8abf5 ml_Sp_39 (hR.1.q_L3 ) ⟨by decide, by decide, rfl⟩ rfl rfl (Nat.le_of_ble_eq_true rfl) ⟨by decide, by decide⟩ ⟨(by first | omega | (dsimp only; omega) | exact Nat.le_of_ble_eq_true rfl), (by first | omega | (dsimp only; omega) | exact Nat.le_of_ble_eq_true rfl)⟩ dX5_addVersion_90 (fun E S9 h => nomatch h.1) (fun v9 S9 h => ?_)
          obtain ⟨h, h9⟩ := h
          have h9 := h9.symm
          subst h9
          cases h
          refine j_iconst C dX5_addVersion_93 ?_
          refine j_isub C dX5_addVersion_94 ?_
          refine j_iret C ME ?_ (by first | omega | exact Nat.le_of_ble_eq_true rfl) (by first | omega | exact Nat.le_of_ble_eq_true rfl) dX5_addVersion_95
          refine Or.inl ⟨?_, ?_, gup (gup G 5 (X 21 0) q9) 9 (X 21 0) a9, rfl, hR⟩
          · exact (by clear hR hC ME C; (try clear key); (try clear ih); unfold x_addVersion; (repeat' split) <;> first | rfl | omega | (simp_all; done) | (simp_all; omega))
          · exact rI (by unfold v_addVersion; omega)
        · refine j_throwSW (text := "no room for a version") C ME thr_ISE cl_Sp_43 ini_ISE (by decide +kernel) ?_ dX5_addVersion_58 dX5_addVersion_61 dX5_addVersion_62 dX5_addVersion_65 dX5_addVersion_68 ⟨by decide, (Nat.le_of_ble_eq_true rfl), (by first | omega | (dsimp only; omega) | exact Nat.le_of_ble_eq_true rfl), (by first | omega | (dsimp only; omega) | exact Nat.le_of_ble_eq_true rfl)⟩ (by omega) (by omega)
          exact Or.inr ⟨3, _, rfl, (by clear hR hC ME C; (try clear key); (try clear ih); unfold x_addVersion; (repeat' split) <;> first | rfl | omega | (simp_all; done) | (simp_all; omega)), rfl, rfl⟩
      · refine j_throwSW (text := "the country has a version") C ME thr_UOE cl_Sp_114 ini_UOE (by decide +kernel) ?_ dX5_addVersion_35 dX5_addVersion_38 dX5_addVersion_39 dX5_addVersion_42 dX5_addVersion_45 ⟨by decide, (Nat.le_of_ble_eq_true rfl), (by first | omega | (dsimp only; omega) | exact Nat.le_of_ble_eq_true rfl), (by first | omega | (dsimp only; omega) | exact Nat.le_of_ble_eq_true rfl)⟩ (by omega) (by omega)
        exact Or.inr ⟨2, _, rfl, (by clear hR hC ME C; (try clear key); (try clear ih); unfold x_addVersion; (repeat' split) <;> first | rfl | omega | (simp_all; done) | (simp_all; omega)), rfl, rfl⟩
    · refine j_throwS (text := "no such country") C ME thr_IAE cl_Sp_101 ini_IAE (by decide +kernel) ?_ dX5_addVersion_16 dX5_addVersion_19 dX5_addVersion_20 dX5_addVersion_22 dX5_addVersion_25 ⟨by decide, (Nat.le_of_ble_eq_true rfl), (by first | omega | (dsimp only; omega) | exact Nat.le_of_ble_eq_true rfl), (by first | omega | (dsimp only; omega) | exact Nat.le_of_ble_eq_true rfl)⟩ (by omega) (by omega)
      exact Or.inr ⟨1, _, rfl, (by clear hR hC ME C; (try clear key); (try clear ih); unfold x_addVersion; (repeat' split) <;> first | rfl | omega | (simp_all; done) | (simp_all; omega)), rfl, rfl⟩

set_option maxHeartbeats 4000000 in
set_option maxRecDepth 100000 in
theorem p_leaveOut (l : Launch) (hfl : l.stackTraces = false) {S : wS} {E0 : Nat} {G : wG} {X : wM} (hC : RC E0 S G X) {f a b : Int} (h_f : rg f)  (h_a : rg a)  (h_b : rg b) {w : Bool}  : Ct l yX5_leaveOut cX5_leaveOut 12 (some FieldType.int) 20 100 6000 [.ref (G 6 0), .int (iN f), .int (iN a), .int (iN b), .int (iN (bN w))] S (pubP E0 S G (cx_leaveOut X f a b) ["java/lang/IndexOutOfBoundsException", "java/lang/IllegalArgumentException"] (some (.int (iN (lvN X f (X 19 f) a b w (X 3 (X 19 f)).toNat)))) (lvX X f (X 19 f) a b w (X 3 (X 19 f)).toNat)) := by
  refine Ct.of cal_X5_leaveOut hfl (Nat.le_of_ble_eq_true rfl) ?_
  intro p e s m args below meth c D sz C ME
  have hR : RCF E0 S S G X := ⟨hC, cF.rf⟩
  have w6 := hC.w6
  unfold wf6 at w6
  refine j_aload_n C dX5_leaveOut_0 rfl ?_
  refine j_iload_n C dX5_leaveOut_1 rfl ?_
  refine j_callV C (n_version l hfl hR.1 (by unfold rg at *; omega)) cal_X5_versionNumbered vi_X5_versionNumbered ml_Sp_269 (hR.1.k6) ⟨by decide, by decide, rfl⟩ rfl rfl (Nat.le_of_ble_eq_true rfl) ⟨by decide, by decide⟩ ⟨(by first | omega | (dsimp only; omega) | exact Nat.le_of_ble_eq_true rfl), (by first | omega | (dsimp only; omega) | exact Nat.le_of_ble_eq_true rfl)⟩ dX5_leaveOut_2 (fun E S9 h => ?_) (fun v9 S9 h => ?_)
  · obtain ⟨h9, h | h⟩ := h
    · exact nomatch h.2
    · obtain ⟨c2, h⟩ := h
      have h9 := h9.symm
      subst h9
      cases h
      refine j_out C ME ?_ (by omega) (by omega)
      exact Or.inr ⟨0, _, rfl, (by clear hR hC ME C; (try clear key); (try clear ih); unfold cx_leaveOut; (repeat' split) <;> first | rfl | omega | (simp_all; done) | (simp_all; omega)), rfl, rfl⟩
  obtain ⟨h9, h | h⟩ := h
  rotate_left
  · exact nomatch h.2
  obtain ⟨c2, h⟩ := h
  have h9 := h9.symm
  subst h9
  cases h
  have w5 := hC.w5 c2
  unfold wf5 at w5
  have wf := hC.w1 w5.1
  unfold wf1 at wf
  have hfb := ahead_b hC w5.1 (n := (X 3 (X 19 f)).toNat) (by omega)
  refine j_astore C dX5_leaveOut_5 (by decide) ?_
  refine j_iload_n C dX5_leaveOut_7 rfl ?_
  refine j_if_lt (tgt := 28) C dX5_leaveOut_8 (by decide) (by unfold rg at *; omega) (fun c8 => ?_) (fun c8 => ?_)
  · refine j_throwSW (text := "no such frames") C ME thr_IAE cl_Sp_101 ini_IAE (by decide +kernel) ?_ dX5_leaveOut_28 dX5_leaveOut_31 dX5_leaveOut_32 dX5_leaveOut_35 dX5_leaveOut_38 ⟨by decide, (Nat.le_of_ble_eq_true rfl), (by first | omega | (dsimp only; omega) | exact Nat.le_of_ble_eq_true rfl), (by first | omega | (dsimp only; omega) | exact Nat.le_of_ble_eq_true rfl)⟩ (by omega) (by omega)
    exact Or.inr ⟨1, _, rfl, (by clear hR hC ME C; (try clear key); (try clear ih); unfold cx_leaveOut; (repeat' split) <;> first | rfl | omega | (simp_all; done) | (simp_all; omega)), rfl, rfl⟩
  · refine j_iload_n C dX5_leaveOut_11 rfl ?_
    refine j_iload_n C dX5_leaveOut_12 rfl ?_
    refine j_icmp_le (tgt := 28) C dX5_leaveOut_13 (by decide) (by unfold rg at *; omega) (by unfold rg at *; omega) (fun c13 => ?_) (fun c13 => ?_)
    · refine j_throwSW (text := "no such frames") C ME thr_IAE cl_Sp_101 ini_IAE (by decide +kernel) ?_ dX5_leaveOut_28 dX5_leaveOut_31 dX5_leaveOut_32 dX5_leaveOut_35 dX5_leaveOut_38 ⟨by decide, (Nat.le_of_ble_eq_true rfl), (by first | omega | (dsimp only; omega) | exact Nat.le_of_ble_eq_true rfl), (by first | omega | (dsimp only; omega) | exact Nat.le_of_ble_eq_true rfl)⟩ (by omega) (by omega)
      exact Or.inr ⟨1, _, rfl, (by clear hR hC ME C; (try clear key); (try clear ih); unfold cx_leaveOut; (repeat' split) <;> first | rfl | omega | (simp_all; done) | (simp_all; omega)), rfl, rfl⟩
    · refine j_iload_n C dX5_leaveOut_16 rfl ?_
      refine j_aload C dX5_leaveOut_17 rfl ?_
      refine jg_5_0 C hR (by omega) fl_Sp_273 dX5_leaveOut_19 (fun w19 => ?_)
      refine j_callV C (k_fcount l hfl hR.1 (by omega)) cal_X0_frameCount vi_X0_frameCount ml_Sp_274 (hR.1.k1 (by omega)) ⟨by decide, by decide, rfl⟩ rfl rfl (Nat.le_of_ble_eq_true rfl) ⟨by decide, by decide⟩ ⟨(by first | omega | (dsimp only; omega) | exact Nat.le_of_ble_eq_true rfl), (by first | omega | (dsimp only; omega) | exact Nat.le_of_ble_eq_true rfl)⟩ dX5_leaveOut_22 (fun E S9 h => nomatch h.1) (fun v9 S9 h => ?_)
      obtain ⟨h, h9⟩ := h
      have h9 := h9.symm
      subst h9
      cases h
      refine j_icmp_le (tgt := 39) C dX5_leaveOut_25 (by decide) (by unfold rg at *; omega) (by unfold rg at *; omega) (fun c25 => ?_) (fun c25 => ?_)
      · refine j_aload C dX5_leaveOut_39 rfl ?_
        refine jg_5_0 C hR (by omega) fl_Sp_273 dX5_leaveOut_41 (fun w41 => ?_)
        refine jg_1_0 C hR (by omega) fl_Sp_71 dX5_leaveOut_44 ?_
        refine j_astore C dX5_leaveOut_47 (by decide) ?_
        refine j_iconst C dX5_leaveOut_49 ?_
        refine j_istore C dX5_leaveOut_50 (by decide) ?_
        refine j_iconst C dX5_leaveOut_52 ?_
        refine j_istore C dX5_leaveOut_53 (by decide) ?_
        refine j_iconst C dX5_leaveOut_55 ?_
        refine j_istore C dX5_leaveOut_56 (by decide) ?_
        have key : ∀ (fuel : Nat) (i : Nat) (S2 : wS), X 3 (X 19 f) - i < fuel → (i : Int) ≤ X 3 (X 19 f) → RCF E0 S S2 G (lvX X f (X 19 f) a b w i) → J p l e { frames := 20 * 20, cells := 100, slots := 6000, locals := 200 * 20 } s m args below meth c 12 D (wA S sz) (wQ below D sz S (pubP E0 S G (cx_leaveOut X f a b) ["java/lang/IndexOutOfBoundsException", "java/lang/IllegalArgumentException"] (some (.int (iN (lvN X f (X 19 f) a b w (X 3 (X 19 f)).toNat)))) (lvX X f (X 19 f) a b w (X 3 (X 19 f)).toNat)) args s 100 6000) 58 [(0, .ref (G 6 0)), (1, .int (iN f)), (2, .int (iN a)), (3, .int (iN b)), (4, .int (iN (bN w))), (5, .ref (G 5 f)), (6, .ref (G 21 (X 19 f))), (7, .int (iN (lvN X f (X 19 f) a b w i))), (8, .int (iN (aheadM X (X 19 f) i))), (9, .int (iN ((i : Nat) : Int)))] [] S2 50 3000 := by
          intro fuel
          induction fuel with
          | zero => intro i S2 h1 h2 hR; omega
          | succ fuel ih =>
            intro i S2 h1 h2 hR
            have e3 : lvX X f (X 19 f) a b w i 3 (X 19 f) = X 3 (X 19 f) := lvX_o (by decide) i
            have e1 : lvX X f (X 19 f) a b w i 1 0 = X 1 0 := lvX_o (by decide) i
            have e12 : lvX X f (X 19 f) a b w i 12 0 = X 12 0 := lvX_o (by decide) i
            have e21 : lvX X f (X 19 f) a b w i 21 0 = X 21 0 := lvX_o (by decide) i
            have e2 : lvX X f (X 19 f) a b w i 2 (60 * X 19 f + (i : Int)) = X 2 (60 * X 19 f + (i : Int)) := lvX_o (by decide) i
            have ek : keptM (lvX X f (X 19 f) a b w i) (X 2 (60 * X 19 f + (i : Int))) = keptM X (X 2 (60 * X 19 f + (i : Int))) := by unfold keptM; rw [lvX_o (by decide), lvX_o (by decide)]
            have hab := ahead_b hC w5.1 (n := i) (by omega)
            have hnb := @lvN_b X f (X 19 f) a b w i
            refine j_iload C dX5_leaveOut_58 rfl ?_
            refine j_aload C dX5_leaveOut_60 rfl ?_
            refine j_callV C (z_row l hfl hR.1 (by omega)) cal_Jx4a65c_size_8abf5 vi_Jx4a65c_size_8abf5 ml_Sp_39 (hR.1.q_row (by omega)) ⟨by decide, by decide, rfl⟩ rfl rfl (Nat.le_of_ble_eq_true rfl) ⟨by decide, by decide⟩ ⟨(by first | omega | (dsimp only; omega) | exact Nat.le_of_ble_eq_true rfl), (by first | omega | (dsimp only; omega) | exact Nat.le_of_ble_eq_true rfl)⟩ dX5_leaveOut_62 (fun E S9 h => nomatch h.1) (fun v9 S9 h => ?_)
            obtain ⟨h, h9⟩ := h
            have h9 := h9.symm
            subst h9
            cases h
            rw [e3]
            refine j_icmp_ge (tgt := 131) C dX5_leaveOut_65 (by decide) (by unfold rg at *; omega) (by unfold rg at *; omega) (fun c65 => ?_) (fun c65 => ?_)
            · refine j_iload C dX5_leaveOut_131 rfl ?_
              refine j_iret C ME ?_ (by first | omega | exact Nat.le_of_ble_eq_true rfl) (by first | omega | exact Nat.le_of_ble_eq_true rfl) dX5_leaveOut_133
              have e : (X 3 (X 19 f)).toNat = i := by omega
              refine Or.inl ⟨?_, ?_, G, rfl, ?_⟩
              · exact (by clear hR hC ME C; (try clear key); (try clear ih); unfold cx_leaveOut; (repeat' split) <;> first | rfl | omega | (simp_all; done) | (simp_all; omega))
              · rw [e]
              · rw [e]; exact hR
            · refine j_aload C dX5_leaveOut_68 rfl ?_
              refine j_iload C dX5_leaveOut_70 rfl ?_
              refine j_callV C (g_row l hfl hR.1 (by omega) (by omega)) cal_Jx4a65c_get_915e3 vi_Jx4a65c_get_915e3 ml_Sp_146 (hR.1.q_row (by omega)) ⟨by decide, by decide, rfl⟩ rfl rfl (Nat.le_of_ble_eq_true rfl) ⟨by decide, by decide⟩ ⟨(by first | omega | (dsimp only; omega) | exact Nat.le_of_ble_eq_true rfl), (by first | omega | (dsimp only; omega) | exact Nat.le_of_ble_eq_true rfl)⟩ dX5_leaveOut_72 (fun E S9 h => nomatch h.1) (fun v9 S9 h => ?_)
              obtain ⟨h, h9, w72⟩ := h
              have h9 := h9.symm
              subst h9
              cases h
              rw [e2] at w72 ⊢
              refine j_cast (kd := 4) C (hR.1.k4 (by omega)) ⟨by decide, by decide⟩ cl_Sp_75 dX5_leaveOut_75 ?_
              refine j_astore C dX5_leaveOut_78 (by decide) ?_
              refine j_aload C dX5_leaveOut_80 rfl ?_
              refine j_callV C (k_kept l hfl hR.1 (by omega)) cal_X3_keptFrames vi_X3_keptFrames ml_Sp_171 (hR.1.k4 (by omega)) ⟨by decide, by decide, rfl⟩ rfl rfl (Nat.le_of_ble_eq_true rfl) ⟨by decide, by decide⟩ ⟨(by first | omega | (dsimp only; omega) | exact Nat.le_of_ble_eq_true rfl), (by first | omega | (dsimp only; omega) | exact Nat.le_of_ble_eq_true rfl)⟩ dX5_leaveOut_82 (fun E S9 h => nomatch h.1) (fun v9 S9 h => ?_)
              obtain ⟨h, h9⟩ := h
              have h9 := h9.symm
              subst h9
              cases h
              rw [ek]
              have hkb := kept_b hC (s9 := X 2 (60 * X 19 f + (i : Int))) (by omega)
              refine j_istore C dX5_leaveOut_85 (by decide) ?_
              refine j_iload C dX5_leaveOut_87 rfl ?_
              refine j_aload C dX5_leaveOut_89 rfl ?_
              refine j_aload C dX5_leaveOut_91 rfl ?_
              refine j_iload_n C dX5_leaveOut_93 rfl ?_
              refine j_iload C dX5_leaveOut_94 rfl ?_
              refine j_isub C dX5_leaveOut_96 ?_
              refine j_iconst C dX5_leaveOut_97 ?_
              refine j_mmax C ml_Sp_279 (by unfold rg at *; omega) (by unfold rg at *; omega) ⟨by decide, (Nat.le_of_ble_eq_true rfl), (by first | omega | (dsimp only; omega) | exact Nat.le_of_ble_eq_true rfl), (by first | omega | (dsimp only; omega) | exact Nat.le_of_ble_eq_true rfl)⟩ dX5_leaveOut_98 ?_
              refine j_iload_n C dX5_leaveOut_101 rfl ?_
              refine j_iload C dX5_leaveOut_102 rfl ?_
              refine j_isub C dX5_leaveOut_104 ?_
              refine j_iload C dX5_leaveOut_105 rfl ?_
              refine j_mmin C ml_Sp_285 (by unfold rg at *; omega) (by unfold rg at *; omega) ⟨by decide, (Nat.le_of_ble_eq_true rfl), (by first | omega | (dsimp only; omega) | exact Nat.le_of_ble_eq_true rfl), (by first | omega | (dsimp only; omega) | exact Nat.le_of_ble_eq_true rfl)⟩ dX5_leaveOut_107 ?_
              refine j_iload C dX5_leaveOut_110 rfl ?_
              refine j_callV C (v_mark l hfl (o9 := w) hR.1 (by omega) (by omega) (by omega) (by omega)) cal_X4_mark vi_X4_mark ml_Sp_288 (hR.1.k5 (by omega)) ⟨by decide, by decide, rfl⟩ rfl rfl (Nat.le_of_ble_eq_true rfl) ⟨by decide, by decide⟩ ⟨(by first | omega | (dsimp only; omega) | exact Nat.le_of_ble_eq_true rfl), (by first | omega | (dsimp only; omega) | exact Nat.le_of_ble_eq_true rfl)⟩ dX5_leaveOut_112 (fun E S9 h => nomatch h.1) (fun v9 S9 h => ?_)
              obtain ⟨h, hR2⟩ := h
              cases h
              have hR := hR.tr hR2
              clear hR2
              refine j_iadd C dX5_leaveOut_115 ?_
              refine j_istore C dX5_leaveOut_116 (by decide) ?_
              refine j_iload C dX5_leaveOut_118 rfl ?_
              refine j_iload C dX5_leaveOut_120 rfl ?_
              refine j_iadd C dX5_leaveOut_122 ?_
              refine j_istore C dX5_leaveOut_123 (by decide) ?_
              refine j_iinc C dX5_leaveOut_125 rfl (by decide) ?_
              refine j_goto (tgt := 58) C dX5_leaveOut_128 (by decide) ?_
              refine J.lvs (lv' := [(0, .ref (G 6 0)), (1, .int (iN f)), (2, .int (iN a)), (3, .int (iN b)), (4, .int (iN (bN w))), (5, .ref (G 5 f)), (6, .ref (G 21 (X 19 f))), (7, .int (iN (lvN X f (X 19 f) a b w (i + 1)))), (8, .int (iN (aheadM X (X 19 f) (i + 1)))), (9, .int (iN (((i + 1) : Nat) : Int)))]) ?_ ((ih (i + 1) _ (by omega) (by omega) hR))
              intro q hq; simp only [List.mem_cons, List.not_mem_nil, or_false] at hq; rcases hq with rfl | rfl | rfl | rfl | rfl | rfl | rfl | rfl | rfl | rfl <;> rfl
        refine J.lvs (lv' := [(0, .ref (G 6 0)), (1, .int (iN f)), (2, .int (iN a)), (3, .int (iN b)), (4, .int (iN (bN w))), (5, .ref (G 5 f)), (6, .ref (G 21 (X 19 f))), (7, .int (iN (lvN X f (X 19 f) a b w 0))), (8, .int (iN (aheadM X (X 19 f) 0))), (9, .int (iN ((0 : Nat) : Int)))]) ?_ (J.widen (by first | omega | exact Nat.le_of_ble_eq_true rfl) (by first | omega | exact Nat.le_of_ble_eq_true rfl) (key ((X 3 (X 19 f)).toNat + 1) 0 _ (by omega) (by omega) hR))
        intro q hq; simp only [List.mem_cons, List.not_mem_nil, or_false] at hq; rcases hq with rfl | rfl | rfl | rfl | rfl | rfl | rfl | rfl | rfl | rfl <;> rfl
      · refine j_throwSW (text := "no such frames") C ME thr_IAE cl_Sp_101 ini_IAE (by decide +kernel) ?_ dX5_leaveOut_28 dX5_leaveOut_31 dX5_leaveOut_32 dX5_leaveOut_35 dX5_leaveOut_38 ⟨by decide, (Nat.le_of_ble_eq_true rfl), (by first | omega | (dsimp only; omega) | exact Nat.le_of_ble_eq_true rfl), (by first | omega | (dsimp only; omega) | exact Nat.le_of_ble_eq_true rfl)⟩ (by omega) (by omega)
        exact Or.inr ⟨1, _, rfl, (by clear hR hC ME C; (try clear key); (try clear ih); unfold cx_leaveOut; (repeat' split) <;> first | rfl | omega | (simp_all; done) | (simp_all; omega)), rfl, rfl⟩

set_option maxHeartbeats 4000000 in
set_option maxRecDepth 100000 in
theorem p_lend (l : Launch) (hfl : l.stackTraces = false) {D : wD} {S : wS} {G : wG} {X : wM} (hC : RC D.2.2.1 S G X) {f a b g : Int} (h_f : rg f)  (h_a : rg a)  (h_b : rg b)  (h_g : rg g) (hd : X 29 0 + 99 ≤ 60000) : CtD l D yX5_lend cX5_lend 6 (some FieldType.int) 20 100 6000 [.ref (G 6 0), .int (iN f), .int (iN a), .int (iN b), .int (iN g)] S (pubP D.2.2.1 S G (cx_lend X f a b g) ["java/lang/IndexOutOfBoundsException", "java/lang/IllegalArgumentException", "java/lang/UnsupportedOperationException", "java/lang/IllegalStateException"] (some (.int (iN (X 28 0)))) (leX X f a b g)) := by
  refine CtD.of cal_X5_lend hfl (Nat.le_of_ble_eq_true rfl) ?_
  intro p e s m args below meth c sz C ME
  have hR : RCF D.2.2.1 S S G X := ⟨hC, cF.rf⟩
  have w6 := hC.w6
  unfold wf6 at w6
  obtain ⟨T, hh⟩ := hC.2
  refine j_aload_n C dX5_lend_0 rfl ?_
  refine j_iload_n C dX5_lend_1 rfl ?_
  refine j_callV C (n_version l hfl hR.1 (by unfold rg at *; omega)) cal_X5_versionNumbered vi_X5_versionNumbered ml_Sp_269 (hR.1.k6) ⟨by decide, by decide, rfl⟩ rfl rfl (Nat.le_of_ble_eq_true rfl) ⟨by decide, by decide⟩ ⟨(by first | omega | (dsimp only; omega) | exact Nat.le_of_ble_eq_true rfl), (by first | omega | (dsimp only; omega) | exact Nat.le_of_ble_eq_true rfl)⟩ dX5_lend_2 (fun E S9 h => ?_) (fun v9 S9 h => ?_)
  · obtain ⟨h9, h | h⟩ := h
    · exact nomatch h.2
    · obtain ⟨c2, h⟩ := h
      have h9 := h9.symm
      subst h9
      cases h
      refine j_out C ME ?_ (by omega) (by omega)
      exact Or.inr ⟨0, _, rfl, (by clear hR hC ME C; (try clear key); (try clear ih); unfold cx_lend; (repeat' split) <;> first | rfl | omega | (simp_all; done) | (simp_all; omega)), rfl, rfl⟩
  obtain ⟨h9, h | h⟩ := h
  rotate_left
  · exact nomatch h.2
  obtain ⟨c2, h⟩ := h
  have h9 := h9.symm
  subst h9
  cases h
  refine jg_5_0 C hR (by omega) fl_Sp_273 dX5_lend_5 (fun w5 => ?_)
  refine j_astore C dX5_lend_8 (by decide) ?_
  refine j_iload_n C dX5_lend_10 rfl ?_
  refine j_iconst C dX5_lend_11 ?_
  refine j_icmp_lt (tgt := 43) C dX5_lend_12 (by decide) (by unfold rg at *; omega) (by unfold rg at *; omega) (fun c12 => ?_) (fun c12 => ?_)
  · refine j_throwSW (text := "a number is out of range") C ME thr_IAE cl_Sp_101 ini_IAE (by decide +kernel) ?_ dX5_lend_43 dX5_lend_46 dX5_lend_47 dX5_lend_50 dX5_lend_53 ⟨by decide, (Nat.le_of_ble_eq_true rfl), (by first | omega | (dsimp only; omega) | exact Nat.le_of_ble_eq_true rfl), (by first | omega | (dsimp only; omega) | exact Nat.le_of_ble_eq_true rfl)⟩ (by omega) (by omega)
    exact Or.inr ⟨1, _, rfl, (by clear hR hC ME C; (try clear key); (try clear ih); unfold cx_lend; (repeat' split) <;> first | rfl | omega | (simp_all; done) | (simp_all; omega)), rfl, rfl⟩
  · refine j_iload_n C dX5_lend_15 rfl ?_
    refine j_bipush C dX5_lend_16 (by decide) ?_
    refine j_icmp_gt (tgt := 43) C dX5_lend_18 (by decide) (by unfold rg at *; omega) (by unfold rg at *; omega) (fun c18 => ?_) (fun c18 => ?_)
    · refine j_throwSW (text := "a number is out of range") C ME thr_IAE cl_Sp_101 ini_IAE (by decide +kernel) ?_ dX5_lend_43 dX5_lend_46 dX5_lend_47 dX5_lend_50 dX5_lend_53 ⟨by decide, (Nat.le_of_ble_eq_true rfl), (by first | omega | (dsimp only; omega) | exact Nat.le_of_ble_eq_true rfl), (by first | omega | (dsimp only; omega) | exact Nat.le_of_ble_eq_true rfl)⟩ (by omega) (by omega)
      exact Or.inr ⟨1, _, rfl, (by clear hR hC ME C; (try clear key); (try clear ih); unfold cx_lend; (repeat' split) <;> first | rfl | omega | (simp_all; done) | (simp_all; omega)), rfl, rfl⟩
    · refine j_iload_n C dX5_lend_21 rfl ?_
      refine j_if_lt (tgt := 43) C dX5_lend_22 (by decide) (by unfold rg at *; omega) (fun c22 => ?_) (fun c22 => ?_)
      · refine j_throwSW (text := "a number is out of range") C ME thr_IAE cl_Sp_101 ini_IAE (by decide +kernel) ?_ dX5_lend_43 dX5_lend_46 dX5_lend_47 dX5_lend_50 dX5_lend_53 ⟨by decide, (Nat.le_of_ble_eq_true rfl), (by first | omega | (dsimp only; omega) | exact Nat.le_of_ble_eq_true rfl), (by first | omega | (dsimp only; omega) | exact Nat.le_of_ble_eq_true rfl)⟩ (by omega) (by omega)
        exact Or.inr ⟨1, _, rfl, (by clear hR hC ME C; (try clear key); (try clear ih); unfold cx_lend; (repeat' split) <;> first | rfl | omega | (simp_all; done) | (simp_all; omega)), rfl, rfl⟩
      · refine j_iload_n C dX5_lend_25 rfl ?_
        refine j_iconst C dX5_lend_26 ?_
        refine j_icmp_gt (tgt := 43) C dX5_lend_27 (by decide) (by unfold rg at *; omega) (by unfold rg at *; omega) (fun c27 => ?_) (fun c27 => ?_)
        · refine j_throwSW (text := "a number is out of range") C ME thr_IAE cl_Sp_101 ini_IAE (by decide +kernel) ?_ dX5_lend_43 dX5_lend_46 dX5_lend_47 dX5_lend_50 dX5_lend_53 ⟨by decide, (Nat.le_of_ble_eq_true rfl), (by first | omega | (dsimp only; omega) | exact Nat.le_of_ble_eq_true rfl), (by first | omega | (dsimp only; omega) | exact Nat.le_of_ble_eq_true rfl)⟩ (by omega) (by omega)
          exact Or.inr ⟨1, _, rfl, (by clear hR hC ME C; (try clear key); (try clear ih); unfold cx_lend; (repeat' split) <;> first | rfl | omega | (simp_all; done) | (simp_all; omega)), rfl, rfl⟩
        · refine j_iload C dX5_lend_30 rfl ?_
          refine j_iconst C dX5_lend_32 ?_
          refine j_icmp_lt (tgt := 43) C dX5_lend_33 (by decide) (by unfold rg at *; omega) (by unfold rg at *; omega) (fun c33 => ?_) (fun c33 => ?_)
          · refine j_throwSW (text := "a number is out of range") C ME thr_IAE cl_Sp_101 ini_IAE (by decide +kernel) ?_ dX5_lend_43 dX5_lend_46 dX5_lend_47 dX5_lend_50 dX5_lend_53 ⟨by decide, (Nat.le_of_ble_eq_true rfl), (by first | omega | (dsimp only; omega) | exact Nat.le_of_ble_eq_true rfl), (by first | omega | (dsimp only; omega) | exact Nat.le_of_ble_eq_true rfl)⟩ (by omega) (by omega)
            exact Or.inr ⟨1, _, rfl, (by clear hR hC ME C; (try clear key); (try clear ih); unfold cx_lend; (repeat' split) <;> first | rfl | omega | (simp_all; done) | (simp_all; omega)), rfl, rfl⟩
          · refine j_iload C dX5_lend_36 rfl ?_
            refine j_bipush C dX5_lend_38 (by decide) ?_
            refine j_icmp_le (tgt := 54) C dX5_lend_40 (by decide) (by unfold rg at *; omega) (by unfold rg at *; omega) (fun c40 => ?_) (fun c40 => ?_)
            · have hab : 0 ≤ a * (1 + b) ∧ a * (1 + b) ≤ 36 := by rcases (show b = 0 ∨ b = 1 ∨ b = 2 ∨ b = 3 by omega) with rfl | rfl | rfl | rfl <;> omega
              refine j_aload_n C dX5_lend_54 rfl ?_
              refine j_aload C dX5_lend_55 rfl ?_
              refine j_callV C (n_lent l hfl hR.1 (by omega)) cal_X5_requireNotLent vi_X5_requireNotLent ml_Sp_119 (hR.1.k6) ⟨by decide, by decide, rfl⟩ rfl rfl (Nat.le_of_ble_eq_true rfl) ⟨by decide, by decide⟩ ⟨(by first | omega | (dsimp only; omega) | exact Nat.le_of_ble_eq_true rfl), (by first | omega | (dsimp only; omega) | exact Nat.le_of_ble_eq_true rfl)⟩ dX5_lend_57 (fun E S9 h => ?_) (fun v9 S9 h => ?_)
              · obtain ⟨h9, h | h⟩ := h
                · exact nomatch h.2
                · obtain ⟨c57, h⟩ := h
                  have h9 := h9.symm
                  subst h9
                  cases h
                  refine j_out C ME ?_ (by omega) (by omega)
                  exact Or.inr ⟨2, _, rfl, (by clear hR hC ME C; (try clear key); (try clear ih); unfold cx_lend; (repeat' split) <;> first | rfl | omega | (simp_all; done) | (simp_all; omega)), rfl, rfl⟩
              obtain ⟨h9, h | h⟩ := h
              rotate_left
              · exact nomatch h.2
              obtain ⟨c57, h⟩ := h
              have h9 := h9.symm
              subst h9
              cases h
              refine j_aload_n C dX5_lend_60 rfl ?_
              refine j_aload C dX5_lend_61 rfl ?_
              refine j_iload_n C dX5_lend_63 rfl ?_
              refine j_iconst C dX5_lend_64 ?_
              refine j_iload_n C dX5_lend_65 rfl ?_
              refine j_iadd C dX5_lend_66 ?_
              refine j_imul C dX5_lend_67 ?_
              refine j_callV C (k_ftake l hfl hR.1 (by omega) (by omega)) cal_X5_canFilmTake vi_X5_canFilmTake ml_Sp_297 (hR.1.k6) ⟨by decide, by decide, rfl⟩ rfl rfl (Nat.le_of_ble_eq_true rfl) ⟨by decide, by decide⟩ ⟨(by first | omega | (dsimp only; omega) | exact Nat.le_of_ble_eq_true rfl), (by first | omega | (dsimp only; omega) | exact Nat.le_of_ble_eq_true rfl)⟩ dX5_lend_68 (fun E S9 h => nomatch h.1) (fun v9 S9 h => ?_)
              obtain ⟨h, h9⟩ := h
              have h9 := h9.symm
              subst h9
              cases h
              refine j_ifne_b (tgt := 84) C dX5_lend_71 (by decide) (fun c71 => ?_) (fun c71 => ?_)
              · refine j_aload_n C dX5_lend_84 rfl ?_
                refine jg_6_4 C hR fl_Sp_25 dX5_lend_85 ?_
                refine j_callV C (z_L4 l hfl hR.1 ) cal_Jx4a65c_size_8abf5 vi_Jx4a65c_size_8abf5 ml_Sp_39 (hR.1.q_L4 ) ⟨by decide, by decide, rfl⟩ rfl rfl (Nat.le_of_ble_eq_true rfl) ⟨by decide, by decide⟩ ⟨(by first | omega | (dsimp only; omega) | exact Nat.le_of_ble_eq_true rfl), (by first | omega | (dsimp only; omega) | exact Nat.le_of_ble_eq_true rfl)⟩ dX5_lend_88 (fun E S9 h => nomatch h.1) (fun v9 S9 h => ?_)
                obtain ⟨h, h9⟩ := h
                have h9 := h9.symm
                subst h9
                cases h
                refine j_bipush C dX5_lend_91 (by decide) ?_
                refine j_icmp_lt (tgt := 107) C dX5_lend_93 (by decide) (by unfold rg at *; omega) (by unfold rg at *; omega) (fun c93 => ?_) (fun c93 => ?_)
                · refine j_aload_n C dX5_lend_107 rfl ?_
                  refine jg_6_4 C hR fl_Sp_25 dX5_lend_108 ?_
                  refine j_new C (kd := 2) ⟨by decide, by decide⟩ cl_Sp_302 nw_Lo ⟨(by first | omega | (dsimp only; omega) | exact Nat.le_of_ble_eq_true rfl), (by first | omega | (dsimp only; omega) | exact Nat.le_of_ble_eq_true rfl)⟩ dX5_lend_111 (fun q9 hq hqE => ?_)
                  have hn1 : nE S (sNew S 2 q9 (fun j => defaultValue (kT 2 j))) := nE.rf.new hq
                  have hR : RCF D.2.2.1 S (sNew S 2 q9 (fun j => defaultValue (kT 2 j))) G X := ⟨hC.ne hn1, hn1.cF⟩
                  refine j_dup C dX5_lend_114 rfl ?_
                  refine j_aload C dX5_lend_115 rfl ?_
                  refine j_iload_n C dX5_lend_117 rfl ?_
                  refine j_iconst C dX5_lend_118 ?_
                  refine j_iload_n C dX5_lend_119 rfl ?_
                  refine j_iadd C dX5_lend_120 ?_
                  refine j_aload_n C dX5_lend_121 rfl ?_
                  refine jg_6_6 C hR fl_Sp_32 dX5_lend_122 (fun w122 => ?_)
                  refine j_iload C dX5_lend_125 rfl ?_
                  refine j_iadd C dX5_lend_127 ?_
                  refine j_callI C (c_loInit l hfl (q9 := q9) (sK_new (k := 2))) cal_X1_init in_X1_init ml_Sp_304 (by decide) rfl rfl (Nat.le_of_ble_eq_true rfl) ⟨by decide, by decide⟩ ⟨(by first | omega | (dsimp only; omega) | exact Nat.le_of_ble_eq_true rfl), (by first | omega | (dsimp only; omega) | exact Nat.le_of_ble_eq_true rfl)⟩ dX5_lend_128 (fun E S9 h => nomatch h.1) (fun v9 S2 h => ?_)
                  obtain ⟨h, hcN, ⟨f0, f1, f2, f3⟩, fo⟩ := h
                  cases h
                  have hn2 := hcN.nE hn1 hq
                  have hk2 : sK S2 q9 = 2 := by rw [hcN.1]; exact sK_new
                  have hR : RCF D.2.2.1 S S2 G X := ⟨hC.ne hn2, hn2.cF⟩
                  refine j_callVD C (c_alAdd l hfl (y := q9) (hh.ne hn2).2.2.2.2.2.2.1.1.2.2.2.2 (by omega) (by rw [hk2]; decide) (fun k hk => by rw [hR.1.k2 (i9 := (k : Int)) ⟨by omega, hk⟩]; decide)) cal_Jx4a65c_add_9ea2d vi_Jx4a65c_add_9ea2d ml_Sp_53 hR.1.q_L4 ⟨by decide, by decide, rfl⟩ rfl rfl (Nat.le_of_ble_eq_true rfl) ⟨by decide, by decide⟩ ⟨(by first | omega | (dsimp only; omega) | exact Nat.le_of_ble_eq_true rfl), (by first | omega | (dsimp only; omega) | exact Nat.le_of_ble_eq_true rfl)⟩ dX5_lend_131 (fun E S9 h => nomatch h.1) (fun v9 S3 h => ?_)
                  obtain ⟨h, hL⟩ := h
                  cases h
                  have hR : RCF D.2.2.1 S S3 (gup G 2 (X 28 0) q9) (xLoan X (X 19 f) (1 + b) (X 29 0 + g) a) := RC.new_loan hC.1 hh hq hn2 hk2 (fun j hj => by
                    rcases (show j = 0 ∨ j = 1 ∨ j = 2 ∨ j = 3 ∨ j = 4 by omega) with rfl | rfl | rfl | rfl | rfl
                    · refine f0.trans ?_
                      show _ = Value.ref (G 1 (xLoan X (X 19 f) (1 + b) (X 29 0 + g) a 34 (X 28 0)))
                      rw [show xLoan X (X 19 f) (1 + b) (X 29 0 + g) a 34 (X 28 0) = X 19 f from xnew_v (by decide) rfl]
                    · refine f1.trans ?_
                      show _ = Value.int (iN (xLoan X (X 19 f) (1 + b) (X 29 0 + g) a 35 (X 28 0)))
                      rw [show xLoan X (X 19 f) (1 + b) (X 29 0 + g) a 35 (X 28 0) = 1 + b from xnew_v (by decide) rfl]
                    · refine f2.trans ?_
                      show _ = Value.int (iN (xLoan X (X 19 f) (1 + b) (X 29 0 + g) a 26 (X 28 0)))
                      rw [show xLoan X (X 19 f) (1 + b) (X 29 0 + g) a 26 (X 28 0) = X 29 0 + g from xnew_v (by decide) rfl]
                    · refine f3.trans ?_
                      show _ = Value.int (iN (xLoan X (X 19 f) (1 + b) (X 29 0 + g) a 24 (X 28 0)))
                      rw [show xLoan X (X 19 f) (1 + b) (X 29 0 + g) a 24 (X 28 0) = a from xnew_v (by decide) rfl]
                    · refine ((fo 132 (by decide) (by decide) (by decide) (by decide)).trans (sG_new (k := 2) (j := 4) (by decide))).trans ?_
                      show _ = Value.int (iN (xLoan X (X 19 f) (1 + b) (X 29 0 + g) a 27 (X 28 0)))
                      rw [show xLoan X (X 19 f) (1 + b) (X 29 0 + g) a 27 (X 28 0) = 0 from xnew_v (by decide) rfl]
                      rfl) (by omega) w5 (by omega) (by omega) (by omega) hL
                  have ec : xLoan X (X 19 f) (1 + b) (X 29 0 + g) a 28 0 = X 28 0 + 1 := xnew_c
                  refine j_pop C dX5_lend_134 rfl ?_
                  refine j_aload C dX5_lend_135 rfl ?_
                  refine j_iconst C dX5_lend_137 ?_
                  refine jp_1_1 C hR (show 0 ≤ X 19 f ∧ X 19 f < X 1 0 from w5) (by omega) fl_Sp_307 dX5_lend_138 (fun S2 hR => ?_)
                  have ec2 : mup (xLoan X (X 19 f) (1 + b) (X 29 0 + g) a) 32 (X 19 f) 1 28 0 = X 28 0 + 1 := ec
                  refine j_aload_n C dX5_lend_141 rfl ?_
                  refine jg_6_4 (G := gup G 2 (X 28 0) q9) C hR fl_Sp_25 dX5_lend_142 ?_
                  refine j_callV C (z_L4 l hfl hR.1 ) cal_Jx4a65c_size_8abf5 vi_Jx4a65c_size_8abf5 ml_Sp_39 (hR.1.q_L4 ) ⟨by decide, by decide, rfl⟩ rfl rfl (Nat.le_of_ble_eq_true rfl) ⟨by decide, by decide⟩ ⟨(by first | omega | (dsimp only; omega) | exact Nat.le_of_ble_eq_true rfl), (by first | omega | (dsimp only; omega) | exact Nat.le_of_ble_eq_true rfl)⟩ dX5_lend_145 (fun E S9 h => nomatch h.1) (fun v9 S9 h => ?_)
                  obtain ⟨h, h9⟩ := h
                  have h9 := h9.symm
                  subst h9
                  cases h
                  refine j_iconst C dX5_lend_148 ?_
                  refine j_isub C dX5_lend_149 ?_
                  refine j_iret C ME ?_ (by first | omega | exact Nat.le_of_ble_eq_true rfl) (by first | omega | exact Nat.le_of_ble_eq_true rfl) dX5_lend_150
                  refine Or.inl ⟨?_, ?_, gup G 2 (X 28 0) q9, rfl, hR⟩
                  · exact (by clear hR hC ME C; (try clear key); (try clear ih); unfold cx_lend; (repeat' split) <;> first | rfl | omega | (simp_all; done) | (simp_all; omega))
                  · first | rfl | exact rI (by first | rfl | omega | (simp_all; done) | (simp_all; omega))
                · refine j_throwSW (text := "no room for a loan") C ME thr_ISE cl_Sp_43 ini_ISE (by decide +kernel) ?_ dX5_lend_96 dX5_lend_99 dX5_lend_100 dX5_lend_103 dX5_lend_106 ⟨by decide, (Nat.le_of_ble_eq_true rfl), (by first | omega | (dsimp only; omega) | exact Nat.le_of_ble_eq_true rfl), (by first | omega | (dsimp only; omega) | exact Nat.le_of_ble_eq_true rfl)⟩ (by omega) (by omega)
                  exact Or.inr ⟨3, _, rfl, (by clear hR hC ME C; (try clear key); (try clear ih); unfold cx_lend; (repeat' split) <;> first | rfl | omega | (simp_all; done) | (simp_all; omega)), rfl, rfl⟩
              · refine j_throwS (text := "a splice would be worn beyond the limit") C ME thr_UOE cl_Sp_114 ini_UOE (by decide +kernel) ?_ dX5_lend_74 dX5_lend_77 dX5_lend_78 dX5_lend_80 dX5_lend_83 ⟨by decide, (Nat.le_of_ble_eq_true rfl), (by first | omega | (dsimp only; omega) | exact Nat.le_of_ble_eq_true rfl), (by first | omega | (dsimp only; omega) | exact Nat.le_of_ble_eq_true rfl)⟩ (by omega) (by omega)
                exact Or.inr ⟨2, _, rfl, (by clear hR hC ME C; (try clear key); (try clear ih); unfold cx_lend; (repeat' split) <;> first | rfl | omega | (simp_all; done) | (simp_all; omega)), rfl, rfl⟩
            · refine j_throwSW (text := "a number is out of range") C ME thr_IAE cl_Sp_101 ini_IAE (by decide +kernel) ?_ dX5_lend_43 dX5_lend_46 dX5_lend_47 dX5_lend_50 dX5_lend_53 ⟨by decide, (Nat.le_of_ble_eq_true rfl), (by first | omega | (dsimp only; omega) | exact Nat.le_of_ble_eq_true rfl), (by first | omega | (dsimp only; omega) | exact Nat.le_of_ble_eq_true rfl)⟩ (by omega) (by omega)
              exact Or.inr ⟨1, _, rfl, (by clear hR hC ME C; (try clear key); (try clear ih); unfold cx_lend; (repeat' split) <;> first | rfl | omega | (simp_all; done) | (simp_all; omega)), rfl, rfl⟩

set_option maxHeartbeats 4000000 in
set_option maxRecDepth 100000 in
theorem p_show (l : Launch) (hfl : l.stackTraces = false) {S : wS} {E0 : Nat} {G : wG} {X : wM} (hC : RC E0 S G X) {z : Int} (h_z : rg z) (ha : ∀ z, 0 ≤ z → z < X 28 0 → X 27 z = 0 → ¬ X 24 z = 0 → ∀ k : Nat, (k : Int) < X 17 0 → X 13 k = X 34 z → awOK (swX X z k) k (X 35 z)) : Ct l yX5_show cX5_show 5 (some FieldType.int) 20 100 6000 [.ref (G 6 0), .int (iN z)] S (pubP E0 S G (cx_show X z) ["java/lang/IndexOutOfBoundsException", "java/lang/UnsupportedOperationException"] (some (.int (iN (X 24 z - 1)))) (mup (swX X z (X 17 0).toNat) 24 z (X 24 z - 1))) := by
  refine Ct.of cal_X5_show hfl (Nat.le_of_ble_eq_true rfl) ?_
  intro p e s m args below meth c D sz C ME
  have hR : RCF E0 S S G X := ⟨hC, cF.rf⟩
  have w6 := hC.w6
  unfold wf6 at w6
  refine j_aload_n C dX5_show_0 rfl ?_
  refine j_iload_n C dX5_show_1 rfl ?_
  refine j_callV C (n_loan l hfl hR.1 (by unfold rg at *; omega)) cal_X5_loanNumbered vi_X5_loanNumbered ml_Sp_311 (hR.1.k6) ⟨by decide, by decide, rfl⟩ rfl rfl (Nat.le_of_ble_eq_true rfl) ⟨by decide, by decide⟩ ⟨(by first | omega | (dsimp only; omega) | exact Nat.le_of_ble_eq_true rfl), (by first | omega | (dsimp only; omega) | exact Nat.le_of_ble_eq_true rfl)⟩ dX5_show_2 (fun E S9 h => ?_) (fun v9 S9 h => ?_)
  · obtain ⟨h9, h | h⟩ := h
    · exact nomatch h.2
    · obtain ⟨c2, h⟩ := h
      have h9 := h9.symm
      subst h9
      cases h
      refine j_out C ME ?_ (by omega) (by omega)
      exact Or.inr ⟨0, _, rfl, (by clear hR hC ME C; (try clear key); (try clear ih); unfold cx_show; (repeat' split) <;> first | rfl | omega | (simp_all; done) | (simp_all; omega)), rfl, rfl⟩
  obtain ⟨h9, h | h⟩ := h
  rotate_left
  · exact nomatch h.2
  obtain ⟨c2, h⟩ := h
  have h9 := h9.symm
  subst h9
  cases h
  refine j_astore_n C dX5_show_5 (by decide) ?_
  refine j_aload_n C dX5_show_6 rfl ?_
  refine jg_2_4 C hR (by omega) fl_Sp_315 dX5_show_7 (fun w7 => ?_)
  refine j_if_ne (tgt := 20) C dX5_show_10 (by decide) (by unfold rg at *; omega) (fun c10 => ?_) (fun c10 => ?_)
  · refine j_throwSW (text := "given back, or no run left") C ME thr_UOE cl_Sp_114 ini_UOE (by decide +kernel) ?_ dX5_show_20 dX5_show_23 dX5_show_24 dX5_show_27 dX5_show_30 ⟨by decide, (Nat.le_of_ble_eq_true rfl), (by first | omega | (dsimp only; omega) | exact Nat.le_of_ble_eq_true rfl), (by first | omega | (dsimp only; omega) | exact Nat.le_of_ble_eq_true rfl)⟩ (by omega) (by omega)
    exact Or.inr ⟨1, _, rfl, (by clear hR hC ME C; (try clear key); (try clear ih); unfold cx_show; (repeat' split) <;> first | rfl | omega | (simp_all; done) | (simp_all; omega)), rfl, rfl⟩
  · refine j_aload_n C dX5_show_13 rfl ?_
    refine jg_2_3 C hR (by omega) fl_Sp_318 dX5_show_14 (fun w14 => ?_)
    refine j_if_gt (tgt := 31) C dX5_show_17 (by decide) (by unfold rg at *; omega) (fun c17 => ?_) (fun c17 => ?_)
    · refine j_iconst C dX5_show_31 ?_
      refine j_istore_n C dX5_show_32 (by decide) ?_
      have key : ∀ (fuel : Nat) (i : Nat) (S2 : wS), X 17 0 - i < fuel → (i : Int) ≤ X 17 0 → RCF E0 S S2 G (swX X z i) → J p l e { frames := 20 * 20, cells := 100, slots := 6000, locals := 200 * 20 } s m args below meth c 5 D (wA S sz) (wQ below D sz S (pubP E0 S G (cx_show X z) ["java/lang/IndexOutOfBoundsException", "java/lang/UnsupportedOperationException"] (some (.int (iN (X 24 z - 1)))) (mup (swX X z (X 17 0).toNat) 24 z (X 24 z - 1))) args s 100 6000) 33 [(0, .ref (G 6 0)), (1, .int (iN z)), (2, .ref (G 2 z)), (3, .int (iN ((i : Nat) : Int)))] [] S2 50 3000 := by
        intro fuel
        induction fuel with
        | zero => intro i S2 h1 h2 hR; omega
        | succ fuel ih =>
          intro i S2 h1 h2 hR
          have e17 : swX X z i 17 0 = X 17 0 := swX_o (by decide) (by decide) i
          have e28 : swX X z i 28 0 = X 28 0 := swX_o (by decide) (by decide) i
          have e1 : swX X z i 1 0 = X 1 0 := swX_o (by decide) (by decide) i
          have e13 : swX X z i 13 (i : Int) = X 13 (i : Int) := swX_o (by decide) (by decide) i
          have e34 : swX X z i 34 z = X 34 z := swX_o (by decide) (by decide) i
          have e35 : swX X z i 35 z = X 35 z := swX_o (by decide) (by decide) i
          have e24 : swX X z i 24 z = X 24 z := swX_o (by decide) (by decide) i
          refine j_iload_n C dX5_show_33 rfl ?_
          refine j_aload_n C dX5_show_34 rfl ?_
          refine jg_6_2 C hR fl_Sp_19 dX5_show_35 ?_
          refine j_callV C (z_L2 l hfl hR.1 ) cal_Jx4a65c_size_8abf5 vi_Jx4a65c_size_8abf5 ml_Sp_39 (hR.1.q_L2 ) ⟨by decide, by decide, rfl⟩ rfl rfl (Nat.le_of_ble_eq_true rfl) ⟨by decide, by decide⟩ ⟨(by first | omega | (dsimp only; omega) | exact Nat.le_of_ble_eq_true rfl), (by first | omega | (dsimp only; omega) | exact Nat.le_of_ble_eq_true rfl)⟩ dX5_show_38 (fun E S9 h => nomatch h.1) (fun v9 S9 h => ?_)
          obtain ⟨h, h9⟩ := h
          have h9 := h9.symm
          subst h9
          cases h
          rw [e17]
          refine j_icmp_ge (tgt := 85) C dX5_show_41 (by decide) (by unfold rg at *; omega) (by unfold rg at *; omega) (fun c41 => ?_) (fun c41 => ?_)
          · refine j_aload_n C dX5_show_85 rfl ?_
            refine j_dup C dX5_show_86 rfl ?_
            refine jg_2_3 C hR (by omega) fl_Sp_318 dX5_show_87 (fun w87 => ?_)
            rw [e24] at w87 ⊢
            refine j_iconst C dX5_show_90 ?_
            refine j_isub C dX5_show_91 ?_
            refine jp_2_3 C hR (by omega) (by omega) fl_Sp_318 dX5_show_92 (fun S2 hR => ?_)
            refine j_aload_n C dX5_show_95 rfl ?_
            refine jg_2_3 C hR (by show 0 ≤ z ∧ z < swX X z i 28 0; omega) fl_Sp_318 dX5_show_96 (fun w96 => ?_)
            rw [mup_eq]
            refine j_iret C ME ?_ (by first | omega | exact Nat.le_of_ble_eq_true rfl) (by first | omega | exact Nat.le_of_ble_eq_true rfl) dX5_show_99
            have e : (X 17 0).toNat = i := by omega
            refine Or.inl ⟨?_, ?_, G, rfl, ?_⟩
            · exact (by clear hR hC ME C ha; (try clear key); (try clear ih); unfold cx_show; (repeat' split) <;> first | rfl | omega | (simp_all; done) | (simp_all; omega))
            · rfl
            · rw [e]; exact hR
          · refine j_aload_n C dX5_show_44 rfl ?_
            refine jg_6_2 C hR fl_Sp_19 dX5_show_45 ?_
            refine j_iload_n C dX5_show_48 rfl ?_
            refine j_callV C (g_L2 l hfl hR.1 (by omega)) cal_Jx4a65c_get_915e3 vi_Jx4a65c_get_915e3 ml_Sp_146 (hR.1.q_L2 ) ⟨by decide, by decide, rfl⟩ rfl rfl (Nat.le_of_ble_eq_true rfl) ⟨by decide, by decide⟩ ⟨(by first | omega | (dsimp only; omega) | exact Nat.le_of_ble_eq_true rfl), (by first | omega | (dsimp only; omega) | exact Nat.le_of_ble_eq_true rfl)⟩ dX5_show_49 (fun E S9 h => nomatch h.1) (fun v9 S9 h => ?_)
            obtain ⟨h, h9, -⟩ := h
            have h9 := h9.symm
            subst h9
            cases h
            refine j_cast (kd := 3) C (hR.1.k3 (by omega)) ⟨by decide, by decide⟩ cl_Sp_86 dX5_show_52 ?_
            refine j_astore C dX5_show_55 (by decide) ?_
            refine j_aload C dX5_show_57 rfl ?_
            refine jg_3_0 C hR (by omega) fl_Sp_96 dX5_show_59 (fun w59 => ?_)
            refine j_aload_n C dX5_show_62 rfl ?_
            refine jg_2_0 C hR (by omega) fl_Sp_323 dX5_show_63 (fun w63 => ?_)
            refine j_acmp_ne (tgt := 79) C dX5_show_66 (by decide) (fun c66 => ?_) (fun c66 => ?_)
            · have c66 : ¬ X 13 (i : Int) = X 34 z := fun q => c66 (by rw [e13, e34, q])
              refine j_iinc C dX5_show_79 rfl (by decide) ?_
              refine j_goto (tgt := 33) C dX5_show_82 (by decide) ?_
              refine J.lvs (lv' := [(0, .ref (G 6 0)), (1, .int (iN z)), (2, .ref (G 2 z)), (3, .int (iN (((i + 1) : Nat) : Int)))]) ?_ ((ih (i + 1) _ (by omega) (by omega) (by rw [swX]; first | (rw [if_pos c66]; exact hR) | (rw [if_neg c66]; exact hR))))
              intro q hq; simp only [List.mem_cons, List.not_mem_nil, or_false] at hq; rcases hq with rfl | rfl | rfl | rfl <;> rfl
            · have c66 := hR.1.inj1 (by omega) (by omega) c66
              rw [e13, e34] at c66
              refine j_aload_n C dX5_show_69 rfl ?_
              refine j_aload C dX5_show_70 rfl ?_
              refine j_aload_n C dX5_show_72 rfl ?_
              refine jg_2_1 C hR (by omega) fl_Sp_324 dX5_show_73 (fun w73 => ?_)
              rw [e35] at w73 ⊢
              refine j_callV C (u_play l hfl hR.1 (by omega) (ha z (by omega) (by omega) (by omega) (by omega) i (by omega) c66)) cal_X5_play vi_X5_play ml_Sp_195 (hR.1.k6) ⟨by decide, by decide, rfl⟩ rfl rfl (Nat.le_of_ble_eq_true rfl) ⟨by decide, by decide⟩ ⟨(by first | omega | (dsimp only; omega) | exact Nat.le_of_ble_eq_true rfl), (by first | omega | (dsimp only; omega) | exact Nat.le_of_ble_eq_true rfl)⟩ dX5_show_76 (fun E S9 h => nomatch h.1) (fun v9 S9 h => ?_)
              obtain ⟨h, hR2⟩ := h
              cases h
              have hR := hR.tr hR2
              clear hR2
              refine j_iinc C dX5_show_79 rfl (by decide) ?_
              refine j_goto (tgt := 33) C dX5_show_82 (by decide) ?_
              refine J.lvs (lv' := [(0, .ref (G 6 0)), (1, .int (iN z)), (2, .ref (G 2 z)), (3, .int (iN (((i + 1) : Nat) : Int)))]) ?_ ((ih (i + 1) _ (by omega) (by omega) (by rw [swX]; first | (rw [if_pos c66]; exact hR) | (rw [if_neg c66]; exact hR))))
              intro q hq; simp only [List.mem_cons, List.not_mem_nil, or_false] at hq; rcases hq with rfl | rfl | rfl | rfl <;> rfl
      refine J.lvs (lv' := [(0, .ref (G 6 0)), (1, .int (iN z)), (2, .ref (G 2 z)), (3, .int (iN ((0 : Nat) : Int)))]) ?_ (J.widen (by first | omega | exact Nat.le_of_ble_eq_true rfl) (by first | omega | exact Nat.le_of_ble_eq_true rfl) (key ((X 17 0).toNat + 1) 0 _ (by omega) (by omega) hR))
      intro q hq; simp only [List.mem_cons, List.not_mem_nil, or_false] at hq; rcases hq with rfl | rfl | rfl | rfl <;> rfl
    · refine j_throwSW (text := "given back, or no run left") C ME thr_UOE cl_Sp_114 ini_UOE (by decide +kernel) ?_ dX5_show_20 dX5_show_23 dX5_show_24 dX5_show_27 dX5_show_30 ⟨by decide, (Nat.le_of_ble_eq_true rfl), (by first | omega | (dsimp only; omega) | exact Nat.le_of_ble_eq_true rfl), (by first | omega | (dsimp only; omega) | exact Nat.le_of_ble_eq_true rfl)⟩ (by omega) (by omega)
      exact Or.inr ⟨1, _, rfl, (by clear hR hC ME C; (try clear key); (try clear ih); unfold cx_show; (repeat' split) <;> first | rfl | omega | (simp_all; done) | (simp_all; omega)), rfl, rfl⟩

