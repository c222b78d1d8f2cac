/-! THE REFERENCE: frames, leaveOut. -/
def keepJ (M : wM) (v s : Int) (j : Nat) : Int := if M 7 s = -1 then 0 else sumI (fun q => 1 - bN (outP M v s q)) j
def keepM (M : wM) (v s : Int) : Int := keepJ M v s (M 5 s).toNat
def outA (A : Int → Int) (v s f : Int) : Bool := decide (andI (shrI (A (32 * (60 * v + s) + f / 32)) (f % 32)) 1 = 1)
def loX (v s j : Int) : Int := 32 * (60 * v + s) + j / 32
def loC (A : Int → Int) (v s F a b : Int) (w : Bool) (j : Nat) : Bool := decide (a ≤ F + j ∧ F + j < b) && (outA A v s j != w)
def loJ (A : Int → Int) (v s F a b : Int) (w : Bool) : Nat → (Int → Int)
  | 0 => A
  | j + 1 => if loC (loJ A v s F a b w j) v s F a b w j then (fun i => if i = loX v s j then xorI (loJ A v s F a b w j (loX v s j)) (shlI 1 ((j : Int) % 32)) else loJ A v s F a b w j i) else loJ A v s F a b w j
def loN (A : Int → Int) (v s F a b : Int) (w : Bool) : Nat → Int
  | 0 => 0
  | j + 1 => loN A v s F a b w j + bN (loC (loJ A v s F a b w j) v s F a b w j)
def loK (M : wM) (v f a b : Int) (w : Bool) : Nat → (Int → Int)
  | 0 => M 22
  | k + 1 => if M 7 (M 2 (60 * f + k)) = -1 then loK M v f a b w k else loJ (loK M v f a b w k) v (M 2 (60 * f + k)) (aheadM M f k) a b w (M 5 (M 2 (60 * f + k))).toNat
def loM (M : wM) (v f a b : Int) (w : Bool) : Nat → Int
  | 0 => 0
  | k + 1 => loM M v f a b w k + (if M 7 (M 2 (60 * f + k)) = -1 then 0 else loN (loK M v f a b w k) v (M 2 (60 * f + k)) (aheadM M f k) a b w (M 5 (M 2 (60 * f + k))).toNat)
theorem bN_inj {x y : Bool} : bN x = bN y ↔ x = y := by cases x <;> cases y <;> simp [bN]
theorem aheadM_rg {M : wM} {f : Int} (hf : 0 ≤ f ∧ f < 6) (i1 : I1 M) (i2 : I2 M) (i3 : I3 M) {n : Nat} (hn : (n : Int) ≤ M 3 f) : 0 ≤ aheadM M f n ∧ aheadM M f n ≤ 59940 := by
  have w3 := i3 f hf.1 hf.2
  obtain ⟨-, a2, -⟩ := i1
  have q := sumI_bound (f := fun k : Nat => keptM M (M 2 (60 * f + k))) (c := 999) (n := n) (fun k hk => by
    have w4 := w3.2.2.2 k (by omega) (by omega)
    have w2 := i2 (M 2 (60 * f + k)) w4.1 w4.2.1
    show 0 ≤ keptM M (M 2 (60 * f + k)) ∧ keptM M (M 2 (60 * f + k)) ≤ 999
    unfold keptM
    split <;> omega)
  unfold aheadM
  have e : (n : Int) * 999 ≤ 60 * 999 := Int.mul_le_mul_of_nonneg_right (by omega) (by omega)
  omega
def x_frames (M : wM) (z : Int) : Int := if ¬ (0 ≤ z ∧ z < M 21 0) then 1 else 0
def v_frames (M : wM) (z : Int) : Int := sumI (fun k : Nat => keepM M z (M 2 (60 * M 19 z + k))) (M 3 (M 19 z)).toNat
def n_frames (M : wM) (z : Int) : wM := if x_frames M z = 0 then (mup M 0 0 (x_frames M z)) else (mup M 0 0 (x_frames M z))
def x_leaveOut (M : wM) (f a b : Int) (w : Bool) : Int := if ¬ (0 ≤ f ∧ f < M 21 0) then 1 else if ¬ (0 ≤ a ∧ a < b ∧ b ≤ aheadM M (M 19 f) (M 3 (M 19 f)).toNat) then 2 else 0
def v_leaveOut (M : wM) (f a b : Int) (w : Bool) : Int := loM M f (M 19 f) a b w (M 3 (M 19 f)).toNat
def n_leaveOut (M : wM) (f a b : Int) (w : Bool) : wM := if x_leaveOut M f a b w = 0 then mset (mup M 0 0 (x_leaveOut M f a b w)) 22 (loK M f (M 19 f) a b w (M 3 (M 19 f)).toNat) else (mup M 0 0 (x_leaveOut M f a b w))
set_option maxHeartbeats 4000000 in
set_option maxRecDepth 100000 in
theorem m_frames (l : Launch) (hfl : l.stackTraces = false) {M : wM} {z : Int} (h_z : rg z) (I : Inv M) : MC l yX6_frames cX6_frames 7 (some FieldType.int) 4 [.int (iN z)] M (.inl (some (.int (iN (if x_frames M z = 0 then v_frames M z else 0))))) (n_frames M z) := by
  intro S0 o B hM0
  refine Ct.of cal_X6_frames hfl (Nat.le_of_ble_eq_true rfl) ?_
  intro p e s m args below meth c D sz C ME
  have hM : RMF S0 S0 o B M := ⟨hM0, mF.rf⟩
  have I9 := I
  obtain ⟨i1, i2, i3, i3e, i4, i4e, i5, i6, i7, i8, i10, i11⟩ := I9
  obtain ⟨a1, a2, a3, a4, a5, a6, a7⟩ := id i1
  have key : ∀ (x : Int) (S : wS), x = x_frames M z → RMF S0 S o B M → J p l e { frames := 20 * 4, cells := 0, slots := 0, locals := 200 * 4 } s m args below meth c 7 D (wA S0 sz) (wQ below D sz S0 (fun r9 S9 => r9 = .inl (some (.int (iN (if x_frames M z = 0 then v_frames M z else 0)))) ∧ RMF S0 S9 o B (n_frames M z)) args s 0 0) 14 [(0, .ref o), (1, .int (iN (z)))] [.int (iN x), .ref o] S 0 0 := by
    intro x S hx hM
    subst hx
    refine j_mcall C hM (c_goesOn l hfl (by unfold x_frames; (repeat' split) <;> (unfold rg; omega))) cal_X6_goesOn vi_X6_goesOn rfl ml_Mo_103 rfl rfl (Nat.le_of_ble_eq_true rfl) ⟨by decide, by decide⟩ ⟨by omega, by omega⟩ dX6_frames_14 (fun S hM => ?_)
    refine j_ifne_b (tgt := 22) C dX6_frames_17 (by decide) (fun c17 => ?_) (fun c17 => ?_)
    · try simp only [decide_eq_true_eq, decide_eq_false_iff_not] at c17
      try simp only [decide_eq_true_eq, decide_eq_false_iff_not] at c17
      have ok : 0 ≤ z ∧ z < M 21 0 := by
        clear I i1 i2 i3 i3e i4 i4e i5 i6 i7 i8 i10 i11; (try clear key); (try clear key2); (try clear ih); (try clear w5); (try clear w11); (try clear w2); (try clear w3); (try clear w4); (try clear w6); (try clear w7); (try clear w8); (try clear w9); (try clear p4); (try clear o4); unfold x_frames at c17
        (repeat' split at c17) <;> first | rfl | omega | (simp_all; done) | (simp_all; omega)
      have w60 := i6 z (by omega) (by omega)
      have w3 := i3 (M 19 z) (by omega) (by omega)
      refine j_aload_n C dX6_frames_22 rfl ?_
      refine j_mgeta C hM fl_Mo_56 (by decide) dX6_frames_23 ?_
      refine j_iload_n C dX6_frames_26 rfl ?_
      refine j_mald C hM (by decide) rfl (by simp only [mLen]; omega) dX6_frames_27 ?_
      refine j_istore_n C dX6_frames_28 (by decide) ?_
      refine j_iconst C dX6_frames_29 ?_
      refine j_istore_n C dX6_frames_30 (by decide) ?_
      refine j_iconst C dX6_frames_31 ?_
      refine j_istore C dX6_frames_32 (by decide) ?_
      have key2 : ∀ (fuel : Nat) (i : Nat) (S : wS), M 3 (M 19 z) - i < fuel → (i : Int) ≤ M 3 (M 19 z) → RMF S0 S o B (mup M 0 0 (x_frames M z)) → J p l e { frames := 20 * 4, cells := 0, slots := 0, locals := 200 * 4 } s m args below meth c 7 D (wA S0 sz) (wQ below D sz S0 (fun r9 S9 => r9 = .inl (some (.int (iN (if x_frames M z = 0 then v_frames M z else 0)))) ∧ RMF S0 S9 o B (n_frames M z)) args s 0 0) 34 [(0, .ref o), (1, .int (iN (z))), (2, .int (iN (M 19 z))), (3, .int (iN (sumI (fun k : Nat => keepM M z (M 2 (60 * M 19 z + k))) i))), (4, .int (iN (i)))] [] S 0 0 := by
        intro fuel
        induction fuel with
        | zero => intro i S h1 h2 hM; omega
        | succ fuel ih =>
          intro i S h1 h2 hM
          have e3 : (mup M 0 0 (x_frames M z)) 3 (M 19 z) = M 3 (M 19 z) := rfl
          refine j_iload C dX6_frames_34 rfl ?_
          refine j_aload_n C dX6_frames_36 rfl ?_
          refine j_mgeta C hM fl_Mo_13 (by decide) dX6_frames_37 ?_
          refine j_iload_n C dX6_frames_40 rfl ?_
          refine j_mald C hM (by decide) rfl (by simp only [mLen]; omega) dX6_frames_41 ?_
          refine j_icmp_ge (tgt := 117) C dX6_frames_42 (by decide) (by unfold rg at *; omega) (by unfold rg at *; omega) (fun c42 => ?_) (fun c42 => ?_)
          · have ei : i = (M 3 (M 19 z)).toNat := by omega
            subst ei
            refine j_iload_n C dX6_frames_117 rfl ?_
            refine j_iret C ME ?_ (by omega) (by omega) dX6_frames_118
            refine ⟨rI ?_, ?_⟩
            · first
              | (rw [if_neg c17]; done)
              | (rw [if_pos c17]; unfold v_frames; rfl)
            · unfold n_frames
              first
              | (rw [if_neg c17]; exact hM)
              | (rw [if_pos c17]; exact hM)
          · have w40 := w3.2.2.2 i (by omega) (by omega)
            have w20 := i2 (M 2 (60 * M 19 z + i)) w40.1 w40.2.1
            refine j_aload_n C dX6_frames_45 rfl ?_
            refine j_mgeta C hM fl_Mo_7 (by decide) dX6_frames_46 ?_
            refine j_bipush C dX6_frames_49 (by decide) ?_
            refine j_iload_n C dX6_frames_51 rfl ?_
            refine j_imul C dX6_frames_52 ?_
            refine j_iload C dX6_frames_53 rfl ?_
            refine j_iadd C dX6_frames_55 ?_
            refine j_mald C hM (by decide) rfl (by simp only [mLen]; omega) dX6_frames_56 ?_
            refine j_istore C dX6_frames_57 (by decide) ?_
            refine j_iconst C dX6_frames_59 ?_
            refine j_istore C dX6_frames_60 (by decide) ?_
            have key3 : ∀ (fuel : Nat) (j : Nat) (S : wS), M 5 (M 2 (60 * M 19 z + i)) - j < fuel → (j : Int) ≤ M 5 (M 2 (60 * M 19 z + i)) → RMF S0 S o B (mup M 0 0 (x_frames M z)) → J p l e { frames := 20 * 4, cells := 0, slots := 0, locals := 200 * 4 } s m args below meth c 7 D (wA S0 sz) (wQ below D sz S0 (fun r9 S9 => r9 = .inl (some (.int (iN (if x_frames M z = 0 then v_frames M z else 0)))) ∧ RMF S0 S9 o B (n_frames M z)) args s 0 0) 62 [(0, .ref o), (1, .int (iN (z))), (2, .int (iN (M 19 z))), (3, .int (iN (sumI (fun k : Nat => keepM M z (M 2 (60 * M 19 z + k))) i + keepJ M z (M 2 (60 * M 19 z + i)) j))), (4, .int (iN (i))), (5, .int (iN (M 2 (60 * M 19 z + i)))), (6, .int (iN (j)))] [] S 0 0 := by
              intro fuel
              induction fuel with
              | zero => intro j S g1 g2 hM; omega
              | succ fuel ihj =>
                intro j S g1 g2 hM
                have e5 : (mup M 0 0 (x_frames M z)) 5 (M 2 (60 * M 19 z + i)) = M 5 (M 2 (60 * M 19 z + i)) := rfl
                have e7 : (mup M 0 0 (x_frames M z)) 7 (M 2 (60 * M 19 z + i)) = M 7 (M 2 (60 * M 19 z + i)) := rfl
                have ew : outP (mup M 0 0 (x_frames M z)) z (M 2 (60 * M 19 z + i)) j = outP M z (M 2 (60 * M 19 z + i)) j := rfl
                have eP : ((j : Int) = M 5 (M 2 (60 * M 19 z + i)) ∨ M 7 (M 2 (60 * M 19 z + i)) = -1) → sumI (fun k : Nat => keepM M z (M 2 (60 * M 19 z + k))) (i + 1) = sumI (fun k : Nat => keepM M z (M 2 (60 * M 19 z + k))) i + keepJ M z (M 2 (60 * M 19 z + i)) j := by
                  intro h
                  rw [show sumI (fun k : Nat => keepM M z (M 2 (60 * M 19 z + k))) (i + 1) = sumI (fun k : Nat => keepM M z (M 2 (60 * M 19 z + k))) i + keepM M z (M 2 (60 * M 19 z + i)) from rfl]
                  congr 1
                  unfold keepM keepJ
                  by_cases q : M 7 (M 2 (60 * M 19 z + i)) = -1
                  · rw [if_pos q, if_pos q]
                  · rw [if_neg q, if_neg q, show (M 5 (M 2 (60 * M 19 z + i))).toNat = j by omega]
                refine j_iload C dX6_frames_62 rfl ?_
                refine j_aload_n C dX6_frames_64 rfl ?_
                refine j_mgeta C hM fl_Mo_19 (by decide) dX6_frames_65 ?_
                refine j_iload C dX6_frames_68 rfl ?_
                refine j_mald C hM (by decide) rfl (by simp only [mLen]; omega) dX6_frames_70 ?_
                refine j_icmp_ge (tgt := 111) C dX6_frames_71 (by decide) (by unfold rg at *; omega) (by unfold rg at *; omega) (fun c71 => ?_) (fun c71 => ?_)
                · refine j_iinc C dX6_frames_111 rfl (by decide) ?_
                  refine j_goto (tgt := 34) C dX6_frames_114 (by decide) ?_
                  have ihk := ih (i + 1) S (by omega) (by omega) hM
                  rw [eP (by omega)] at ihk
                  refine J.lvs (lv' := [(0, .ref o), (1, .int (iN (z))), (2, .int (iN (M 19 z))), (3, .int (iN (sumI (fun k : Nat => keepM M z (M 2 (60 * M 19 z + k))) i + keepJ M z (M 2 (60 * M 19 z + i)) j))), (4, .int (iN (((i + 1 : Nat) : Int))))]) ?_ ?_
                  · intro q hq; simp only [List.mem_cons, List.not_mem_nil, or_false] at hq; rcases hq with rfl | rfl | rfl | rfl | rfl <;> rfl
                  · refine ihk
                · refine j_aload_n C dX6_frames_74 rfl ?_
                  refine j_mgeta C hM fl_Mo_25 (by decide) dX6_frames_75 ?_
                  refine j_iload C dX6_frames_78 rfl ?_
                  refine j_mald C hM (by decide) rfl (by simp only [mLen]; omega) dX6_frames_80 ?_
                  refine j_iconst C dX6_frames_81 ?_
                  refine j_icmp_eq (tgt := 111) C dX6_frames_82 (by decide) (by unfold rg at *; omega) (by unfold rg at *; omega) (fun c82 => ?_) (fun c82 => ?_)
                  · refine j_iinc C dX6_frames_111 rfl (by decide) ?_
                    refine j_goto (tgt := 34) C dX6_frames_114 (by decide) ?_
                    have ihk := ih (i + 1) S (by omega) (by omega) hM
                    rw [eP (by omega)] at ihk
                    refine J.lvs (lv' := [(0, .ref o), (1, .int (iN (z))), (2, .int (iN (M 19 z))), (3, .int (iN (sumI (fun k : Nat => keepM M z (M 2 (60 * M 19 z + k))) i + keepJ M z (M 2 (60 * M 19 z + i)) j))), (4, .int (iN (((i + 1 : Nat) : Int))))]) ?_ ?_
                    · intro q hq; simp only [List.mem_cons, List.not_mem_nil, or_false] at hq; rcases hq with rfl | rfl | rfl | rfl | rfl <;> rfl
                    · refine ihk
                  · have en : keepJ M z (M 2 (60 * M 19 z + i)) (j + 1) = keepJ M z (M 2 (60 * M 19 z + i)) j + (1 - bN (outP M z (M 2 (60 * M 19 z + i)) j)) := by unfold keepJ; rw [if_neg (by omega), if_neg (by omega)]; rfl
                    refine j_iload_n C dX6_frames_85 rfl ?_
                    refine j_aload_n C dX6_frames_86 rfl ?_
                    refine j_iload_n C dX6_frames_87 rfl ?_
                    refine j_iload C dX6_frames_88 rfl ?_
                    refine j_iload C dX6_frames_90 rfl ?_
                    refine j_mcall C hM (c_isOutOf l hfl (M := (mup M 0 0 (x_frames M z))) (v := z) (s9 := M 2 (60 * M 19 z + i)) (f := j) (by omega) (by omega) (by omega)) cal_X6_isOutOf vi_X6_isOutOf rfl ml_Mo_178 rfl rfl (Nat.le_of_ble_eq_true rfl) ⟨by decide, by decide⟩ ⟨by omega, by omega⟩ dX6_frames_92 (fun S hM => ?_)
                    refine j_ifeq_b (tgt := 102) C dX6_frames_95 (by decide) (fun c95 => ?_) (fun c95 => ?_)
                    · try simp only [decide_eq_true_eq, decide_eq_false_iff_not] at c95
                      refine j_iconst C dX6_frames_102 ?_
                      refine j_iadd C dX6_frames_103 ?_
                      refine j_istore_n C dX6_frames_104 (by decide) ?_
                      refine j_iinc C dX6_frames_105 rfl (by decide) ?_
                      refine j_goto (tgt := 62) C dX6_frames_108 (by decide) ?_
                      have ihk := ihj (j + 1) S (by omega) (by omega) hM
                      first
                        | (rw [ew] at c95
                           rw [c95] at en
                           rw [en] at ihk
                           rw [← Int.add_assoc] at ihk
                           refine J.lvs (lv' := [(0, .ref o), (1, .int (iN (z))), (2, .int (iN (M 19 z))), (3, .int (iN (sumI (fun k : Nat => keepM M z (M 2 (60 * M 19 z + k))) i + keepJ M z (M 2 (60 * M 19 z + i)) j + (1 - bN true)))), (4, .int (iN (i))), (5, .int (iN (M 2 (60 * M 19 z + i)))), (6, .int (iN (((j + 1 : Nat) : Int))))]) ?_ ?_
                           · intro q hq; simp only [List.mem_cons, List.not_mem_nil, or_false] at hq; rcases hq with rfl | rfl | rfl | rfl | rfl | rfl | rfl <;> rfl
                           · refine ihk)
                        | (rw [ew] at c95
                           rw [c95] at en
                           rw [en] at ihk
                           rw [← Int.add_assoc] at ihk
                           refine J.lvs (lv' := [(0, .ref o), (1, .int (iN (z))), (2, .int (iN (M 19 z))), (3, .int (iN (sumI (fun k : Nat => keepM M z (M 2 (60 * M 19 z + k))) i + keepJ M z (M 2 (60 * M 19 z + i)) j + (1 - bN false)))), (4, .int (iN (i))), (5, .int (iN (M 2 (60 * M 19 z + i)))), (6, .int (iN (((j + 1 : Nat) : Int))))]) ?_ ?_
                           · intro q hq; simp only [List.mem_cons, List.not_mem_nil, or_false] at hq; rcases hq with rfl | rfl | rfl | rfl | rfl | rfl | rfl <;> rfl
                           · refine ihk)
                    · try simp only [decide_eq_true_eq, decide_eq_false_iff_not] at c95
                      refine j_iconst C dX6_frames_98 ?_
                      refine j_goto (tgt := 103) C dX6_frames_99 (by decide) ?_
                      refine j_iadd C dX6_frames_103 ?_
                      refine j_istore_n C dX6_frames_104 (by decide) ?_
                      refine j_iinc C dX6_frames_105 rfl (by decide) ?_
                      refine j_goto (tgt := 62) C dX6_frames_108 (by decide) ?_
                      have ihk := ihj (j + 1) S (by omega) (by omega) hM
                      first
                        | (rw [ew] at c95
                           rw [c95] at en
                           rw [en] at ihk
                           rw [← Int.add_assoc] at ihk
                           refine J.lvs (lv' := [(0, .ref o), (1, .int (iN (z))), (2, .int (iN (M 19 z))), (3, .int (iN (sumI (fun k : Nat => keepM M z (M 2 (60 * M 19 z + k))) i + keepJ M z (M 2 (60 * M 19 z + i)) j + (1 - bN true)))), (4, .int (iN (i))), (5, .int (iN (M 2 (60 * M 19 z + i)))), (6, .int (iN (((j + 1 : Nat) : Int))))]) ?_ ?_
                           · intro q hq; simp only [List.mem_cons, List.not_mem_nil, or_false] at hq; rcases hq with rfl | rfl | rfl | rfl | rfl | rfl | rfl <;> rfl
                           · refine ihk)
                        | (rw [ew] at c95
                           rw [c95] at en
                           rw [en] at ihk
                           rw [← Int.add_assoc] at ihk
                           refine J.lvs (lv' := [(0, .ref o), (1, .int (iN (z))), (2, .int (iN (M 19 z))), (3, .int (iN (sumI (fun k : Nat => keepM M z (M 2 (60 * M 19 z + k))) i + keepJ M z (M 2 (60 * M 19 z + i)) j + (1 - bN false)))), (4, .int (iN (i))), (5, .int (iN (M 2 (60 * M 19 z + i)))), (6, .int (iN (((j + 1 : Nat) : Int))))]) ?_ ?_
                           · intro q hq; simp only [List.mem_cons, List.not_mem_nil, or_false] at hq; rcases hq with rfl | rfl | rfl | rfl | rfl | rfl | rfl <;> rfl
                           · refine ihk)
            refine J.lvs (lv' := [(0, .ref o), (1, .int (iN (z))), (2, .int (iN (M 19 z))), (3, .int (iN (sumI (fun k : Nat => keepM M z (M 2 (60 * M 19 z + k))) i))), (4, .int (iN (i))), (5, .int (iN (M 2 (60 * M 19 z + i)))), (6, .int (iN (((0 : Nat) : Int))))]) ?_ ?_
            · intro q hq; simp only [List.mem_cons, List.not_mem_nil, or_false] at hq; rcases hq with rfl | rfl | rfl | rfl | rfl | rfl | rfl <;> rfl
            · exact (by have q9 := key3 ((M 5 (M 2 (60 * M 19 z + i))).toNat + 1) 0 S (by omega) (by omega) hM; rw [show (sumI (fun k : Nat => keepM M z (M 2 (60 * M 19 z + k))) i : Int) + keepJ M z (M 2 (60 * M 19 z + i)) 0 = sumI (fun k : Nat => keepM M z (M 2 (60 * M 19 z + k))) i by unfold keepJ; simp [sumI]] at q9; exact q9)
      refine J.lvs (lv' := [(0, .ref o), (1, .int (iN (z))), (2, .int (iN (M 19 z))), (3, .int (iN (sumI (fun k : Nat => keepM M z (M 2 (60 * M 19 z + k))) 0))), (4, .int (iN (((0 : Nat) : Int))))]) ?_ ?_
      · intro q hq; simp only [List.mem_cons, List.not_mem_nil, or_false] at hq; rcases hq with rfl | rfl | rfl | rfl | rfl <;> rfl
      · exact key2 ((M 3 (M 19 z)).toNat + 1) 0 S (by omega) (by omega) hM
    · try simp only [decide_eq_true_eq, decide_eq_false_iff_not] at c17
      try simp only [decide_eq_true_eq, decide_eq_false_iff_not] at c17
      refine j_iconst C dX6_frames_20 ?_
      refine j_iret C ME ?_ (by omega) (by omega) dX6_frames_21
      refine ⟨rI ?_, ?_⟩
      · first
        | (rw [if_neg c17]; done)
        | (rw [if_pos c17]; unfold v_frames; rfl)
      · unfold n_frames
        first
        | (rw [if_neg c17]; exact hM)
        | (rw [if_pos c17]; exact hM)
  refine j_aload_n C dX6_frames_0 rfl ?_
  refine j_aload_n C dX6_frames_1 rfl ?_
  refine j_iload_n C dX6_frames_2 rfl ?_
  refine j_mcall C hM (c_isVersion l hfl (by unfold rg at *; omega) (by omega)) cal_X6_isVersion vi_X6_isVersion rfl ml_Mo_175 rfl rfl (Nat.le_of_ble_eq_true rfl) ⟨by decide, by decide⟩ ⟨by omega, by omega⟩ dX6_frames_3 (fun S hM => ?_)
  refine j_ifeq_b (tgt := 13) C dX6_frames_6 (by decide) (fun c6 => ?_) (fun c6 => ?_)
  · try simp only [decide_eq_true_eq, decide_eq_false_iff_not] at c6
    refine j_iconst C dX6_frames_13 ?_
    refine J.lvs (lv' := [(0, .ref o), (1, .int (iN (z)))]) ?_ ?_
    · intro q hq; simp only [List.mem_cons, List.not_mem_nil, or_false] at hq; rcases hq with rfl | rfl <;> rfl
    · refine key _ _ (by clear I i1 i2 i3 i3e i4 i4e i5 i6 i7 i8 i10 i11; (try clear key); (try clear key2); (try clear ih); (try clear w5); (try clear w11); (try clear w2); (try clear w3); (try clear w4); (try clear w6); (try clear w7); (try clear w8); (try clear w9); (try clear p4); (try clear o4); (try simp only [decide_eq_true_eq, decide_eq_false_iff_not] at *); unfold x_frames; (repeat' split) <;> first | rfl | omega | (simp_all; done) | (simp_all; omega)) hM
  · try simp only [decide_eq_true_eq, decide_eq_false_iff_not] at c6
    refine j_iconst C dX6_frames_9 ?_
    refine j_goto (tgt := 14) C dX6_frames_10 (by decide) ?_
    refine J.lvs (lv' := [(0, .ref o), (1, .int (iN (z)))]) ?_ ?_
    · intro q hq; simp only [List.mem_cons, List.not_mem_nil, or_false] at hq; rcases hq with rfl | rfl <;> rfl
    · refine key _ _ (by clear I i1 i2 i3 i3e i4 i4e i5 i6 i7 i8 i10 i11; (try clear key); (try clear key2); (try clear ih); (try clear w5); (try clear w11); (try clear w2); (try clear w3); (try clear w4); (try clear w6); (try clear w7); (try clear w8); (try clear w9); (try clear p4); (try clear o4); (try simp only [decide_eq_true_eq, decide_eq_false_iff_not] at *); unfold x_frames; (repeat' split) <;> first | rfl | omega | (simp_all; done) | (simp_all; omega)) hM

set_option maxHeartbeats 4000000 in
set_option maxRecDepth 100000 in
theorem m_leaveOut (l : Launch) (hfl : l.stackTraces = false) {M : wM} {f a b : Int} {w : Bool} (h_f : rg f)  (h_a : rg a)  (h_b : rg b) (I : Inv M) : MC l yX6_leaveOut cX6_leaveOut 13 (some FieldType.int) 4 [.int (iN f), .int (iN a), .int (iN b), .int (iN (bN w))] M (.inl (some (.int (iN (if x_leaveOut M f a b w = 0 then v_leaveOut M f a b w else 0))))) (n_leaveOut M f a b w) := by
  intro S0 o B hM0
  refine Ct.of cal_X6_leaveOut hfl (Nat.le_of_ble_eq_true rfl) ?_
  intro p e s m args below meth c D sz C ME
  have hM : RMF S0 S0 o B M := ⟨hM0, mF.rf⟩
  have I9 := I
  obtain ⟨i1, i2, i3, i3e, i4, i4e, i5, i6, i7, i8, i10, i11⟩ := I9
  obtain ⟨a1, a2, a3, a4, a5, a6, a7⟩ := id i1
  have key : ∀ (x : Int) (y : Int) (S : wS), x = x_leaveOut M f a b w → (x = 0 → y = M 19 f) → RMF S0 S o B M → J p l e { frames := 20 * 4, cells := 0, slots := 0, locals := 200 * 4 } s m args below meth c 13 D (wA S0 sz) (wQ below D sz S0 (fun r9 S9 => r9 = .inl (some (.int (iN (if x_leaveOut M f a b w = 0 then v_leaveOut M f a b w else 0)))) ∧ RMF S0 S9 o B (n_leaveOut M f a b w)) args s 0 0) 82 [(0, .ref o), (1, .int (iN (f))), (2, .int (iN (a))), (3, .int (iN (b))), (4, .int (iN (bN w))), (6, .int (iN (y)))] [.int (iN x), .ref o] S 0 0 := by
    intro x y S hx hy hM
    subst hx
    refine j_mcall C hM (c_goesOn l hfl (by unfold x_leaveOut; (repeat' split) <;> (unfold rg; omega))) cal_X6_goesOn vi_X6_goesOn rfl ml_Mo_103 rfl rfl (Nat.le_of_ble_eq_true rfl) ⟨by decide, by decide⟩ ⟨by omega, by omega⟩ dX6_leaveOut_82 (fun S hM => ?_)
    refine j_ifne_b (tgt := 90) C dX6_leaveOut_85 (by decide) (fun c85 => ?_) (fun c85 => ?_)
    · try simp only [decide_eq_true_eq, decide_eq_false_iff_not] at c85
      try simp only [decide_eq_true_eq, decide_eq_false_iff_not] at c85
      have hy := hy c85
      subst hy
      have ok : 0 ≤ f ∧ f < M 21 0 := by
        (try clear key)
        clear I i1 i2 i3 i3e i4 i4e i5 i6 i7 i8 i10 i11
        unfold x_leaveOut at c85
        (repeat' split at c85) <;> first | rfl | omega | (simp_all; done) | (simp_all; omega)
      have w60 := i6 f (by omega) (by omega)
      have w3 := i3 (M 19 f) (by omega) (by omega)
      refine j_iconst C dX6_leaveOut_90 ?_
      refine j_istore C dX6_leaveOut_91 (by decide) ?_
      refine j_iconst C dX6_leaveOut_93 ?_
      refine j_istore C dX6_leaveOut_94 (by decide) ?_
      refine j_iconst C dX6_leaveOut_96 ?_
      refine j_istore C dX6_leaveOut_97 (by decide) ?_
      have key2 : ∀ (fuel : Nat) (i : Nat) (S : wS), M 3 (M 19 f) - i < fuel → (i : Int) ≤ M 3 (M 19 f) → RMF S0 S o B (mset (mup M 0 0 (x_leaveOut M f a b w)) 22 (loK M f (M 19 f) a b w i)) → J p l e { frames := 20 * 4, cells := 0, slots := 0, locals := 200 * 4 } s m args below meth c 13 D (wA S0 sz) (wQ below D sz S0 (fun r9 S9 => r9 = .inl (some (.int (iN (if x_leaveOut M f a b w = 0 then v_leaveOut M f a b w else 0)))) ∧ RMF S0 S9 o B (n_leaveOut M f a b w)) args s 0 0) 99 [(0, .ref o), (1, .int (iN (f))), (2, .int (iN (a))), (3, .int (iN (b))), (4, .int (iN (bN w))), (6, .int (iN (M 19 f))), (8, .int (iN (loM M f (M 19 f) a b w i))), (9, .int (iN (aheadM M (M 19 f) i))), (10, .int (iN (i)))] [] S 0 0 := by
        intro fuel
        induction fuel with
        | zero => intro i S h1 h2 hM; omega
        | succ fuel ih =>
          intro i S h1 h2 hM
          have e3 : (mset (mup M 0 0 (x_leaveOut M f a b w)) 22 (loK M f (M 19 f) a b w i)) 3 (M 19 f) = M 3 (M 19 f) := rfl
          have wA9 := aheadM_rg (by omega) i1 i2 i3 h2
          refine j_iload C dX6_leaveOut_99 rfl ?_
          refine j_aload_n C dX6_leaveOut_101 rfl ?_
          refine j_mgeta C hM fl_Mo_13 (by decide) dX6_leaveOut_102 ?_
          refine j_iload C dX6_leaveOut_105 rfl ?_
          refine j_mald C hM (by decide) rfl (by simp only [mLen]; omega) dX6_leaveOut_107 ?_
          refine j_icmp_ge (tgt := 227) C dX6_leaveOut_108 (by decide) (by unfold rg at *; omega) (by unfold rg at *; omega) (fun c108 => ?_) (fun c108 => ?_)
          · have ei : i = (M 3 (M 19 f)).toNat := by omega
            subst ei
            refine j_iload C dX6_leaveOut_227 rfl ?_
            refine j_iret C ME ?_ (by omega) (by omega) dX6_leaveOut_229
            refine ⟨rI ?_, ?_⟩
            · first
              | (rw [if_neg c85]; done)
              | (rw [if_pos c85]; unfold v_leaveOut; rfl)
            · unfold n_leaveOut
              first
              | (rw [if_neg c85]; exact hM)
              | (rw [if_pos c85]; exact hM)
          · have w40 := w3.2.2.2 i (by omega) (by omega)
            have w20 := i2 (M 2 (60 * M 19 f + i)) w40.1 w40.2.1
            refine j_aload_n C dX6_leaveOut_111 rfl ?_
            refine j_mgeta C hM fl_Mo_7 (by decide) dX6_leaveOut_112 ?_
            refine j_bipush C dX6_leaveOut_115 (by decide) ?_
            refine j_iload C dX6_leaveOut_117 rfl ?_
            refine j_imul C dX6_leaveOut_119 ?_
            refine j_iload C dX6_leaveOut_120 rfl ?_
            refine j_iadd C dX6_leaveOut_122 ?_
            refine j_mald C hM (by decide) rfl (by simp only [mLen]; omega) dX6_leaveOut_123 ?_
            refine j_istore C dX6_leaveOut_124 (by decide) ?_
            refine j_iconst C dX6_leaveOut_126 ?_
            refine j_istore C dX6_leaveOut_127 (by decide) ?_
            have key3 : ∀ (fuel : Nat) (j : Nat) (S : wS), M 5 (M 2 (60 * M 19 f + i)) - j < fuel → (j : Int) ≤ M 5 (M 2 (60 * M 19 f + i)) → (M 7 (M 2 (60 * M 19 f + i)) = -1 → j = 0) → RMF S0 S o B (mset (mup M 0 0 (x_leaveOut M f a b w)) 22 (loJ (loK M f (M 19 f) a b w i) f (M 2 (60 * M 19 f + i)) (aheadM M (M 19 f) i) a b w j)) → J p l e { frames := 20 * 4, cells := 0, slots := 0, locals := 200 * 4 } s m args below meth c 13 D (wA S0 sz) (wQ below D sz S0 (fun r9 S9 => r9 = .inl (some (.int (iN (if x_leaveOut M f a b w = 0 then v_leaveOut M f a b w else 0)))) ∧ RMF S0 S9 o B (n_leaveOut M f a b w)) args s 0 0) 129 [(0, .ref o), (1, .int (iN (f))), (2, .int (iN (a))), (3, .int (iN (b))), (4, .int (iN (bN w))), (6, .int (iN (M 19 f))), (8, .int (iN (loM M f (M 19 f) a b w i + loN (loK M f (M 19 f) a b w i) f (M 2 (60 * M 19 f + i)) (aheadM M (M 19 f) i) a b w j))), (9, .int (iN (aheadM M (M 19 f) i + j))), (10, .int (iN (i))), (11, .int (iN (M 2 (60 * M 19 f + i)))), (12, .int (iN (j)))] [] S 0 0 := by
              intro fuel
              induction fuel with
              | zero => intro j S g1 g2 g3 hM; omega
              | succ fuel ihj =>
                intro j S g1 g2 g3 hM
                have e5 : (mset (mup M 0 0 (x_leaveOut M f a b w)) 22 (loJ (loK M f (M 19 f) a b w i) f (M 2 (60 * M 19 f + i)) (aheadM M (M 19 f) i) a b w j)) 5 (M 2 (60 * M 19 f + i)) = M 5 (M 2 (60 * M 19 f + i)) := rfl
                have e7 : (mset (mup M 0 0 (x_leaveOut M f a b w)) 22 (loJ (loK M f (M 19 f) a b w i) f (M 2 (60 * M 19 f + i)) (aheadM M (M 19 f) i) a b w j)) 7 (M 2 (60 * M 19 f + i)) = M 7 (M 2 (60 * M 19 f + i)) := rfl
                have ew : outP (mset (mup M 0 0 (x_leaveOut M f a b w)) 22 (loJ (loK M f (M 19 f) a b w i) f (M 2 (60 * M 19 f + i)) (aheadM M (M 19 f) i) a b w j)) f (M 2 (60 * M 19 f + i)) j = outA (loJ (loK M f (M 19 f) a b w i) f (M 2 (60 * M 19 f + i)) (aheadM M (M 19 f) i) a b w j) f (M 2 (60 * M 19 f + i)) j := rfl
                have rg9 : 0 ≤ aheadM M (M 19 f) i + (j : Int) ∧ aheadM M (M 19 f) i + (j : Int) ≤ 60939 := by omega
                have eJ : ∀ q : Bool, loC (loJ (loK M f (M 19 f) a b w i) f (M 2 (60 * M 19 f + i)) (aheadM M (M 19 f) i) a b w j) f (M 2 (60 * M 19 f + i)) (aheadM M (M 19 f) i) a b w j = q → loJ (loK M f (M 19 f) a b w i) f (M 2 (60 * M 19 f + i)) (aheadM M (M 19 f) i) a b w (j + 1) = if q = true then (fun x => if x = loX f (M 2 (60 * M 19 f + i)) j then xorI (loJ (loK M f (M 19 f) a b w i) f (M 2 (60 * M 19 f + i)) (aheadM M (M 19 f) i) a b w j (loX f (M 2 (60 * M 19 f + i)) j)) (shlI 1 ((j : Int) % 32)) else loJ (loK M f (M 19 f) a b w i) f (M 2 (60 * M 19 f + i)) (aheadM M (M 19 f) i) a b w j x) else loJ (loK M f (M 19 f) a b w i) f (M 2 (60 * M 19 f + i)) (aheadM M (M 19 f) i) a b w j := fun q h => by rw [← h]; rfl
                have eN : loN (loK M f (M 19 f) a b w i) f (M 2 (60 * M 19 f + i)) (aheadM M (M 19 f) i) a b w (j + 1) = loN (loK M f (M 19 f) a b w i) f (M 2 (60 * M 19 f + i)) (aheadM M (M 19 f) i) a b w j + bN (loC (loJ (loK M f (M 19 f) a b w i) f (M 2 (60 * M 19 f + i)) (aheadM M (M 19 f) i) a b w j) f (M 2 (60 * M 19 f + i)) (aheadM M (M 19 f) i) a b w j) := rfl
                have eK : M 7 (M 2 (60 * M 19 f + i)) = -1 ∨ (j : Int) = M 5 (M 2 (60 * M 19 f + i)) → loK M f (M 19 f) a b w (i + 1) = loJ (loK M f (M 19 f) a b w i) f (M 2 (60 * M 19 f + i)) (aheadM M (M 19 f) i) a b w j ∧ loM M f (M 19 f) a b w (i + 1) = loM M f (M 19 f) a b w i + loN (loK M f (M 19 f) a b w i) f (M 2 (60 * M 19 f + i)) (aheadM M (M 19 f) i) a b w j ∧ aheadM M (M 19 f) (i + 1) = aheadM M (M 19 f) i + j := by
                  intro h
                  have k1 : loK M f (M 19 f) a b w (i + 1) = if M 7 (M 2 (60 * M 19 f + i)) = -1 then loK M f (M 19 f) a b w i else loJ (loK M f (M 19 f) a b w i) f (M 2 (60 * M 19 f + i)) (aheadM M (M 19 f) i) a b w (M 5 (M 2 (60 * M 19 f + i))).toNat := rfl
                  have k2 : loM M f (M 19 f) a b w (i + 1) = loM M f (M 19 f) a b w i + (if M 7 (M 2 (60 * M 19 f + i)) = -1 then 0 else loN (loK M f (M 19 f) a b w i) f (M 2 (60 * M 19 f + i)) (aheadM M (M 19 f) i) a b w (M 5 (M 2 (60 * M 19 f + i))).toNat) := rfl
                  have k3 : aheadM M (M 19 f) (i + 1) = aheadM M (M 19 f) i + keptM M (M 2 (60 * M 19 f + i)) := rfl
                  unfold keptM at k3
                  by_cases q : M 7 (M 2 (60 * M 19 f + i)) = -1
                  · rw [if_pos q] at k1 k2 k3
                    rw [k1, k2, k3, g3 q]
                    exact ⟨rfl, rfl, rfl⟩
                  · rw [if_neg q] at k1 k2 k3
                    rw [k1, k2, k3, show (M 5 (M 2 (60 * M 19 f + i))).toNat = j by omega]
                    exact ⟨rfl, rfl, by omega⟩
                refine j_iload C dX6_leaveOut_129 rfl ?_
                refine j_aload_n C dX6_leaveOut_131 rfl ?_
                refine j_mgeta C hM fl_Mo_19 (by decide) dX6_leaveOut_132 ?_
                refine j_iload C dX6_leaveOut_135 rfl ?_
                refine j_mald C hM (by decide) rfl (by simp only [mLen]; omega) dX6_leaveOut_137 ?_
                refine j_icmp_ge (tgt := 221) C dX6_leaveOut_138 (by decide) (by unfold rg at *; omega) (by unfold rg at *; omega) (fun c138 => ?_) (fun c138 => ?_)
                · refine j_iinc C dX6_leaveOut_221 rfl (by decide) ?_
                  refine j_goto (tgt := 99) C dX6_leaveOut_224 (by decide) ?_
                  have eK := eK (by omega)
                  have ihk := ih (i + 1) S (by omega) (by omega) (by rw [eK.1]; exact hM)
                  rw [eK.2.1, eK.2.2] at ihk
                  refine J.lvs (lv' := [(0, .ref o), (1, .int (iN (f))), (2, .int (iN (a))), (3, .int (iN (b))), (4, .int (iN (bN w))), (6, .int (iN (M 19 f))), (8, .int (iN (loM M f (M 19 f) a b w i + loN (loK M f (M 19 f) a b w i) f (M 2 (60 * M 19 f + i)) (aheadM M (M 19 f) i) a b w j))), (9, .int (iN (aheadM M (M 19 f) i + j))), (10, .int (iN (((i + 1 : Nat) : Int))))]) ?_ ?_
                  · intro q hq; simp only [List.mem_cons, List.not_mem_nil, or_false] at hq; rcases hq with rfl | rfl | rfl | rfl | rfl | rfl | rfl | rfl | rfl <;> rfl
                  · refine ihk
                · refine j_aload_n C dX6_leaveOut_141 rfl ?_
                  refine j_mgeta C hM fl_Mo_25 (by decide) dX6_leaveOut_142 ?_
                  refine j_iload C dX6_leaveOut_145 rfl ?_
                  refine j_mald C hM (by decide) rfl (by simp only [mLen]; omega) dX6_leaveOut_147 ?_
                  refine j_iconst C dX6_leaveOut_148 ?_
                  refine j_icmp_eq (tgt := 221) C dX6_leaveOut_149 (by decide) (by unfold rg at *; omega) (by unfold rg at *; omega) (fun c149 => ?_) (fun c149 => ?_)
                  · refine j_iinc C dX6_leaveOut_221 rfl (by decide) ?_
                    refine j_goto (tgt := 99) C dX6_leaveOut_224 (by decide) ?_
                    have eK := eK (by omega)
                    have ihk := ih (i + 1) S (by omega) (by omega) (by rw [eK.1]; exact hM)
                    rw [eK.2.1, eK.2.2] at ihk
                    refine J.lvs (lv' := [(0, .ref o), (1, .int (iN (f))), (2, .int (iN (a))), (3, .int (iN (b))), (4, .int (iN (bN w))), (6, .int (iN (M 19 f))), (8, .int (iN (loM M f (M 19 f) a b w i + loN (loK M f (M 19 f) a b w i) f (M 2 (60 * M 19 f + i)) (aheadM M (M 19 f) i) a b w j))), (9, .int (iN (aheadM M (M 19 f) i + j))), (10, .int (iN (((i + 1 : Nat) : Int))))]) ?_ ?_
                    · intro q hq; simp only [List.mem_cons, List.not_mem_nil, or_false] at hq; rcases hq with rfl | rfl | rfl | rfl | rfl | rfl | rfl | rfl | rfl <;> rfl
                    · refine ihk
                  · refine j_iload C dX6_leaveOut_152 rfl ?_
                    refine j_iload_n C dX6_leaveOut_154 rfl ?_
                    refine j_icmp_lt (tgt := 212) C dX6_leaveOut_155 (by decide) (by unfold rg at *; omega) (by unfold rg at *; omega) (fun c155 => ?_) (fun c155 => ?_)
                    · refine j_iinc C dX6_leaveOut_212 rfl (by decide) ?_
                      refine j_iinc C dX6_leaveOut_215 rfl (by decide) ?_
                      refine j_goto (tgt := 129) C dX6_leaveOut_218 (by decide) ?_
                      first
                        | (have hc : loC (loJ (loK M f (M 19 f) a b w i) f (M 2 (60 * M 19 f + i)) (aheadM M (M 19 f) i) a b w j) f (M 2 (60 * M 19 f + i)) (aheadM M (M 19 f) i) a b w j = true := by
                             unfold loC
                             rw [ew] at c175
                             rw [decide_eq_true ⟨by omega, by omega⟩, Bool.true_and]
                             exact bne_iff_ne.mpr (fun h => c175 (by rw [h]))
                           have ihk := ihj (j + 1) S (by omega) (by omega) (fun h => by omega) (by
                             rw [eJ true hc, if_pos rfl]
                             rw [mset_mup, mset_set] at hM
                             exact hM)
                           rw [eN, hc] at ihk
                           rw [show ∀ x y : Int, x + (y + bN true) = x + y + 1 from fun x y => by rw [← Int.add_assoc]; rfl, show ∀ x : Int, x + ((j + 1 : Nat) : Int) = x + j + 1 from fun x => by omega] at ihk
                           refine J.lvs (lv' := [(0, .ref o), (1, .int (iN (f))), (2, .int (iN (a))), (3, .int (iN (b))), (4, .int (iN (bN w))), (6, .int (iN (M 19 f))), (8, .int (iN (loM M f (M 19 f) a b w i + loN (loK M f (M 19 f) a b w i) f (M 2 (60 * M 19 f + i)) (aheadM M (M 19 f) i) a b w j + 1))), (9, .int (iN (aheadM M (M 19 f) i + j + 1))), (10, .int (iN (i))), (11, .int (iN (M 2 (60 * M 19 f + i)))), (12, .int (iN (((j + 1 : Nat) : Int))))]) ?_ ?_
                           · intro q hq; simp only [List.mem_cons, List.not_mem_nil, or_false] at hq; rcases hq with rfl | rfl | rfl | rfl | rfl | rfl | rfl | rfl | rfl | rfl | rfl <;> rfl
                           · refine ihk)
                        | (have hc : loC (loJ (loK M f (M 19 f) a b w i) f (M 2 (60 * M 19 f + i)) (aheadM M (M 19 f) i) a b w j) f (M 2 (60 * M 19 f + i)) (aheadM M (M 19 f) i) a b w j = false := by
                             unfold loC
                             first
                             | (rw [decide_eq_false (by omega), Bool.false_and]; done)
                             | (rw [ew] at c175
                                rw [bN_inj] at c175
                                rw [c175]
                                simp)
                           have ihk := ihj (j + 1) S (by omega) (by omega) (fun h => by omega) (by
                             rw [eJ false hc, if_neg (by decide)]
                             exact hM)
                           rw [eN, hc] at ihk
                           rw [show ∀ x y : Int, x + (y + bN false) = x + y from fun x y => by rw [show bN false = 0 from rfl, Int.add_zero], show ∀ x : Int, x + ((j + 1 : Nat) : Int) = x + j + 1 from fun x => by omega] at ihk
                           refine J.lvs (lv' := [(0, .ref o), (1, .int (iN (f))), (2, .int (iN (a))), (3, .int (iN (b))), (4, .int (iN (bN w))), (6, .int (iN (M 19 f))), (8, .int (iN (loM M f (M 19 f) a b w i + loN (loK M f (M 19 f) a b w i) f (M 2 (60 * M 19 f + i)) (aheadM M (M 19 f) i) a b w j))), (9, .int (iN (aheadM M (M 19 f) i + j + 1))), (10, .int (iN (i))), (11, .int (iN (M 2 (60 * M 19 f + i)))), (12, .int (iN (((j + 1 : Nat) : Int))))]) ?_ ?_
                           · intro q hq; simp only [List.mem_cons, List.not_mem_nil, or_false] at hq; rcases hq with rfl | rfl | rfl | rfl | rfl | rfl | rfl | rfl | rfl | rfl | rfl <;> rfl
                           · refine ihk)
                    · refine j_iload C dX6_leaveOut_158 rfl ?_
                      refine j_iload_n C dX6_leaveOut_160 rfl ?_
                      refine j_icmp_ge (tgt := 212) C dX6_leaveOut_161 (by decide) (by unfold rg at *; omega) (by unfold rg at *; omega) (fun c161 => ?_) (fun c161 => ?_)
                      · refine j_iinc C dX6_leaveOut_212 rfl (by decide) ?_
                        refine j_iinc C dX6_leaveOut_215 rfl (by decide) ?_
                        refine j_goto (tgt := 129) C dX6_leaveOut_218 (by decide) ?_
                        first
                          | (have hc : loC (loJ (loK M f (M 19 f) a b w i) f (M 2 (60 * M 19 f + i)) (aheadM M (M 19 f) i) a b w j) f (M 2 (60 * M 19 f + i)) (aheadM M (M 19 f) i) a b w j = true := by
                               unfold loC
                               rw [ew] at c175
                               rw [decide_eq_true ⟨by omega, by omega⟩, Bool.true_and]
                               exact bne_iff_ne.mpr (fun h => c175 (by rw [h]))
                             have ihk := ihj (j + 1) S (by omega) (by omega) (fun h => by omega) (by
                               rw [eJ true hc, if_pos rfl]
                               rw [mset_mup, mset_set] at hM
                               exact hM)
                             rw [eN, hc] at ihk
                             rw [show ∀ x y : Int, x + (y + bN true) = x + y + 1 from fun x y => by rw [← Int.add_assoc]; rfl, show ∀ x : Int, x + ((j + 1 : Nat) : Int) = x + j + 1 from fun x => by omega] at ihk
                             refine J.lvs (lv' := [(0, .ref o), (1, .int (iN (f))), (2, .int (iN (a))), (3, .int (iN (b))), (4, .int (iN (bN w))), (6, .int (iN (M 19 f))), (8, .int (iN (loM M f (M 19 f) a b w i + loN (loK M f (M 19 f) a b w i) f (M 2 (60 * M 19 f + i)) (aheadM M (M 19 f) i) a b w j + 1))), (9, .int (iN (aheadM M (M 19 f) i + j + 1))), (10, .int (iN (i))), (11, .int (iN (M 2 (60 * M 19 f + i)))), (12, .int (iN (((j + 1 : Nat) : Int))))]) ?_ ?_
                             · intro q hq; simp only [List.mem_cons, List.not_mem_nil, or_false] at hq; rcases hq with rfl | rfl | rfl | rfl | rfl | rfl | rfl | rfl | rfl | rfl | rfl <;> rfl
                             · refine ihk)
                          | (have hc : loC (loJ (loK M f (M 19 f) a b w i) f (M 2 (60 * M 19 f + i)) (aheadM M (M 19 f) i) a b w j) f (M 2 (60 * M 19 f + i)) (aheadM M (M 19 f) i) a b w j = false := by
                               unfold loC
                               first
                               | (rw [decide_eq_false (by omega), Bool.false_and]; done)
                               | (rw [ew] at c175
                                  rw [bN_inj] at c175
                                  rw [c175]
                                  simp)
                             have ihk := ihj (j + 1) S (by omega) (by omega) (fun h => by omega) (by
                               rw [eJ false hc, if_neg (by decide)]
                               exact hM)
                             rw [eN, hc] at ihk
                             rw [show ∀ x y : Int, x + (y + bN false) = x + y from fun x y => by rw [show bN false = 0 from rfl, Int.add_zero], show ∀ x : Int, x + ((j + 1 : Nat) : Int) = x + j + 1 from fun x => by omega] at ihk
                             refine J.lvs (lv' := [(0, .ref o), (1, .int (iN (f))), (2, .int (iN (a))), (3, .int (iN (b))), (4, .int (iN (bN w))), (6, .int (iN (M 19 f))), (8, .int (iN (loM M f (M 19 f) a b w i + loN (loK M f (M 19 f) a b w i) f (M 2 (60 * M 19 f + i)) (aheadM M (M 19 f) i) a b w j))), (9, .int (iN (aheadM M (M 19 f) i + j + 1))), (10, .int (iN (i))), (11, .int (iN (M 2 (60 * M 19 f + i)))), (12, .int (iN (((j + 1 : Nat) : Int))))]) ?_ ?_
                             · intro q hq; simp only [List.mem_cons, List.not_mem_nil, or_false] at hq; rcases hq with rfl | rfl | rfl | rfl | rfl | rfl | rfl | rfl | rfl | rfl | rfl <;> rfl
                             · refine ihk)
                      · refine j_aload_n C dX6_leaveOut_164 rfl ?_
                        refine j_iload_n C dX6_leaveOut_165 rfl ?_
                        refine j_iload C dX6_leaveOut_166 rfl ?_
                        refine j_iload C dX6_leaveOut_168 rfl ?_
                        refine j_mcall C hM (c_isOutOf l hfl (M := (mset (mup M 0 0 (x_leaveOut M f a b w)) 22 (loJ (loK M f (M 19 f) a b w i) f (M 2 (60 * M 19 f + i)) (aheadM M (M 19 f) i) a b w j))) (v := f) (s9 := M 2 (60 * M 19 f + i)) (f := j) (by omega) (by omega) (by omega)) cal_X6_isOutOf vi_X6_isOutOf rfl ml_Mo_178 rfl rfl (Nat.le_of_ble_eq_true rfl) ⟨by decide, by decide⟩ ⟨by omega, by omega⟩ dX6_leaveOut_170 (fun S hM => ?_)
                        refine j_iload C dX6_leaveOut_173 rfl ?_
                        refine j_icmp_eq (tgt := 212) C dX6_leaveOut_175 (by decide) (bN_rg _) (bN_rg _) (fun c175 => ?_) (fun c175 => ?_)
                        · refine j_iinc C dX6_leaveOut_212 rfl (by decide) ?_
                          refine j_iinc C dX6_leaveOut_215 rfl (by decide) ?_
                          refine j_goto (tgt := 129) C dX6_leaveOut_218 (by decide) ?_
                          first
                            | (have hc : loC (loJ (loK M f (M 19 f) a b w i) f (M 2 (60 * M 19 f + i)) (aheadM M (M 19 f) i) a b w j) f (M 2 (60 * M 19 f + i)) (aheadM M (M 19 f) i) a b w j = true := by
                                 unfold loC
                                 rw [ew] at c175
                                 rw [decide_eq_true ⟨by omega, by omega⟩, Bool.true_and]
                                 exact bne_iff_ne.mpr (fun h => c175 (by rw [h]))
                               have ihk := ihj (j + 1) S (by omega) (by omega) (fun h => by omega) (by
                                 rw [eJ true hc, if_pos rfl]
                                 rw [mset_mup, mset_set] at hM
                                 exact hM)
                               rw [eN, hc] at ihk
                               rw [show ∀ x y : Int, x + (y + bN true) = x + y + 1 from fun x y => by rw [← Int.add_assoc]; rfl, show ∀ x : Int, x + ((j + 1 : Nat) : Int) = x + j + 1 from fun x => by omega] at ihk
                               refine J.lvs (lv' := [(0, .ref o), (1, .int (iN (f))), (2, .int (iN (a))), (3, .int (iN (b))), (4, .int (iN (bN w))), (6, .int (iN (M 19 f))), (8, .int (iN (loM M f (M 19 f) a b w i + loN (loK M f (M 19 f) a b w i) f (M 2 (60 * M 19 f + i)) (aheadM M (M 19 f) i) a b w j + 1))), (9, .int (iN (aheadM M (M 19 f) i + j + 1))), (10, .int (iN (i))), (11, .int (iN (M 2 (60 * M 19 f + i)))), (12, .int (iN (((j + 1 : Nat) : Int))))]) ?_ ?_
                               · intro q hq; simp only [List.mem_cons, List.not_mem_nil, or_false] at hq; rcases hq with rfl | rfl | rfl | rfl | rfl | rfl | rfl | rfl | rfl | rfl | rfl <;> rfl
                               · refine ihk)
                            | (have hc : loC (loJ (loK M f (M 19 f) a b w i) f (M 2 (60 * M 19 f + i)) (aheadM M (M 19 f) i) a b w j) f (M 2 (60 * M 19 f + i)) (aheadM M (M 19 f) i) a b w j = false := by
                                 unfold loC
                                 first
                                 | (rw [decide_eq_false (by omega), Bool.false_and]; done)
                                 | (rw [ew] at c175
                                    rw [bN_inj] at c175
                                    rw [c175]
                                    simp)
                               have ihk := ihj (j + 1) S (by omega) (by omega) (fun h => by omega) (by
                                 rw [eJ false hc, if_neg (by decide)]
                                 exact hM)
                               rw [eN, hc] at ihk
                               rw [show ∀ x y : Int, x + (y + bN false) = x + y from fun x y => by rw [show bN false = 0 from rfl, Int.add_zero], show ∀ x : Int, x + ((j + 1 : Nat) : Int) = x + j + 1 from fun x => by omega] at ihk
                               refine J.lvs (lv' := [(0, .ref o), (1, .int (iN (f))), (2, .int (iN (a))), (3, .int (iN (b))), (4, .int (iN (bN w))), (6, .int (iN (M 19 f))), (8, .int (iN (loM M f (M 19 f) a b w i + loN (loK M f (M 19 f) a b w i) f (M 2 (60 * M 19 f + i)) (aheadM M (M 19 f) i) a b w j))), (9, .int (iN (aheadM M (M 19 f) i + j + 1))), (10, .int (iN (i))), (11, .int (iN (M 2 (60 * M 19 f + i)))), (12, .int (iN (((j + 1 : Nat) : Int))))]) ?_ ?_
                               · intro q hq; simp only [List.mem_cons, List.not_mem_nil, or_false] at hq; rcases hq with rfl | rfl | rfl | rfl | rfl | rfl | rfl | rfl | rfl | rfl | rfl <;> rfl
                               · refine ihk)
                        · refine j_aload_n C dX6_leaveOut_178 rfl ?_
                          refine j_mgeta C hM fl_Mo_62 (by decide) dX6_leaveOut_179 ?_
                          refine j_bipush C dX6_leaveOut_182 (by decide) ?_
                          refine j_bipush C dX6_leaveOut_184 (by decide) ?_
                          refine j_iload_n C dX6_leaveOut_186 rfl ?_
                          refine j_imul C dX6_leaveOut_187 ?_
                          refine j_iload C dX6_leaveOut_188 rfl ?_
                          refine j_iadd C dX6_leaveOut_190 ?_
                          refine j_imul C dX6_leaveOut_191 ?_
                          refine j_iload C dX6_leaveOut_192 rfl ?_
                          refine j_bipush C dX6_leaveOut_194 (by decide) ?_
                          refine j_idiv C (by omega) (by omega) dX6_leaveOut_196 ?_
                          refine j_iadd C dX6_leaveOut_197 ?_
                          refine j_dup2 C dX6_leaveOut_198 rfl rfl ?_
                          refine j_mald C hM (by decide) rfl (by simp only [mLen]; omega) dX6_leaveOut_199 ?_
                          refine j_iconst C dX6_leaveOut_200 ?_
                          refine j_iload C dX6_leaveOut_201 rfl ?_
                          refine j_bipush C dX6_leaveOut_203 (by decide) ?_
                          refine j_irem C (by omega) (by omega) dX6_leaveOut_205 ?_
                          refine j_ishl C dX6_leaveOut_206 ?_
                          refine j_ixor C dX6_leaveOut_207 ?_
                          refine j_mast C hM (by decide) rfl (by simp only [mLen]; omega) dX6_leaveOut_208 (fun S hM => ?_)
                          refine j_iinc C dX6_leaveOut_209 rfl (by decide) ?_
                          refine j_iinc C dX6_leaveOut_212 rfl (by decide) ?_
                          refine j_iinc C dX6_leaveOut_215 rfl (by decide) ?_
                          refine j_goto (tgt := 129) C dX6_leaveOut_218 (by decide) ?_
                          first
                            | (have hc : loC (loJ (loK M f (M 19 f) a b w i) f (M 2 (60 * M 19 f + i)) (aheadM M (M 19 f) i) a b w j) f (M 2 (60 * M 19 f + i)) (aheadM M (M 19 f) i) a b w j = true := by
                                 unfold loC
                                 rw [ew] at c175
                                 rw [decide_eq_true ⟨by omega, by omega⟩, Bool.true_and]
                                 exact bne_iff_ne.mpr (fun h => c175 (by rw [h]))
                               have ihk := ihj (j + 1) S (by omega) (by omega) (fun h => by omega) (by
                                 rw [eJ true hc, if_pos rfl]
                                 rw [mset_mup, mset_set] at hM
                                 exact hM)
                               rw [eN, hc] at ihk
                               rw [show ∀ x y : Int, x + (y + bN true) = x + y + 1 from fun x y => by rw [← Int.add_assoc]; rfl, show ∀ x : Int, x + ((j + 1 : Nat) : Int) = x + j + 1 from fun x => by omega] at ihk
                               refine J.lvs (lv' := [(0, .ref o), (1, .int (iN (f))), (2, .int (iN (a))), (3, .int (iN (b))), (4, .int (iN (bN w))), (6, .int (iN (M 19 f))), (8, .int (iN (loM M f (M 19 f) a b w i + loN (loK M f (M 19 f) a b w i) f (M 2 (60 * M 19 f + i)) (aheadM M (M 19 f) i) a b w j + 1))), (9, .int (iN (aheadM M (M 19 f) i + j + 1))), (10, .int (iN (i))), (11, .int (iN (M 2 (60 * M 19 f + i)))), (12, .int (iN (((j + 1 : Nat) : Int))))]) ?_ ?_
                               · intro q hq; simp only [List.mem_cons, List.not_mem_nil, or_false] at hq; rcases hq with rfl | rfl | rfl | rfl | rfl | rfl | rfl | rfl | rfl | rfl | rfl <;> rfl
                               · refine ihk)
                            | (have hc : loC (loJ (loK M f (M 19 f) a b w i) f (M 2 (60 * M 19 f + i)) (aheadM M (M 19 f) i) a b w j) f (M 2 (60 * M 19 f + i)) (aheadM M (M 19 f) i) a b w j = false := by
                                 unfold loC
                                 first
                                 | (rw [decide_eq_false (by omega), Bool.false_and]; done)
                                 | (rw [ew] at c175
                                    rw [bN_inj] at c175
                                    rw [c175]
                                    simp)
                               have ihk := ihj (j + 1) S (by omega) (by omega) (fun h => by omega) (by
                                 rw [eJ false hc, if_neg (by decide)]
                                 exact hM)
                               rw [eN, hc] at ihk
                               rw [show ∀ x y : Int, x + (y + bN false) = x + y from fun x y => by rw [show bN false = 0 from rfl, Int.add_zero], show ∀ x : Int, x + ((j + 1 : Nat) : Int) = x + j + 1 from fun x => by omega] at ihk
                               refine J.lvs (lv' := [(0, .ref o), (1, .int (iN (f))), (2, .int (iN (a))), (3, .int (iN (b))), (4, .int (iN (bN w))), (6, .int (iN (M 19 f))), (8, .int (iN (loM M f (M 19 f) a b w i + loN (loK M f (M 19 f) a b w i) f (M 2 (60 * M 19 f + i)) (aheadM M (M 19 f) i) a b w j))), (9, .int (iN (aheadM M (M 19 f) i + j + 1))), (10, .int (iN (i))), (11, .int (iN (M 2 (60 * M 19 f + i)))), (12, .int (iN (((j + 1 : Nat) : Int))))]) ?_ ?_
                               · intro q hq; simp only [List.mem_cons, List.not_mem_nil, or_false] at hq; rcases hq with rfl | rfl | rfl | rfl | rfl | rfl | rfl | rfl | rfl | rfl | rfl <;> rfl
                               · refine ihk)
            refine J.lvs (lv' := [(0, .ref o), (1, .int (iN (f))), (2, .int (iN (a))), (3, .int (iN (b))), (4, .int (iN (bN w))), (6, .int (iN (M 19 f))), (8, .int (iN (loM M f (M 19 f) a b w i))), (9, .int (iN (aheadM M (M 19 f) i))), (10, .int (iN (i))), (11, .int (iN (M 2 (60 * M 19 f + i)))), (12, .int (iN (((0 : Nat) : Int))))]) ?_ ?_
            · intro q hq; simp only [List.mem_cons, List.not_mem_nil, or_false] at hq; rcases hq with rfl | rfl | rfl | rfl | rfl | rfl | rfl | rfl | rfl | rfl | rfl <;> rfl
            · exact (by have q9 := key3 ((M 5 (M 2 (60 * M 19 f + i))).toNat + 1) 0 S (by omega) (by omega) (fun _ => rfl) hM; rw [show (loM M f (M 19 f) a b w i : Int) + loN (loK M f (M 19 f) a b w i) f (M 2 (60 * M 19 f + i)) (aheadM M (M 19 f) i) a b w 0 = loM M f (M 19 f) a b w i from Int.add_zero _, show (aheadM M (M 19 f) i : Int) + ((0 : Nat) : Int) = aheadM M (M 19 f) i from Int.add_zero _] at q9; exact q9)
      refine J.lvs (lv' := [(0, .ref o), (1, .int (iN (f))), (2, .int (iN (a))), (3, .int (iN (b))), (4, .int (iN (bN w))), (6, .int (iN (M 19 f))), (8, .int (iN (loM M f (M 19 f) a b w 0))), (9, .int (iN (aheadM M (M 19 f) 0))), (10, .int (iN (((0 : Nat) : Int))))]) ?_ ?_
      · intro q hq; simp only [List.mem_cons, List.not_mem_nil, or_false] at hq; rcases hq with rfl | rfl | rfl | rfl | rfl | rfl | rfl | rfl | rfl <;> rfl
      · exact key2 ((M 3 (M 19 f)).toNat + 1) 0 S (by omega) (by omega) (by rw [mset_id (M := (mup M 0 0 (x_leaveOut M f a b w))) (j := 22) (g := loK M f (M 19 f) a b w 0) (fun _ => rfl)]; exact hM)
    · try simp only [decide_eq_true_eq, decide_eq_false_iff_not] at c85
      try simp only [decide_eq_true_eq, decide_eq_false_iff_not] at c85
      refine j_iconst C dX6_leaveOut_88 ?_
      refine j_iret C ME ?_ (by omega) (by omega) dX6_leaveOut_89
      refine ⟨rI ?_, ?_⟩
      · first
        | (rw [if_neg c85]; done)
        | (rw [if_pos c85]; unfold v_leaveOut; rfl)
      · unfold n_leaveOut
        first
        | (rw [if_neg c85]; exact hM)
        | (rw [if_pos c85]; exact hM)
  refine j_aload_n C dX6_leaveOut_0 rfl ?_
  refine j_iload_n C dX6_leaveOut_1 rfl ?_
  refine j_mcall C hM (c_isVersion l hfl (by unfold rg at *; omega) (by omega)) cal_X6_isVersion vi_X6_isVersion rfl ml_Mo_175 rfl rfl (Nat.le_of_ble_eq_true rfl) ⟨by decide, by decide⟩ ⟨by omega, by omega⟩ dX6_leaveOut_2 (fun S hM => ?_)
  refine j_istore C dX6_leaveOut_5 (by decide) ?_
  refine j_iload C dX6_leaveOut_7 rfl ?_
  refine j_ifeq_b (tgt := 21) C dX6_leaveOut_9 (by decide) (fun c9 => ?_) (fun c9 => ?_)
  · try simp only [decide_eq_true_eq, decide_eq_false_iff_not] at c9
    refine j_iconst C dX6_leaveOut_21 ?_
    refine j_istore C dX6_leaveOut_22 (by decide) ?_
    refine j_iload C dX6_leaveOut_24 rfl ?_
    refine j_ifeq_b (tgt := 59) C dX6_leaveOut_26 (by decide) (fun c26 => ?_) (fun c26 => ?_)
    · try simp only [decide_eq_true_eq, decide_eq_false_iff_not] at c26
      refine j_iconst C dX6_leaveOut_59 ?_
      refine j_istore C dX6_leaveOut_60 (by decide) ?_
      refine j_aload_n C dX6_leaveOut_62 rfl ?_
      refine j_iload C dX6_leaveOut_63 rfl ?_
      refine j_ifne_b (tgt := 72) C dX6_leaveOut_65 (by decide) (fun c65 => ?_) (fun c65 => ?_)
      · exfalso
        try simp only [decide_eq_true_eq, decide_eq_false_iff_not] at c65
        first
        | exact c9 c65
        | exact c65 c9
        | (rw [c9] at c65; exact absurd c65 (by decide))
      · try simp only [decide_eq_true_eq, decide_eq_false_iff_not] at c65
        refine j_iconst C dX6_leaveOut_68 ?_
        refine j_goto (tgt := 82) C dX6_leaveOut_69 (by decide) ?_
        first
          | (refine J.lvs (lv' := [(0, .ref o), (1, .int (iN (f))), (2, .int (iN (a))), (3, .int (iN (b))), (4, .int (iN (bN w))), (6, .int (iN (0)))]) ?_ ?_
             · intro q hq; simp only [List.mem_cons, List.not_mem_nil, or_false] at hq; rcases hq with rfl | rfl | rfl | rfl | rfl | rfl <;> rfl
             · refine key _ _ _ (by clear I i1 i2 i3 i3e i4 i4e i5 i6 i7 i8 i10 i11; (try clear key); (try clear key2); (try clear ih); (try clear w5); (try clear w11); (try clear w2); (try clear w3); (try clear w4); (try clear w6); (try clear w7); (try clear w8); (try clear w9); (try clear p4); (try clear o4); (try simp only [decide_eq_true_eq, decide_eq_false_iff_not] at *); unfold x_leaveOut; (repeat' split) <;> first | rfl | omega | (simp_all; done) | (simp_all; omega)) (by intros; first | rfl | omega) hM)
          | (refine J.lvs (lv' := [(0, .ref o), (1, .int (iN (f))), (2, .int (iN (a))), (3, .int (iN (b))), (4, .int (iN (bN w))), (6, .int (iN (M 19 f)))]) ?_ ?_
             · intro q hq; simp only [List.mem_cons, List.not_mem_nil, or_false] at hq; rcases hq with rfl | rfl | rfl | rfl | rfl | rfl <;> rfl
             · refine key _ _ _ (by clear I i1 i2 i3 i3e i4 i4e i5 i6 i7 i8 i10 i11; (try clear key); (try clear key2); (try clear ih); (try clear w5); (try clear w11); (try clear w2); (try clear w3); (try clear w4); (try clear w6); (try clear w7); (try clear w8); (try clear w9); (try clear p4); (try clear o4); (try simp only [decide_eq_true_eq, decide_eq_false_iff_not] at *); unfold x_leaveOut; (repeat' split) <;> first | rfl | omega | (simp_all; done) | (simp_all; omega)) (by intros; first | rfl | omega) hM)
    · exfalso
      try simp only [decide_eq_true_eq, decide_eq_false_iff_not] at c26
      first
      | exact c9 c26
      | exact c26 c9
      | (rw [c9] at c26; exact absurd c26 (by decide))
  · try simp only [decide_eq_true_eq, decide_eq_false_iff_not] at c9
    have w60 := i6 f (by omega) (by omega)
    have w3 := i3 (M 19 f) (by omega) (by omega)
    have w9q := aheadM_rg (f := M 19 f) (n := (M 3 (M 19 f)).toNat) (by omega) i1 i2 i3 (by omega)
    refine j_aload_n C dX6_leaveOut_12 rfl ?_
    refine j_mgeta C hM fl_Mo_56 (by decide) dX6_leaveOut_13 ?_
    refine j_iload_n C dX6_leaveOut_16 rfl ?_
    refine j_mald C hM (by decide) rfl (by simp only [mLen]; omega) dX6_leaveOut_17 ?_
    refine j_goto (tgt := 22) C dX6_leaveOut_18 (by decide) ?_
    refine j_istore C dX6_leaveOut_22 (by decide) ?_
    refine j_iload C dX6_leaveOut_24 rfl ?_
    refine j_ifeq_b (tgt := 59) C dX6_leaveOut_26 (by decide) (fun c26 => ?_) (fun c26 => ?_)
    · exfalso
      try simp only [decide_eq_true_eq, decide_eq_false_iff_not] at c26
      first
      | exact c9 c26
      | exact c26 c9
      | (rw [c9] at c26; exact absurd c26 (by decide))
    · try simp only [decide_eq_true_eq, decide_eq_false_iff_not] at c26
      refine j_iload_n C dX6_leaveOut_29 rfl ?_
      refine j_if_lt (tgt := 59) C dX6_leaveOut_30 (by decide) (by unfold rg at *; omega) (fun c30 => ?_) (fun c30 => ?_)
      · refine j_iconst C dX6_leaveOut_59 ?_
        refine j_istore C dX6_leaveOut_60 (by decide) ?_
        refine j_aload_n C dX6_leaveOut_62 rfl ?_
        refine j_iload C dX6_leaveOut_63 rfl ?_
        refine j_ifne_b (tgt := 72) C dX6_leaveOut_65 (by decide) (fun c65 => ?_) (fun c65 => ?_)
        · try simp only [decide_eq_true_eq, decide_eq_false_iff_not] at c65
          refine j_iload C dX6_leaveOut_72 rfl ?_
          refine j_if_ne (tgt := 81) C dX6_leaveOut_74 (by decide) (by unfold rg at *; omega) (fun c74 => ?_) (fun c74 => ?_)
          · exact absurd c74 (by decide)
          · refine j_iconst C dX6_leaveOut_77 ?_
            refine j_goto (tgt := 82) C dX6_leaveOut_78 (by decide) ?_
            first
              | (refine J.lvs (lv' := [(0, .ref o), (1, .int (iN (f))), (2, .int (iN (a))), (3, .int (iN (b))), (4, .int (iN (bN w))), (6, .int (iN (0)))]) ?_ ?_
                 · intro q hq; simp only [List.mem_cons, List.not_mem_nil, or_false] at hq; rcases hq with rfl | rfl | rfl | rfl | rfl | rfl <;> rfl
                 · refine key _ _ _ (by clear I i1 i2 i3 i3e i4 i4e i5 i6 i7 i8 i10 i11; (try clear key); (try clear key2); (try clear ih); (try clear w5); (try clear w11); (try clear w2); (try clear w3); (try clear w4); (try clear w6); (try clear w7); (try clear w8); (try clear w9); (try clear p4); (try clear o4); (try simp only [decide_eq_true_eq, decide_eq_false_iff_not] at *); unfold x_leaveOut; (repeat' split) <;> first | rfl | omega | (simp_all; done) | (simp_all; omega)) (by intros; first | rfl | omega) hM)
              | (refine J.lvs (lv' := [(0, .ref o), (1, .int (iN (f))), (2, .int (iN (a))), (3, .int (iN (b))), (4, .int (iN (bN w))), (6, .int (iN (M 19 f)))]) ?_ ?_
                 · intro q hq; simp only [List.mem_cons, List.not_mem_nil, or_false] at hq; rcases hq with rfl | rfl | rfl | rfl | rfl | rfl <;> rfl
                 · refine key _ _ _ (by clear I i1 i2 i3 i3e i4 i4e i5 i6 i7 i8 i10 i11; (try clear key); (try clear key2); (try clear ih); (try clear w5); (try clear w11); (try clear w2); (try clear w3); (try clear w4); (try clear w6); (try clear w7); (try clear w8); (try clear w9); (try clear p4); (try clear o4); (try simp only [decide_eq_true_eq, decide_eq_false_iff_not] at *); unfold x_leaveOut; (repeat' split) <;> first | rfl | omega | (simp_all; done) | (simp_all; omega)) (by intros; first | rfl | omega) hM)
        · exfalso
          try simp only [decide_eq_true_eq, decide_eq_false_iff_not] at c65
          first
          | exact c9 c65
          | exact c65 c9
          | (rw [c9] at c65; exact absurd c65 (by decide))
      · refine j_iload_n C dX6_leaveOut_33 rfl ?_
        refine j_iload_n C dX6_leaveOut_34 rfl ?_
        refine j_icmp_le (tgt := 59) C dX6_leaveOut_35 (by decide) (by unfold rg at *; omega) (by unfold rg at *; omega) (fun c35 => ?_) (fun c35 => ?_)
        · refine j_iconst C dX6_leaveOut_59 ?_
          refine j_istore C dX6_leaveOut_60 (by decide) ?_
          refine j_aload_n C dX6_leaveOut_62 rfl ?_
          refine j_iload C dX6_leaveOut_63 rfl ?_
          refine j_ifne_b (tgt := 72) C dX6_leaveOut_65 (by decide) (fun c65 => ?_) (fun c65 => ?_)
          · try simp only [decide_eq_true_eq, decide_eq_false_iff_not] at c65
            refine j_iload C dX6_leaveOut_72 rfl ?_
            refine j_if_ne (tgt := 81) C dX6_leaveOut_74 (by decide) (by unfold rg at *; omega) (fun c74 => ?_) (fun c74 => ?_)
            · exact absurd c74 (by decide)
            · refine j_iconst C dX6_leaveOut_77 ?_
              refine j_goto (tgt := 82) C dX6_leaveOut_78 (by decide) ?_
              first
                | (refine J.lvs (lv' := [(0, .ref o), (1, .int (iN (f))), (2, .int (iN (a))), (3, .int (iN (b))), (4, .int (iN (bN w))), (6, .int (iN (0)))]) ?_ ?_
                   · intro q hq; simp only [List.mem_cons, List.not_mem_nil, or_false] at hq; rcases hq with rfl | rfl | rfl | rfl | rfl | rfl <;> rfl
                   · refine key _ _ _ (by clear I i1 i2 i3 i3e i4 i4e i5 i6 i7 i8 i10 i11; (try clear key); (try clear key2); (try clear ih); (try clear w5); (try clear w11); (try clear w2); (try clear w3); (try clear w4); (try clear w6); (try clear w7); (try clear w8); (try clear w9); (try clear p4); (try clear o4); (try simp only [decide_eq_true_eq, decide_eq_false_iff_not] at *); unfold x_leaveOut; (repeat' split) <;> first | rfl | omega | (simp_all; done) | (simp_all; omega)) (by intros; first | rfl | omega) hM)
                | (refine J.lvs (lv' := [(0, .ref o), (1, .int (iN (f))), (2, .int (iN (a))), (3, .int (iN (b))), (4, .int (iN (bN w))), (6, .int (iN (M 19 f)))]) ?_ ?_
                   · intro q hq; simp only [List.mem_cons, List.not_mem_nil, or_false] at hq; rcases hq with rfl | rfl | rfl | rfl | rfl | rfl <;> rfl
                   · refine key _ _ _ (by clear I i1 i2 i3 i3e i4 i4e i5 i6 i7 i8 i10 i11; (try clear key); (try clear key2); (try clear ih); (try clear w5); (try clear w11); (try clear w2); (try clear w3); (try clear w4); (try clear w6); (try clear w7); (try clear w8); (try clear w9); (try clear p4); (try clear o4); (try simp only [decide_eq_true_eq, decide_eq_false_iff_not] at *); unfold x_leaveOut; (repeat' split) <;> first | rfl | omega | (simp_all; done) | (simp_all; omega)) (by intros; first | rfl | omega) hM)
          · exfalso
            try simp only [decide_eq_true_eq, decide_eq_false_iff_not] at c65
            first
            | exact c9 c65
            | exact c65 c9
            | (rw [c9] at c65; exact absurd c65 (by decide))
        · refine j_iload_n C dX6_leaveOut_38 rfl ?_
          refine j_aload_n C dX6_leaveOut_39 rfl ?_
          refine j_iload C dX6_leaveOut_40 rfl ?_
          refine j_aload_n C dX6_leaveOut_42 rfl ?_
          refine j_mgeta C hM fl_Mo_13 (by decide) dX6_leaveOut_43 ?_
          refine j_iload C dX6_leaveOut_46 rfl ?_
          refine j_mald C hM (by decide) rfl (by simp only [mLen]; omega) dX6_leaveOut_48 ?_
          refine j_mcall C hM (c_framesAhead l hfl (f := M 19 f) (z := M 3 (M 19 f)) (by omega) (by omega) i1 i2 i3) cal_X6_framesAhead vi_X6_framesAhead rfl ml_Mo_138 rfl rfl (Nat.le_of_ble_eq_true rfl) ⟨by decide, by decide⟩ ⟨by omega, by omega⟩ dX6_leaveOut_49 (fun S hM => ?_)
          refine j_icmp_gt (tgt := 59) C dX6_leaveOut_52 (by decide) (by unfold rg at *; omega) (by unfold rg at *; omega) (fun c52 => ?_) (fun c52 => ?_)
          · refine j_iconst C dX6_leaveOut_59 ?_
            refine j_istore C dX6_leaveOut_60 (by decide) ?_
            refine j_aload_n C dX6_leaveOut_62 rfl ?_
            refine j_iload C dX6_leaveOut_63 rfl ?_
            refine j_ifne_b (tgt := 72) C dX6_leaveOut_65 (by decide) (fun c65 => ?_) (fun c65 => ?_)
            · try simp only [decide_eq_true_eq, decide_eq_false_iff_not] at c65
              refine j_iload C dX6_leaveOut_72 rfl ?_
              refine j_if_ne (tgt := 81) C dX6_leaveOut_74 (by decide) (by unfold rg at *; omega) (fun c74 => ?_) (fun c74 => ?_)
              · exact absurd c74 (by decide)
              · refine j_iconst C dX6_leaveOut_77 ?_
                refine j_goto (tgt := 82) C dX6_leaveOut_78 (by decide) ?_
                first
                  | (refine J.lvs (lv' := [(0, .ref o), (1, .int (iN (f))), (2, .int (iN (a))), (3, .int (iN (b))), (4, .int (iN (bN w))), (6, .int (iN (0)))]) ?_ ?_
                     · intro q hq; simp only [List.mem_cons, List.not_mem_nil, or_false] at hq; rcases hq with rfl | rfl | rfl | rfl | rfl | rfl <;> rfl
                     · refine key _ _ _ (by clear I i1 i2 i3 i3e i4 i4e i5 i6 i7 i8 i10 i11; (try clear key); (try clear key2); (try clear ih); (try clear w5); (try clear w11); (try clear w2); (try clear w3); (try clear w4); (try clear w6); (try clear w7); (try clear w8); (try clear w9); (try clear p4); (try clear o4); (try simp only [decide_eq_true_eq, decide_eq_false_iff_not] at *); unfold x_leaveOut; (repeat' split) <;> first | rfl | omega | (simp_all; done) | (simp_all; omega)) (by intros; first | rfl | omega) hM)
                  | (refine J.lvs (lv' := [(0, .ref o), (1, .int (iN (f))), (2, .int (iN (a))), (3, .int (iN (b))), (4, .int (iN (bN w))), (6, .int (iN (M 19 f)))]) ?_ ?_
                     · intro q hq; simp only [List.mem_cons, List.not_mem_nil, or_false] at hq; rcases hq with rfl | rfl | rfl | rfl | rfl | rfl <;> rfl
                     · refine key _ _ _ (by clear I i1 i2 i3 i3e i4 i4e i5 i6 i7 i8 i10 i11; (try clear key); (try clear key2); (try clear ih); (try clear w5); (try clear w11); (try clear w2); (try clear w3); (try clear w4); (try clear w6); (try clear w7); (try clear w8); (try clear w9); (try clear p4); (try clear o4); (try simp only [decide_eq_true_eq, decide_eq_false_iff_not] at *); unfold x_leaveOut; (repeat' split) <;> first | rfl | omega | (simp_all; done) | (simp_all; omega)) (by intros; first | rfl | omega) hM)
            · exfalso
              try simp only [decide_eq_true_eq, decide_eq_false_iff_not] at c65
              first
              | exact c9 c65
              | exact c65 c9
              | (rw [c9] at c65; exact absurd c65 (by decide))
          · refine j_iconst C dX6_leaveOut_55 ?_
            refine j_goto (tgt := 60) C dX6_leaveOut_56 (by decide) ?_
            refine j_istore C dX6_leaveOut_60 (by decide) ?_
            refine j_aload_n C dX6_leaveOut_62 rfl ?_
            refine j_iload C dX6_leaveOut_63 rfl ?_
            refine j_ifne_b (tgt := 72) C dX6_leaveOut_65 (by decide) (fun c65 => ?_) (fun c65 => ?_)
            · try simp only [decide_eq_true_eq, decide_eq_false_iff_not] at c65
              refine j_iload C dX6_leaveOut_72 rfl ?_
              refine j_if_ne (tgt := 81) C dX6_leaveOut_74 (by decide) (by unfold rg at *; omega) (fun c74 => ?_) (fun c74 => ?_)
              · refine j_iconst C dX6_leaveOut_81 ?_
                first
                  | (refine J.lvs (lv' := [(0, .ref o), (1, .int (iN (f))), (2, .int (iN (a))), (3, .int (iN (b))), (4, .int (iN (bN w))), (6, .int (iN (0)))]) ?_ ?_
                     · intro q hq; simp only [List.mem_cons, List.not_mem_nil, or_false] at hq; rcases hq with rfl | rfl | rfl | rfl | rfl | rfl <;> rfl
                     · refine key _ _ _ (by clear I i1 i2 i3 i3e i4 i4e i5 i6 i7 i8 i10 i11; (try clear key); (try clear key2); (try clear ih); (try clear w5); (try clear w11); (try clear w2); (try clear w3); (try clear w4); (try clear w6); (try clear w7); (try clear w8); (try clear w9); (try clear p4); (try clear o4); (try simp only [decide_eq_true_eq, decide_eq_false_iff_not] at *); unfold x_leaveOut; (repeat' split) <;> first | rfl | omega | (simp_all; done) | (simp_all; omega)) (by intros; first | rfl | omega) hM)
                  | (refine J.lvs (lv' := [(0, .ref o), (1, .int (iN (f))), (2, .int (iN (a))), (3, .int (iN (b))), (4, .int (iN (bN w))), (6, .int (iN (M 19 f)))]) ?_ ?_
                     · intro q hq; simp only [List.mem_cons, List.not_mem_nil, or_false] at hq; rcases hq with rfl | rfl | rfl | rfl | rfl | rfl <;> rfl
                     · refine key _ _ _ (by clear I i1 i2 i3 i3e i4 i4e i5 i6 i7 i8 i10 i11; (try clear key); (try clear key2); (try clear ih); (try clear w5); (try clear w11); (try clear w2); (try clear w3); (try clear w4); (try clear w6); (try clear w7); (try clear w8); (try clear w9); (try clear p4); (try clear o4); (try simp only [decide_eq_true_eq, decide_eq_false_iff_not] at *); unfold x_leaveOut; (repeat' split) <;> first | rfl | omega | (simp_all; done) | (simp_all; omega)) (by intros; first | rfl | omega) hM)
              · exact absurd c74 (by decide)
            · exfalso
              try simp only [decide_eq_true_eq, decide_eq_false_iff_not] at c65
              first
              | exact c9 c65
              | exact c65 c9
              | (rw [c9] at c65; exact absurd c65 (by decide))

