/-! THE REFERENCE: the rest of its private methods. -/
/-- one row of numbers changed -/
def mset (M : wM) (j : Nat) (g : Int → Int) : wM := fun j' i => if j' = j then g i else M j' i
theorem mset_mup {M : wM} {j : Nat} {i z : Int} : mup M j i z = mset M j (fun i' => if i' = i then z else M j i') := by
  funext j' i'
  unfold mup mset
  by_cases h : j' = j
  · subst h; simp
  · simp [h]
theorem mset_set {M : wM} {j : Nat} {g h : Int → Int} : mset (mset M j g) j h = mset M j h := by
  funext j' i'
  unfold mset
  by_cases h : j' = j <;> simp [h]
theorem mset_cong {M : wM} {j : Nat} {g h : Int → Int} (e : ∀ i, g i = h i) : mset M j g = mset M j h := by rw [show g = h from funext e]
theorem mup_id {M : wM} {j : Nat} {i : Int} : mup M j i (M j i) = M := by
  funext j' i'
  unfold mup
  split
  · rename_i h; rw [h.1, h.2]
  · rfl
def swS (M : wM) (f fr : Int) : Nat → Int × Int
  | 0 => (-1, fr)
  | k + 1 => if M 7 (M 2 (60 * f + k)) = -1 then swS M f fr k else (if 0 ≤ (swS M f fr k).2 ∧ (swS M f fr k).2 < M 5 (M 2 (60 * f + k)) then M 2 (60 * f + k) else (swS M f fr k).1, (swS M f fr k).2 - M 5 (M 2 (60 * f + k)))
def swM (M : wM) (f fr : Int) : Int := if fr < 0 then -1 else (swS M f fr (M 3 f).toNat).1
def bearP (M : wM) (r w : Int) : Bool := decide (M 16 r < 2 ∨ greatM M r + w ≤ M 18 0)
def wearK (M : wM) (r w : Int) (k : Int) : wM := mset M 15 (fun i => if 60 * r ≤ i ∧ i < 60 * r + k then M 15 i + w else M 15 i)
def wearM (M : wM) (r w : Int) : wM := mup (wearK M r w (M 16 r - 1)) 30 0 (M 30 0 + onM M r)
def splP (M : wM) (r i : Int) : Bool := decide ((0 ≤ r ∧ r < M 17 0) ∧ 0 ≤ i ∧ i ≤ M 16 r - 2)
def wornP (M : wM) (r i : Int) : Bool := decide ((0 ≤ i ∧ i ≤ M 16 r - 2) ∧ M 18 0 ≤ 2 * M 15 (60 * r + i))
def gradeM (M : wM) (s : Int) : Int := if M 10 s = -1 then (if M 11 s = -1 then -1 else M 10 (M 11 s)) else M 10 s
def outP (M : wM) (v s f : Int) : Bool := decide (andI (shrI (M 22 (32 * (60 * v + s) + f / 32)) (f % 32)) 1 = 1)
def addsM (M : wM) (r s w : Int) : wM := mup (mup (mup (mup M 15 (60 * r + M 16 r - 1) (if M 16 r ≤ 0 then M 15 (60 * r + M 16 r - 1) else w)) 14 (60 * r + M 16 r) s) 16 r (M 16 r + 1)) 7 s r
def shK (M : wM) (f k : Int) : wM := mset M 2 (fun i => if 60 * f + k < i ∧ i ≤ 60 * f + M 3 f then M 2 (i - 1) else M 2 i)
def makesM (M : wM) (f pl len sc : Int) : wM :=
  mup (mup (mup (mup (mup (mup (mup (mup (mup (shK M f pl) 2 (60 * f + pl) (M 12 0)) 3 f (M 3 f + 1)) 4 (M 12 0) f) 5 (M 12 0) len) 6 (M 12 0) sc) 7 (M 12 0) (-1)) 10 (M 12 0) (-1)) 11 (M 12 0) (-1)) 12 0 (M 12 0 + 1)
set_option maxHeartbeats 4000000 in
set_option maxRecDepth 100000 in
theorem c_framesAhead (l : Launch) (hfl : l.stackTraces = false) {M : wM} {f z : Int} (hf : 0 ≤ f ∧ f < 6) (hz : 0 ≤ z ∧ z ≤ M 3 f) (i1 : I1 M) (i2 : I2 M) (i3 : I3 M) : MC l yX6_framesAhead cX6_framesAhead 6 (some FieldType.int) 1 [.int (iN f), .int (iN z)] M (.inl (some (.int (iN (aheadM M f z.toNat))))) (M) := by
  intro S0 o B hM0
  refine Ct.of cal_X6_framesAhead hfl (Nat.le_of_ble_eq_true rfl) ?_
  intro p e s m args below meth c D sz C ME
  have hM : RMF S0 S0 o B M := ⟨hM0, mF.rf⟩
  obtain ⟨a1, a2, a3, a4, a5, a6, a7⟩ := id i1
  have w3 := i3 f (by omega) (by omega)
  refine j_iconst C dX6_framesAhead_0 ?_
  refine j_istore_n C dX6_framesAhead_1 (by decide) ?_
  refine j_iconst C dX6_framesAhead_2 ?_
  refine j_istore C dX6_framesAhead_3 (by decide) ?_
  have key : ∀ (fuel : Nat) (i : Nat), z - i < fuel → (i : Int) ≤ z → J p l e { frames := 20 * 1, cells := 0, slots := 0, locals := 200 * 1 } s m args below meth c 6 D (wA S0 sz) (wQ below D sz S0 (fun r9 S9 => r9 = .inl (some (.int (iN (aheadM M f z.toNat)))) ∧ RMF S0 S9 o B (M)) args s 0 0) 5 [(0, .ref o), (1, .int (iN (f))), (2, .int (iN (z))), (3, .int (iN (aheadM M f i))), (4, .int (iN (i)))] [] S0 0 0 := by
    intro fuel
    induction fuel with
    | zero => intro i h1 h2; omega
    | succ fuel ih =>
      intro i h1 h2
      refine j_iload C dX6_framesAhead_5 rfl ?_
      refine j_iload_n C dX6_framesAhead_7 rfl ?_
      refine j_icmp_ge (tgt := 56) C dX6_framesAhead_8 (by decide) (by unfold rg at *; omega) (by unfold rg at *; omega) (fun c8 => ?_) (fun c8 => ?_)
      · refine j_iload_n C dX6_framesAhead_56 rfl ?_
        refine j_iret C ME ?_ (by omega) (by omega) dX6_framesAhead_57
        exact ⟨rI (by rw [show z.toNat = i by omega]), hM⟩
      · have w4 := w3.2.2.2 i (by omega) (by omega)
        have w2 := i2 (M 2 (60 * f + i)) (by omega) (by omega)
        refine j_aload_n C dX6_framesAhead_11 rfl ?_
        refine j_mgeta C hM fl_Mo_7 (by decide) dX6_framesAhead_12 ?_
        refine j_bipush C dX6_framesAhead_15 (by decide) ?_
        refine j_iload_n C dX6_framesAhead_17 rfl ?_
        refine j_imul C dX6_framesAhead_18 ?_
        refine j_iload C dX6_framesAhead_19 rfl ?_
        refine j_iadd C dX6_framesAhead_21 ?_
        refine j_mald C hM (by decide) rfl (by simp only [mLen]; omega) dX6_framesAhead_22 ?_
        refine j_istore C dX6_framesAhead_23 (by decide) ?_
        refine j_iload_n C dX6_framesAhead_25 rfl ?_
        refine j_aload_n C dX6_framesAhead_26 rfl ?_
        refine j_mgeta C hM fl_Mo_25 (by decide) dX6_framesAhead_27 ?_
        refine j_iload C dX6_framesAhead_30 rfl ?_
        refine j_mald C hM (by decide) rfl (by simp only [mLen]; omega) dX6_framesAhead_32 ?_
        refine j_iconst C dX6_framesAhead_33 ?_
        refine j_icmp_ne (tgt := 41) C dX6_framesAhead_34 (by decide) (by unfold rg at *; omega) (by unfold rg at *; omega) (fun c34 => ?_) (fun c34 => ?_)
        · refine j_aload_n C dX6_framesAhead_41 rfl ?_
          refine j_mgeta C hM fl_Mo_19 (by decide) dX6_framesAhead_42 ?_
          refine j_iload C dX6_framesAhead_45 rfl ?_
          refine j_mald C hM (by decide) rfl (by simp only [mLen]; omega) dX6_framesAhead_47 ?_
          refine j_iadd C dX6_framesAhead_48 ?_
          refine j_istore_n C dX6_framesAhead_49 (by decide) ?_
          refine j_iinc C dX6_framesAhead_50 rfl (by decide) ?_
          refine j_goto (tgt := 5) C dX6_framesAhead_53 (by decide) ?_
          have ihk := ih (i + 1) (by omega) (by omega)
          have e : aheadM M f (i + 1) = aheadM M f i + keptM M (M 2 (60 * f + i)) := rfl
          rw [e] at ihk
          first
            | (rw [show keptM M (M 2 (60 * f + i)) = 0 from if_pos (by assumption)] at ihk
               refine J.lvs (lv' := [(0, .ref o), (1, .int (iN (f))), (2, .int (iN (z))), (3, .int (iN (aheadM M f i + 0))), (4, .int (iN (((i + 1 : Nat) : Int))))]) ?_ ?_
               · intro q hq; simp only [List.mem_cons, List.not_mem_nil, or_false] at hq; rcases hq with rfl | rfl | rfl | rfl | rfl <;> rfl
               · refine ihk)
            | (rw [show keptM M (M 2 (60 * f + i)) = M 5 (M 2 (60 * f + i)) from if_neg (by assumption)] at ihk
               refine J.lvs (lv' := [(0, .ref o), (1, .int (iN (f))), (2, .int (iN (z))), (3, .int (iN (aheadM M f i + M 5 (M 2 (60 * f + i))))), (4, .int (iN (((i + 1 : Nat) : Int))))]) ?_ ?_
               · intro q hq; simp only [List.mem_cons, List.not_mem_nil, or_false] at hq; rcases hq with rfl | rfl | rfl | rfl | rfl <;> rfl
               · refine ihk)
        · refine j_iconst C dX6_framesAhead_37 ?_
          refine j_goto (tgt := 48) C dX6_framesAhead_38 (by decide) ?_
          refine j_iadd C dX6_framesAhead_48 ?_
          refine j_istore_n C dX6_framesAhead_49 (by decide) ?_
          refine j_iinc C dX6_framesAhead_50 rfl (by decide) ?_
          refine j_goto (tgt := 5) C dX6_framesAhead_53 (by decide) ?_
          have ihk := ih (i + 1) (by omega) (by omega)
          have e : aheadM M f (i + 1) = aheadM M f i + keptM M (M 2 (60 * f + i)) := rfl
          rw [e] at ihk
          first
            | (rw [show keptM M (M 2 (60 * f + i)) = 0 from if_pos (by assumption)] at ihk
               refine J.lvs (lv' := [(0, .ref o), (1, .int (iN (f))), (2, .int (iN (z))), (3, .int (iN (aheadM M f i + 0))), (4, .int (iN (((i + 1 : Nat) : Int))))]) ?_ ?_
               · intro q hq; simp only [List.mem_cons, List.not_mem_nil, or_false] at hq; rcases hq with rfl | rfl | rfl | rfl | rfl <;> rfl
               · refine ihk)
            | (rw [show keptM M (M 2 (60 * f + i)) = M 5 (M 2 (60 * f + i)) from if_neg (by assumption)] at ihk
               refine J.lvs (lv' := [(0, .ref o), (1, .int (iN (f))), (2, .int (iN (z))), (3, .int (iN (aheadM M f i + M 5 (M 2 (60 * f + i))))), (4, .int (iN (((i + 1 : Nat) : Int))))]) ?_ ?_
               · intro q hq; simp only [List.mem_cons, List.not_mem_nil, or_false] at hq; rcases hq with rfl | rfl | rfl | rfl | rfl <;> rfl
               · refine ihk)
  refine J.lvs (lv' := [(0, .ref o), (1, .int (iN (f))), (2, .int (iN (z))), (3, .int (iN ((aheadM M f 0)))), (4, .int (iN (((0 : Nat) : Int))))]) ?_ ?_
  · intro q hq; simp only [List.mem_cons, List.not_mem_nil, or_false] at hq; rcases hq with rfl | rfl | rfl | rfl | rfl <;> rfl
  · exact key (z.toNat + 1) 0 (by omega) (by omega)

theorem swS_0 {M : wM} {f fr : Int} {k : Nat} (h : M 7 (M 2 (60 * f + k)) = -1) : swS M f fr (k + 1) = swS M f fr k := by rw [swS, if_pos h]
theorem swS_1 {M : wM} {f fr : Int} {k : Nat} (h : ¬ M 7 (M 2 (60 * f + k)) = -1) (h2 : 0 ≤ (swS M f fr k).2 ∧ (swS M f fr k).2 < M 5 (M 2 (60 * f + k))) : swS M f fr (k + 1) = (M 2 (60 * f + k), (swS M f fr k).2 - M 5 (M 2 (60 * f + k))) := by rw [swS, if_neg h, if_pos h2]
theorem swS_2 {M : wM} {f fr : Int} {k : Nat} (h : ¬ M 7 (M 2 (60 * f + k)) = -1) (h2 : ¬ (0 ≤ (swS M f fr k).2 ∧ (swS M f fr k).2 < M 5 (M 2 (60 * f + k)))) : swS M f fr (k + 1) = ((swS M f fr k).1, (swS M f fr k).2 - M 5 (M 2 (60 * f + k))) := by rw [swS, if_neg h, if_neg h2]
theorem swS_rg {M : wM} {f fr : Int} (hM : ∀ k : Nat, (k : Int) < M 3 f → 1 ≤ M 5 (M 2 (60 * f + k)) ∧ M 5 (M 2 (60 * f + k)) ≤ 999) : ∀ k : Nat, (k : Int) ≤ M 3 f → (swS M f fr k).2 ≤ fr ∧ fr - 999 * k ≤ (swS M f fr k).2
  | 0, _ => by simp [swS]
  | k + 1, h => by
    have h1 := swS_rg (fr := fr) hM k (by omega)
    have h2 := hM k (by omega)
    rw [swS]
    split
    · omega
    · simp only; omega
set_option maxHeartbeats 4000000 in
set_option maxRecDepth 100000 in
theorem c_shotWith (l : Launch) (hfl : l.stackTraces = false) {M : wM} {f z : Int} (hf : 0 ≤ f ∧ f < 6) (hz : rg z) (i1 : I1 M) (i2 : I2 M) (i3 : I3 M) : MC l yX6_shotWith cX6_shotWith 7 (some FieldType.int) 1 [.int (iN f), .int (iN z)] M (.inl (some (.int (iN (swM M f z))))) (M) := by
  intro S0 o B hM0
  refine Ct.of cal_X6_shotWith hfl (Nat.le_of_ble_eq_true rfl) ?_
  intro p e s m args below meth c D sz C ME
  have hM : RMF S0 S0 o B M := ⟨hM0, mF.rf⟩
  obtain ⟨a1, a2, a3, a4, a5, a6, a7⟩ := id i1
  have w3 := i3 f (by omega) (by omega)
  have w0 : ∀ k : Nat, (k : Int) < M 3 f → 1 ≤ M 5 (M 2 (60 * f + k)) ∧ M 5 (M 2 (60 * f + k)) ≤ 999 := by
    intro k hk
    have w4 := w3.2.2.2 k (by omega) (by omega)
    have w2 := i2 (M 2 (60 * f + k)) (by omega) (by omega)
    omega
  refine j_iload_n C dX6_shotWith_0 rfl ?_
  refine j_istore_n C dX6_shotWith_1 (by decide) ?_
  refine j_iconst C dX6_shotWith_2 ?_
  refine j_istore C dX6_shotWith_3 (by decide) ?_
  refine j_iconst C dX6_shotWith_5 ?_
  refine j_istore C dX6_shotWith_6 (by decide) ?_
  have key : ∀ (fuel : Nat) (i : Nat), M 3 f - i < fuel → (i : Int) ≤ M 3 f → (0 < i → 0 ≤ z) → J p l e { frames := 20 * 1, cells := 0, slots := 0, locals := 200 * 1 } s m args below meth c 7 D (wA S0 sz) (wQ below D sz S0 (fun r9 S9 => r9 = .inl (some (.int (iN (swM M f z)))) ∧ RMF S0 S9 o B (M)) args s 0 0) 8 [(0, .ref o), (1, .int (iN (f))), (2, .int (iN (z))), (3, .int (iN ((swS M f z i).2))), (4, .int (iN ((swS M f z i).1))), (5, .int (iN (i)))] [] S0 0 0 := by
    intro fuel
    induction fuel with
    | zero => intro i h1 h2 h3; omega
    | succ fuel ih =>
      intro i h1 h2 h3
      have w5 := swS_rg (fr := z) w0 i h2
      refine j_iload C dX6_shotWith_8 rfl ?_
      refine j_aload_n C dX6_shotWith_10 rfl ?_
      refine j_mgeta C hM fl_Mo_13 (by decide) dX6_shotWith_11 ?_
      refine j_iload_n C dX6_shotWith_14 rfl ?_
      refine j_mald C hM (by decide) rfl (by simp only [mLen]; omega) dX6_shotWith_15 ?_
      refine j_icmp_ge (tgt := 88) C dX6_shotWith_16 (by decide) (by unfold rg at *; omega) (by unfold rg at *; omega) (fun c16 => ?_) (fun c16 => ?_)
      · refine j_iload C dX6_shotWith_88 rfl ?_
        refine j_iret C ME ?_ (by omega) (by omega) dX6_shotWith_90
        refine ⟨rI ?_, hM⟩
        unfold swM
        by_cases q : z < 0
        · rw [if_pos q, show i = 0 by omega]; rfl
        · rw [if_neg q, show (M 3 f).toNat = i by omega]
      · refine j_iload_n C dX6_shotWith_19 rfl ?_
        refine j_if_lt (tgt := 88) C dX6_shotWith_20 (by decide) (by unfold rg at *; omega) (fun c20 => ?_) (fun c20 => ?_)
        · refine j_iload C dX6_shotWith_88 rfl ?_
          refine j_iret C ME ?_ (by omega) (by omega) dX6_shotWith_90
          refine ⟨rI ?_, hM⟩
          unfold swM
          by_cases q : z < 0
          · rw [if_pos q, show i = 0 by omega]; rfl
          · rw [if_neg q, show (M 3 f).toNat = i by omega]
        · have w4 := w3.2.2.2 i (by omega) (by omega)
          have w2 := i2 (M 2 (60 * f + i)) (by omega) (by omega)
          refine j_aload_n C dX6_shotWith_23 rfl ?_
          refine j_mgeta C hM fl_Mo_7 (by decide) dX6_shotWith_24 ?_
          refine j_bipush C dX6_shotWith_27 (by decide) ?_
          refine j_iload_n C dX6_shotWith_29 rfl ?_
          refine j_imul C dX6_shotWith_30 ?_
          refine j_iload C dX6_shotWith_31 rfl ?_
          refine j_iadd C dX6_shotWith_33 ?_
          refine j_mald C hM (by decide) rfl (by simp only [mLen]; omega) dX6_shotWith_34 ?_
          refine j_istore C dX6_shotWith_35 (by decide) ?_
          refine j_aload_n C dX6_shotWith_37 rfl ?_
          refine j_mgeta C hM fl_Mo_25 (by decide) dX6_shotWith_38 ?_
          refine j_iload C dX6_shotWith_41 rfl ?_
          refine j_mald C hM (by decide) rfl (by simp only [mLen]; omega) dX6_shotWith_43 ?_
          refine j_iconst C dX6_shotWith_44 ?_
          refine j_icmp_eq (tgt := 82) C dX6_shotWith_45 (by decide) (by unfold rg at *; omega) (by unfold rg at *; omega) (fun c45 => ?_) (fun c45 => ?_)
          · refine j_iinc C dX6_shotWith_82 rfl (by decide) ?_
            refine j_goto (tgt := 8) C dX6_shotWith_85 (by decide) ?_
            have ihk := ih (i + 1) (by omega) (by omega) (by omega)
            first
              | (rw [swS_0 (by assumption)] at ihk
                 refine J.lvs (lv' := [(0, .ref o), (1, .int (iN (f))), (2, .int (iN (z))), (3, .int (iN ((swS M f z i).2))), (4, .int (iN ((swS M f z i).1))), (5, .int (iN (((i + 1 : Nat) : Int))))]) ?_ ?_
                 · intro q hq; simp only [List.mem_cons, List.not_mem_nil, or_false] at hq; rcases hq with rfl | rfl | rfl | rfl | rfl | rfl <;> rfl
                 · refine ihk)
              | (rw [swS_1 (by assumption) ⟨by omega, by omega⟩] at ihk
                 refine J.lvs (lv' := [(0, .ref o), (1, .int (iN (f))), (2, .int (iN (z))), (3, .int (iN ((swS M f z i).2 - M 5 (M 2 (60 * f + i))))), (4, .int (iN (M 2 (60 * f + i)))), (5, .int (iN (((i + 1 : Nat) : Int))))]) ?_ ?_
                 · intro q hq; simp only [List.mem_cons, List.not_mem_nil, or_false] at hq; rcases hq with rfl | rfl | rfl | rfl | rfl | rfl <;> rfl
                 · refine ihk)
              | (rw [swS_2 (by assumption) (by omega)] at ihk
                 refine J.lvs (lv' := [(0, .ref o), (1, .int (iN (f))), (2, .int (iN (z))), (3, .int (iN ((swS M f z i).2 - M 5 (M 2 (60 * f + i))))), (4, .int (iN ((swS M f z i).1))), (5, .int (iN (((i + 1 : Nat) : Int))))]) ?_ ?_
                 · intro q hq; simp only [List.mem_cons, List.not_mem_nil, or_false] at hq; rcases hq with rfl | rfl | rfl | rfl | rfl | rfl <;> rfl
                 · refine ihk)
          · refine j_iload_n C dX6_shotWith_48 rfl ?_
            refine j_if_lt (tgt := 68) C dX6_shotWith_49 (by decide) (by unfold rg at *; omega) (fun c49 => ?_) (fun c49 => ?_)
            · refine j_iload C dX6_shotWith_68 rfl ?_
              refine j_istore C dX6_shotWith_70 (by decide) ?_
              refine j_iload_n C dX6_shotWith_72 rfl ?_
              refine j_aload_n C dX6_shotWith_73 rfl ?_
              refine j_mgeta C hM fl_Mo_19 (by decide) dX6_shotWith_74 ?_
              refine j_iload C dX6_shotWith_77 rfl ?_
              refine j_mald C hM (by decide) rfl (by simp only [mLen]; omega) dX6_shotWith_79 ?_
              refine j_isub C dX6_shotWith_80 ?_
              refine j_istore_n C dX6_shotWith_81 (by decide) ?_
              refine j_iinc C dX6_shotWith_82 rfl (by decide) ?_
              refine j_goto (tgt := 8) C dX6_shotWith_85 (by decide) ?_
              have ihk := ih (i + 1) (by omega) (by omega) (by omega)
              first
                | (rw [swS_0 (by assumption)] at ihk
                   refine J.lvs (lv' := [(0, .ref o), (1, .int (iN (f))), (2, .int (iN (z))), (3, .int (iN ((swS M f z i).2))), (4, .int (iN ((swS M f z i).1))), (5, .int (iN (((i + 1 : Nat) : Int))))]) ?_ ?_
                   · intro q hq; simp only [List.mem_cons, List.not_mem_nil, or_false] at hq; rcases hq with rfl | rfl | rfl | rfl | rfl | rfl <;> rfl
                   · refine ihk)
                | (rw [swS_1 (by assumption) ⟨by omega, by omega⟩] at ihk
                   refine J.lvs (lv' := [(0, .ref o), (1, .int (iN (f))), (2, .int (iN (z))), (3, .int (iN ((swS M f z i).2 - M 5 (M 2 (60 * f + i))))), (4, .int (iN (M 2 (60 * f + i)))), (5, .int (iN (((i + 1 : Nat) : Int))))]) ?_ ?_
                   · intro q hq; simp only [List.mem_cons, List.not_mem_nil, or_false] at hq; rcases hq with rfl | rfl | rfl | rfl | rfl | rfl <;> rfl
                   · refine ihk)
                | (rw [swS_2 (by assumption) (by omega)] at ihk
                   refine J.lvs (lv' := [(0, .ref o), (1, .int (iN (f))), (2, .int (iN (z))), (3, .int (iN ((swS M f z i).2 - M 5 (M 2 (60 * f + i))))), (4, .int (iN ((swS M f z i).1))), (5, .int (iN (((i + 1 : Nat) : Int))))]) ?_ ?_
                   · intro q hq; simp only [List.mem_cons, List.not_mem_nil, or_false] at hq; rcases hq with rfl | rfl | rfl | rfl | rfl | rfl <;> rfl
                   · refine ihk)
            · refine j_iload_n C dX6_shotWith_52 rfl ?_
              refine j_aload_n C dX6_shotWith_53 rfl ?_
              refine j_mgeta C hM fl_Mo_19 (by decide) dX6_shotWith_54 ?_
              refine j_iload C dX6_shotWith_57 rfl ?_
              refine j_mald C hM (by decide) rfl (by simp only [mLen]; omega) dX6_shotWith_59 ?_
              refine j_icmp_ge (tgt := 68) C dX6_shotWith_60 (by decide) (by unfold rg at *; omega) (by unfold rg at *; omega) (fun c60 => ?_) (fun c60 => ?_)
              · refine j_iload C dX6_shotWith_68 rfl ?_
                refine j_istore C dX6_shotWith_70 (by decide) ?_
                refine j_iload_n C dX6_shotWith_72 rfl ?_
                refine j_aload_n C dX6_shotWith_73 rfl ?_
                refine j_mgeta C hM fl_Mo_19 (by decide) dX6_shotWith_74 ?_
                refine j_iload C dX6_shotWith_77 rfl ?_
                refine j_mald C hM (by decide) rfl (by simp only [mLen]; omega) dX6_shotWith_79 ?_
                refine j_isub C dX6_shotWith_80 ?_
                refine j_istore_n C dX6_shotWith_81 (by decide) ?_
                refine j_iinc C dX6_shotWith_82 rfl (by decide) ?_
                refine j_goto (tgt := 8) C dX6_shotWith_85 (by decide) ?_
                have ihk := ih (i + 1) (by omega) (by omega) (by omega)
                first
                  | (rw [swS_0 (by assumption)] at ihk
                     refine J.lvs (lv' := [(0, .ref o), (1, .int (iN (f))), (2, .int (iN (z))), (3, .int (iN ((swS M f z i).2))), (4, .int (iN ((swS M f z i).1))), (5, .int (iN (((i + 1 : Nat) : Int))))]) ?_ ?_
                     · intro q hq; simp only [List.mem_cons, List.not_mem_nil, or_false] at hq; rcases hq with rfl | rfl | rfl | rfl | rfl | rfl <;> rfl
                     · refine ihk)
                  | (rw [swS_1 (by assumption) ⟨by omega, by omega⟩] at ihk
                     refine J.lvs (lv' := [(0, .ref o), (1, .int (iN (f))), (2, .int (iN (z))), (3, .int (iN ((swS M f z i).2 - M 5 (M 2 (60 * f + i))))), (4, .int (iN (M 2 (60 * f + i)))), (5, .int (iN (((i + 1 : Nat) : Int))))]) ?_ ?_
                     · intro q hq; simp only [List.mem_cons, List.not_mem_nil, or_false] at hq; rcases hq with rfl | rfl | rfl | rfl | rfl | rfl <;> rfl
                     · refine ihk)
                  | (rw [swS_2 (by assumption) (by omega)] at ihk
                     refine J.lvs (lv' := [(0, .ref o), (1, .int (iN (f))), (2, .int (iN (z))), (3, .int (iN ((swS M f z i).2 - M 5 (M 2 (60 * f + i))))), (4, .int (iN ((swS M f z i).1))), (5, .int (iN (((i + 1 : Nat) : Int))))]) ?_ ?_
                     · intro q hq; simp only [List.mem_cons, List.not_mem_nil, or_false] at hq; rcases hq with rfl | rfl | rfl | rfl | rfl | rfl <;> rfl
                     · refine ihk)
              · refine j_iload C dX6_shotWith_63 rfl ?_
                refine j_goto (tgt := 70) C dX6_shotWith_65 (by decide) ?_
                refine j_istore C dX6_shotWith_70 (by decide) ?_
                refine j_iload_n C dX6_shotWith_72 rfl ?_
                refine j_aload_n C dX6_shotWith_73 rfl ?_
                refine j_mgeta C hM fl_Mo_19 (by decide) dX6_shotWith_74 ?_
                refine j_iload C dX6_shotWith_77 rfl ?_
                refine j_mald C hM (by decide) rfl (by simp only [mLen]; omega) dX6_shotWith_79 ?_
                refine j_isub C dX6_shotWith_80 ?_
                refine j_istore_n C dX6_shotWith_81 (by decide) ?_
                refine j_iinc C dX6_shotWith_82 rfl (by decide) ?_
                refine j_goto (tgt := 8) C dX6_shotWith_85 (by decide) ?_
                have ihk := ih (i + 1) (by omega) (by omega) (by omega)
                first
                  | (rw [swS_0 (by assumption)] at ihk
                     refine J.lvs (lv' := [(0, .ref o), (1, .int (iN (f))), (2, .int (iN (z))), (3, .int (iN ((swS M f z i).2))), (4, .int (iN ((swS M f z i).1))), (5, .int (iN (((i + 1 : Nat) : Int))))]) ?_ ?_
                     · intro q hq; simp only [List.mem_cons, List.not_mem_nil, or_false] at hq; rcases hq with rfl | rfl | rfl | rfl | rfl | rfl <;> rfl
                     · refine ihk)
                  | (rw [swS_1 (by assumption) ⟨by omega, by omega⟩] at ihk
                     refine J.lvs (lv' := [(0, .ref o), (1, .int (iN (f))), (2, .int (iN (z))), (3, .int (iN ((swS M f z i).2 - M 5 (M 2 (60 * f + i))))), (4, .int (iN (M 2 (60 * f + i)))), (5, .int (iN (((i + 1 : Nat) : Int))))]) ?_ ?_
                     · intro q hq; simp only [List.mem_cons, List.not_mem_nil, or_false] at hq; rcases hq with rfl | rfl | rfl | rfl | rfl | rfl <;> rfl
                     · refine ihk)
                  | (rw [swS_2 (by assumption) (by omega)] at ihk
                     refine J.lvs (lv' := [(0, .ref o), (1, .int (iN (f))), (2, .int (iN (z))), (3, .int (iN ((swS M f z i).2 - M 5 (M 2 (60 * f + i))))), (4, .int (iN ((swS M f z i).1))), (5, .int (iN (((i + 1 : Nat) : Int))))]) ?_ ?_
                     · intro q hq; simp only [List.mem_cons, List.not_mem_nil, or_false] at hq; rcases hq with rfl | rfl | rfl | rfl | rfl | rfl <;> rfl
                     · refine ihk)
  refine J.lvs (lv' := [(0, .ref o), (1, .int (iN (f))), (2, .int (iN (z))), (3, .int (iN ((swS M f z 0).2))), (4, .int (iN ((swS M f z 0).1))), (5, .int (iN (((0 : Nat) : Int))))]) ?_ ?_
  · intro q hq; simp only [List.mem_cons, List.not_mem_nil, or_false] at hq; rcases hq with rfl | rfl | rfl | rfl | rfl | rfl <;> rfl
  · exact key ((M 3 f).toNat + 1) 0 (by omega) (by omega) (by omega)

set_option maxHeartbeats 4000000 in
set_option maxRecDepth 100000 in
theorem c_greatest (l : Launch) (hfl : l.stackTraces = false) {M : wM} {r : Int} (hr : 0 ≤ r ∧ r < 24) (i1 : I1 M) (i4 : I4 M) : MC l yX6_greatest cX6_greatest 4 (some FieldType.int) 1 [.int (iN r)] M (.inl (some (.int (iN (greatM M r))))) (M) := by
  intro S0 o B hM0
  refine Ct.of cal_X6_greatest hfl (Nat.le_of_ble_eq_true rfl) ?_
  intro p e s m args below meth c D sz C ME
  have hM : RMF S0 S0 o B M := ⟨hM0, mF.rf⟩
  obtain ⟨a1, a2, a3, a4, a5, a6, a7⟩ := id i1
  have w4 := i4 r (by omega) (by omega)
  have w0 : ∀ k : Nat, (k : Int) + 1 < M 16 r → 0 ≤ M 15 (60 * r + k) ∧ M 15 (60 * r + k) ≤ M 18 0 := by
    intro k hk
    exact (w4.2.2.2.2 k (by omega) (by omega)).2.2.2.2.1 hk
  refine j_iconst C dX6_greatest_0 ?_
  refine j_istore_n C dX6_greatest_1 (by decide) ?_
  refine j_iconst C dX6_greatest_2 ?_
  refine j_istore_n C dX6_greatest_3 (by decide) ?_
  have key : ∀ (fuel : Nat) (i : Nat), M 16 r - i < fuel → (i : Int) + 1 ≤ M 16 r ∨ i = 0 → J p l e { frames := 20 * 1, cells := 0, slots := 0, locals := 200 * 1 } s m args below meth c 4 D (wA S0 sz) (wQ below D sz S0 (fun r9 S9 => r9 = .inl (some (.int (iN (greatM M r)))) ∧ RMF S0 S9 o B (M)) args s 0 0) 4 [(0, .ref o), (1, .int (iN (r))), (2, .int (iN ((maxI (fun k : Nat => M 15 (60 * r + k)) i)))), (3, .int (iN (i)))] [] S0 0 0 := by
    intro fuel
    induction fuel with
    | zero => intro i h1 h2; omega
    | succ fuel ih =>
      intro i h1 h2
      have wm : 0 ≤ maxI (fun k : Nat => M 15 (60 * r + k)) i ∧ maxI (fun k : Nat => M 15 (60 * r + k)) i ≤ M 18 0 := maxI_bound (by omega) (fun k hk => (w0 k (by omega)).2)
      refine j_iload_n C dX6_greatest_4 rfl ?_
      refine j_iconst C dX6_greatest_5 ?_
      refine j_iadd C dX6_greatest_6 ?_
      refine j_aload_n C dX6_greatest_7 rfl ?_
      refine j_mgeta C hM fl_Mo_49 (by decide) dX6_greatest_8 ?_
      refine j_iload_n C dX6_greatest_11 rfl ?_
      refine j_mald C hM (by decide) rfl (by simp only [mLen]; omega) dX6_greatest_12 ?_
      refine j_icmp_ge (tgt := 53) C dX6_greatest_13 (by decide) (by unfold rg at *; omega) (by unfold rg at *; omega) (fun c13 => ?_) (fun c13 => ?_)
      · refine j_iload_n C dX6_greatest_53 rfl ?_
        refine j_iret C ME ?_ (by omega) (by omega) dX6_greatest_54
        exact ⟨rI (by rw [greatM, show (M 16 r - 1).toNat = i by omega]), hM⟩
      · have w6 := w0 i (by omega)
        refine j_aload_n C dX6_greatest_16 rfl ?_
        refine j_mgeta C hM fl_Mo_46 (by decide) dX6_greatest_17 ?_
        refine j_bipush C dX6_greatest_20 (by decide) ?_
        refine j_iload_n C dX6_greatest_22 rfl ?_
        refine j_imul C dX6_greatest_23 ?_
        refine j_iload_n C dX6_greatest_24 rfl ?_
        refine j_iadd C dX6_greatest_25 ?_
        refine j_mald C hM (by decide) rfl (by simp only [mLen]; omega) dX6_greatest_26 ?_
        refine j_iload_n C dX6_greatest_27 rfl ?_
        refine j_icmp_le (tgt := 45) C dX6_greatest_28 (by decide) (by unfold rg at *; omega) (by unfold rg at *; omega) (fun c28 => ?_) (fun c28 => ?_)
        · refine j_iload_n C dX6_greatest_45 rfl ?_
          refine j_istore_n C dX6_greatest_46 (by decide) ?_
          refine j_iinc C dX6_greatest_47 rfl (by decide) ?_
          refine j_goto (tgt := 4) C dX6_greatest_50 (by decide) ?_
          have ihk := ih (i + 1) (by omega) (by omega)
          rw [maxI] at ihk
          first
            | (rw [if_pos (by omega)] at ihk
               refine J.lvs (lv' := [(0, .ref o), (1, .int (iN (r))), (2, .int (iN (M 15 (60 * r + i)))), (3, .int (iN (((i + 1 : Nat) : Int))))]) ?_ ?_
               · intro q hq; simp only [List.mem_cons, List.not_mem_nil, or_false] at hq; rcases hq with rfl | rfl | rfl | rfl <;> rfl
               · refine ihk)
            | (rw [if_neg (by omega)] at ihk
               refine J.lvs (lv' := [(0, .ref o), (1, .int (iN (r))), (2, .int (iN (maxI (fun k : Nat => M 15 (60 * r + k)) i))), (3, .int (iN (((i + 1 : Nat) : Int))))]) ?_ ?_
               · intro q hq; simp only [List.mem_cons, List.not_mem_nil, or_false] at hq; rcases hq with rfl | rfl | rfl | rfl <;> rfl
               · refine ihk)
        · refine j_aload_n C dX6_greatest_31 rfl ?_
          refine j_mgeta C hM fl_Mo_46 (by decide) dX6_greatest_32 ?_
          refine j_bipush C dX6_greatest_35 (by decide) ?_
          refine j_iload_n C dX6_greatest_37 rfl ?_
          refine j_imul C dX6_greatest_38 ?_
          refine j_iload_n C dX6_greatest_39 rfl ?_
          refine j_iadd C dX6_greatest_40 ?_
          refine j_mald C hM (by decide) rfl (by simp only [mLen]; omega) dX6_greatest_41 ?_
          refine j_goto (tgt := 46) C dX6_greatest_42 (by decide) ?_
          refine j_istore_n C dX6_greatest_46 (by decide) ?_
          refine j_iinc C dX6_greatest_47 rfl (by decide) ?_
          refine j_goto (tgt := 4) C dX6_greatest_50 (by decide) ?_
          have ihk := ih (i + 1) (by omega) (by omega)
          rw [maxI] at ihk
          first
            | (rw [if_pos (by omega)] at ihk
               refine J.lvs (lv' := [(0, .ref o), (1, .int (iN (r))), (2, .int (iN (M 15 (60 * r + i)))), (3, .int (iN (((i + 1 : Nat) : Int))))]) ?_ ?_
               · intro q hq; simp only [List.mem_cons, List.not_mem_nil, or_false] at hq; rcases hq with rfl | rfl | rfl | rfl <;> rfl
               · refine ihk)
            | (rw [if_neg (by omega)] at ihk
               refine J.lvs (lv' := [(0, .ref o), (1, .int (iN (r))), (2, .int (iN (maxI (fun k : Nat => M 15 (60 * r + k)) i))), (3, .int (iN (((i + 1 : Nat) : Int))))]) ?_ ?_
               · intro q hq; simp only [List.mem_cons, List.not_mem_nil, or_false] at hq; rcases hq with rfl | rfl | rfl | rfl <;> rfl
               · refine ihk)
  refine J.lvs (lv' := [(0, .ref o), (1, .int (iN (r))), (2, .int (iN ((maxI (fun k : Nat => M 15 (60 * r + k)) 0)))), (3, .int (iN (((0 : Nat) : Int))))]) ?_ ?_
  · intro q hq; simp only [List.mem_cons, List.not_mem_nil, or_false] at hq; rcases hq with rfl | rfl | rfl | rfl <;> rfl
  · exact key ((M 16 r).toNat + 1) 0 (by omega) (by omega)

set_option maxHeartbeats 4000000 in
set_option maxRecDepth 100000 in
theorem c_framesOn (l : Launch) (hfl : l.stackTraces = false) {M : wM} {r : Int} (hr : 0 ≤ r ∧ r < 24) (hm : 0 ≤ M 16 r ∧ M 16 r ≤ 60) (h14 : ∀ k : Nat, (k : Int) < M 16 r → 0 ≤ M 14 (60 * r + k) ∧ M 14 (60 * r + k) < 60) : MC l yX6_framesOn cX6_framesOn 4 (some FieldType.int) 1 [.int (iN r)] M (.inl (some (.int (iN (onM M r))))) (M) := by
  intro S0 o B hM0
  refine Ct.of cal_X6_framesOn hfl (Nat.le_of_ble_eq_true rfl) ?_
  intro p e s m args below meth c D sz C ME
  have hM : RMF S0 S0 o B M := ⟨hM0, mF.rf⟩
  refine j_iconst C dX6_framesOn_0 ?_
  refine j_istore_n C dX6_framesOn_1 (by decide) ?_
  refine j_iconst C dX6_framesOn_2 ?_
  refine j_istore_n C dX6_framesOn_3 (by decide) ?_
  have key : ∀ (fuel : Nat) (i : Nat), M 16 r - i < fuel → (i : Int) ≤ M 16 r → J p l e { frames := 20 * 1, cells := 0, slots := 0, locals := 200 * 1 } s m args below meth c 4 D (wA S0 sz) (wQ below D sz S0 (fun r9 S9 => r9 = .inl (some (.int (iN (onM M r)))) ∧ RMF S0 S9 o B (M)) args s 0 0) 4 [(0, .ref o), (1, .int (iN (r))), (2, .int (iN ((sumI (fun k : Nat => M 5 (M 14 (60 * r + k))) i)))), (3, .int (iN (i)))] [] S0 0 0 := by
    intro fuel
    induction fuel with
    | zero => intro i h1 h2; omega
    | succ fuel ih =>
      intro i h1 h2
      refine j_iload_n C dX6_framesOn_4 rfl ?_
      refine j_aload_n C dX6_framesOn_5 rfl ?_
      refine j_mgeta C hM fl_Mo_49 (by decide) dX6_framesOn_6 ?_
      refine j_iload_n C dX6_framesOn_9 rfl ?_
      refine j_mald C hM (by decide) rfl (by simp only [mLen]; omega) dX6_framesOn_10 ?_
      refine j_icmp_ge (tgt := 39) C dX6_framesOn_11 (by decide) (by unfold rg at *; omega) (by unfold rg at *; omega) (fun c11 => ?_) (fun c11 => ?_)
      · refine j_iload_n C dX6_framesOn_39 rfl ?_
        refine j_iret C ME ?_ (by omega) (by omega) dX6_framesOn_40
        exact ⟨rI (by rw [onM, show (M 16 r).toNat = i by omega]), hM⟩
      · have w6 := h14 i (by omega)
        refine j_iload_n C dX6_framesOn_14 rfl ?_
        refine j_aload_n C dX6_framesOn_15 rfl ?_
        refine j_mgeta C hM fl_Mo_19 (by decide) dX6_framesOn_16 ?_
        refine j_aload_n C dX6_framesOn_19 rfl ?_
        refine j_mgeta C hM fl_Mo_43 (by decide) dX6_framesOn_20 ?_
        refine j_bipush C dX6_framesOn_23 (by decide) ?_
        refine j_iload_n C dX6_framesOn_25 rfl ?_
        refine j_imul C dX6_framesOn_26 ?_
        refine j_iload_n C dX6_framesOn_27 rfl ?_
        refine j_iadd C dX6_framesOn_28 ?_
        refine j_mald C hM (by decide) rfl (by simp only [mLen]; omega) dX6_framesOn_29 ?_
        refine j_mald C hM (by decide) rfl (by simp only [mLen]; omega) dX6_framesOn_30 ?_
        refine j_iadd C dX6_framesOn_31 ?_
        refine j_istore_n C dX6_framesOn_32 (by decide) ?_
        refine j_iinc C dX6_framesOn_33 rfl (by decide) ?_
        refine j_goto (tgt := 4) C dX6_framesOn_36 (by decide) ?_
        have ihk := ih (i + 1) (by omega) (by omega)
        rw [sumI] at ihk
        refine J.lvs (lv' := [(0, .ref o), (1, .int (iN (r))), (2, .int (iN (sumI (fun k : Nat => M 5 (M 14 (60 * r + k))) i + M 5 (M 14 (60 * r + i))))), (3, .int (iN (((i + 1 : Nat) : Int))))]) ?_ ?_
        · intro q hq; simp only [List.mem_cons, List.not_mem_nil, or_false] at hq; rcases hq with rfl | rfl | rfl | rfl <;> rfl
        · refine ihk
  refine J.lvs (lv' := [(0, .ref o), (1, .int (iN (r))), (2, .int (iN ((sumI (fun k : Nat => M 5 (M 14 (60 * r + k))) 0)))), (3, .int (iN (((0 : Nat) : Int))))]) ?_ ?_
  · intro q hq; simp only [List.mem_cons, List.not_mem_nil, or_false] at hq; rcases hq with rfl | rfl | rfl | rfl <;> rfl
  · exact key ((M 16 r).toNat + 1) 0 (by omega) (by omega)

theorem greatM_rg {M : wM} {r : Int} (hr : 0 ≤ r ∧ r < 24) (i1 : I1 M) (i4 : I4 M) : 0 ≤ greatM M r ∧ greatM M r ≤ M 18 0 :=
  maxI_bound (by obtain ⟨-, -, -, q, -⟩ := i1; omega) (fun k hk => ((i4 r hr.1 hr.2).2.2.2.2 k (by omega) (by omega)).2.2.2.2.1 (by omega) |>.2)
set_option maxHeartbeats 4000000 in
set_option maxRecDepth 100000 in
theorem c_bears (l : Launch) (hfl : l.stackTraces = false) {M : wM} {r w : Int} (hr : 0 ≤ r ∧ r < 24) (hw : 0 ≤ w ∧ w ≤ 1000) (i1 : I1 M) (i4 : I4 M) : MC l yX6_bears cX6_bears 3 (some FieldType.boolean) 2 [.int (iN r), .int (iN w)] M (.inl (some (.int (iN (bN (bearP M r w)))))) (M) := by
  intro S0 o B hM0
  refine Ct.of cal_X6_bears hfl (Nat.le_of_ble_eq_true rfl) ?_
  intro p e s m args below meth c D sz C ME
  have hM : RMF S0 S0 o B M := ⟨hM0, mF.rf⟩
  obtain ⟨a1, a2, a3, a4, a5, a6, a7⟩ := id i1
  have w4 := i4 r (by omega) (by omega)
  have w5 := greatM_rg hr i1 i4
  refine j_aload_n C dX6_bears_0 rfl ?_
  refine j_mgeta C hM fl_Mo_49 (by decide) dX6_bears_1 ?_
  refine j_iload_n C dX6_bears_4 rfl ?_
  refine j_mald C hM (by decide) rfl (by simp only [mLen]; omega) dX6_bears_5 ?_
  refine j_iconst C dX6_bears_6 ?_
  refine j_icmp_lt (tgt := 24) C dX6_bears_7 (by decide) (by unfold rg at *; omega) (by unfold rg at *; omega) (fun c7 => ?_) (fun c7 => ?_)
  · refine j_iconst C dX6_bears_24 ?_
    refine j_goto (tgt := 29) C dX6_bears_25 (by decide) ?_
    refine j_zret C ME (by first | exact Or.inl rfl | exact Or.inr rfl | (unfold bN; split <;> simp)) ?_ (by omega) (by omega) dX6_bears_29
    exact ⟨rI (by unfold bearP; first | exact b1 (by omega) | exact b0 (by omega)), hM⟩
  · refine j_aload_n C dX6_bears_10 rfl ?_
    refine j_iload_n C dX6_bears_11 rfl ?_
    refine j_mcall C hM (c_greatest l hfl (by omega) i1 i4) cal_X6_greatest vi_X6_greatest rfl ml_Mo_145 rfl rfl (Nat.le_of_ble_eq_true rfl) ⟨by decide, by decide⟩ ⟨by omega, by omega⟩ dX6_bears_12 (fun S hM => ?_)
    refine j_iload_n C dX6_bears_15 rfl ?_
    refine j_iadd C dX6_bears_16 ?_
    refine j_aload_n C dX6_bears_17 rfl ?_
    refine j_mgeti C hM fl_Mo_52 ⟨by decide, rfl⟩ dX6_bears_18 ?_
    refine j_icmp_gt (tgt := 28) C dX6_bears_21 (by decide) (by unfold rg at *; omega) (by unfold rg at *; omega) (fun c21 => ?_) (fun c21 => ?_)
    · refine j_iconst C dX6_bears_28 ?_
      refine j_zret C ME (by first | exact Or.inl rfl | exact Or.inr rfl | (unfold bN; split <;> simp)) ?_ (by omega) (by omega) dX6_bears_29
      exact ⟨rI (by unfold bearP; first | exact b1 (by omega) | exact b0 (by omega)), hM⟩
    · refine j_iconst C dX6_bears_24 ?_
      refine j_goto (tgt := 29) C dX6_bears_25 (by decide) ?_
      refine j_zret C ME (by first | exact Or.inl rfl | exact Or.inr rfl | (unfold bN; split <;> simp)) ?_ (by omega) (by omega) dX6_bears_29
      exact ⟨rI (by unfold bearP; first | exact b1 (by omega) | exact b0 (by omega)), hM⟩

set_option maxHeartbeats 4000000 in
set_option maxRecDepth 100000 in
theorem c_isSplice (l : Launch) (hfl : l.stackTraces = false) {M : wM} {r z : Int} (hr : rg r) (hz : rg z) (i1 : I1 M) (i4 : I4 M) : MC l yX6_isSplice cX6_isSplice 3 (some FieldType.boolean) 3 [.int (iN r), .int (iN z)] M (.inl (some (.int (iN (bN (splP M r z)))))) (M) := by
  intro S0 o B hM0
  refine Ct.of cal_X6_isSplice hfl (Nat.le_of_ble_eq_true rfl) ?_
  intro p e s m args below meth c D sz C ME
  have hM : RMF S0 S0 o B M := ⟨hM0, mF.rf⟩
  obtain ⟨a1, a2, a3, a4, a5, a6, a7⟩ := id i1
  refine j_aload_n C dX6_isSplice_0 rfl ?_
  refine j_iload_n C dX6_isSplice_1 rfl ?_
  refine j_mcall C hM (c_isReel l hfl (by unfold rg at *; omega) (by omega)) cal_X6_isReel vi_X6_isReel rfl ml_Mo_118 rfl rfl (Nat.le_of_ble_eq_true rfl) ⟨by decide, by decide⟩ ⟨by omega, by omega⟩ dX6_isSplice_2 (fun S hM => ?_)
  refine j_ifeq_b (tgt := 28) C dX6_isSplice_5 (by decide) (fun c5 => ?_) (fun c5 => ?_)
  · simp only [decide_eq_false_iff_not] at c5
    refine j_iconst C dX6_isSplice_28 ?_
    refine j_zret C ME (by first | exact Or.inl rfl | exact Or.inr rfl | (unfold bN; split <;> simp)) ?_ (by omega) (by omega) dX6_isSplice_29
    exact ⟨rI (by unfold splP; first | exact b1 (by omega) | exact b0 (by omega)), hM⟩
  · have w4 := i4 r (by simp at c5; omega) (by simp at c5; omega)
    simp only [decide_eq_true_eq] at c5
    refine j_iload_n C dX6_isSplice_8 rfl ?_
    refine j_iconst C dX6_isSplice_9 ?_
    refine j_aload_n C dX6_isSplice_10 rfl ?_
    refine j_mgeta C hM fl_Mo_49 (by decide) dX6_isSplice_11 ?_
    refine j_iload_n C dX6_isSplice_14 rfl ?_
    refine j_mald C hM (by decide) rfl (by simp only [mLen]; omega) dX6_isSplice_15 ?_
    refine j_iconst C dX6_isSplice_16 ?_
    refine j_isub C dX6_isSplice_17 ?_
    refine j_callS C (c_in l hfl (by unfold rg at *; omega) (by unfold rg; omega) (by unfold rg; omega)) cal_X6_in st_X6_in ml_Mo_87 rfl rfl (Nat.le_of_ble_eq_true rfl) ⟨by decide, by decide⟩ ⟨by omega, by omega⟩ dX6_isSplice_18 (fun E S9 h => nomatch h.1) (fun v9 S9 h => ?_)
    obtain ⟨h, rfl⟩ := h
    cases h
    refine j_ifeq_b (tgt := 28) C dX6_isSplice_21 (by decide) (fun c21 => ?_) (fun c21 => ?_)
    · simp only [decide_eq_false_iff_not] at c21
      refine j_iconst C dX6_isSplice_28 ?_
      refine j_zret C ME (by first | exact Or.inl rfl | exact Or.inr rfl | (unfold bN; split <;> simp)) ?_ (by omega) (by omega) dX6_isSplice_29
      exact ⟨rI (by unfold splP; first | exact b1 (by omega) | exact b0 (by omega)), hM⟩
    · simp only [decide_eq_true_eq] at c21
      refine j_iconst C dX6_isSplice_24 ?_
      refine j_goto (tgt := 29) C dX6_isSplice_25 (by decide) ?_
      refine j_zret C ME (by first | exact Or.inl rfl | exact Or.inr rfl | (unfold bN; split <;> simp)) ?_ (by omega) (by omega) dX6_isSplice_29
      exact ⟨rI (by unfold splP; first | exact b1 (by omega) | exact b0 (by omega)), hM⟩

set_option maxHeartbeats 4000000 in
set_option maxRecDepth 100000 in
theorem c_isWorn (l : Launch) (hfl : l.stackTraces = false) {M : wM} {r z : Int} (hr : 0 ≤ r ∧ r < 24) (hz : -1 ≤ z ∧ z < 60) (i1 : I1 M) (i4 : I4 M) : MC l yX6_isWorn cX6_isWorn 3 (some FieldType.boolean) 2 [.int (iN r), .int (iN z)] M (.inl (some (.int (iN (bN (wornP M r z)))))) (M) := by
  intro S0 o B hM0
  refine Ct.of cal_X6_isWorn hfl (Nat.le_of_ble_eq_true rfl) ?_
  intro p e s m args below meth c D sz C ME
  have hM : RMF S0 S0 o B M := ⟨hM0, mF.rf⟩
  obtain ⟨a1, a2, a3, a4, a5, a6, a7⟩ := id i1
  have w4 := i4 r (by omega) (by omega)
  refine j_iload_n C dX6_isWorn_0 rfl ?_
  refine j_iconst C dX6_isWorn_1 ?_
  refine j_aload_n C dX6_isWorn_2 rfl ?_
  refine j_mgeta C hM fl_Mo_49 (by decide) dX6_isWorn_3 ?_
  refine j_iload_n C dX6_isWorn_6 rfl ?_
  refine j_mald C hM (by decide) rfl (by simp only [mLen]; omega) dX6_isWorn_7 ?_
  refine j_iconst C dX6_isWorn_8 ?_
  refine j_isub C dX6_isWorn_9 ?_
  refine j_callS C (c_in l hfl (by unfold rg at *; omega) (by unfold rg; omega) (by unfold rg; omega)) cal_X6_in st_X6_in ml_Mo_87 rfl rfl (Nat.le_of_ble_eq_true rfl) ⟨by decide, by decide⟩ ⟨by omega, by omega⟩ dX6_isWorn_10 (fun E S9 h => nomatch h.1) (fun v9 S9 h => ?_)
  obtain ⟨h, rfl⟩ := h
  cases h
  refine j_ifeq_b (tgt := 40) C dX6_isWorn_13 (by decide) (fun c13 => ?_) (fun c13 => ?_)
  · simp only [decide_eq_false_iff_not] at c13
    refine j_iconst C dX6_isWorn_40 ?_
    refine j_zret C ME (by first | exact Or.inl rfl | exact Or.inr rfl | (unfold bN; split <;> simp)) ?_ (by omega) (by omega) dX6_isWorn_41
    exact ⟨rI (by unfold wornP; first | exact b1 (by omega) | exact b0 (by omega)), hM⟩
  · simp only [decide_eq_true_eq] at c13
    have w5 := (w4.2.2.2.2 z (by omega) (by omega)).2.2.2.2.1 (by omega)
    refine j_iconst C dX6_isWorn_16 ?_
    refine j_aload_n C dX6_isWorn_17 rfl ?_
    refine j_mgeta C hM fl_Mo_46 (by decide) dX6_isWorn_18 ?_
    refine j_bipush C dX6_isWorn_21 (by decide) ?_
    refine j_iload_n C dX6_isWorn_23 rfl ?_
    refine j_imul C dX6_isWorn_24 ?_
    refine j_iload_n C dX6_isWorn_25 rfl ?_
    refine j_iadd C dX6_isWorn_26 ?_
    refine j_mald C hM (by decide) rfl (by simp only [mLen]; omega) dX6_isWorn_27 ?_
    refine j_imul C dX6_isWorn_28 ?_
    refine j_aload_n C dX6_isWorn_29 rfl ?_
    refine j_mgeti C hM fl_Mo_52 ⟨by decide, rfl⟩ dX6_isWorn_30 ?_
    refine j_icmp_lt (tgt := 40) C dX6_isWorn_33 (by decide) (by unfold rg at *; omega) (by unfold rg at *; omega) (fun c33 => ?_) (fun c33 => ?_)
    · refine j_iconst C dX6_isWorn_40 ?_
      refine j_zret C ME (by first | exact Or.inl rfl | exact Or.inr rfl | (unfold bN; split <;> simp)) ?_ (by omega) (by omega) dX6_isWorn_41
      exact ⟨rI (by unfold wornP; first | exact b1 (by omega) | exact b0 (by omega)), hM⟩
    · refine j_iconst C dX6_isWorn_36 ?_
      refine j_goto (tgt := 41) C dX6_isWorn_37 (by decide) ?_
      refine j_zret C ME (by first | exact Or.inl rfl | exact Or.inr rfl | (unfold bN; split <;> simp)) ?_ (by omega) (by omega) dX6_isWorn_41
      exact ⟨rI (by unfold wornP; first | exact b1 (by omega) | exact b0 (by omega)), hM⟩

set_option maxHeartbeats 4000000 in
set_option maxRecDepth 100000 in
theorem c_gradeNow (l : Launch) (hfl : l.stackTraces = false) {M : wM} {s9 : Int} (hs : 0 ≤ s9 ∧ s9 < M 12 0) (i1 : I1 M) (i2 : I2 M) : MC l yX6_gradeNow cX6_gradeNow 2 (some FieldType.int) 1 [.int (iN s9)] M (.inl (some (.int (iN (gradeM M s9))))) (M) := by
  intro S0 o B hM0
  refine Ct.of cal_X6_gradeNow hfl (Nat.le_of_ble_eq_true rfl) ?_
  intro p e s m args below meth c D sz C ME
  have hM : RMF S0 S0 o B M := ⟨hM0, mF.rf⟩
  obtain ⟨a1, a2, a3, a4, a5, a6, a7⟩ := id i1
  have w2 := i2 s9 (by omega) (by omega)
  refine j_aload_n C dX6_gradeNow_0 rfl ?_
  refine j_mgeta C hM fl_Mo_34 (by decide) dX6_gradeNow_1 ?_
  refine j_iload_n C dX6_gradeNow_4 rfl ?_
  refine j_mald C hM (by decide) rfl (by simp only [mLen]; omega) dX6_gradeNow_5 ?_
  refine j_iconst C dX6_gradeNow_6 ?_
  refine j_icmp_eq (tgt := 19) C dX6_gradeNow_7 (by decide) (by unfold rg at *; omega) (by unfold rg at *; omega) (fun c7 => ?_) (fun c7 => ?_)
  · refine j_aload_n C dX6_gradeNow_19 rfl ?_
    refine j_mgeta C hM fl_Mo_37 (by decide) dX6_gradeNow_20 ?_
    refine j_iload_n C dX6_gradeNow_23 rfl ?_
    refine j_mald C hM (by decide) rfl (by simp only [mLen]; omega) dX6_gradeNow_24 ?_
    refine j_iconst C dX6_gradeNow_25 ?_
    refine j_icmp_eq (tgt := 43) C dX6_gradeNow_26 (by decide) (by unfold rg at *; omega) (by unfold rg at *; omega) (fun c26 => ?_) (fun c26 => ?_)
    · refine j_iconst C dX6_gradeNow_43 ?_
      refine j_iret C ME ?_ (by omega) (by omega) dX6_gradeNow_44
      exact ⟨rI (by unfold gradeM; simp [*]), hM⟩
    · refine j_aload_n C dX6_gradeNow_29 rfl ?_
      refine j_mgeta C hM fl_Mo_34 (by decide) dX6_gradeNow_30 ?_
      refine j_aload_n C dX6_gradeNow_33 rfl ?_
      refine j_mgeta C hM fl_Mo_37 (by decide) dX6_gradeNow_34 ?_
      refine j_iload_n C dX6_gradeNow_37 rfl ?_
      refine j_mald C hM (by decide) rfl (by simp only [mLen]; omega) dX6_gradeNow_38 ?_
      refine j_mald C hM (by decide) rfl (by simp only [mLen]; omega) dX6_gradeNow_39 ?_
      refine j_goto (tgt := 44) C dX6_gradeNow_40 (by decide) ?_
      refine j_iret C ME ?_ (by omega) (by omega) dX6_gradeNow_44
      exact ⟨rI (by unfold gradeM; simp [*]), hM⟩
  · refine j_aload_n C dX6_gradeNow_10 rfl ?_
    refine j_mgeta C hM fl_Mo_34 (by decide) dX6_gradeNow_11 ?_
    refine j_iload_n C dX6_gradeNow_14 rfl ?_
    refine j_mald C hM (by decide) rfl (by simp only [mLen]; omega) dX6_gradeNow_15 ?_
    refine j_goto (tgt := 44) C dX6_gradeNow_16 (by decide) ?_
    refine j_iret C ME ?_ (by omega) (by omega) dX6_gradeNow_44
    exact ⟨rI (by unfold gradeM; simp [*]), hM⟩

set_option maxHeartbeats 4000000 in
set_option maxRecDepth 100000 in
theorem c_isOutOf (l : Launch) (hfl : l.stackTraces = false) {M : wM} {v s9 f : Int} (hv : 0 ≤ v ∧ v < 10) (hs : 0 ≤ s9 ∧ s9 < 60) (hf : 0 ≤ f ∧ f < 999) : MC l yX6_isOutOf cX6_isOutOf 4 (some FieldType.boolean) 1 [.int (iN v), .int (iN s9), .int (iN f)] M (.inl (some (.int (iN (bN (outP M v s9 f)))))) (M) := by
  intro S0 o B hM0
  refine Ct.of cal_X6_isOutOf hfl (Nat.le_of_ble_eq_true rfl) ?_
  intro p e s m args below meth c D sz C ME
  have hM : RMF S0 S0 o B M := ⟨hM0, mF.rf⟩
  refine j_aload_n C dX6_isOutOf_0 rfl ?_
  refine j_mgeta C hM fl_Mo_62 (by decide) dX6_isOutOf_1 ?_
  refine j_bipush C dX6_isOutOf_4 (by decide) ?_
  refine j_bipush C dX6_isOutOf_6 (by decide) ?_
  refine j_iload_n C dX6_isOutOf_8 rfl ?_
  refine j_imul C dX6_isOutOf_9 ?_
  refine j_iload_n C dX6_isOutOf_10 rfl ?_
  refine j_iadd C dX6_isOutOf_11 ?_
  refine j_imul C dX6_isOutOf_12 ?_
  refine j_iload_n C dX6_isOutOf_13 rfl ?_
  refine j_bipush C dX6_isOutOf_14 (by decide) ?_
  refine j_idiv C (by omega) (by omega) dX6_isOutOf_16 ?_
  refine j_iadd C dX6_isOutOf_17 ?_
  refine j_mald C hM (by decide) rfl (by simp only [mLen]; omega) dX6_isOutOf_18 ?_
  refine j_iload_n C dX6_isOutOf_19 rfl ?_
  refine j_bipush C dX6_isOutOf_20 (by decide) ?_
  refine j_irem C (by omega) (by omega) dX6_isOutOf_22 ?_
  refine j_ishr C dX6_isOutOf_23 ?_
  refine j_iconst C dX6_isOutOf_24 ?_
  refine j_iand C dX6_isOutOf_25 ?_
  refine j_iconst C dX6_isOutOf_26 ?_
  refine j_icmp_ne (tgt := 34) C dX6_isOutOf_27 (by decide) (rg_and _ _) (by unfold rg; omega) (fun c27 => ?_) (fun c27 => ?_)
  · refine j_iconst C dX6_isOutOf_34 ?_
    refine j_zret C ME (by first | exact Or.inl rfl | exact Or.inr rfl | (unfold bN; split <;> simp)) ?_ (by omega) (by omega) dX6_isOutOf_35
    exact ⟨rI (by unfold outP; first | exact b1 (by assumption) | exact b0 (by assumption)), hM⟩
  · refine j_iconst C dX6_isOutOf_30 ?_
    refine j_goto (tgt := 35) C dX6_isOutOf_31 (by decide) ?_
    refine j_zret C ME (by first | exact Or.inl rfl | exact Or.inr rfl | (unfold bN; split <;> simp)) ?_ (by omega) (by omega) dX6_isOutOf_35
    exact ⟨rI (by unfold outP; first | exact b1 (by assumption) | exact b0 (by assumption)), hM⟩

