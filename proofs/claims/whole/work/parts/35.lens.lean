/-! VERSIONS: what is left out, lengths. -/
def bitX (X : wM) (v s : Int) (f : Nat) : Int := X 33 (61440 * v + 1024 * s + f)
def leftX (X : wM) (v s : Int) (n : Nat) : Int := sumI (bitX X v s) n
def lenSX (X : wM) (v f : Int) (n : Nat) : Int := sumI (fun k => keptM X (X 2 (60 * f + k)) - leftX X v (X 2 (60 * f + k)) 1024) n
def cntX (X : wM) (v s : Int) (n : Nat) : Int := sumI (fun f => if bitX X v s f = 1 then 0 else 1) n
def lenFX (X : wM) (v f : Int) (n : Nat) : Int := sumI (fun k => cntX X v (X 2 (60 * f + k)) (keptM X (X 2 (60 * f + k))).toNat) n
theorem RC.b01 {E : Nat} {S : wS} {G : wG} {X : wM} {v i : Int} (h : RC E S G X) (hv : 0 ≤ v ∧ v < X 21 0) (hi : 0 ≤ i ∧ i < 61440) : 0 ≤ X 33 (61440 * v + i) ∧ X 33 (61440 * v + i) ≤ 1 := by
  obtain ⟨w, -, h2⟩ := (h.v9 hv).2.2 (i.toNat / 64) (by omega)
  have e := h2 (i.toNat % 64) (by omega)
  rw [show 61440 * v + 64 * ((i.toNat / 64 : Nat) : Int) + ((i.toNat % 64 : Nat) : Int) = 61440 * v + i by omega] at e
  rw [← e]
  unfold bN
  split <;> omega
theorem leftX_b {E : Nat} {S : wS} {G : wG} {X : wM} {v s : Int} {n : Nat} (h : RC E S G X) (hv : 0 ≤ v ∧ v < X 21 0) (hs : 0 ≤ s ∧ s < 60) (hn : n ≤ 1024) : 0 ≤ leftX X v s n ∧ leftX X v s n ≤ n * 1 :=
  sumI_bound (fun k hk => by
    have := h.b01 (i := 1024 * s + k) hv (by omega)
    rw [← Int.add_assoc] at this
    exact this)
theorem cntX_b {X : wM} {v s : Int} {n : Nat} : 0 ≤ cntX X v s n ∧ cntX X v s n ≤ n * 1 := sumI_bound (fun k hk => by show 0 ≤ (if _ then (0 : Int) else 1) ∧ _ ≤ (1 : Int); split <;> omega)
theorem left_st {X : wM} {v s : Int} {k : Nat} {w : Int64} (h : ∀ b : Nat, b < 64 → bN (w.toBitVec.getLsbD b) = X 33 (61440 * v + 64 * (s * 16 + k) + b)) : leftX X v s (64 * k) + pcL w = leftX X v s (64 * (k + 1)) := by
  unfold leftX pcL
  rw [show 64 * (k + 1) = 64 * k + 64 by omega, sumI_app]
  congr 1
  refine sumI_cong (fun i hi => ?_)
  rw [h i hi]
  unfold bitX
  congr 1
  omega
theorem lo_bit {w : Int64} {k : Nat} (hk : k < 64) : (((w.toUInt64 >>> ((iN (k : Int)).toInt64.toUInt64 &&& Int64.toUInt64 63)).toInt64) &&& iL 1) = iL (bN (w.toBitVec.getLsbD k)) := by
  obtain ⟨n, hn, rfl⟩ := wb_of w
  rw [← iN_ofNat]
  have e1 : ((lN n).toUInt64 >>> ((Int32.ofNat k).toInt64.toUInt64 &&& Int64.toUInt64 63)).toInt64 = lN (n / 2 ^ k) := wb_shr hn hk
  have e2 : iL 1 = lN (2 ^ 1 - 1) := by decide
  rw [e1, e2, wb_mask (k := 1) (div_lt64 hn) (by decide), ← BitVec.testBit_toNat, wb_tn hn, Nat.testBit_eq_decide_div_mod_eq]
  rcases (show n / 2 ^ k % 2 = 0 ∨ n / 2 ^ k % 2 = 1 by omega) with h | h
  · rw [show n / 2 ^ k % 2 ^ 1 = 0 from h]; decide
  · rw [show n / 2 ^ k % 2 ^ 1 = 1 from h]; decide
section LCMP
variable {p : Program} {l : Launch} {e : Env} {R : Room} {s : State} {m : MethodId} {args : Array Value} {below : List Frame} {meth : Method} {c : Code} {nL : Nat} {D : wD} {A : Nat → Prop} {Q : State → Prop}
variable {cc : ByteArray} {own : String} {pc : Nat} {lv : List (Nat × Value)} {st : List Value} {S : wS} {k n : Nat}
theorem j_lcmp01 (C : Cx p l s m args meth c cc nL own D A) {b : Bool} (d : decode cc pc = .ok (.lcmp, 1)) (kk : J p l e R s m args below meth c nL D A Q (pc + 1) lv (.int (iN (bN b)) :: st) S k n) : J p l e R s m args below meth c nL D A Q pc lv (.long (iL 0) :: .long (iL (bN b)) :: st) S k n := by
  intro H locs ls h1 h2 h3
  refine W.lcmp C.1 C.2.1 d ?_
  have e : (if iL 0 < iL (bN b) then (1 : Int32) else if iL (bN b) = iL 0 then 0 else -1) = iN (bN b) := by cases b <;> decide
  first
    | exact e ▸ kk H locs ls h1 h2 h3
    | (cases b <;> exact kk H locs ls h1 h2 h3)
end LCMP

set_option maxHeartbeats 4000000 in
set_option maxRecDepth 100000 in
theorem v_left (l : Launch) (hfl : l.stackTraces = false) {S : wS} {E0 : Nat} {G : wG} {X : wM} (hC : RC E0 S G X) {v9 s9 : Int} (hv : 0 ≤ v9 ∧ v9 < X 21 0) (hs : 0 ≤ s9 ∧ s9 < X 12 0) : Ct l yX4_leftOutOf cX4_leftOutOf 5 (some FieldType.int) 3 0 0 [.ref (G 5 v9), .ref (G 4 s9)] S (fun r S' => r = .inl (some (.int (iN (leftX X v9 s9 1024)))) ∧ S' = S) := by
  refine Ct.of cal_X4_leftOutOf hfl (Nat.le_of_ble_eq_true rfl) ?_
  intro p e s m args below meth c D sz C ME
  have hR : RCF E0 S S G X := ⟨hC, cF.rf⟩
  have w6 := hC.w6
  unfold wf6 at w6
  refine j_iconst C dX4_leftOutOf_0 ?_
  refine j_istore_n C dX4_leftOutOf_1 (by decide) ?_
  refine j_iconst C dX4_leftOutOf_2 ?_
  refine j_istore_n C dX4_leftOutOf_3 (by decide) ?_
  have key : ∀ (fuel : Nat) (i : Nat), 16 - i < fuel → i ≤ 16 → J p l e { frames := 20 * 3, cells := 0, slots := 0, locals := 200 * 3 } s m args below meth c 5 D (wA S sz) (wQ below D sz S (fun r S' => r = .inl (some (.int (iN (leftX X v9 s9 1024)))) ∧ S' = S) args s 0 0) 4 [(0, .ref (G 5 v9)), (1, .ref (G 4 s9)), (2, .int (iN (leftX X v9 s9 (64 * i)))), (3, .int (iN ((i : Nat) : Int)))] [] S 0 0 := by
    intro fuel
    induction fuel with
    | zero => intro i h1 h2; omega
    | succ fuel ih =>
      intro i h1 h2
      have hb := leftX_b hC hv (s := s9) (n := 64 * i) (by omega) (by omega)
      refine j_iload_n C dX4_leftOutOf_4 rfl ?_
      refine j_bipush C dX4_leftOutOf_5 (by decide) ?_
      refine j_icmp_ge (tgt := 55) C dX4_leftOutOf_7 (by decide) (by unfold rg at *; omega) (by unfold rg at *; omega) (fun c7 => ?_) (fun c7 => ?_)
      · refine j_iload_n C dX4_leftOutOf_55 rfl ?_
        refine j_iret C ME ?_ (by omega) (by omega) dX4_leftOutOf_56
        have e : i = 16 := by omega
        subst e
        exact ⟨rfl, rfl⟩
      · refine j_aload_n C dX4_leftOutOf_10 rfl ?_
        refine jg_4_1 C hR (by omega) fl_Ve_23 dX4_leftOutOf_11 ?_
        refine j_bipush C dX4_leftOutOf_14 (by decide) ?_
        refine j_imul C dX4_leftOutOf_16 ?_
        refine j_iload_n C dX4_leftOutOf_17 rfl ?_
        refine j_iadd C dX4_leftOutOf_18 ?_
        refine j_istore C dX4_leftOutOf_19 (by decide) ?_
        refine j_iload C dX4_leftOutOf_21 rfl ?_
        refine j_if_lt (tgt := 49) C dX4_leftOutOf_23 (by decide) (by unfold rg at *; omega) (fun c23 => ?_) (fun c23 => ?_)
        · exact absurd c23 (by omega)
        · refine j_iload C dX4_leftOutOf_26 rfl ?_
          refine j_aload_n C dX4_leftOutOf_28 rfl ?_
          refine jg_5_2 C hR (by omega) fl_Ve_9 dX4_leftOutOf_29 ?_
          refine jv_len C hR hv dX4_leftOutOf_32 ?_
          refine j_icmp_ge (tgt := 49) C dX4_leftOutOf_33 (by decide) (by unfold rg at *; omega) (by unfold rg at *; omega) (fun c33 => ?_) (fun c33 => ?_)
          · exact absurd c33 (by omega)
          · refine j_iload_n C dX4_leftOutOf_36 rfl ?_
            refine j_aload_n C dX4_leftOutOf_37 rfl ?_
            refine jg_5_2 C hR (by omega) fl_Ve_9 dX4_leftOutOf_38 ?_
            refine j_iload C dX4_leftOutOf_41 rfl ?_
            refine jv_ld C hR hv (by omega) dX4_leftOutOf_43 (fun w1 hww1 => ?_)
            refine j_callS C (c_bitCount l hfl) cal_J13_bitCount_95d88 st_J13_bitCount_95d88 ml_Ve_34 rfl rfl (Nat.le_of_ble_eq_true rfl) ⟨by decide, by decide⟩ ⟨(by first | omega | (dsimp only; omega)), (by first | omega | (dsimp only; omega))⟩ dX4_leftOutOf_44 (fun E S9 h => nomatch h.1) (fun v9 S9 h => ?_)
            obtain ⟨h, h9⟩ := h
            have h9 := h9.symm
            subst h9
            cases h
            refine j_iadd C dX4_leftOutOf_47 ?_
            refine j_istore_n C dX4_leftOutOf_48 (by decide) ?_
            refine j_iinc C dX4_leftOutOf_49 rfl (by decide) ?_
            refine j_goto (tgt := 4) C dX4_leftOutOf_52 (by decide) ?_
            rw [left_st hww1]
            refine J.lvs (lv' := [(0, .ref (G 5 v9)), (1, .ref (G 4 s9)), (2, .int (iN (leftX X v9 s9 (64 * (i + 1))))), (3, .int (iN (((i + 1) : Nat) : Int)))]) ?_ (ih (i + 1) (by omega) (by omega))
            intro q hq; simp only [List.mem_cons, List.not_mem_nil, or_false] at hq; rcases hq with rfl | rfl | rfl | rfl <;> rfl
  refine J.lvs (lv' := [(0, .ref (G 5 v9)), (1, .ref (G 4 s9)), (2, .int (iN (leftX X v9 s9 (64 * 0)))), (3, .int (iN ((0 : Nat) : Int)))]) ?_ (key (17) 0 (by omega) (by omega))
  intro q hq; simp only [List.mem_cons, List.not_mem_nil, or_false] at hq; rcases hq with rfl | rfl | rfl | rfl <;> rfl

set_option maxHeartbeats 4000000 in
set_option maxRecDepth 100000 in
theorem v_isleft (l : Launch) (hfl : l.stackTraces = false) {S : wS} {E0 : Nat} {G : wG} {X : wM} (hC : RC E0 S G X) {v9 s9 : Int} (hv : 0 ≤ v9 ∧ v9 < X 21 0) (hs : 0 ≤ s9 ∧ s9 < X 12 0) {f9 : Int} (hf : 0 ≤ f9 ∧ f9 < 1024) : Ct l yX4_isLeftOut cX4_isLeftOut 4 (some FieldType.boolean) 1 0 0 [.ref (G 5 v9), .ref (G 4 s9), .int (iN f9)] S (fun r S' => r = .inl (some (.int (iN (bN (decide (bitX X v9 s9 f9.toNat = 1)))))) ∧ S' = S) := by
  refine Ct.of cal_X4_isLeftOut hfl (Nat.le_of_ble_eq_true rfl) ?_
  intro p e s m args below meth c D sz C ME
  have hR : RCF E0 S S G X := ⟨hC, cF.rf⟩
  have w6 := hC.w6
  unfold wf6 at w6
  refine j_aload_n C dX4_isLeftOut_0 rfl ?_
  refine jg_4_1 C hR (by omega) fl_Ve_23 dX4_isLeftOut_1 ?_
  refine j_bipush C dX4_isLeftOut_4 (by decide) ?_
  refine j_imul C dX4_isLeftOut_6 ?_
  refine j_iload_n C dX4_isLeftOut_7 rfl ?_
  refine j_bipush C dX4_isLeftOut_8 (by decide) ?_
  refine j_idiv C (by omega) (by omega) dX4_isLeftOut_10 ?_
  refine j_iadd C dX4_isLeftOut_11 ?_
  refine j_istore_n C dX4_isLeftOut_12 (by decide) ?_
  refine j_iload_n C dX4_isLeftOut_13 rfl ?_
  refine j_if_lt (tgt := 48) C dX4_isLeftOut_14 (by decide) (by unfold rg at *; omega) (fun c14 => ?_) (fun c14 => ?_)
  · exact absurd c14 (by omega)
  · refine j_iload_n C dX4_isLeftOut_17 rfl ?_
    refine j_aload_n C dX4_isLeftOut_18 rfl ?_
    refine jg_5_2 C hR (by omega) fl_Ve_9 dX4_isLeftOut_19 ?_
    refine jv_len C hR hv dX4_isLeftOut_22 ?_
    refine j_icmp_ge (tgt := 48) C dX4_isLeftOut_23 (by decide) (by unfold rg at *; omega) (by unfold rg at *; omega) (fun c23 => ?_) (fun c23 => ?_)
    · exact absurd c23 (by omega)
    · refine j_aload_n C dX4_isLeftOut_26 rfl ?_
      refine jg_5_2 C hR (by omega) fl_Ve_9 dX4_isLeftOut_27 ?_
      refine j_iload_n C dX4_isLeftOut_30 rfl ?_
      refine jv_ld C hR hv (by omega) dX4_isLeftOut_31 (fun w1 hww1 => ?_)
      have hbit := hww1 (f9.toNat % 64) (by omega)
      refine j_iload_n C dX4_isLeftOut_32 rfl ?_
      refine j_bipush C dX4_isLeftOut_33 (by decide) ?_
      refine j_irem C (by omega) (by omega) dX4_isLeftOut_35 ?_
      rw [show f9 % 64 = ((f9.toNat % 64 : Nat) : Int) by omega]
      refine j_lushr C rfl dX4_isLeftOut_36 ?_
      refine j_lconst (v := 1) C dX4_isLeftOut_37 (by decide) ?_
      refine j_land C dX4_isLeftOut_38 ?_
      rw [lo_bit (by omega)]
      refine j_lconst (v := 0) C dX4_isLeftOut_39 (by decide) ?_
      refine j_lcmp01 C dX4_isLeftOut_40 ?_
      refine j_ifeq_b (tgt := 48) C dX4_isLeftOut_41 (by decide) (fun c41 => ?_) (fun c41 => ?_)
      · refine j_iconst C dX4_isLeftOut_48 ?_
        refine j_zret C ME (by first | exact Or.inl rfl | exact Or.inr rfl | (unfold bN; split <;> simp)) ?_ (by omega) (by omega) dX4_isLeftOut_49
        have hbit2 : X 33 (61440 * v9 + 64 * (s9 * 16 + f9 / 64) + ((f9.toNat % 64 : Nat) : Int)) = bitX X v9 s9 f9.toNat := by unfold bitX; congr 1; omega
        rw [c41, hbit2] at hbit
        exact ⟨rI (by rw [← hbit]; rfl), rfl⟩
      · refine j_iconst C dX4_isLeftOut_44 ?_
        refine j_goto (tgt := 49) C dX4_isLeftOut_45 (by decide) ?_
        refine j_zret C ME (by first | exact Or.inl rfl | exact Or.inr rfl | (unfold bN; split <;> simp)) ?_ (by omega) (by omega) dX4_isLeftOut_49
        have hbit2 : X 33 (61440 * v9 + 64 * (s9 * 16 + f9 / 64) + ((f9.toNat % 64 : Nat) : Int)) = bitX X v9 s9 f9.toNat := by unfold bitX; congr 1; omega
        rw [c41, hbit2] at hbit
        exact ⟨rI (by rw [← hbit]; rfl), rfl⟩

theorem lenSX_b {E : Nat} {S : wS} {G : wG} {X : wM} {v f : Int} (h : RC E S G X) (hv : 0 ≤ v ∧ v < X 21 0) (hf : 0 ≤ f ∧ f < X 1 0) : ∀ {n : Nat}, (n : Int) ≤ X 3 f → -(n * 1024) ≤ lenSX X v f n ∧ lenSX X v f n ≤ n * 1024
  | 0, _ => by simp [lenSX, sumI]
  | n + 1, hn => by
    have h1 := lenSX_b h hv hf (n := n) (by omega)
    have wf := h.w1 hf
    unfold wf1 at wf
    have w6 := h.w6
    unfold wf6 at w6
    have hs := wf.2.2 n (by omega) (by omega)
    have k1 := kept_b h hs
    have k2 := leftX_b h hv (s := X 2 (60 * f + n)) (n := 1024) (by omega) (by omega)
    have e : lenSX X v f (n + 1) = lenSX X v f n + (keptM X (X 2 (60 * f + n)) - leftX X v (X 2 (60 * f + n)) 1024) := rfl
    rw [e]
    omega
theorem lenFX_b {E : Nat} {S : wS} {G : wG} {X : wM} {v f : Int} {n : Nat} (h : RC E S G X) (hf : 0 ≤ f ∧ f < X 1 0) (hn : (n : Int) ≤ X 3 f) : 0 ≤ lenFX X v f n ∧ lenFX X v f n ≤ n * 999 := by
  refine sumI_bound (fun k hk => ?_)
  have wf := h.w1 hf
  unfold wf1 at wf
  have k1 := kept_b h (wf.2.2 k (by omega) (by omega))
  have k2 := @cntX_b X v (X 2 (60 * f + k)) (keptM X (X 2 (60 * f + k))).toNat
  omega
set_option maxHeartbeats 4000000 in
set_option maxRecDepth 100000 in
theorem v_lenS (l : Launch) (hfl : l.stackTraces = false) {S : wS} {E0 : Nat} {G : wG} {X : wM} (hC : RC E0 S G X) {v9 : Int} (hv : 0 ≤ v9 ∧ v9 < X 21 0) : Ct l yX4_lengthByShots cX4_lengthByShots 4 (some FieldType.int) 5 0 0 [.ref (G 5 v9)] S (fun r S' => r = .inl (some (.int (iN (lenSX X v9 (X 19 v9) (X 3 (X 19 v9)).toNat)))) ∧ S' = S) := by
  refine Ct.of cal_X4_lengthByShots hfl (Nat.le_of_ble_eq_true rfl) ?_
  intro p e s m args below meth c D sz C ME
  have hR : RCF E0 S S G X := ⟨hC, cF.rf⟩
  have w5 := hC.w5 hv
  unfold wf5 at w5
  have w6 := hC.w6
  unfold wf6 at w6
  have wf := hC.w1 (i9 := X 19 v9) w5.1
  unfold wf1 at wf
  refine j_iconst C dX4_lengthByShots_0 ?_
  refine j_istore_n C dX4_lengthByShots_1 (by decide) ?_
  refine j_iconst C dX4_lengthByShots_2 ?_
  refine j_istore_n C dX4_lengthByShots_3 (by decide) ?_
  have key : ∀ (fuel : Nat) (i : Nat), X 3 (X 19 v9) - i < fuel → (i : Int) ≤ X 3 (X 19 v9) → J p l e { frames := 20 * 5, cells := 0, slots := 0, locals := 200 * 5 } s m args below meth c 4 D (wA S sz) (wQ below D sz S (fun r S' => r = .inl (some (.int (iN (lenSX X v9 (X 19 v9) (X 3 (X 19 v9)).toNat)))) ∧ S' = S) args s 0 0) 4 [(0, .ref (G 5 v9)), (1, .int (iN (lenSX X v9 (X 19 v9) i))), (2, .int (iN ((i : Nat) : Int)))] [] S 0 0 := by
    intro fuel
    induction fuel with
    | zero => intro i h1 h2; omega
    | succ fuel ih =>
      intro i h1 h2
      have hb := lenSX_b hC hv w5.1 (n := i) (by omega)
      refine j_iload_n C dX4_lengthByShots_4 rfl ?_
      refine j_aload_n C dX4_lengthByShots_5 rfl ?_
      refine jg_5_0 C hR (by omega) fl_Ve_15 dX4_lengthByShots_6 (fun w6 => ?_)
      refine jg_1_0 C hR (by omega) fl_Ve_49 dX4_lengthByShots_9 ?_
      refine j_callV C (z_row l hfl hR.1 (by omega)) cal_Jx4a65c_size_8abf5 vi_Jx4a65c_size_8abf5 ml_Ve_55 (hR.1.q_row (by omega)) ⟨by decide, by decide, rfl⟩ rfl rfl (Nat.le_of_ble_eq_true rfl) ⟨by decide, by decide⟩ ⟨(by first | omega | (dsimp only; omega)), (by first | omega | (dsimp only; omega))⟩ dX4_lengthByShots_12 (fun E S9 h => nomatch h.1) (fun v9 S9 h => ?_)
      obtain ⟨h, h9⟩ := h
      have h9 := h9.symm
      subst h9
      cases h
      refine j_icmp_ge (tgt := 52) C dX4_lengthByShots_15 (by decide) (by unfold rg at *; omega) (by unfold rg at *; omega) (fun c15 => ?_) (fun c15 => ?_)
      · refine j_iload_n C dX4_lengthByShots_52 rfl ?_
        refine j_iret C ME ?_ (by omega) (by omega) dX4_lengthByShots_53
        exact ⟨rI (by rw [show (X 3 (X 19 v9)).toNat = i by omega]), rfl⟩
      · refine j_aload_n C dX4_lengthByShots_18 rfl ?_
        refine jg_5_0 C hR (by omega) fl_Ve_15 dX4_lengthByShots_19 (fun w19 => ?_)
        refine jg_1_0 C hR (by omega) fl_Ve_49 dX4_lengthByShots_22 ?_
        refine j_iload_n C dX4_lengthByShots_25 rfl ?_
        refine j_callV C (g_row l hfl hR.1 (by omega) (by omega)) cal_Jx4a65c_get_915e3 vi_Jx4a65c_get_915e3 ml_Ve_61 (hR.1.q_row (by omega)) ⟨by decide, by decide, rfl⟩ rfl rfl (Nat.le_of_ble_eq_true rfl) ⟨by decide, by decide⟩ ⟨(by first | omega | (dsimp only; omega)), (by first | omega | (dsimp only; omega))⟩ dX4_lengthByShots_26 (fun E S9 h => nomatch h.1) (fun v9 S9 h => ?_)
        obtain ⟨h, h9, w26⟩ := h
        have h9 := h9.symm
        subst h9
        cases h
        refine j_cast (kd := 4) C (hR.1.k4 (by omega)) ⟨by decide, by decide⟩ cl_Ve_24 dX4_lengthByShots_29 ?_
        refine j_astore_n C dX4_lengthByShots_32 (by decide) ?_
        refine j_iload_n C dX4_lengthByShots_33 rfl ?_
        refine j_aload_n C dX4_lengthByShots_34 rfl ?_
        refine j_callV C (k_kept l hfl hR.1 (by omega)) cal_X3_keptFrames vi_X3_keptFrames ml_Ve_65 (hR.1.k4 (by omega)) ⟨by decide, by decide, rfl⟩ rfl rfl (Nat.le_of_ble_eq_true rfl) ⟨by decide, by decide⟩ ⟨(by first | omega | (dsimp only; omega)), (by first | omega | (dsimp only; omega))⟩ dX4_lengthByShots_35 (fun E S9 h => nomatch h.1) (fun v9 S9 h => ?_)
        obtain ⟨h, h9⟩ := h
        have h9 := h9.symm
        subst h9
        cases h
        refine j_aload_n C dX4_lengthByShots_38 rfl ?_
        refine j_aload_n C dX4_lengthByShots_39 rfl ?_
        refine j_callV C (v_left l hfl hR.1 (by omega) (by omega)) cal_X4_leftOutOf vi_X4_leftOutOf ml_Ve_68 (hR.1.k5 (by omega)) ⟨by decide, by decide, rfl⟩ rfl rfl (Nat.le_of_ble_eq_true rfl) ⟨by decide, by decide⟩ ⟨(by first | omega | (dsimp only; omega)), (by first | omega | (dsimp only; omega))⟩ dX4_lengthByShots_40 (fun E S9 h => nomatch h.1) (fun v9 S9 h => ?_)
        obtain ⟨h, h9⟩ := h
        have h9 := h9.symm
        subst h9
        cases h
        refine j_isub C dX4_lengthByShots_43 ?_
        refine j_iadd C dX4_lengthByShots_44 ?_
        refine j_istore_n C dX4_lengthByShots_45 (by decide) ?_
        refine j_iinc C dX4_lengthByShots_46 rfl (by decide) ?_
        refine j_goto (tgt := 4) C dX4_lengthByShots_49 (by decide) ?_
        refine J.lvs (lv' := [(0, .ref (G 5 v9)), (1, .int (iN (lenSX X v9 (X 19 v9) (i + 1)))), (2, .int (iN (((i + 1) : Nat) : Int)))]) ?_ (ih (i + 1) (by omega) (by omega))
        intro q hq; simp only [List.mem_cons, List.not_mem_nil, or_false] at hq; rcases hq with rfl | rfl | rfl <;> rfl
  refine J.lvs (lv' := [(0, .ref (G 5 v9)), (1, .int (iN (lenSX X v9 (X 19 v9) 0))), (2, .int (iN ((0 : Nat) : Int)))]) ?_ (key ((X 3 (X 19 v9)).toNat + 1) 0 (by omega) (by omega))
  intro q hq; simp only [List.mem_cons, List.not_mem_nil, or_false] at hq; rcases hq with rfl | rfl | rfl <;> rfl

set_option maxHeartbeats 4000000 in
set_option maxRecDepth 100000 in
theorem v_lenF (l : Launch) (hfl : l.stackTraces = false) {S : wS} {E0 : Nat} {G : wG} {X : wM} (hC : RC E0 S G X) {v9 : Int} (hv : 0 ≤ v9 ∧ v9 < X 21 0) : Ct l yX4_lengthByFrames cX4_lengthByFrames 6 (some FieldType.int) 5 0 0 [.ref (G 5 v9)] S (fun r S' => r = .inl (some (.int (iN (lenFX X v9 (X 19 v9) (X 3 (X 19 v9)).toNat)))) ∧ S' = S) := by
  refine Ct.of cal_X4_lengthByFrames hfl (Nat.le_of_ble_eq_true rfl) ?_
  intro p e s m args below meth c D sz C ME
  have hR : RCF E0 S S G X := ⟨hC, cF.rf⟩
  have w5 := hC.w5 hv
  unfold wf5 at w5
  have w6 := hC.w6
  unfold wf6 at w6
  have wf := hC.w1 (i9 := X 19 v9) w5.1
  unfold wf1 at wf
  refine j_iconst C dX4_lengthByFrames_0 ?_
  refine j_istore_n C dX4_lengthByFrames_1 (by decide) ?_
  refine j_iconst C dX4_lengthByFrames_2 ?_
  refine j_istore_n C dX4_lengthByFrames_3 (by decide) ?_
  have key : ∀ (fuel : Nat) (i : Nat), X 3 (X 19 v9) - i < fuel → (i : Int) ≤ X 3 (X 19 v9) → J p l e { frames := 20 * 5, cells := 0, slots := 0, locals := 200 * 5 } s m args below meth c 6 D (wA S sz) (wQ below D sz S (fun r S' => r = .inl (some (.int (iN (lenFX X v9 (X 19 v9) (X 3 (X 19 v9)).toNat)))) ∧ S' = S) args s 0 0) 4 [(0, .ref (G 5 v9)), (1, .int (iN (lenFX X v9 (X 19 v9) i))), (2, .int (iN ((i : Nat) : Int)))] [] S 0 0 := by
    intro fuel
    induction fuel with
    | zero => intro i h1 h2; omega
    | succ fuel ih =>
      intro i h1 h2
      have hb := lenFX_b (v := v9) hC w5.1 (n := i) (by omega)
      refine j_iload_n C dX4_lengthByFrames_4 rfl ?_
      refine j_aload_n C dX4_lengthByFrames_5 rfl ?_
      refine jg_5_0 C hR (by omega) fl_Ve_15 dX4_lengthByFrames_6 (fun w6 => ?_)
      refine jg_1_0 C hR (by omega) fl_Ve_49 dX4_lengthByFrames_9 ?_
      refine j_callV C (z_row l hfl hR.1 (by omega)) cal_Jx4a65c_size_8abf5 vi_Jx4a65c_size_8abf5 ml_Ve_55 (hR.1.q_row (by omega)) ⟨by decide, by decide, rfl⟩ rfl rfl (Nat.le_of_ble_eq_true rfl) ⟨by decide, by decide⟩ ⟨(by first | omega | (dsimp only; omega)), (by first | omega | (dsimp only; omega))⟩ dX4_lengthByFrames_12 (fun E S9 h => nomatch h.1) (fun v9 S9 h => ?_)
      obtain ⟨h, h9⟩ := h
      have h9 := h9.symm
      subst h9
      cases h
      refine j_icmp_ge (tgt := 74) C dX4_lengthByFrames_15 (by decide) (by unfold rg at *; omega) (by unfold rg at *; omega) (fun c15 => ?_) (fun c15 => ?_)
      · refine j_iload_n C dX4_lengthByFrames_74 rfl ?_
        refine j_iret C ME ?_ (by omega) (by omega) dX4_lengthByFrames_75
        exact ⟨rI (by rw [show (X 3 (X 19 v9)).toNat = i by omega]), rfl⟩
      · refine j_aload_n C dX4_lengthByFrames_18 rfl ?_
        refine jg_5_0 C hR (by omega) fl_Ve_15 dX4_lengthByFrames_19 (fun w19 => ?_)
        refine jg_1_0 C hR (by omega) fl_Ve_49 dX4_lengthByFrames_22 ?_
        refine j_iload_n C dX4_lengthByFrames_25 rfl ?_
        refine j_callV C (g_row l hfl hR.1 (by omega) (by omega)) cal_Jx4a65c_get_915e3 vi_Jx4a65c_get_915e3 ml_Ve_61 (hR.1.q_row (by omega)) ⟨by decide, by decide, rfl⟩ rfl rfl (Nat.le_of_ble_eq_true rfl) ⟨by decide, by decide⟩ ⟨(by first | omega | (dsimp only; omega)), (by first | omega | (dsimp only; omega))⟩ dX4_lengthByFrames_26 (fun E S9 h => nomatch h.1) (fun v9 S9 h => ?_)
        obtain ⟨h, h9, w26⟩ := h
        have h9 := h9.symm
        subst h9
        cases h
        refine j_cast (kd := 4) C (hR.1.k4 (by omega)) ⟨by decide, by decide⟩ cl_Ve_24 dX4_lengthByFrames_29 ?_
        refine j_astore_n C dX4_lengthByFrames_32 (by decide) ?_
        refine j_aload_n C dX4_lengthByFrames_33 rfl ?_
        refine j_callV C (k_kept l hfl hR.1 (by omega)) cal_X3_keptFrames vi_X3_keptFrames ml_Ve_65 (hR.1.k4 (by omega)) ⟨by decide, by decide, rfl⟩ rfl rfl (Nat.le_of_ble_eq_true rfl) ⟨by decide, by decide⟩ ⟨(by first | omega | (dsimp only; omega)), (by first | omega | (dsimp only; omega))⟩ dX4_lengthByFrames_34 (fun E S9 h => nomatch h.1) (fun v9 S9 h => ?_)
        obtain ⟨h, h9⟩ := h
        have h9 := h9.symm
        subst h9
        cases h
        refine j_istore C dX4_lengthByFrames_37 (by decide) ?_
        refine j_iconst C dX4_lengthByFrames_39 ?_
        refine j_istore C dX4_lengthByFrames_40 (by decide) ?_
        have hkb := kept_b hC w26
        have key2 : ∀ (fuel2 f : Nat), keptM X (X 2 (60 * X 19 v9 + (i : Int))) - f < fuel2 → (f : Int) ≤ keptM X (X 2 (60 * X 19 v9 + (i : Int))) → J p l e { frames := 20 * 5, cells := 0, slots := 0, locals := 200 * 5 } s m args below meth c 6 D (wA S sz) (wQ below D sz S (fun r S' => r = .inl (some (.int (iN (lenFX X v9 (X 19 v9) (X 3 (X 19 v9)).toNat)))) ∧ S' = S) args s 0 0) 42 [(0, .ref (G 5 v9)), (1, .int (iN (lenFX X v9 (X 19 v9) i + cntX X v9 (X 2 (60 * X 19 v9 + (i : Int))) f))), (2, .int (iN ((i : Nat) : Int))), (3, .ref (G 4 (X 2 (60 * X 19 v9 + (i : Int))))), (4, .int (iN (keptM X (X 2 (60 * X 19 v9 + (i : Int)))))), (5, .int (iN ((f : Nat) : Int)))] [] S 0 0 := by
          intro fuel2
          induction fuel2 with
          | zero => intro f g1 g2; omega
          | succ fuel2 ih2 =>
            intro f g1 g2
            have hcb := @cntX_b X v9 (X 2 (60 * X 19 v9 + (i : Int))) f
            refine j_iload C dX4_lengthByFrames_42 rfl ?_
            refine j_iload C dX4_lengthByFrames_44 rfl ?_
            refine j_icmp_ge (tgt := 68) C dX4_lengthByFrames_46 (by decide) (by unfold rg at *; omega) (by unfold rg at *; omega) (fun c46 => ?_) (fun c46 => ?_)
            · refine j_iinc C dX4_lengthByFrames_68 rfl (by decide) ?_
              refine j_goto (tgt := 4) C dX4_lengthByFrames_71 (by decide) ?_
              have e7 : lenFX X v9 (X 19 v9) (i + 1) = lenFX X v9 (X 19 v9) i + cntX X v9 (X 2 (60 * X 19 v9 + (i : Int))) f := by
                rw [show f = (keptM X (X 2 (60 * X 19 v9 + (i : Int)))).toNat by omega]
                rfl
              rw [← e7]
              refine J.lvs (lv' := [(0, .ref (G 5 v9)), (1, .int (iN (lenFX X v9 (X 19 v9) (i + 1)))), (2, .int (iN (((i + 1) : Nat) : Int)))]) ?_ (ih (i + 1) (by omega) (by omega))
              intro q hq; simp only [List.mem_cons, List.not_mem_nil, or_false] at hq; rcases hq with rfl | rfl | rfl <;> rfl
            · refine j_aload_n C dX4_lengthByFrames_49 rfl ?_
              refine j_aload_n C dX4_lengthByFrames_50 rfl ?_
              refine j_iload C dX4_lengthByFrames_51 rfl ?_
              refine j_callV C (v_isleft l hfl hR.1 hv w26 (f9 := (f : Int)) (by omega)) cal_X4_isLeftOut vi_X4_isLeftOut ml_Ve_72 (hR.1.k5 (by omega)) ⟨by decide, by decide, rfl⟩ rfl rfl (Nat.le_of_ble_eq_true rfl) ⟨by decide, by decide⟩ ⟨(by first | omega | (dsimp only; omega)), (by first | omega | (dsimp only; omega))⟩ dX4_lengthByFrames_53 (fun E S9 h => nomatch h.1) (fun v9 S9 h => ?_)
              obtain ⟨h, h9⟩ := h
              have h9 := h9.symm
              subst h9
              cases h
              refine j_ifne_b (tgt := 62) C dX4_lengthByFrames_56 (by decide) (fun c56 => ?_) (fun c56 => ?_)
              · refine j_iinc C dX4_lengthByFrames_62 rfl (by decide) ?_
                refine j_goto (tgt := 42) C dX4_lengthByFrames_65 (by decide) ?_
                have e5 : cntX X v9 (X 2 (60 * X 19 v9 + (i : Int))) (f + 1) = cntX X v9 (X 2 (60 * X 19 v9 + (i : Int))) f + (if bitX X v9 (X 2 (60 * X 19 v9 + (i : Int))) f = 1 then 0 else 1) := rfl
                first
                | (have c56b : bitX X v9 (X 2 (60 * X 19 v9 + (i : Int))) f = 1 := by have := of_decide_eq_true c56; exact this
                   rw [if_pos c56b, Int.add_zero] at e5
                   refine J.lvs (lv' := [(0, .ref (G 5 v9)), (1, .int (iN (lenFX X v9 (X 19 v9) i + cntX X v9 (X 2 (60 * X 19 v9 + (i : Int))) (f + 1)))), (2, .int (iN ((i : Nat) : Int))), (3, .ref (G 4 (X 2 (60 * X 19 v9 + (i : Int))))), (4, .int (iN (keptM X (X 2 (60 * X 19 v9 + (i : Int)))))), (5, .int (iN (((f + 1 : Nat) : Nat) : Int)))]) ?_ (ih2 (f + 1) (by omega) (by omega))
                   rw [e5]
                   intro q hq; simp only [List.mem_cons, List.not_mem_nil, or_false] at hq; rcases hq with rfl | rfl | rfl | rfl | rfl | rfl <;> rfl)
                | (have c56b : ¬ bitX X v9 (X 2 (60 * X 19 v9 + (i : Int))) f = 1 := by have := of_decide_eq_false c56; exact this
                   rw [if_neg c56b] at e5
                   refine J.lvs (lv' := [(0, .ref (G 5 v9)), (1, .int (iN (lenFX X v9 (X 19 v9) i + cntX X v9 (X 2 (60 * X 19 v9 + (i : Int))) (f + 1)))), (2, .int (iN ((i : Nat) : Int))), (3, .ref (G 4 (X 2 (60 * X 19 v9 + (i : Int))))), (4, .int (iN (keptM X (X 2 (60 * X 19 v9 + (i : Int)))))), (5, .int (iN (((f + 1 : Nat) : Nat) : Int)))]) ?_ (ih2 (f + 1) (by omega) (by omega))
                   rw [e5, ← Int.add_assoc]
                   intro q hq; simp only [List.mem_cons, List.not_mem_nil, or_false] at hq; rcases hq with rfl | rfl | rfl | rfl | rfl | rfl <;> rfl)
              · refine j_iinc C dX4_lengthByFrames_59 rfl (by decide) ?_
                refine j_iinc C dX4_lengthByFrames_62 rfl (by decide) ?_
                refine j_goto (tgt := 42) C dX4_lengthByFrames_65 (by decide) ?_
                have e5 : cntX X v9 (X 2 (60 * X 19 v9 + (i : Int))) (f + 1) = cntX X v9 (X 2 (60 * X 19 v9 + (i : Int))) f + (if bitX X v9 (X 2 (60 * X 19 v9 + (i : Int))) f = 1 then 0 else 1) := rfl
                first
                | (have c56b : bitX X v9 (X 2 (60 * X 19 v9 + (i : Int))) f = 1 := by have := of_decide_eq_true c56; exact this
                   rw [if_pos c56b, Int.add_zero] at e5
                   refine J.lvs (lv' := [(0, .ref (G 5 v9)), (1, .int (iN (lenFX X v9 (X 19 v9) i + cntX X v9 (X 2 (60 * X 19 v9 + (i : Int))) (f + 1)))), (2, .int (iN ((i : Nat) : Int))), (3, .ref (G 4 (X 2 (60 * X 19 v9 + (i : Int))))), (4, .int (iN (keptM X (X 2 (60 * X 19 v9 + (i : Int)))))), (5, .int (iN (((f + 1 : Nat) : Nat) : Int)))]) ?_ (ih2 (f + 1) (by omega) (by omega))
                   rw [e5]
                   intro q hq; simp only [List.mem_cons, List.not_mem_nil, or_false] at hq; rcases hq with rfl | rfl | rfl | rfl | rfl | rfl <;> rfl)
                | (have c56b : ¬ bitX X v9 (X 2 (60 * X 19 v9 + (i : Int))) f = 1 := by have := of_decide_eq_false c56; exact this
                   rw [if_neg c56b] at e5
                   refine J.lvs (lv' := [(0, .ref (G 5 v9)), (1, .int (iN (lenFX X v9 (X 19 v9) i + cntX X v9 (X 2 (60 * X 19 v9 + (i : Int))) (f + 1)))), (2, .int (iN ((i : Nat) : Int))), (3, .ref (G 4 (X 2 (60 * X 19 v9 + (i : Int))))), (4, .int (iN (keptM X (X 2 (60 * X 19 v9 + (i : Int)))))), (5, .int (iN (((f + 1 : Nat) : Nat) : Int)))]) ?_ (ih2 (f + 1) (by omega) (by omega))
                   rw [e5, ← Int.add_assoc]
                   intro q hq; simp only [List.mem_cons, List.not_mem_nil, or_false] at hq; rcases hq with rfl | rfl | rfl | rfl | rfl | rfl <;> rfl)
        refine J.lvs (lv' := [(0, .ref (G 5 v9)), (1, .int (iN (lenFX X v9 (X 19 v9) i + cntX X v9 (X 2 (60 * X 19 v9 + (i : Int))) 0))), (2, .int (iN ((i : Nat) : Int))), (3, .ref (G 4 (X 2 (60 * X 19 v9 + (i : Int))))), (4, .int (iN (keptM X (X 2 (60 * X 19 v9 + (i : Int)))))), (5, .int (iN ((0 : Nat) : Int)))]) ?_ (key2 ((keptM X (X 2 (60 * X 19 v9 + (i : Int)))).toNat + 1) 0 (by omega) (by omega))
        intro q hq; simp only [List.mem_cons, List.not_mem_nil, or_false] at hq; rcases hq with rfl | rfl | rfl | rfl | rfl | rfl
        · rfl
        · rw [show lenFX X v9 (X 19 v9) i + cntX X v9 (X 2 (60 * X 19 v9 + (i : Int))) 0 = lenFX X v9 (X 19 v9) i by show _ + 0 = _; omega]; rfl
        · rfl
        · rfl
        · rfl
        · rfl
  refine J.lvs (lv' := [(0, .ref (G 5 v9)), (1, .int (iN (lenFX X v9 (X 19 v9) 0))), (2, .int (iN ((0 : Nat) : Int)))]) ?_ (key ((X 3 (X 19 v9)).toNat + 1) 0 (by omega) (by omega))
  intro q hq; simp only [List.mem_cons, List.not_mem_nil, or_false] at hq; rcases hq with rfl | rfl | rfl <;> rfl

