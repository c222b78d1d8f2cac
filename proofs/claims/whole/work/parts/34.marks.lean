/-! VERSIONS: their bits. -/
theorem RCF.tr {E : Nat} {S0 S S' : wS} {G G' : wG} {X X' : wM} (h : RCF E S0 S G X) (h' : RCF E S S' G' X') : RCF E S0 S' G' X' := ⟨h'.1, h.2.tr h'.2⟩
def bset (X : wM) (v z : Int) (w : Int64) : wM := fun j i => if j = 33 ∧ 61440 * v + 64 * z ≤ i ∧ i < 61440 * v + 64 * z + 64 then bN (w.toBitVec.getLsbD (i - (61440 * v + 64 * z)).toNat) else X j i
theorem bset_o {X : wM} {v z i : Int} {w : Int64} {j : Nat} (h : ¬ (j = 33 ∧ 61440 * v + 64 * z ≤ i ∧ i < 61440 * v + 64 * z + 64)) : bset X v z w j i = X j i := if_neg h
theorem RC.v9 {E : Nat} {S : wS} {G : wG} {X : wM} {v : Int} (h : RC E S G X) (hv : 0 ≤ v ∧ v < X 21 0) : sK S (G 9 v) = 10 ∧ sN S (G 9 v) = 960 ∧ ∀ i : Nat, i < 960 → ∃ w : Int64, sE S 10 (G 9 v) i = .long w ∧ ∀ b : Nat, b < 64 → bN (w.toBitVec.getLsbD b) = X 33 (61440 * v + 64 * i + b) := by
  obtain ⟨T, hT⟩ := h.2
  obtain ⟨a1, a2, a3, a4⟩ := hT.2.2.2.2.2.2.2 v hv.1 hv.2
  exact ⟨a1, a3, a4⟩
theorem RC.bput {E : Nat} {S : wS} {G : wG} {X : wM} {v z : Int} {w : Int64} (h : RC E S G X) (hv : 0 ≤ v ∧ v < X 21 0) (hz : 0 ≤ z ∧ z < 960) : RC E (sPutE S 10 (G 9 v) z.toNat (.long w)) G (bset X v z w) := by
  obtain ⟨hw, T, a1, a2, a3, a4, a5, a6, hl, h9⟩ := h
  obtain ⟨b1, b2, b3, b4⟩ := h9 v hv.1 hv.2
  have K : ∀ c, sK S c ≠ 0 → nT (9, v) (T c) → ceq S (sPutE S 10 (G 9 v) z.toNat (.long w)) c ∧ T c = T c :=
    fun c _ h => ⟨⟨rfl, rfl, fun _ => rfl, fun k i => sE_putE' (fun q => h (by rw [q.2.1]; exact b2))⟩, rfl⟩
  refine ⟨hw, T, a1.kp (by decide) K (fun i => by simp [nT]), a2.kp (by decide) K (fun i => by simp [nT]), a3.kp (by decide) K (fun i => by simp [nT]), a4.kp (by decide) K (fun i => by simp [nT]), a5.kp (by decide) K (fun i => by simp [nT]), a6.kp (by decide) K (fun i => by simp [nT]), hl.kp K (fun j i hj => by intro z; have := congrArg Prod.fst z; have e : j = 9 := this; omega), fun v' g1 g2 => ?_⟩
  obtain ⟨c1, c2, c3, c4⟩ := h9 v' g1 g2
  refine ⟨c1, c2, c3, fun i hi => ?_⟩
  by_cases e : v' = v
  · subst e
    by_cases e2 : i = z.toNat
    · subst e2
      refine ⟨w, sE_putE, fun b hb => ?_⟩
      unfold bset
      rw [if_pos ⟨rfl, by omega, by omega⟩]
      congr 2
      omega
    · obtain ⟨w', q1, q2⟩ := c4 i hi
      refine ⟨w', by rw [sE_putE' (fun q => e2 q.2.2)]; exact q1, fun b hb => ?_⟩
      rw [bset_o (by omega)]
      exact q2 b hb
  · obtain ⟨w', q1, q2⟩ := c4 i hi
    have hne : G 9 v' ≠ G 9 v := fun q => e (by
      have h1 : T (G 9 v') = T (G 9 v) := by rw [q]
      rw [c2, b2] at h1
      exact congrArg Prod.snd h1)
    refine ⟨w', by rw [sE_putE' (fun q => hne q.2.1)]; exact q1, fun b hb => ?_⟩
    rw [bset_o (by omega)]
    exact q2 b hb
section VROWS
variable {p : Program} {l : Launch} {e : Env} {R : Room} {s : State} {m : MethodId} {args : Array Value} {below : List Frame} {meth : Method} {c : Code} {nL : Nat} {D : wD} {A : Nat → Prop} {Q : State → Prop}
variable {cc : ByteArray} {own : String} {pc : Nat} {lv : List (Nat × Value)} {st : List Value} {S0 S : wS} {k n : Nat} {E0 : Nat} {G : wG} {X : wM}
theorem jv_len (C : Cx p l s m args meth c cc nL own D A) (hR : RCF E0 S0 S G X) {v : Int} (hv : 0 ≤ v ∧ v < X 21 0) (d : decode cc pc = .ok (.arraylength, 1)) (kk : J p l e R s m args below meth c nL D A Q (pc + 1) lv (.int (iN 960) :: st) S k n) : J p l e R s m args below meth c nL D A Q pc lv (.ref (G 9 v) :: st) S k n := by
  have h := hR.1.v9 hv
  refine j_alen C h.1 ⟨by decide, by decide⟩ d ?_
  rw [h.2.1]
  exact kk
theorem jv_ld (C : Cx p l s m args meth c cc nL own D A) (hR : RCF E0 S0 S G X) {v z : Int} (hv : 0 ≤ v ∧ v < X 21 0) (hz : 0 ≤ z ∧ z < 960) (d : decode cc pc = .ok (.laload, 1)) (kk : ∀ w : Int64, (∀ b : Nat, b < 64 → bN (w.toBitVec.getLsbD b) = X 33 (61440 * v + 64 * z + b)) → J p l e R s m args below meth c nL D A Q (pc + 1) lv (.long w :: st) S k n) : J p l e R s m args below meth c nL D A Q pc lv (.int (iN z) :: .ref (G 9 v) :: st) S k n := by
  have h := hR.1.v9 hv
  obtain ⟨w, h1, h2⟩ := h.2.2 z.toNat (by omega)
  exact j_lald C h.1 (by rw [h.2.1]; omega) h1 d (kk w (fun b hb => by have := h2 b hb; rw [Int.toNat_of_nonneg hz.1] at this; exact this))
theorem jv_st (C : Cx p l s m args meth c cc nL own D A) (hR : RCF E0 S0 S G X) {v z : Int} {w : Int64} (hv : 0 ≤ v ∧ v < X 21 0) (hz : 0 ≤ z ∧ z < 960) (d : decode cc pc = .ok (.lastore, 1)) (kk : ∀ S', RCF E0 S0 S' G (bset X v z w) → J p l e R s m args below meth c nL D A Q (pc + 1) lv st S' k n) : J p l e R s m args below meth c nL D A Q pc lv (.long w :: .int (iN z) :: .ref (G 9 v) :: st) S k n := by
  have h := hR.1.v9 hv
  exact j_last C h.1 (by rw [h.2.1]; omega) d (kk _ ⟨hR.1.bput hv hz, hR.2.putE h.1 h.2.1⟩)
end VROWS
/-- bits of a shot marked, up to the frame 64 * k -/
def mkK (X : wM) (v s a b : Int) (o : Bool) (k : Int) : wM := fun j i => if j = 33 ∧ (0 ≤ i - (61440 * v + 1024 * s) ∧ i - (61440 * v + 1024 * s) < 64 * k) ∧ a ≤ i - (61440 * v + 1024 * s) ∧ i - (61440 * v + 1024 * s) < b then bN o else X j i
def mkB (X : wM) (v s a b : Int) (o : Bool) (f : Nat) : Int := bN (decide (a ≤ (f : Int) ∧ (f : Int) < b) && (decide (X 33 (61440 * v + 1024 * s + f) = 1) != o))
def mkN (X : wM) (v s a b : Int) (o : Bool) (n : Nat) : Int := sumI (mkB X v s a b o) n
theorem mkN_b {X : wM} {v s a b : Int} {o : Bool} (n : Nat) : 0 ≤ mkN X v s a b o n ∧ mkN X v s a b o n ≤ n * 1 := sumI_bound (fun k _ => by unfold mkB bN; split <;> omega)
theorem bN_1 (b : Bool) : decide (bN b = 1) = b := by cases b <;> rfl
theorem mkN_st {X : wM} {v s a b : Int} {o : Bool} {k : Nat} {x : Int64} (h : ∀ i : Nat, i < 64 → bN (x.toBitVec.getLsbD i) = mkB X v s a b o (64 * k + i)) : mkN X v s a b o (64 * k) + pcL x = mkN X v s a b o (64 * (k + 1)) := by
  unfold mkN pcL
  rw [show 64 * (k + 1) = 64 * k + 64 by omega, sumI_app]
  congr 1
  exact sumI_cong h
/-- one word of a shot's bits -/
theorem mk_word {X : wM} {v s a b : Int} {o : Bool} {k : Nat} {w m x : Int64} (hs : 0 ≤ s ∧ s < 60) (hk : k < 16) (hw : ∀ i : Nat, i < 64 → bN (w.toBitVec.getLsbD i) = mkK X v s a b o k 33 (61440 * v + 64 * (s * 16 + k) + i)) (hm : spX (a - k * 64) (b - k * 64) m) (hx : ∀ i : Nat, i < 64 → x.toBitVec.getLsbD i = (m.toBitVec.getLsbD i && (w.toBitVec.getLsbD i != o))) :
    (∀ i : Nat, i < 64 → bN (x.toBitVec.getLsbD i) = mkB X v s a b o (64 * k + i)) ∧ bset (mkK X v s a b o k) v (s * 16 + k) (w ^^^ x) = mkK X v s a b o ((k + 1 : Nat) : Int) := by
  have e0 : ∀ i : Nat, i < 64 → bN (w.toBitVec.getLsbD i) = X 33 (61440 * v + 1024 * s + (64 * k + i : Nat)) := by
    intro i hi
    rw [hw i hi]
    unfold mkK
    rw [if_neg (by omega)]
    congr 1
    omega
  refine ⟨fun i hi => ?_, ?_⟩
  · rw [hx i hi, hm i hi]
    unfold mkB
    rw [← e0 i hi, bN_1]
    congr 2
    exact decide_eq_decide.mpr (by omega)
  · funext j i
    unfold bset
    by_cases c : j = 33 ∧ 61440 * v + 64 * (s * 16 + (k : Int)) ≤ i ∧ i < 61440 * v + 64 * (s * 16 + (k : Int)) + 64
    · rw [if_pos c]
      obtain ⟨c1, c2, c3⟩ := c
      subst c1
      obtain ⟨f, hf, rfl⟩ : ∃ f : Nat, f < 64 ∧ i = 61440 * v + 64 * (s * 16 + (k : Int)) + f := ⟨(i - (61440 * v + 64 * (s * 16 + (k : Int)))).toNat, by omega, by omega⟩
      rw [show (61440 * v + 64 * (s * 16 + (k : Int)) + (f : Int) - (61440 * v + 64 * (s * 16 + (k : Int)))).toNat = f by omega, Int64.toBitVec_xor, BitVec.getLsbD_xor, hx f hf, hm f hf]
      have e1 := e0 f hf
      unfold mkK
      by_cases d : a ≤ 61440 * v + 64 * (s * 16 + (k : Int)) + (f : Int) - (61440 * v + 1024 * s) ∧ 61440 * v + 64 * (s * 16 + (k : Int)) + (f : Int) - (61440 * v + 1024 * s) < b
      · rw [if_pos ⟨rfl, by omega, d⟩, decide_eq_true (by omega)]
        cases w.toBitVec.getLsbD f <;> cases o <;> rfl
      · rw [if_neg (fun z => d z.2.2), decide_eq_false (by omega)]
        have e2 : (w.toBitVec.getLsbD f ^^ (false && (w.toBitVec.getLsbD f != o))) = w.toBitVec.getLsbD f := by cases w.toBitVec.getLsbD f <;> rfl
        rw [e2, e1]
        congr 1
        omega
    · rw [if_neg c]
      unfold mkK
      by_cases d : j = 33 ∧ (0 ≤ i - (61440 * v + 1024 * s) ∧ i - (61440 * v + 1024 * s) < 64 * (k : Int)) ∧ a ≤ i - (61440 * v + 1024 * s) ∧ i - (61440 * v + 1024 * s) < b
      · rw [if_pos d, if_pos ⟨d.1, by omega, d.2.2⟩]
      · rw [if_neg d, if_neg (fun z => d ⟨z.1, ⟨z.2.1.1, by have := z.2.1.2; omega⟩, z.2.2⟩)]
theorem mkK_0 {X : wM} {v s a b : Int} {o : Bool} : mkK X v s a b o ((0 : Nat) : Int) = X := by
  funext j i
  unfold mkK
  rw [if_neg (by omega)]
theorem mk_F {w m : Int64} {i : Nat} : (m &&& w).toBitVec.getLsbD i = (m.toBitVec.getLsbD i && (w.toBitVec.getLsbD i != false)) := by
  rw [Int64.toBitVec_and, BitVec.getLsbD_and]
  cases w.toBitVec.getLsbD i <;> rfl
theorem mk_T {w m : Int64} {i : Nat} (hi : i < 64) : (m &&& (w ^^^ (-1))).toBitVec.getLsbD i = (m.toBitVec.getLsbD i && (w.toBitVec.getLsbD i != true)) := by
  rw [Int64.toBitVec_and, BitVec.getLsbD_and, Int64.toBitVec_xor, BitVec.getLsbD_xor, m1_bit i hi]
theorem ld_same {w w' : Int64} {B : Nat → Int} (h : ∀ b : Nat, b < 64 → bN (w.toBitVec.getLsbD b) = B b) (h' : ∀ b : Nat, b < 64 → bN (w'.toBitVec.getLsbD b) = B b) : w = w' := by
  apply Int64.toBitVec_inj.mp
  apply BitVec.eq_of_getLsbD_eq
  intro i hi
  have e := (h i hi).trans (h' i hi).symm
  cases a : w.toBitVec.getLsbD i <;> cases b : w'.toBitVec.getLsbD i <;> rw [a, b] at e <;> first | rfl | (simp [bN] at e)

set_option maxHeartbeats 4000000 in
set_option maxRecDepth 100000 in
theorem v_mark (l : Launch) (hfl : l.stackTraces = false) {S : wS} {E0 : Nat} {G : wG} {X : wM} (hC : RC E0 S G X) {v9 s9 a9 b9 : Int} {o9 : Bool} (hv : 0 ≤ v9 ∧ v9 < X 21 0) (hs : 0 ≤ s9 ∧ s9 < X 12 0) (ha : -100000 ≤ a9 ∧ a9 ≤ 100000) (hb9 : -100000 ≤ b9 ∧ b9 ≤ 100000) : Ct l yX4_mark cX4_mark 12 (some FieldType.int) 3 0 0 [.ref (G 5 v9), .ref (G 4 s9), .int (iN a9), .int (iN b9), .int (iN (bN o9))] S (fun r S' => r = .inl (some (.int (iN (mkN X v9 s9 a9 b9 o9 1024)))) ∧ RCF E0 S S' G (mkK X v9 s9 a9 b9 o9 16)) := by
  refine Ct.of cal_X4_mark hfl (Nat.le_of_ble_eq_true rfl) ?_
  intro p e s m args below meth c D sz C ME
  have w6 := hC.w6
  unfold wf6 at w6
  refine j_iconst C dX4_mark_0 ?_
  refine j_istore C dX4_mark_1 (by decide) ?_
  refine j_iconst C dX4_mark_3 ?_
  refine j_istore C dX4_mark_4 (by decide) ?_
  have key : ∀ (fuel : Nat) (i : Nat) (S2 : wS), 16 - i < fuel → i ≤ 16 → RCF E0 S S2 G (mkK X v9 s9 a9 b9 o9 (i : Int)) → J p l e { frames := 20 * 3, cells := 0, slots := 0, locals := 200 * 3 } s m args below meth c 12 D (wA S sz) (wQ below D sz S (fun r S' => r = .inl (some (.int (iN (mkN X v9 s9 a9 b9 o9 1024)))) ∧ RCF E0 S S' G (mkK X v9 s9 a9 b9 o9 16)) args s 0 0) 6 [(0, .ref (G 5 v9)), (1, .ref (G 4 s9)), (2, .int (iN a9)), (3, .int (iN b9)), (4, .int (iN (bN o9))), (5, .int (iN (mkN X v9 s9 a9 b9 o9 (64 * i)))), (6, .int (iN ((i : Nat) : Int)))] [] S2 0 0 := by
    intro fuel
    induction fuel with
    | zero => intro i S2 h1 h2 hR; omega
    | succ fuel ih =>
      intro i S2 h1 h2 hR
      have hb := @mkN_b X v9 s9 a9 b9 o9 (64 * i)
      refine j_iload C dX4_mark_6 rfl ?_
      have hs2 : 0 ≤ s9 ∧ s9 < mkK X v9 s9 a9 b9 o9 (i : Int) 12 0 := hs
      have hv2 : 0 ≤ v9 ∧ v9 < mkK X v9 s9 a9 b9 o9 (i : Int) 21 0 := hv
      refine j_bipush C dX4_mark_8 (by decide) ?_
      refine j_icmp_ge (tgt := 118) C dX4_mark_10 (by decide) (by unfold rg at *; omega) (by unfold rg at *; omega) (fun c10 => ?_) (fun c10 => ?_)
      · refine j_iload C dX4_mark_118 rfl ?_
        refine j_iret C ME ?_ (by omega) (by omega) dX4_mark_120
        have e : i = 16 := by omega
        subst e
        exact ⟨rfl, hR⟩
      · refine j_aload_n C dX4_mark_13 rfl ?_
        refine jg_4_1 C hR hs2 fl_Ve_23 dX4_mark_14 ?_
        refine j_bipush C dX4_mark_17 (by decide) ?_
        refine j_imul C dX4_mark_19 ?_
        refine j_iload C dX4_mark_20 rfl ?_
        refine j_iadd C dX4_mark_22 ?_
        refine j_istore C dX4_mark_23 (by decide) ?_
        refine j_iload_n C dX4_mark_25 rfl ?_
        refine j_iload C dX4_mark_26 rfl ?_
        refine j_bipush C dX4_mark_28 (by decide) ?_
        refine j_imul C dX4_mark_30 ?_
        refine j_isub C dX4_mark_31 ?_
        refine j_iload_n C dX4_mark_32 rfl ?_
        refine j_iload C dX4_mark_33 rfl ?_
        refine j_bipush C dX4_mark_35 (by decide) ?_
        refine j_imul C dX4_mark_37 ?_
        refine j_isub C dX4_mark_38 ?_
        refine j_callS C (c_span l hfl (by unfold rg; omega) (by unfold rg; omega)) cal_X4_bitsBetween st_X4_bitsBetween ml_Ve_28 rfl rfl (Nat.le_of_ble_eq_true rfl) ⟨by decide, by decide⟩ ⟨(by first | omega | (dsimp only; omega)), (by first | omega | (dsimp only; omega))⟩ dX4_mark_39 (fun E S9 h => by obtain ⟨⟨m, h, -⟩, -⟩ := h; exact nomatch h) (fun v9 S9 h => ?_)
        obtain ⟨⟨m9, h, hm9⟩, h9⟩ := h
        have h9 := h9.symm
        subst h9
        cases h
        refine j_lstore C dX4_mark_42 (by decide) ?_
        refine j_iload C dX4_mark_44 rfl ?_
        refine j_if_lt (tgt := 112) C dX4_mark_46 (by decide) (by unfold rg at *; omega) (fun c46 => ?_) (fun c46 => ?_)
        · exact absurd c46 (by omega)
        · refine j_iload C dX4_mark_49 rfl ?_
          refine j_aload_n C dX4_mark_51 rfl ?_
          refine jg_5_2 C hR hv2 fl_Ve_9 dX4_mark_52 ?_
          refine jv_len C hR hv2 dX4_mark_55 ?_
          refine j_icmp_ge (tgt := 112) C dX4_mark_56 (by decide) (by unfold rg at *; omega) (by unfold rg at *; omega) (fun c56 => ?_) (fun c56 => ?_)
          · exact absurd c56 (by omega)
          · refine j_lload C dX4_mark_59 rfl ?_
            refine j_iload C dX4_mark_61 rfl ?_
            refine j_ifeq_b (tgt := 80) C dX4_mark_63 (by decide) (fun c63 => ?_) (fun c63 => ?_)
            · refine j_aload_n C dX4_mark_80 rfl ?_
              refine jg_5_2 C hR hv2 fl_Ve_9 dX4_mark_81 ?_
              refine j_iload C dX4_mark_84 rfl ?_
              refine jv_ld C hR hv2 (by omega) dX4_mark_86 (fun w1 hww1 => ?_)
              refine j_land C dX4_mark_87 ?_
              refine j_lstore C dX4_mark_88 (by decide) ?_
              refine j_aload_n C dX4_mark_90 rfl ?_
              refine jg_5_2 C hR hv2 fl_Ve_9 dX4_mark_91 ?_
              refine j_iload C dX4_mark_94 rfl ?_
              refine j_dup2 C dX4_mark_96 rfl rfl ?_
              refine jv_ld C hR hv2 (by omega) dX4_mark_97 (fun w2 hww2 => ?_)
              have ew := ld_same hww2 hww1
              subst ew
              refine j_lload C dX4_mark_98 rfl ?_
              refine j_lxor C dX4_mark_100 ?_
              obtain ⟨hX1, hX2⟩ := mk_word (by omega) (by omega) hww1 hm9 (fun i hi => by first | (rw [c63]; exact mk_F) | (rw [c63]; exact mk_T hi))
              refine jv_st C hR hv2 (by omega) dX4_mark_101 (fun S2 hR => ?_)
              refine j_iload C dX4_mark_102 rfl ?_
              refine j_lload C dX4_mark_104 rfl ?_
              refine j_callS C (c_bitCount l hfl) cal_J13_bitCount_95d88 st_J13_bitCount_95d88 ml_Ve_34 rfl rfl (Nat.le_of_ble_eq_true rfl) ⟨by decide, by decide⟩ ⟨(by first | omega | (dsimp only; omega)), (by first | omega | (dsimp only; omega))⟩ dX4_mark_106 (fun E S9 h => nomatch h.1) (fun v9 S9 h => ?_)
              obtain ⟨h, h9⟩ := h
              have h9 := h9.symm
              subst h9
              cases h
              refine j_iadd C dX4_mark_109 ?_
              refine j_istore C dX4_mark_110 (by decide) ?_
              refine j_iinc C dX4_mark_112 rfl (by decide) ?_
              refine j_goto (tgt := 6) C dX4_mark_115 (by decide) ?_
              rw [mkN_st hX1]
              refine J.lvs (lv' := [(0, .ref (G 5 v9)), (1, .ref (G 4 s9)), (2, .int (iN a9)), (3, .int (iN b9)), (4, .int (iN (bN o9))), (5, .int (iN (mkN X v9 s9 a9 b9 o9 (64 * (i + 1))))), (6, .int (iN (((i + 1) : Nat) : Int)))]) ?_ (ih (i + 1) S2 (by omega) (by omega) (by rw [← hX2]; exact hR))
              intro q hq; simp only [List.mem_cons, List.not_mem_nil, or_false] at hq; rcases hq with rfl | rfl | rfl | rfl | rfl | rfl | rfl <;> rfl
            · refine j_aload_n C dX4_mark_66 rfl ?_
              refine jg_5_2 C hR hv2 fl_Ve_9 dX4_mark_67 ?_
              refine j_iload C dX4_mark_70 rfl ?_
              refine jv_ld C hR hv2 (by omega) dX4_mark_72 (fun w1 hww1 => ?_)
              refine j_ldc2 C kc_Ve_32 dX4_mark_73 ?_
              refine j_lxor C dX4_mark_76 ?_
              refine j_goto (tgt := 87) C dX4_mark_77 (by decide) ?_
              refine j_land C dX4_mark_87 ?_
              refine j_lstore C dX4_mark_88 (by decide) ?_
              refine j_aload_n C dX4_mark_90 rfl ?_
              refine jg_5_2 C hR hv2 fl_Ve_9 dX4_mark_91 ?_
              refine j_iload C dX4_mark_94 rfl ?_
              refine j_dup2 C dX4_mark_96 rfl rfl ?_
              refine jv_ld C hR hv2 (by omega) dX4_mark_97 (fun w2 hww2 => ?_)
              have ew := ld_same hww2 hww1
              subst ew
              refine j_lload C dX4_mark_98 rfl ?_
              refine j_lxor C dX4_mark_100 ?_
              obtain ⟨hX1, hX2⟩ := mk_word (by omega) (by omega) hww1 hm9 (fun i hi => by first | (rw [c63]; exact mk_F) | (rw [c63]; exact mk_T hi))
              refine jv_st C hR hv2 (by omega) dX4_mark_101 (fun S2 hR => ?_)
              refine j_iload C dX4_mark_102 rfl ?_
              refine j_lload C dX4_mark_104 rfl ?_
              refine j_callS C (c_bitCount l hfl) cal_J13_bitCount_95d88 st_J13_bitCount_95d88 ml_Ve_34 rfl rfl (Nat.le_of_ble_eq_true rfl) ⟨by decide, by decide⟩ ⟨(by first | omega | (dsimp only; omega)), (by first | omega | (dsimp only; omega))⟩ dX4_mark_106 (fun E S9 h => nomatch h.1) (fun v9 S9 h => ?_)
              obtain ⟨h, h9⟩ := h
              have h9 := h9.symm
              subst h9
              cases h
              refine j_iadd C dX4_mark_109 ?_
              refine j_istore C dX4_mark_110 (by decide) ?_
              refine j_iinc C dX4_mark_112 rfl (by decide) ?_
              refine j_goto (tgt := 6) C dX4_mark_115 (by decide) ?_
              rw [mkN_st hX1]
              refine J.lvs (lv' := [(0, .ref (G 5 v9)), (1, .ref (G 4 s9)), (2, .int (iN a9)), (3, .int (iN b9)), (4, .int (iN (bN o9))), (5, .int (iN (mkN X v9 s9 a9 b9 o9 (64 * (i + 1))))), (6, .int (iN (((i + 1) : Nat) : Int)))]) ?_ (ih (i + 1) S2 (by omega) (by omega) (by rw [← hX2]; exact hR))
              intro q hq; simp only [List.mem_cons, List.not_mem_nil, or_false] at hq; rcases hq with rfl | rfl | rfl | rfl | rfl | rfl | rfl <;> rfl
  refine J.lvs (lv' := [(0, .ref (G 5 v9)), (1, .ref (G 4 s9)), (2, .int (iN a9)), (3, .int (iN b9)), (4, .int (iN (bN o9))), (5, .int (iN (mkN X v9 s9 a9 b9 o9 (64 * 0)))), (6, .int (iN ((0 : Nat) : Int)))]) ?_ (key (17) 0 S (by omega) (by omega) (by rw [mkK_0]; exact ⟨hC, cF.rf⟩))
  intro q hq; simp only [List.mem_cons, List.not_mem_nil, or_false] at hq; rcases hq with rfl | rfl | rfl | rfl | rfl | rfl | rfl <;> rfl

