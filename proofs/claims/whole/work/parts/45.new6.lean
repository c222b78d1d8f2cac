/-! THE REFERENCE's constructor. -/
/-- a reference half built: its rows below b stand -/
def RP (S0 S : wS) (o : Nat) (B : Nat → Nat) (b : Nat) (v : Int) : Prop := sK S o = 7 ∧
  (∀ j, j < b → 0 < mLen j → sG S (448 + j) o = .ref (B j) ∧ sK S (B j) = mKd j ∧ sN S (B j) = mLen j ∧ (∀ i : Nat, i < mLen j → sE S (mKd j) (B j) i = .int (iN 0)) ∧ sK S0 (B j) = 0) ∧
  (∀ j j', j < b → j' < b → 0 < mLen j → 0 < mLen j' → B j = B j' → j = j') ∧
  (∀ j, j < 30 → mLen j = 0 → sG S (448 + j) o = .int (iN (if j = 18 then v else 0))) ∧ sG S 478 o = .long (iL 0) ∧ ∀ c, sK S0 c ≠ 0 → c ≠ o → ceq S0 S c
theorem RP.new {S0 S : wS} {o a : Nat} {B : Nat → Nat} {b : Nat} {v : Int} (h : RP S0 S o B b v) {j : Nat} (hl : 0 < mLen j) (hb : b ≤ j) (hg : ∀ j', j' < j → b ≤ j' → mLen j' = 0) (ha : sK S a = 0) : RP S0 (sPut (sNewA S (mKd j) a (mLen j) (fun _ => .int (iN 0))) (64 * 7 + j) o (.ref a)) o (fun j' => if j' = j then a else B j') (j + 1) v := by
  obtain ⟨h1, h2, h3, h4, h5, h6⟩ := h
  have hj := mLen_lt hl
  have hao : a ≠ o := fun z => by rw [z, h1] at ha; omega
  have hold : ∀ j', j' < b → 0 < mLen j' → B j' ≠ a := fun j' q1 q2 z => by
    have := (h2 j' q1 q2).2.1
    rw [z, ha] at this
    unfold mKd at this
    split at this <;> omega
  have hlt : ∀ j', j' < j + 1 → 0 < mLen j' → j' ≠ j → j' < b := fun j' q1 q2 q3 => by
    rcases Nat.lt_or_ge j' b with g | g
    · exact g
    · have := hg j' (by omega) g
      omega
  have hz0 : sK S0 a = 0 := by
    rcases Nat.eq_zero_or_pos (sK S0 a) with z | z
    · exact z
    · have := (h6 a (by omega) hao).1
      omega
  refine ⟨?_, fun j' q1 q2 => ?_, fun j1 j2 q1 q2 q3 q4 q5 => ?_, fun j' q1 q2 => ?_, ?_, fun c q1 q2 => ?_⟩
  · simp only [sK_put]; exact (sK_newA' hao.symm).trans h1
  · by_cases e : j' = j
    · subst e
      dsimp only
      rw [if_pos rfl]
      refine ⟨?_, ?_, ?_, fun i hi => ?_, hz0⟩
      · exact sG_put2.trans (if_pos ⟨by omega, rfl⟩)
      · simp only [sK_put]; exact sK_newA
      · simp only [sN_put]; exact sN_newA
      · simp only [sE_put]; exact sE_newA
    · dsimp only
      rw [if_neg e]
      obtain ⟨g1, g2, g3, g4, g5⟩ := h2 j' (hlt j' q1 q2 e) q2
      have hne := hold j' (hlt j' q1 q2 e) q2
      refine ⟨?_, ?_, ?_, fun i hi => ?_, g5⟩
      · exact (sG_put2.trans (if_neg (fun z => e (by omega)))).trans g1
      · simp only [sK_put]; exact (sK_newA' hne).trans g2
      · simp only [sN_put]; exact (sN_newA' hne).trans g3
      · simp only [sE_put]; exact (sE_newA' hne).trans (g4 i hi)
  · dsimp only at q5
    by_cases e1 : j1 = j
    · by_cases e2 : j2 = j
      · rw [e1, e2]
      · rw [if_pos e1, if_neg e2] at q5
        exact absurd q5.symm (hold j2 (hlt j2 q2 q4 e2) q4)
    · by_cases e2 : j2 = j
      · rw [if_neg e1, if_pos e2] at q5
        exact absurd q5 (hold j1 (hlt j1 q1 q3 e1) q3)
      · rw [if_neg e1, if_neg e2] at q5
        exact h3 j1 j2 (hlt j1 q1 q3 e1) (hlt j2 q2 q4 e2) q3 q4 q5
  · refine (sG_put2.trans (if_neg (fun z => ?_))).trans (h4 j' q1 q2)
    have : j' = j := by omega
    rw [this] at q2
    omega
  · exact (sG_put2.trans (if_neg (fun z => by
      have : j = 30 := by omega
      rw [this] at hl
      exact absurd hl (by decide)))).trans h5
  · have hca : c ≠ a := fun z => q1 (by rw [z]; exact hz0)
    refine (h6 c q1 q2).tr ⟨?_, ?_, fun f => ?_, fun k i => ?_⟩
    · simp only [sK_put]; exact sK_newA' hca
    · simp only [sN_put]; exact sN_newA' hca
    · exact sG_put2.trans (if_neg (fun z => q2 z.2))
    · simp only [sE_put]; exact sE_newA' hca
theorem RP.lim {S0 S : wS} {o : Nat} {B : Nat → Nat} {b : Nat} {v w : Int} (h : RP S0 S o B b v) : RP S0 (sPut S (64 * 7 + 18) o (.int (iN w))) o B b w := by
  obtain ⟨h1, h2, h3, h4, h5, h6⟩ := h
  refine ⟨h1, fun j' q1 q2 => ?_, h3, fun j' q1 q2 => ?_, ?_, fun c q1 q2 => ?_⟩
  · obtain ⟨g1, g2, g3, g4, g5⟩ := h2 j' q1 q2
    refine ⟨(sG_put2.trans (if_neg (fun z => ?_))).trans g1, g2, g3, g4, g5⟩
    have : j' = 18 := by omega
    rw [this] at q2
    exact absurd q2 (by decide)
  · by_cases e : j' = 18
    · rw [if_pos e]
      exact sG_put2.trans (if_pos ⟨by omega, rfl⟩)
    · rw [if_neg e]
      have := h4 j' q1 q2
      rw [if_neg e] at this
      exact (sG_put2.trans (if_neg (fun z => e (by omega)))).trans this
  · exact (sG_put2.trans (if_neg (fun z => by omega))).trans h5
  · exact (h6 c q1 q2).tr ⟨rfl, rfl, fun f => sG_put2.trans (if_neg (fun z => q2 z.2)), fun _ _ => rfl⟩
theorem RP.end {S0 S : wS} {o : Nat} {B : Nat → Nat} (h : RP S0 S o B 31 10) : RM S o B M0 := by
  obtain ⟨h1, h2, h3, h4, h5, h6⟩ := h
  refine ⟨h1, fun j hj => ?_, fun j q1 q2 => h4 j q1 q2, h5, fun j j' q1 q2 => h3 j j' (mLen_lt q1) (mLen_lt q2) q1 q2⟩
  obtain ⟨g1, g2, g3, g4, g5⟩ := h2 j (mLen_lt hj) hj
  refine ⟨g1, g2, g3, fun i hi => ?_⟩
  have : ¬ j = 18 := fun z => by rw [z] at hj; exact absurd hj (by decide)
  show _ = Value.int (iN (if j = 18 then 10 else 0))
  rw [if_neg this]
  exact g4 i hi
section CORE45
variable {p : Program} {l : Launch} {e : Env} {R : Room} {s : State} {m : MethodId} {args : Array Value} {below : List Frame} {meth : Method} {c : Code} {nL : Nat} {D : wD} {Q : State → Prop}
variable {cc : ByteArray} {own : String} {pc : Nat} {lv : List (Nat × Value)} {st : List Value} {S0 S : wS} {k n sz mc ms : Nat} {Post : wR → wS → Prop} {A : Nat → Prop}
variable {o : Nat} {B : Nat → Nat} {b : Nat} {v : Int}
theorem mRow {j a : Nat} (hl : 0 < mLen j) (hj : j < 31) : ((kC 7).2.1 j).2.2.2 = true ∧ ((kC 7).2.1 j).1 = RX6 ∧ narrow (kT 7 j) (.ref a) = .ref a ∧ fits (kT 7 j) (.ref a) = true := by
  have h : ∀ j, j < 31 → 0 < mLen j → ((kC 7).2.1 j).2.2.2 = true ∧ ((kC 7).2.1 j).1 = RX6 ∧ (kT 7 j = .array .int ∨ kT 7 j = .array .boolean) := by decide
  obtain ⟨h1, h2, h3⟩ := h j hj hl
  refine ⟨h1, h2, ?_⟩
  rcases h3 with h3 | h3 <;> rw [h3] <;> exact ⟨rfl, rfl⟩
/-- newarray; putfield -/
theorem j_mka (C : Cx p l s m args meth c cc nL RX6 D A) (hin : meth.name = "<init>") {j idx : Nat} (hP : RP S0 S o B b v) (hf : FL RX6 idx 7 j) (hl : 0 < mLen j) (hb : b ≤ j) (hg : ∀ j', j' < j → b ≤ j' → mLen j' = 0) (h27 : mKd j = 9) {z : Int} (hz : z = (mLen j : Int))
    (hR : k + 1 ≤ R.cells ∧ n + mLen j ≤ R.slots) (d : decode cc pc = .ok (.newarray .int, 2)) (d2 : decode cc (pc + 2) = .ok (.putfield idx, 3)) (kk : ∀ (B' : Nat → Nat) (S' : wS), RP S0 S' o B' (j + 1) v → J p l e R s m args below meth c nL D A Q (pc + 2 + 3) lv st S' (k + 1) (n + mLen j)) : J p l e R s m args below meth c nL D A Q pc lv (.int (iN z) :: .ref o :: st) S k n := by
  have hle := mLen_le j
  have hzn : z.toNat = mLen j := by omega
  obtain ⟨g1, g2, g3⟩ := mRow (a := 0) hl (mLen_lt hl)
  refine j_newa C (kd := 9) (ty := .int) ⟨by decide, by decide⟩ rfl rfl ac_int (fun U cA h h2 => Option.some.inj (h2.symm.trans h)) ⟨by omega, by omega⟩ (by rw [hzn]; show mLen j * 4 ≤ _; omega) ⟨hR.1, by rw [hzn]; exact hR.2⟩ d (fun a ha hae => ?_)
  rw [hzn]
  have hao : a ≠ o := fun q => by rw [q, hP.1] at ha; omega
  obtain ⟨g1, g2, g3⟩ := mRow (a := a) hl (mLen_lt hl)
  have h := hP.new hl hb hg ha
  rw [h27] at h
  exact j_putF C hin hf ((sK_newA' hao.symm).trans hP.1) ⟨by decide, by decide, Nat.lt_of_lt_of_le (mLen_lt hl) (by decide)⟩ g1 g2 g3.1 g3.2 d2 (kk _ _ h)
theorem j_mkz (C : Cx p l s m args meth c cc nL RX6 D A) (hin : meth.name = "<init>") {idx : Nat} (hP : RP S0 S o B b v) (hf : FL RX6 idx 7 27) (hb : b ≤ 27) (hg : ∀ j', j' < 27 → b ≤ j' → mLen j' = 0)
    (hR : k + 1 ≤ R.cells ∧ n + 20 ≤ R.slots) (d : decode cc pc = .ok (.newarray .boolean, 2)) (d2 : decode cc (pc + 2) = .ok (.putfield idx, 3)) (kk : ∀ (B' : Nat → Nat) (S' : wS), RP S0 S' o B' 28 v → J p l e R s m args below meth c nL D A Q (pc + 2 + 3) lv st S' (k + 1) (n + 20)) : J p l e R s m args below meth c nL D A Q pc lv (.int (iN 20) :: .ref o :: st) S k n := by
  refine j_newa C (kd := 11) (ty := .boolean) ⟨by decide, by decide⟩ rfl rfl ac_boolean (fun U cA h h2 => Option.some.inj (h2.symm.trans h)) ⟨by decide, by decide⟩ (by decide) ⟨hR.1, hR.2⟩ d (fun a ha hae => ?_)
  have hao : a ≠ o := fun q => by rw [q, hP.1] at ha; omega
  obtain ⟨g1, g2, g3⟩ := mRow (j := 27) (a := a) (by decide) (by decide)
  exact j_putF C hin hf ((sK_newA' hao.symm).trans hP.1) ⟨by decide, by decide, by decide⟩ g1 g2 g3.1 g3.2 d2 (kk _ _ (hP.new (j := 27) (by decide) hb hg ha))
end CORE45
set_option maxHeartbeats 4000000 in
set_option maxRecDepth 100000 in
theorem p_new6 (l : Launch) (hfl : l.stackTraces = false) {S : wS} {q9 : Nat} (hk : sK S q9 = 7) (h0 : ∀ j, j < 30 → mLen j = 0 → sG S (448 + j) q9 = .int (iN 0)) (h30 : sG S 478 q9 = .long (iL 0)) : Ct l yX6_init cX6_init 1 none 4 30 26000 [.ref q9] S (fun r S' => r = .inl none ∧ (∃ B, RM S' q9 B M0) ∧ ∀ c, sK S c ≠ 0 → c ≠ q9 → ceq S S' c) := by
  refine Ct.of cal_X6_init hfl (Nat.le_of_ble_eq_true rfl) ?_
  intro p e s m args below meth c D sz C ME
  have hP : RP S S q9 (fun _ => 0) 0 0 := ⟨hk, fun j hj => absurd hj (Nat.not_lt_zero j), fun j j' hj => absurd hj (Nat.not_lt_zero j), fun j q1 q2 => by rw [h0 j q1 q2]; split <;> rfl, h30, fun c h1 h2 => ceq.rf⟩
  refine j_aload_n C dX6_init_0 rfl ?_
  refine j_objInit C ml_Mo_1 ⟨by decide, by decide⟩ dX6_init_1 ?_
  refine j_aload_n C dX6_init_4 rfl ?_
  refine j_sipush C dX6_init_5 (by decide) ?_
  refine j_mka C ME.1 (j := 2) hP fl_Mo_7 (by decide) (by decide) (by decide) rfl rfl ⟨(Nat.le_of_ble_eq_true rfl), (Nat.le_of_ble_eq_true rfl)⟩ dX6_init_8 dX6_init_10 (fun B9 S9 hP => ?_)
  refine j_aload_n C dX6_init_13 rfl ?_
  refine j_bipush C dX6_init_14 (by decide) ?_
  refine j_mka C ME.1 (j := 3) hP fl_Mo_13 (by decide) (by decide) (by decide) rfl rfl ⟨(Nat.le_of_ble_eq_true rfl), (Nat.le_of_ble_eq_true rfl)⟩ dX6_init_16 dX6_init_18 (fun B9 S9 hP => ?_)
  refine j_aload_n C dX6_init_21 rfl ?_
  refine j_bipush C dX6_init_22 (by decide) ?_
  refine j_mka C ME.1 (j := 4) hP fl_Mo_16 (by decide) (by decide) (by decide) rfl rfl ⟨(Nat.le_of_ble_eq_true rfl), (Nat.le_of_ble_eq_true rfl)⟩ dX6_init_24 dX6_init_26 (fun B9 S9 hP => ?_)
  refine j_aload_n C dX6_init_29 rfl ?_
  refine j_bipush C dX6_init_30 (by decide) ?_
  refine j_mka C ME.1 (j := 5) hP fl_Mo_19 (by decide) (by decide) (by decide) rfl rfl ⟨(Nat.le_of_ble_eq_true rfl), (Nat.le_of_ble_eq_true rfl)⟩ dX6_init_32 dX6_init_34 (fun B9 S9 hP => ?_)
  refine j_aload_n C dX6_init_37 rfl ?_
  refine j_bipush C dX6_init_38 (by decide) ?_
  refine j_mka C ME.1 (j := 6) hP fl_Mo_22 (by decide) (by decide) (by decide) rfl rfl ⟨(Nat.le_of_ble_eq_true rfl), (Nat.le_of_ble_eq_true rfl)⟩ dX6_init_40 dX6_init_42 (fun B9 S9 hP => ?_)
  refine j_aload_n C dX6_init_45 rfl ?_
  refine j_bipush C dX6_init_46 (by decide) ?_
  refine j_mka C ME.1 (j := 7) hP fl_Mo_25 (by decide) (by decide) (by decide) rfl rfl ⟨(Nat.le_of_ble_eq_true rfl), (Nat.le_of_ble_eq_true rfl)⟩ dX6_init_48 dX6_init_50 (fun B9 S9 hP => ?_)
  refine j_aload_n C dX6_init_53 rfl ?_
  refine j_bipush C dX6_init_54 (by decide) ?_
  refine j_mka C ME.1 (j := 8) hP fl_Mo_28 (by decide) (by decide) (by decide) rfl rfl ⟨(Nat.le_of_ble_eq_true rfl), (Nat.le_of_ble_eq_true rfl)⟩ dX6_init_56 dX6_init_58 (fun B9 S9 hP => ?_)
  refine j_aload_n C dX6_init_61 rfl ?_
  refine j_bipush C dX6_init_62 (by decide) ?_
  refine j_mka C ME.1 (j := 9) hP fl_Mo_31 (by decide) (by decide) (by decide) rfl rfl ⟨(Nat.le_of_ble_eq_true rfl), (Nat.le_of_ble_eq_true rfl)⟩ dX6_init_64 dX6_init_66 (fun B9 S9 hP => ?_)
  refine j_aload_n C dX6_init_69 rfl ?_
  refine j_bipush C dX6_init_70 (by decide) ?_
  refine j_mka C ME.1 (j := 10) hP fl_Mo_34 (by decide) (by decide) (by decide) rfl rfl ⟨(Nat.le_of_ble_eq_true rfl), (Nat.le_of_ble_eq_true rfl)⟩ dX6_init_72 dX6_init_74 (fun B9 S9 hP => ?_)
  refine j_aload_n C dX6_init_77 rfl ?_
  refine j_bipush C dX6_init_78 (by decide) ?_
  refine j_mka C ME.1 (j := 11) hP fl_Mo_37 (by decide) (by decide) (by decide) rfl rfl ⟨(Nat.le_of_ble_eq_true rfl), (Nat.le_of_ble_eq_true rfl)⟩ dX6_init_80 dX6_init_82 (fun B9 S9 hP => ?_)
  refine j_aload_n C dX6_init_85 rfl ?_
  refine j_bipush C dX6_init_86 (by decide) ?_
  refine j_mka C ME.1 (j := 13) hP fl_Mo_40 (by decide) (by decide) (by decide) rfl rfl ⟨(Nat.le_of_ble_eq_true rfl), (Nat.le_of_ble_eq_true rfl)⟩ dX6_init_88 dX6_init_90 (fun B9 S9 hP => ?_)
  refine j_aload_n C dX6_init_93 rfl ?_
  refine j_sipush C dX6_init_94 (by decide) ?_
  refine j_mka C ME.1 (j := 14) hP fl_Mo_43 (by decide) (by decide) (by decide) rfl rfl ⟨(Nat.le_of_ble_eq_true rfl), (Nat.le_of_ble_eq_true rfl)⟩ dX6_init_97 dX6_init_99 (fun B9 S9 hP => ?_)
  refine j_aload_n C dX6_init_102 rfl ?_
  refine j_sipush C dX6_init_103 (by decide) ?_
  refine j_mka C ME.1 (j := 15) hP fl_Mo_46 (by decide) (by decide) (by decide) rfl rfl ⟨(Nat.le_of_ble_eq_true rfl), (Nat.le_of_ble_eq_true rfl)⟩ dX6_init_106 dX6_init_108 (fun B9 S9 hP => ?_)
  refine j_aload_n C dX6_init_111 rfl ?_
  refine j_bipush C dX6_init_112 (by decide) ?_
  refine j_mka C ME.1 (j := 16) hP fl_Mo_49 (by decide) (by decide) (by decide) rfl rfl ⟨(Nat.le_of_ble_eq_true rfl), (Nat.le_of_ble_eq_true rfl)⟩ dX6_init_114 dX6_init_116 (fun B9 S9 hP => ?_)
  refine j_aload_n C dX6_init_119 rfl ?_
  refine j_bipush C dX6_init_120 (by decide) ?_
  refine j_put C fl_Mo_52 hP.1 ⟨by decide, by decide, by decide⟩ (by decide) rfl rfl dX6_init_122 ?_
  have hP := hP.lim (w := 10)
  refine j_aload_n C dX6_init_125 rfl ?_
  refine j_bipush C dX6_init_126 (by decide) ?_
  refine j_mka C ME.1 (j := 19) hP fl_Mo_56 (by decide) (by decide) (by decide) rfl rfl ⟨(Nat.le_of_ble_eq_true rfl), (Nat.le_of_ble_eq_true rfl)⟩ dX6_init_128 dX6_init_130 (fun B9 S9 hP => ?_)
  refine j_aload_n C dX6_init_133 rfl ?_
  refine j_bipush C dX6_init_134 (by decide) ?_
  refine j_mka C ME.1 (j := 20) hP fl_Mo_59 (by decide) (by decide) (by decide) rfl rfl ⟨(Nat.le_of_ble_eq_true rfl), (Nat.le_of_ble_eq_true rfl)⟩ dX6_init_136 dX6_init_138 (fun B9 S9 hP => ?_)
  refine j_aload_n C dX6_init_141 rfl ?_
  refine j_sipush C dX6_init_142 (by decide) ?_
  refine j_mka C ME.1 (j := 22) hP fl_Mo_62 (by decide) (by decide) (by decide) rfl rfl ⟨(Nat.le_of_ble_eq_true rfl), (Nat.le_of_ble_eq_true rfl)⟩ dX6_init_145 dX6_init_147 (fun B9 S9 hP => ?_)
  refine j_aload_n C dX6_init_150 rfl ?_
  refine j_bipush C dX6_init_151 (by decide) ?_
  refine j_mka C ME.1 (j := 23) hP fl_Mo_65 (by decide) (by decide) (by decide) rfl rfl ⟨(Nat.le_of_ble_eq_true rfl), (Nat.le_of_ble_eq_true rfl)⟩ dX6_init_153 dX6_init_155 (fun B9 S9 hP => ?_)
  refine j_aload_n C dX6_init_158 rfl ?_
  refine j_bipush C dX6_init_159 (by decide) ?_
  refine j_mka C ME.1 (j := 24) hP fl_Mo_68 (by decide) (by decide) (by decide) rfl rfl ⟨(Nat.le_of_ble_eq_true rfl), (Nat.le_of_ble_eq_true rfl)⟩ dX6_init_161 dX6_init_163 (fun B9 S9 hP => ?_)
  refine j_aload_n C dX6_init_166 rfl ?_
  refine j_bipush C dX6_init_167 (by decide) ?_
  refine j_mka C ME.1 (j := 25) hP fl_Mo_71 (by decide) (by decide) (by decide) rfl rfl ⟨(Nat.le_of_ble_eq_true rfl), (Nat.le_of_ble_eq_true rfl)⟩ dX6_init_169 dX6_init_171 (fun B9 S9 hP => ?_)
  refine j_aload_n C dX6_init_174 rfl ?_
  refine j_bipush C dX6_init_175 (by decide) ?_
  refine j_mka C ME.1 (j := 26) hP fl_Mo_74 (by decide) (by decide) (by decide) rfl rfl ⟨(Nat.le_of_ble_eq_true rfl), (Nat.le_of_ble_eq_true rfl)⟩ dX6_init_177 dX6_init_179 (fun B9 S9 hP => ?_)
  refine j_aload_n C dX6_init_182 rfl ?_
  refine j_bipush C dX6_init_183 (by decide) ?_
  refine j_mkz C ME.1 hP fl_Mo_77 (by decide) (by decide) ⟨(Nat.le_of_ble_eq_true rfl), (Nat.le_of_ble_eq_true rfl)⟩ dX6_init_185 dX6_init_187 (fun B9 S9 hP => ?_)
  refine j_vret C ME ?_ (Nat.le_of_ble_eq_true rfl) (Nat.le_of_ble_eq_true rfl) dX6_init_190
  have hP : RP S S9 q9 B9 31 10 := by
    obtain ⟨h1, h2, h3, h4, h5, h6⟩ := hP
    have hlt : ∀ j, 0 < mLen j → j < 28 := fun j hj => by
      have := mLen_lt hj
      rcases Nat.lt_or_ge j 28 with g | g
      · exact g
      · rcases (show j = 28 ∨ j = 29 ∨ j = 30 by omega) with rfl | rfl | rfl <;> exact absurd hj (by decide)
    exact ⟨h1, fun j _ hl => h2 j (hlt j hl) hl, fun j j' _ _ g1 g2 => h3 j j' (hlt j g1) (hlt j' g2) g1 g2, h4, h5, h6⟩
  exact ⟨rfl, ⟨_, hP.end⟩, hP.2.2.2.2.2⟩
