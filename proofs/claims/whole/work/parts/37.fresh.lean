/-! THE CLASS's memory: new objects. -/
def nE (S S' : wS) : Prop := ∀ c, sK S c ≠ 0 → ceq S S' c
theorem nE.rf {S : wS} : nE S S := fun _ _ => ceq.rf
theorem nE.tr {S1 S2 S3 : wS} (h : nE S1 S2) (h' : nE S2 S3) : nE S1 S3 := fun c hc => (h c hc).tr (h' c (by rw [(h c hc).1]; exact hc))
theorem nE.new {S0 S : wS} {kd a : Nat} {f : Nat → Value} (h : nE S0 S) (ha : sK S a = 0) : nE S0 (sNew S kd a f) := by
  refine nE.tr h (fun c hc => ?_)
  have hne : c ≠ a := fun z => hc (by rw [z]; exact ha)
  exact ⟨sK_new' hne, rfl, fun f => sG_new' hne, fun _ _ => rfl⟩
theorem nE.newA {S0 S : wS} {kd a n : Nat} {f : Nat → Value} (h : nE S0 S) (ha : sK S a = 0) : nE S0 (sNewA S kd a n f) := by
  refine nE.tr h (fun c hc => ?_)
  have hne : c ≠ a := fun z => hc (by rw [z]; exact ha)
  exact ⟨sK_newA' hne, sN_newA' hne, fun f => rfl, fun _ _ => sE_newA' hne⟩
theorem nE.put {S0 S : wS} {f a : Nat} {v : Value} (h : nE S0 S) (ha : sK S0 a = 0) : nE S0 (sPut S f a v) := by
  intro c hc
  have hne : c ≠ a := fun z => hc (by rw [z]; exact ha)
  exact (h c hc).tr ⟨rfl, rfl, fun g => sG_put' (fun z => hne z.2), fun _ _ => rfl⟩
theorem nE.cF {S S' : wS} (h : nE S S') : cF S S' := fun c hc => ⟨(h c hc).1, (h c hc).2.1, fun _ => h c hc⟩
theorem nE.z {S S' : wS} {c : Nat} (h : nE S S') (hc : sK S' c = 0) : sK S c = 0 := by
  rcases Nat.eq_zero_or_pos (sK S c) with q | q
  · exact q
  · have := (h c (by omega)).1
    omega
def nTt (_ : Nat × Int) : Prop := True
theorem HH.ne {E : Nat} {S S' : wS} {G : wG} {T : Nat → Nat × Int} {X : wM} (h : HH E S G T X) (n : nE S S') : HH E S' G T X := by
  obtain ⟨a1, a2, a3, a4, a5, a6, hl, hv⟩ := h
  have K : ∀ c, sK S c ≠ 0 → nTt (T c) → ceq S S' c ∧ T c = T c := fun c hc _ => ⟨n c hc, rfl⟩
  exact ⟨a1.kp (by decide) K (fun _ => trivial), a2.kp (by decide) K (fun _ => trivial), a3.kp (by decide) K (fun _ => trivial), a4.kp (by decide) K (fun _ => trivial), a5.kp (by decide) K (fun _ => trivial), a6.kp (by decide) K (fun _ => trivial), hl.kp K (fun _ _ _ => trivial), hv.kp K (fun _ => trivial)⟩
theorem RC.ne {E : Nat} {S S' : wS} {G : wG} {X : wM} (h : RC E S G X) (n : nE S S') : RC E S' G X := ⟨h.1, h.2.choose, h.2.choose_spec.ne n⟩
def gup (G : wG) (j : Nat) (i : Int) (q : Nat) : wG := fun j' i' => if j' = j ∧ i' = i then q else G j' i'
theorem gup_at {G : wG} {j : Nat} {i : Int} {q : Nat} : gup G j i q j i = q := if_pos ⟨rfl, rfl⟩
theorem gup_i {G : wG} {j : Nat} {i i' : Int} {q : Nat} (h : i' ≠ i) : gup G j i q j i' = G j i' := if_neg (fun z => h z.2)
def xnew (X : wM) (cr : Nat) (isR : Nat → Bool) (v : Nat → Int) : wM := fun j i => if j = cr ∧ i = 0 then X cr 0 + 1 else if isR j = true ∧ i = X cr 0 then v j else X j i
theorem xnew_c {X : wM} {cr : Nat} {isR : Nat → Bool} {v : Nat → Int} : xnew X cr isR v cr 0 = X cr 0 + 1 := if_pos ⟨rfl, rfl⟩
theorem xnew_v {X : wM} {cr j : Nat} {isR : Nat → Bool} {v : Nat → Int} (h : j ≠ cr) (hj : isR j = true) : xnew X cr isR v j (X cr 0) = v j := by
  unfold xnew
  rw [if_neg (fun z => h z.1), if_pos ⟨hj, rfl⟩]
theorem xnew_o {X : wM} {cr j : Nat} {i : Int} {isR : Nat → Bool} {v : Nat → Int} (h : j ≠ cr) (hi : i ≠ X cr 0) : xnew X cr isR v j i = X j i := by
  unfold xnew
  rw [if_neg (fun z => h z.1), if_neg (fun z => hi z.2)]
theorem nref_cg {g g' : Int → Nat} {z : Int} {m : Int} (h : z < m) (e : ∀ i, i < m → g' i = g i) : nref g' z = nref g z := by
  unfold nref
  split
  · rfl
  · rw [e z h]

def r_film : Nat → Bool
  | 3 => true
  | 32 => true
  | _ => false
def y_film : Nat → Int
  | 3 => 0
  | _ => 0
def xFilm (X : wM) : wM := xnew X 1 r_film y_film

theorem RC.new_film {E : Nat} {S S2 S3 : wS} {G : wG} {X : wM} {T : Nat → Nat × Int} {q a9 : Nat}  (hw : WF X) (hh : HH E S G T X) (hq : sK S q = 0) (ha : sK S a9 = 0) (hqa : a9 ≠ q) (l1 : sK S2 a9 = 8) (l2 : sG S2 512 a9 = .int (iN 0)) (l3 : sG S2 513 a9 = .ref E) (l4 : sG S2 514 a9 = .int (iN 0)) (hn : nE S S2) (hk : sK S2 q = 1) (hf : ∀ j, j < 2 → sG S2 (64 * 1 + j) q = oF1 (gup (gup G 1 (X 1 0) q) 21 (X 1 0) a9) (xFilm X) (X 1 0) j) (hc : X 1 0 < 6) 
    (hL : LsP E S2 T (G 20 0) (20, 0) (X 1 0 + 1) (fun k => if k = X 1 0 then q else G 1 k) S3) : RC E S3 (gup (gup G 1 (X 1 0) q) 21 (X 1 0) a9) (xFilm X) ∧ cF S S3 := by
  obtain ⟨T', t1, t2, t3⟩ := hL
  obtain ⟨w6, w1, w2, w3, w4, w5⟩ := hw
  obtain ⟨a1, a2, a3, a4, a5, a6, ⟨⟨b0, b1, b2, b3, b4⟩, c1, c2⟩, hv⟩ := hh
  have hA := b0
  have w6' := w6
  unfold wf6 at w6'
  have hs2 : ∀ c, sK S c ≠ 0 → sK S2 c ≠ 0 := fun c hc => by rw [(hn c hc).1]; exact hc
  have hqs : ∀ c, sK S c ≠ 0 → c ≠ q := fun c hc z => hc (by rw [z]; exact hq)
  have has : ∀ c, sK S c ≠ 0 → c ≠ a9 := fun c hc z => hc (by rw [z]; exact ha)
  have K1 := t3.K t1 (show T (G 20 0) = (20, 0) from hA.2.1)
  have hT : ∀ c, sK S c ≠ 0 → (fun c => if c = q then (1, X 1 0) else if c = a9 then (21, X 1 0) else T' c) c = T' c := by
    intro c hc
    show (if c = q then _ else _) = _
    rw [if_neg (hqs c hc), if_neg (has c hc)]
  have K : ∀ c, sK S c ≠ 0 → nT2 (20, 0) (30, 0) (T c) → ceq S S3 c ∧ (fun c => if c = q then (1, X 1 0) else if c = a9 then (21, X 1 0) else T' c) c = T c := by
    intro c hc hp
    obtain ⟨k1, k2⟩ := K1 c (hs2 c hc) hp
    exact ⟨(hn c hc).tr k1, by rw [hT c hc]; exact k2⟩
  have hlist : AL E S3 (fun c => if c = q then (1, X 1 0) else if c = a9 then (21, X 1 0) else T' c) (G 20 0) (20, 0) (X 1 0 + 1) (fun k => if k = X 1 0 then q else G 1 k) := by
    obtain ⟨d1, d2, d3, d4, d5, b, d6, d7⟩ := t2
    refine ⟨d1, ?_, d3, d4, d5, b, d6, ?_⟩
    · have hz : sK S (G 20 0) ≠ 0 := by rw [hA.1]; decide
      rw [hT _ hz]; exact d2
    · rcases d7 with d7 | ⟨g1, g2, g3⟩
      · exact Or.inl d7
      · refine Or.inr ⟨g1, ?_, g3⟩
        have hbq : b ≠ q := by
          intro z
          rw [z] at g1
          have := (t3 q (by rw [hk]; decide)).1
          rw [hk] at this
          omega
        have hba : b ≠ a9 := by
          intro z
          rw [z] at g1
          have := (t3 a9 (by rw [l1]; decide)).1
          rw [l1] at this
          omega
        show (if b = q then _ else _) = _
        rw [if_neg hbq, if_neg hba]
        exact g2
  have hcq := t3 q (by rw [hk]; decide)
  obtain ⟨z1, z2, z3, z4⟩ := hcq
  have hqg : q ≠ G 20 0 := by intro z; rw [z] at hk; have := (hn (G 20 0) (by rw [hA.1]; decide)).1; rw [hA.1] at this; omega
  refine ⟨⟨⟨?w6, ?w1, ?w2, ?w3, ?w4, ?w5⟩, (fun c => if c = q then (1, X 1 0) else if c = a9 then (21, X 1 0) else T' c), ?h1, (a2.kp (by decide) K (fun i => by simp [nT2])).cg rfl ?f2, (a3.kp (by decide) K (fun i => by simp [nT2])).cg rfl ?f3, (a4.kp (by decide) K (fun i => by simp [nT2])).cg rfl ?f4, (a5.kp (by decide) K (fun i => by simp [nT2])).cg rfl ?f5, (a6.kp (by decide) K (fun i => by simp [nT2])).cg rfl ?f6, ⟨⟨?bl, b1.kp K (by simp [nT2]) (by simp [nT2]), b2.kp K (by simp [nT2]) (by simp [nT2]), b3.kp K (by simp [nT2]) (by simp [nT2]), b4.kp K (by simp [nT2]) (by simp [nT2])⟩, ?c1, ?c2⟩, (hv.kp K (fun i => by simp [nT2]))⟩, (hn.cF).tr (t3.cF (by rw [(hn _ (by rw [hA.1]; decide)).1]; exact hA.1))⟩
  case w6 =>
    unfold wf6
    show (0 ≤ (xFilm X) 1 0 ∧ (xFilm X) 1 0 ≤ 6) ∧ (0 ≤ X 12 0 ∧ X 12 0 ≤ 60) ∧ (0 ≤ X 17 0 ∧ X 17 0 ≤ 24) ∧ (0 ≤ X 21 0 ∧ X 21 0 ≤ 10) ∧ (0 ≤ X 28 0 ∧ X 28 0 ≤ 20) ∧ _
    have ec : (xFilm X) 1 0 = X 1 0 + 1 := xnew_c
    exact ⟨by omega, by omega, by omega, by omega, by omega, w6'.2.2.2.2.2⟩
  case w1 =>
    intro i h9 h8
    have ec : (xFilm X) 1 0 = X 1 0 + 1 := xnew_c
    rw [ec] at h8
    by_cases e : i = X 1 0
    · subst e
      unfold wf1
      rw [show (xFilm X) 3 (X 1 0) = 0 from xnew_v (by decide) rfl, show (xFilm X) 32 (X 1 0) = 0 from xnew_v (by decide) rfl]
      exact ⟨by omega, by omega, fun k k1 k2 => absurd k2 (by omega)⟩
    · have w := w1 i h9 (by omega)
      unfold wf1 at *
      rw [show (xFilm X) 3 i = X 3 i from xnew_o (by decide) e, show (xFilm X) 32 i = X 32 i from xnew_o (by decide) e]
      exact w
  case w2 =>
    intro i h9 h8
    have w := w2 i h9 h8
    unfold wf2 at *
    show (0 ≤ X 34 i ∧ X 34 i < (xFilm X) 1 0) ∧ _
    have ec : (xFilm X) 1 0 = X 1 0 + 1 := xnew_c
    rw [ec]
    exact ⟨⟨w.1.1, by have := w.1.2; omega⟩, w.2⟩
  case w3 =>
    intro i h9 h8
    have w := w3 i h9 h8
    unfold wf3 at *
    show (0 ≤ X 13 i ∧ X 13 i < (xFilm X) 1 0) ∧ _
    have ec : (xFilm X) 1 0 = X 1 0 + 1 := xnew_c
    rw [ec]
    exact ⟨⟨w.1.1, by have := w.1.2; omega⟩, w.2⟩
  case w4 =>
    intro i h9 h8
    have w := w4 i h9 h8
    unfold wf4 at *
    show (0 ≤ X 4 i ∧ X 4 i < (xFilm X) 1 0) ∧ _
    have ec : (xFilm X) 1 0 = X 1 0 + 1 := xnew_c
    rw [ec]
    exact ⟨⟨w.1.1, by have := w.1.2; omega⟩, w.2⟩
  case w5 =>
    intro i h9 h8
    have w := w5 i h9 h8
    unfold wf5 at *
    show (0 ≤ X 19 i ∧ X 19 i < (xFilm X) 1 0) ∧ _
    have ec : (xFilm X) 1 0 = X 1 0 + 1 := xnew_c
    rw [ec]
    exact ⟨⟨w.1.1, by have := w.1.2; omega⟩, w.2⟩
  case h1 =>
    intro i h9 h8
    have ec : (xFilm X) 1 0 = X 1 0 + 1 := xnew_c
    rw [ec] at h8
    by_cases e : i = X 1 0
    · subst e
      rw [show (gup (gup G 1 (X 1 0) q) 21 (X 1 0) a9) 1 (X 1 0) = q from gup_at]
      refine ⟨z1.trans hk, ?_, fun j hj => ?_⟩
      · show (if q = q then _ else _) = _
        rw [if_pos rfl]
      · rcases z3 (64 * 1 + j) with z | z
        · exact absurd z.1 hqg
        · rw [z]; exact hf j hj
    · obtain ⟨d1, d2, d3⟩ := (a1.kp (by decide) K (fun i => by simp [nT2])) i h9 (by omega)
      rw [show (gup (gup G 1 (X 1 0) q) 21 (X 1 0) a9) 1 i = G 1 i from gup_i e]
      refine ⟨d1, d2, fun j hj => ?_⟩
      rw [d3 j hj]
      rcases (show j = 0 ∨ j = 1 by omega) with rfl | rfl
      · show (.ref (G 21 i) : Value) = .ref ((gup (gup G 1 (X 1 0) q) 21 (X 1 0) a9) 21 i)
        rw [show (gup (gup G 1 (X 1 0) q) 21 (X 1 0) a9) 21 i = G 21 i from gup_i e]
      · show (.int (iN (X 32 i)) : Value) = .int (iN ((xFilm X) 32 i))
        rw [show (xFilm X) 32 i = X 32 i from xnew_o (by decide) e]
  case f2 =>
    intro i h9 h8 j hj
    have w := w2 i h9 h8
    unfold wf2 at w
    rcases (show j = 0 ∨ j = 1 ∨ j = 2 ∨ j = 3 ∨ j = 4 by omega) with rfl | rfl | rfl | rfl | rfl
    · show (.ref (gup G 1 (X 1 0) q 1 (X 34 i)) : Value) = .ref (G 1 (X 34 i))
      rw [gup_i (by omega)]
    · rfl
    · rfl
    · rfl
    · rfl
  case f3 =>
    intro i h9 h8 j hj
    have w := w3 i h9 h8
    unfold wf3 at w
    rcases (show j = 0 ∨ j = 1 ∨ j = 2 by omega) with rfl | rfl | rfl
    · show (.ref (gup G 1 (X 1 0) q 1 (X 13 i)) : Value) = .ref (G 1 (X 13 i))
      rw [gup_i (by omega)]
    · rfl
    · rfl
  case f4 =>
    intro i h9 h8 j hj
    have w := w4 i h9 h8
    unfold wf4 at w
    rcases (show j = 0 ∨ j = 1 ∨ j = 2 ∨ j = 3 ∨ j = 4 ∨ j = 5 ∨ j = 6 ∨ j = 7 ∨ j = 8 ∨ j = 9 by omega) with rfl | rfl | rfl | rfl | rfl | rfl | rfl | rfl | rfl | rfl
    · show (.ref (gup G 1 (X 1 0) q 1 (X 4 i)) : Value) = .ref (G 1 (X 4 i))
      rw [gup_i (by omega)]
    · rfl
    · rfl
    · rfl
    · rfl
    · rfl
    · rfl
    · rfl
    · rfl
    · rfl
  case f5 =>
    intro i h9 h8 j hj
    have w := w5 i h9 h8
    unfold wf5 at w
    rcases (show j = 0 ∨ j = 1 ∨ j = 2 by omega) with rfl | rfl | rfl
    · show (.ref (gup G 1 (X 1 0) q 1 (X 19 i)) : Value) = .ref (G 1 (X 19 i))
      rw [gup_i (by omega)]
    · rfl
    · rfl
  case f6 => exact fun i h9 h8 j hj => rfl
  case bl => exact hlist.cg xnew_c (fun k k1 k2 => by
    show (gup (gup G 1 (X 1 0) q) 21 (X 1 0) a9) 1 k = (if k = X 1 0 then q else G 1 k)
    split
    · rename_i e; rw [e]; exact gup_at
    · rename_i e; exact gup_i e)
  case c1 =>
    intro i h9 h8
    have ec : (xFilm X) 1 0 = X 1 0 + 1 := xnew_c
    rw [ec] at h8
    by_cases e : i = X 1 0
    · subst e
      have hca := t3 a9 (by rw [l1]; decide)
      obtain ⟨y1, y2, y3, y4⟩ := hca
      have hag : a9 ≠ G 20 0 := has _ (by rw [hA.1]; decide) |>.symm
      have y5 : ∀ f, sG S3 f a9 = sG S2 f a9 := fun f => by
        rcases y3 f with z | z
        · exact absurd z.1 hag
        · exact z
      rw [show (gup (gup G 1 (X 1 0) q) 21 (X 1 0) a9) 21 (X 1 0) = a9 from gup_at, show (xFilm X) 3 (X 1 0) = 0 from xnew_v (by decide) rfl]
      refine ⟨y1.trans l1, ?_, ⟨0, by rw [y5]; exact l2⟩, by rw [y5]; exact l4, by omega, E, by rw [y5]; exact l3, Or.inl ⟨rfl, rfl⟩⟩
      show (if a9 = q then _ else _) = _
      rw [if_neg hqa, if_pos rfl]
    · rw [show (gup (gup G 1 (X 1 0) q) 21 (X 1 0) a9) 21 i = G 21 i from gup_i e]
      exact ((c1 i h9 (by omega)).kp K (by simp [nT2]) (by simp [nT2])).cg (xnew_o (by decide) e) (fun k k1 k2 => rfl)
  case c2 =>
    intro i h9 h8
    exact (c2 i h9 h8).kp K (by simp [nT2]) (by simp [nT2])

def r_loan : Nat → Bool
  | 34 => true
  | 35 => true
  | 26 => true
  | 24 => true
  | 27 => true
  | _ => false
def y_loan (f u d r : Int) : Nat → Int
  | 34 => f
  | 35 => u
  | 26 => d
  | 24 => r
  | _ => 0
def xLoan (X : wM) (f u d r : Int) : wM := xnew X 28 r_loan (y_loan f u d r)

theorem RC.new_loan {E : Nat} {S S2 S3 : wS} {G : wG} {X : wM} {T : Nat → Nat × Int} {q : Nat} {f u d r : Int} (hw : WF X) (hh : HH E S G T X) (hq : sK S q = 0) (hn : nE S S2) (hk : sK S2 q = 2) (hf : ∀ j, j < 5 → sG S2 (64 * 2 + j) q = oF2 (gup G 2 (X 28 0) q) (xLoan X f u d r) (X 28 0) j) (hc : X 28 0 < 20) (h1 : 0 ≤ f ∧ f < X 1 0) (h2 : 1 ≤ u ∧ u ≤ 4) (h3 : 0 ≤ d ∧ d ≤ 60000) (h4 : 0 ≤ r ∧ r ≤ 9)
    (hL : LsP E S2 T (G 20 4) (20, 4) (X 28 0 + 1) (fun k => if k = X 28 0 then q else G 2 k) S3) : RC E S3 (gup G 2 (X 28 0) q) (xLoan X f u d r) ∧ cF S S3 := by
  obtain ⟨T', t1, t2, t3⟩ := hL
  obtain ⟨w6, w1, w2, w3, w4, w5⟩ := hw
  obtain ⟨a1, a2, a3, a4, a5, a6, ⟨⟨b0, b1, b2, b3, b4⟩, c1, c2⟩, hv⟩ := hh
  have hA := b4
  have w6' := w6
  unfold wf6 at w6'
  have hs2 : ∀ c, sK S c ≠ 0 → sK S2 c ≠ 0 := fun c hc => by rw [(hn c hc).1]; exact hc
  have hqs : ∀ c, sK S c ≠ 0 → c ≠ q := fun c hc z => hc (by rw [z]; exact hq)
  have K1 := t3.K t1 (show T (G 20 4) = (20, 4) from hA.2.1)
  have hT : ∀ c, sK S c ≠ 0 → (fun c => if c = q then (2, X 28 0) else T' c) c = T' c := by
    intro c hc
    show (if c = q then _ else _) = _
    rw [if_neg (hqs c hc)]
  have K : ∀ c, sK S c ≠ 0 → nT2 (20, 4) (30, 4) (T c) → ceq S S3 c ∧ (fun c => if c = q then (2, X 28 0) else T' c) c = T c := by
    intro c hc hp
    obtain ⟨k1, k2⟩ := K1 c (hs2 c hc) hp
    exact ⟨(hn c hc).tr k1, by rw [hT c hc]; exact k2⟩
  have hlist : AL E S3 (fun c => if c = q then (2, X 28 0) else T' c) (G 20 4) (20, 4) (X 28 0 + 1) (fun k => if k = X 28 0 then q else G 2 k) := by
    obtain ⟨d1, d2, d3, d4, d5, b, d6, d7⟩ := t2
    refine ⟨d1, ?_, d3, d4, d5, b, d6, ?_⟩
    · have hz : sK S (G 20 4) ≠ 0 := by rw [hA.1]; decide
      rw [hT _ hz]; exact d2
    · rcases d7 with d7 | ⟨g1, g2, g3⟩
      · exact Or.inl d7
      · refine Or.inr ⟨g1, ?_, g3⟩
        have hbq : b ≠ q := by
          intro z
          rw [z] at g1
          have := (t3 q (by rw [hk]; decide)).1
          rw [hk] at this
          omega
        show (if b = q then _ else _) = _
        rw [if_neg hbq]
        exact g2
  have hcq := t3 q (by rw [hk]; decide)
  obtain ⟨z1, z2, z3, z4⟩ := hcq
  have hqg : q ≠ G 20 4 := by intro z; rw [z] at hk; have := (hn (G 20 4) (by rw [hA.1]; decide)).1; rw [hA.1] at this; omega
  refine ⟨⟨⟨?w6, ?w1, ?w2, ?w3, ?w4, ?w5⟩, (fun c => if c = q then (2, X 28 0) else T' c), (a1.kp (by decide) K (fun i => by simp [nT2])).cg rfl ?f1, ?h2, (a3.kp (by decide) K (fun i => by simp [nT2])).cg rfl ?f3, (a4.kp (by decide) K (fun i => by simp [nT2])).cg rfl ?f4, (a5.kp (by decide) K (fun i => by simp [nT2])).cg rfl ?f5, (a6.kp (by decide) K (fun i => by simp [nT2])).cg rfl ?f6, ⟨⟨b0.kp K (by simp [nT2]) (by simp [nT2]), b1.kp K (by simp [nT2]) (by simp [nT2]), b2.kp K (by simp [nT2]) (by simp [nT2]), b3.kp K (by simp [nT2]) (by simp [nT2]), ?bl⟩, ?c1, ?c2⟩, (hv.kp K (fun i => by simp [nT2]))⟩, (hn.cF).tr (t3.cF (by rw [(hn _ (by rw [hA.1]; decide)).1]; exact hA.1))⟩
  case w6 =>
    unfold wf6
    show (0 ≤ X 1 0 ∧ X 1 0 ≤ 6) ∧ (0 ≤ X 12 0 ∧ X 12 0 ≤ 60) ∧ (0 ≤ X 17 0 ∧ X 17 0 ≤ 24) ∧ (0 ≤ X 21 0 ∧ X 21 0 ≤ 10) ∧ (0 ≤ (xLoan X f u d r) 28 0 ∧ (xLoan X f u d r) 28 0 ≤ 20) ∧ _
    have ec : (xLoan X f u d r) 28 0 = X 28 0 + 1 := xnew_c
    exact ⟨by omega, by omega, by omega, by omega, by omega, w6'.2.2.2.2.2⟩
  case w1 =>
    intro i h9 h8
    exact w1 i h9 h8
  case w2 =>
    intro i h9 h8
    have ec : (xLoan X f u d r) 28 0 = X 28 0 + 1 := xnew_c
    rw [ec] at h8
    by_cases e : i = X 28 0
    · subst e
      unfold wf2
      rw [show (xLoan X f u d r) 34 (X 28 0) = f from xnew_v (by decide) rfl, show (xLoan X f u d r) 35 (X 28 0) = u from xnew_v (by decide) rfl, show (xLoan X f u d r) 26 (X 28 0) = d from xnew_v (by decide) rfl, show (xLoan X f u d r) 24 (X 28 0) = r from xnew_v (by decide) rfl, show (xLoan X f u d r) 27 (X 28 0) = 0 from xnew_v (by decide) rfl]
      exact ⟨h1, h2, h3, h4, by omega⟩
    · have w := w2 i h9 (by omega)
      unfold wf2 at *
      rw [show (xLoan X f u d r) 34 i = X 34 i from xnew_o (by decide) e, show (xLoan X f u d r) 35 i = X 35 i from xnew_o (by decide) e, show (xLoan X f u d r) 26 i = X 26 i from xnew_o (by decide) e, show (xLoan X f u d r) 24 i = X 24 i from xnew_o (by decide) e, show (xLoan X f u d r) 27 i = X 27 i from xnew_o (by decide) e]
      exact w
  case w3 =>
    intro i h9 h8
    exact w3 i h9 h8
  case w4 =>
    intro i h9 h8
    exact w4 i h9 h8
  case w5 =>
    intro i h9 h8
    exact w5 i h9 h8
  case f1 => exact fun i h9 h8 j hj => rfl
  case h2 =>
    intro i h9 h8
    have ec : (xLoan X f u d r) 28 0 = X 28 0 + 1 := xnew_c
    rw [ec] at h8
    by_cases e : i = X 28 0
    · subst e
      rw [show (gup G 2 (X 28 0) q) 2 (X 28 0) = q from gup_at]
      refine ⟨z1.trans hk, ?_, fun j hj => ?_⟩
      · show (if q = q then _ else _) = _
        rw [if_pos rfl]
      · rcases z3 (64 * 2 + j) with z | z
        · exact absurd z.1 hqg
        · rw [z]; exact hf j hj
    · obtain ⟨d1, d2, d3⟩ := (a2.kp (by decide) K (fun i => by simp [nT2])) i h9 (by omega)
      rw [show (gup G 2 (X 28 0) q) 2 i = G 2 i from gup_i e]
      refine ⟨d1, d2, fun j hj => ?_⟩
      rw [d3 j hj]
      rcases (show j = 0 ∨ j = 1 ∨ j = 2 ∨ j = 3 ∨ j = 4 by omega) with rfl | rfl | rfl | rfl | rfl
      · show (.ref (G 1 (X 34 i)) : Value) = .ref ((gup G 2 (X 28 0) q) 1 ((xLoan X f u d r) 34 i))
        rw [show (xLoan X f u d r) 34 i = X 34 i from xnew_o (by decide) e]
        rfl
      · show (.int (iN (X 35 i)) : Value) = .int (iN ((xLoan X f u d r) 35 i))
        rw [show (xLoan X f u d r) 35 i = X 35 i from xnew_o (by decide) e]
      · show (.int (iN (X 26 i)) : Value) = .int (iN ((xLoan X f u d r) 26 i))
        rw [show (xLoan X f u d r) 26 i = X 26 i from xnew_o (by decide) e]
      · show (.int (iN (X 24 i)) : Value) = .int (iN ((xLoan X f u d r) 24 i))
        rw [show (xLoan X f u d r) 24 i = X 24 i from xnew_o (by decide) e]
      · show (.int (iN (X 27 i)) : Value) = .int (iN ((xLoan X f u d r) 27 i))
        rw [show (xLoan X f u d r) 27 i = X 27 i from xnew_o (by decide) e]
  case f3 => exact fun i h9 h8 j hj => rfl
  case f4 => exact fun i h9 h8 j hj => rfl
  case f5 => exact fun i h9 h8 j hj => rfl
  case f6 => exact fun i h9 h8 j hj => rfl
  case bl => exact hlist.cg xnew_c (fun k k1 k2 => by
    show (gup G 2 (X 28 0) q) 2 k = (if k = X 28 0 then q else G 2 k)
    split
    · rename_i e; rw [e]; exact gup_at
    · rename_i e; exact gup_i e)
  case c1 =>
    intro i h9 h8
    exact (c1 i h9 h8).kp K (by simp [nT2]) (by simp [nT2])
  case c2 =>
    intro i h9 h8
    exact (c2 i h9 h8).kp K (by simp [nT2]) (by simp [nT2])

def r_reel : Nat → Bool
  | 13 => true
  | 16 => true
  | _ => false
def y_reel (f : Int) : Nat → Int
  | 13 => f
  | _ => 0
def xReel (X : wM) (f : Int) : wM := xnew X 17 r_reel (y_reel f)

theorem RC.new_reel {E : Nat} {S S2 S3 : wS} {G : wG} {X : wM} {T : Nat → Nat × Int} {q a9 : Nat} {f : Int} (hw : WF X) (hh : HH E S G T X) (hq : sK S q = 0) (ha : sK S a9 = 0) (hqa : a9 ≠ q) (l1 : sK S2 a9 = 8) (l2 : sG S2 512 a9 = .int (iN 0)) (l3 : sG S2 513 a9 = .ref E) (l4 : sG S2 514 a9 = .int (iN 0)) (hn : nE S S2) (hk : sK S2 q = 3) (hf : ∀ j, j < 3 → sG S2 (64 * 3 + j) q = oF3 (gup (gup G 3 (X 17 0) q) 22 (X 17 0) a9) (xReel X f) (X 17 0) j) (hc : X 17 0 < 24) (h1 : 0 ≤ f ∧ f < X 1 0)
    (hL : LsP E S2 T (G 20 2) (20, 2) (X 17 0 + 1) (fun k => if k = X 17 0 then q else G 3 k) S3) : RC E S3 (gup (gup G 3 (X 17 0) q) 22 (X 17 0) a9) (xReel X f) ∧ cF S S3 := by
  obtain ⟨T', t1, t2, t3⟩ := hL
  obtain ⟨w6, w1, w2, w3, w4, w5⟩ := hw
  obtain ⟨a1, a2, a3, a4, a5, a6, ⟨⟨b0, b1, b2, b3, b4⟩, c1, c2⟩, hv⟩ := hh
  have hA := b2
  have w6' := w6
  unfold wf6 at w6'
  have hs2 : ∀ c, sK S c ≠ 0 → sK S2 c ≠ 0 := fun c hc => by rw [(hn c hc).1]; exact hc
  have hqs : ∀ c, sK S c ≠ 0 → c ≠ q := fun c hc z => hc (by rw [z]; exact hq)
  have has : ∀ c, sK S c ≠ 0 → c ≠ a9 := fun c hc z => hc (by rw [z]; exact ha)
  have K1 := t3.K t1 (show T (G 20 2) = (20, 2) from hA.2.1)
  have hT : ∀ c, sK S c ≠ 0 → (fun c => if c = q then (3, X 17 0) else if c = a9 then (22, X 17 0) else T' c) c = T' c := by
    intro c hc
    show (if c = q then _ else _) = _
    rw [if_neg (hqs c hc), if_neg (has c hc)]
  have K : ∀ c, sK S c ≠ 0 → nT2 (20, 2) (30, 2) (T c) → ceq S S3 c ∧ (fun c => if c = q then (3, X 17 0) else if c = a9 then (22, X 17 0) else T' c) c = T c := by
    intro c hc hp
    obtain ⟨k1, k2⟩ := K1 c (hs2 c hc) hp
    exact ⟨(hn c hc).tr k1, by rw [hT c hc]; exact k2⟩
  have hlist : AL E S3 (fun c => if c = q then (3, X 17 0) else if c = a9 then (22, X 17 0) else T' c) (G 20 2) (20, 2) (X 17 0 + 1) (fun k => if k = X 17 0 then q else G 3 k) := by
    obtain ⟨d1, d2, d3, d4, d5, b, d6, d7⟩ := t2
    refine ⟨d1, ?_, d3, d4, d5, b, d6, ?_⟩
    · have hz : sK S (G 20 2) ≠ 0 := by rw [hA.1]; decide
      rw [hT _ hz]; exact d2
    · rcases d7 with d7 | ⟨g1, g2, g3⟩
      · exact Or.inl d7
      · refine Or.inr ⟨g1, ?_, g3⟩
        have hbq : b ≠ q := by
          intro z
          rw [z] at g1
          have := (t3 q (by rw [hk]; decide)).1
          rw [hk] at this
          omega
        have hba : b ≠ a9 := by
          intro z
          rw [z] at g1
          have := (t3 a9 (by rw [l1]; decide)).1
          rw [l1] at this
          omega
        show (if b = q then _ else _) = _
        rw [if_neg hbq, if_neg hba]
        exact g2
  have hcq := t3 q (by rw [hk]; decide)
  obtain ⟨z1, z2, z3, z4⟩ := hcq
  have hqg : q ≠ G 20 2 := by intro z; rw [z] at hk; have := (hn (G 20 2) (by rw [hA.1]; decide)).1; rw [hA.1] at this; omega
  refine ⟨⟨⟨?w6, ?w1, ?w2, ?w3, ?w4, ?w5⟩, (fun c => if c = q then (3, X 17 0) else if c = a9 then (22, X 17 0) else T' c), (a1.kp (by decide) K (fun i => by simp [nT2])).cg rfl ?f1, (a2.kp (by decide) K (fun i => by simp [nT2])).cg rfl ?f2, ?h3, (a4.kp (by decide) K (fun i => by simp [nT2])).cg rfl ?f4, (a5.kp (by decide) K (fun i => by simp [nT2])).cg rfl ?f5, (a6.kp (by decide) K (fun i => by simp [nT2])).cg rfl ?f6, ⟨⟨b0.kp K (by simp [nT2]) (by simp [nT2]), b1.kp K (by simp [nT2]) (by simp [nT2]), ?bl, b3.kp K (by simp [nT2]) (by simp [nT2]), b4.kp K (by simp [nT2]) (by simp [nT2])⟩, ?c1, ?c2⟩, (hv.kp K (fun i => by simp [nT2]))⟩, (hn.cF).tr (t3.cF (by rw [(hn _ (by rw [hA.1]; decide)).1]; exact hA.1))⟩
  case w6 =>
    unfold wf6
    show (0 ≤ X 1 0 ∧ X 1 0 ≤ 6) ∧ (0 ≤ X 12 0 ∧ X 12 0 ≤ 60) ∧ (0 ≤ (xReel X f) 17 0 ∧ (xReel X f) 17 0 ≤ 24) ∧ (0 ≤ X 21 0 ∧ X 21 0 ≤ 10) ∧ (0 ≤ X 28 0 ∧ X 28 0 ≤ 20) ∧ _
    have ec : (xReel X f) 17 0 = X 17 0 + 1 := xnew_c
    exact ⟨by omega, by omega, by omega, by omega, by omega, w6'.2.2.2.2.2⟩
  case w1 =>
    intro i h9 h8
    exact w1 i h9 h8
  case w2 =>
    intro i h9 h8
    exact w2 i h9 h8
  case w3 =>
    intro i h9 h8
    have ec : (xReel X f) 17 0 = X 17 0 + 1 := xnew_c
    rw [ec] at h8
    by_cases e : i = X 17 0
    · subst e
      unfold wf3
      rw [show (xReel X f) 13 (X 17 0) = f from xnew_v (by decide) rfl, show (xReel X f) 16 (X 17 0) = 0 from xnew_v (by decide) rfl]
      exact ⟨h1, by omega, fun k k1 k2 => absurd k2 (by omega)⟩
    · have w := w3 i h9 (by omega)
      unfold wf3 at *
      rw [show (xReel X f) 13 i = X 13 i from xnew_o (by decide) e, show (xReel X f) 16 i = X 16 i from xnew_o (by decide) e]
      exact w
  case w4 =>
    intro i h9 h8
    have w := w4 i h9 h8
    unfold wf4 at *
    show _ ∧ _ ∧ _ ∧ (-1 ≤ X 7 i ∧ X 7 i < (xReel X f) 17 0) ∧ _
    have ec : (xReel X f) 17 0 = X 17 0 + 1 := xnew_c
    rw [ec]
    exact ⟨w.1, w.2.1, w.2.2.1, ⟨w.2.2.2.1.1, by have := w.2.2.2.1.2; omega⟩, w.2.2.2.2⟩
  case w5 =>
    intro i h9 h8
    exact w5 i h9 h8
  case f1 => exact fun i h9 h8 j hj => rfl
  case f2 => exact fun i h9 h8 j hj => rfl
  case h3 =>
    intro i h9 h8
    have ec : (xReel X f) 17 0 = X 17 0 + 1 := xnew_c
    rw [ec] at h8
    by_cases e : i = X 17 0
    · subst e
      rw [show (gup (gup G 3 (X 17 0) q) 22 (X 17 0) a9) 3 (X 17 0) = q from gup_at]
      refine ⟨z1.trans hk, ?_, fun j hj => ?_⟩
      · show (if q = q then _ else _) = _
        rw [if_pos rfl]
      · rcases z3 (64 * 3 + j) with z | z
        · exact absurd z.1 hqg
        · rw [z]; exact hf j hj
    · obtain ⟨d1, d2, d3⟩ := (a3.kp (by decide) K (fun i => by simp [nT2])) i h9 (by omega)
      rw [show (gup (gup G 3 (X 17 0) q) 22 (X 17 0) a9) 3 i = G 3 i from gup_i e]
      refine ⟨d1, d2, fun j hj => ?_⟩
      rw [d3 j hj]
      rcases (show j = 0 ∨ j = 1 ∨ j = 2 by omega) with rfl | rfl | rfl
      · show (.ref (G 1 (X 13 i)) : Value) = .ref ((gup (gup G 3 (X 17 0) q) 22 (X 17 0) a9) 1 ((xReel X f) 13 i))
        rw [show (xReel X f) 13 i = X 13 i from xnew_o (by decide) e]
        rfl
      · rfl
      · show (.ref (G 22 i) : Value) = .ref ((gup (gup G 3 (X 17 0) q) 22 (X 17 0) a9) 22 i)
        rw [show (gup (gup G 3 (X 17 0) q) 22 (X 17 0) a9) 22 i = G 22 i from gup_i e]
  case f4 =>
    intro i h9 h8 j hj
    have w := w4 i h9 h8
    unfold wf4 at w
    rcases (show j = 0 ∨ j = 1 ∨ j = 2 ∨ j = 3 ∨ j = 4 ∨ j = 5 ∨ j = 6 ∨ j = 7 ∨ j = 8 ∨ j = 9 by omega) with rfl | rfl | rfl | rfl | rfl | rfl | rfl | rfl | rfl | rfl
    · rfl
    · rfl
    · rfl
    · rfl
    · show nref (gup G 3 (X 17 0) q 3) (X 7 i) = nref (G 3) (X 7 i)
      exact nref_cg w.2.2.2.1.2 (fun k hk => gup_i (by omega))
    · rfl
    · rfl
    · rfl
    · rfl
    · rfl
  case f5 => exact fun i h9 h8 j hj => rfl
  case f6 => exact fun i h9 h8 j hj => rfl
  case bl => exact hlist.cg xnew_c (fun k k1 k2 => by
    show (gup (gup G 3 (X 17 0) q) 22 (X 17 0) a9) 3 k = (if k = X 17 0 then q else G 3 k)
    split
    · rename_i e; rw [e]; exact gup_at
    · rename_i e; exact gup_i e)
  case c1 =>
    intro i h9 h8
    exact (c1 i h9 h8).kp K (by simp [nT2]) (by simp [nT2])
  case c2 =>
    intro i h9 h8
    have ec : (xReel X f) 17 0 = X 17 0 + 1 := xnew_c
    rw [ec] at h8
    by_cases e : i = X 17 0
    · subst e
      have hca := t3 a9 (by rw [l1]; decide)
      obtain ⟨y1, y2, y3, y4⟩ := hca
      have hag : a9 ≠ G 20 2 := has _ (by rw [hA.1]; decide) |>.symm
      have y5 : ∀ f, sG S3 f a9 = sG S2 f a9 := fun f => by
        rcases y3 f with z | z
        · exact absurd z.1 hag
        · exact z
      rw [show (gup (gup G 3 (X 17 0) q) 22 (X 17 0) a9) 22 (X 17 0) = a9 from gup_at, show (xReel X f) 16 (X 17 0) = 0 from xnew_v (by decide) rfl]
      refine ⟨y1.trans l1, ?_, ⟨0, by rw [y5]; exact l2⟩, by rw [y5]; exact l4, by omega, E, by rw [y5]; exact l3, Or.inl ⟨rfl, rfl⟩⟩
      show (if a9 = q then _ else _) = _
      rw [if_neg hqa, if_pos rfl]
    · rw [show (gup (gup G 3 (X 17 0) q) 22 (X 17 0) a9) 22 i = G 22 i from gup_i e]
      exact ((c2 i h9 (by omega)).kp K (by simp [nT2]) (by simp [nT2])).cg (xnew_o (by decide) e) (fun k k1 k2 => rfl)

def r_shot : Nat → Bool
  | 4 => true
  | 5 => true
  | 6 => true
  | 7 => true
  | 8 => true
  | 9 => true
  | 10 => true
  | 11 => true
  | 31 => true
  | _ => false
def y_shot (f a b : Int) : Nat → Int
  | 4 => f
  | 5 => a
  | 6 => b
  | 7 => (-1)
  | 8 => 0
  | 9 => 0
  | 10 => (-1)
  | 11 => (-1)
  | _ => 0
def xShot (X : wM) (f a b : Int) : wM := xnew X 12 r_shot (y_shot f a b)

theorem RC.new_shot {E : Nat} {S S2 S3 : wS} {G : wG} {X : wM} {T : Nat → Nat × Int} {q : Nat} {f a b : Int} (hw : WF X) (hh : HH E S G T X) (hq : sK S q = 0) (hn : nE S S2) (hk : sK S2 q = 4) (hf : ∀ j, j < 10 → sG S2 (64 * 4 + j) q = oF4 (gup G 4 (X 12 0) q) (xShot X f a b) (X 12 0) j) (hc : X 12 0 < 60) (h1 : 0 ≤ f ∧ f < X 1 0) (h2 : 1 ≤ a ∧ a ≤ 999) (h3 : 0 ≤ b ∧ b ≤ 9)
    (hL : LsP E S2 T (G 20 1) (20, 1) (X 12 0 + 1) (fun k => if k = X 12 0 then q else G 4 k) S3) : RC E S3 (gup G 4 (X 12 0) q) (xShot X f a b) ∧ cF S S3 := by
  obtain ⟨T', t1, t2, t3⟩ := hL
  obtain ⟨w6, w1, w2, w3, w4, w5⟩ := hw
  obtain ⟨a1, a2, a3, a4, a5, a6, ⟨⟨b0, b1, b2, b3, b4⟩, c1, c2⟩, hv⟩ := hh
  have hA := b1
  have w6' := w6
  unfold wf6 at w6'
  have hs2 : ∀ c, sK S c ≠ 0 → sK S2 c ≠ 0 := fun c hc => by rw [(hn c hc).1]; exact hc
  have hqs : ∀ c, sK S c ≠ 0 → c ≠ q := fun c hc z => hc (by rw [z]; exact hq)
  have K1 := t3.K t1 (show T (G 20 1) = (20, 1) from hA.2.1)
  have hT : ∀ c, sK S c ≠ 0 → (fun c => if c = q then (4, X 12 0) else T' c) c = T' c := by
    intro c hc
    show (if c = q then _ else _) = _
    rw [if_neg (hqs c hc)]
  have K : ∀ c, sK S c ≠ 0 → nT2 (20, 1) (30, 1) (T c) → ceq S S3 c ∧ (fun c => if c = q then (4, X 12 0) else T' c) c = T c := by
    intro c hc hp
    obtain ⟨k1, k2⟩ := K1 c (hs2 c hc) hp
    exact ⟨(hn c hc).tr k1, by rw [hT c hc]; exact k2⟩
  have hlist : AL E S3 (fun c => if c = q then (4, X 12 0) else T' c) (G 20 1) (20, 1) (X 12 0 + 1) (fun k => if k = X 12 0 then q else G 4 k) := by
    obtain ⟨d1, d2, d3, d4, d5, b, d6, d7⟩ := t2
    refine ⟨d1, ?_, d3, d4, d5, b, d6, ?_⟩
    · have hz : sK S (G 20 1) ≠ 0 := by rw [hA.1]; decide
      rw [hT _ hz]; exact d2
    · rcases d7 with d7 | ⟨g1, g2, g3⟩
      · exact Or.inl d7
      · refine Or.inr ⟨g1, ?_, g3⟩
        have hbq : b ≠ q := by
          intro z
          rw [z] at g1
          have := (t3 q (by rw [hk]; decide)).1
          rw [hk] at this
          omega
        show (if b = q then _ else _) = _
        rw [if_neg hbq]
        exact g2
  have hcq := t3 q (by rw [hk]; decide)
  obtain ⟨z1, z2, z3, z4⟩ := hcq
  have hqg : q ≠ G 20 1 := by intro z; rw [z] at hk; have := (hn (G 20 1) (by rw [hA.1]; decide)).1; rw [hA.1] at this; omega
  refine ⟨⟨⟨?w6, ?w1, ?w2, ?w3, ?w4, ?w5⟩, (fun c => if c = q then (4, X 12 0) else T' c), (a1.kp (by decide) K (fun i => by simp [nT2])).cg rfl ?f1, (a2.kp (by decide) K (fun i => by simp [nT2])).cg rfl ?f2, (a3.kp (by decide) K (fun i => by simp [nT2])).cg rfl ?f3, ?h4, (a5.kp (by decide) K (fun i => by simp [nT2])).cg rfl ?f5, (a6.kp (by decide) K (fun i => by simp [nT2])).cg rfl ?f6, ⟨⟨b0.kp K (by simp [nT2]) (by simp [nT2]), ?bl, b2.kp K (by simp [nT2]) (by simp [nT2]), b3.kp K (by simp [nT2]) (by simp [nT2]), b4.kp K (by simp [nT2]) (by simp [nT2])⟩, ?c1, ?c2⟩, (hv.kp K (fun i => by simp [nT2]))⟩, (hn.cF).tr (t3.cF (by rw [(hn _ (by rw [hA.1]; decide)).1]; exact hA.1))⟩
  case w6 =>
    unfold wf6
    show (0 ≤ X 1 0 ∧ X 1 0 ≤ 6) ∧ (0 ≤ (xShot X f a b) 12 0 ∧ (xShot X f a b) 12 0 ≤ 60) ∧ (0 ≤ X 17 0 ∧ X 17 0 ≤ 24) ∧ (0 ≤ X 21 0 ∧ X 21 0 ≤ 10) ∧ (0 ≤ X 28 0 ∧ X 28 0 ≤ 20) ∧ _
    have ec : (xShot X f a b) 12 0 = X 12 0 + 1 := xnew_c
    exact ⟨by omega, by omega, by omega, by omega, by omega, w6'.2.2.2.2.2⟩
  case w1 =>
    intro i h9 h8
    have w := w1 i h9 h8
    unfold wf1 at *
    show (0 ≤ X 3 i ∧ X 3 i ≤ 60) ∧ (0 ≤ X 32 i ∧ X 32 i ≤ 1) ∧ ∀ k, 0 ≤ k → k < X 3 i → 0 ≤ X 2 (60 * i + k) ∧ X 2 (60 * i + k) < (xShot X f a b) 12 0
    have ec : (xShot X f a b) 12 0 = X 12 0 + 1 := xnew_c
    rw [ec]
    exact ⟨w.1, w.2.1, fun k k1 k2 => ⟨(w.2.2 k k1 k2).1, by have := (w.2.2 k k1 k2).2; omega⟩⟩
  case w2 =>
    intro i h9 h8
    exact w2 i h9 h8
  case w3 =>
    intro i h9 h8
    have w := w3 i h9 h8
    unfold wf3 at *
    show (0 ≤ X 13 i ∧ X 13 i < X 1 0) ∧ (0 ≤ X 16 i ∧ X 16 i ≤ 60) ∧ ∀ k, 0 ≤ k → k < X 16 i → 0 ≤ X 14 (60 * i + k) ∧ X 14 (60 * i + k) < (xShot X f a b) 12 0
    have ec : (xShot X f a b) 12 0 = X 12 0 + 1 := xnew_c
    rw [ec]
    exact ⟨w.1, w.2.1, fun k k1 k2 => ⟨(w.2.2 k k1 k2).1, by have := (w.2.2 k k1 k2).2; omega⟩⟩
  case w4 =>
    intro i h9 h8
    have ec : (xShot X f a b) 12 0 = X 12 0 + 1 := xnew_c
    rw [ec] at h8
    by_cases e : i = X 12 0
    · subst e
      unfold wf4
      rw [show (xShot X f a b) 4 (X 12 0) = f from xnew_v (by decide) rfl, show (xShot X f a b) 5 (X 12 0) = a from xnew_v (by decide) rfl, show (xShot X f a b) 6 (X 12 0) = b from xnew_v (by decide) rfl, show (xShot X f a b) 7 (X 12 0) = (-1) from xnew_v (by decide) rfl, show (xShot X f a b) 8 (X 12 0) = 0 from xnew_v (by decide) rfl, show (xShot X f a b) 9 (X 12 0) = 0 from xnew_v (by decide) rfl, show (xShot X f a b) 10 (X 12 0) = (-1) from xnew_v (by decide) rfl, show (xShot X f a b) 11 (X 12 0) = (-1) from xnew_v (by decide) rfl, show (xShot X f a b) 31 (X 12 0) = 0 from xnew_v (by decide) rfl]
      exact ⟨h1, by omega, h3, ⟨by omega, by show (-1 : Int) < X 17 0; omega⟩, by omega, by omega, by omega, ⟨by omega, by show (-1 : Int) < xShot X f a b 12 0; have ec : xShot X f a b 12 0 = X 12 0 + 1 := xnew_c; omega⟩, by omega⟩
    · have w := w4 i h9 (by omega)
      unfold wf4 at *
      rw [show (xShot X f a b) 4 i = X 4 i from xnew_o (by decide) e, show (xShot X f a b) 5 i = X 5 i from xnew_o (by decide) e, show (xShot X f a b) 6 i = X 6 i from xnew_o (by decide) e, show (xShot X f a b) 7 i = X 7 i from xnew_o (by decide) e, show (xShot X f a b) 8 i = X 8 i from xnew_o (by decide) e, show (xShot X f a b) 9 i = X 9 i from xnew_o (by decide) e, show (xShot X f a b) 10 i = X 10 i from xnew_o (by decide) e, show (xShot X f a b) 11 i = X 11 i from xnew_o (by decide) e, show (xShot X f a b) 31 i = X 31 i from xnew_o (by decide) e]
      exact ⟨w.1, w.2.1, w.2.2.1, w.2.2.2.1, w.2.2.2.2.1, w.2.2.2.2.2.1, w.2.2.2.2.2.2.1, ⟨w.2.2.2.2.2.2.2.1.1, by have := w.2.2.2.2.2.2.2.1.2; rw [ec]; omega⟩, w.2.2.2.2.2.2.2.2⟩
  case w5 =>
    intro i h9 h8
    exact w5 i h9 h8
  case f1 => exact fun i h9 h8 j hj => rfl
  case f2 => exact fun i h9 h8 j hj => rfl
  case f3 => exact fun i h9 h8 j hj => rfl
  case h4 =>
    intro i h9 h8
    have ec : (xShot X f a b) 12 0 = X 12 0 + 1 := xnew_c
    rw [ec] at h8
    by_cases e : i = X 12 0
    · subst e
      rw [show (gup G 4 (X 12 0) q) 4 (X 12 0) = q from gup_at]
      refine ⟨z1.trans hk, ?_, fun j hj => ?_⟩
      · show (if q = q then _ else _) = _
        rw [if_pos rfl]
      · rcases z3 (64 * 4 + j) with z | z
        · exact absurd z.1 hqg
        · rw [z]; exact hf j hj
    · obtain ⟨d1, d2, d3⟩ := (a4.kp (by decide) K (fun i => by simp [nT2])) i h9 (by omega)
      rw [show (gup G 4 (X 12 0) q) 4 i = G 4 i from gup_i e]
      refine ⟨d1, d2, fun j hj => ?_⟩
      rw [d3 j hj]
      rcases (show j = 0 ∨ j = 1 ∨ j = 2 ∨ j = 3 ∨ j = 4 ∨ j = 5 ∨ j = 6 ∨ j = 7 ∨ j = 8 ∨ j = 9 by omega) with rfl | rfl | rfl | rfl | rfl | rfl | rfl | rfl | rfl | rfl
      · show (.ref (G 1 (X 4 i)) : Value) = .ref ((gup G 4 (X 12 0) q) 1 ((xShot X f a b) 4 i))
        rw [show (xShot X f a b) 4 i = X 4 i from xnew_o (by decide) e]
        rfl
      · rfl
      · show (.int (iN (X 6 i)) : Value) = .int (iN ((xShot X f a b) 6 i))
        rw [show (xShot X f a b) 6 i = X 6 i from xnew_o (by decide) e]
      · show (.int (iN (X 5 i)) : Value) = .int (iN ((xShot X f a b) 5 i))
        rw [show (xShot X f a b) 5 i = X 5 i from xnew_o (by decide) e]
      · show nref (G 3) (X 7 i) = nref ((gup G 4 (X 12 0) q) 3) ((xShot X f a b) 7 i)
        rw [show (xShot X f a b) 7 i = X 7 i from xnew_o (by decide) e]
        rfl
      · show (.int (iN (X 31 i)) : Value) = .int (iN ((xShot X f a b) 31 i))
        rw [show (xShot X f a b) 31 i = X 31 i from xnew_o (by decide) e]
      · show (.int (iN (X 8 i)) : Value) = .int (iN ((xShot X f a b) 8 i))
        rw [show (xShot X f a b) 8 i = X 8 i from xnew_o (by decide) e]
      · show (.int (iN (X 9 i)) : Value) = .int (iN ((xShot X f a b) 9 i))
        rw [show (xShot X f a b) 9 i = X 9 i from xnew_o (by decide) e]
      · show (.int (iN (X 10 i)) : Value) = .int (iN ((xShot X f a b) 10 i))
        rw [show (xShot X f a b) 10 i = X 10 i from xnew_o (by decide) e]
      · have w := w4 i h9 (by omega)
        unfold wf4 at w
        show nref (G 4) (X 11 i) = nref ((gup G 4 (X 12 0) q) 4) ((xShot X f a b) 11 i)
        rw [show (xShot X f a b) 11 i = X 11 i from xnew_o (by decide) e]
        exact (nref_cg w.2.2.2.2.2.2.2.1.2 (fun k hk => gup_i (by omega))).symm
  case f5 => exact fun i h9 h8 j hj => rfl
  case f6 => exact fun i h9 h8 j hj => rfl
  case bl => exact hlist.cg xnew_c (fun k k1 k2 => by
    show (gup G 4 (X 12 0) q) 4 k = (if k = X 12 0 then q else G 4 k)
    split
    · rename_i e; rw [e]; exact gup_at
    · rename_i e; exact gup_i e)
  case c1 =>
    intro i h9 h8
    have w := w1 i h9 h8
    unfold wf1 at w
    exact ((c1 i h9 h8).kp K (by simp [nT2]) (by simp [nT2])).cg rfl (fun k k1 k2 => gup_i (by have h7 : 0 ≤ X 2 (60 * i + k) ∧ X 2 (60 * i + k) < X 12 0 := w.2.2 k k1 k2; show X 2 (60 * i + k) ≠ _; omega))
  case c2 =>
    intro i h9 h8
    have w := w3 i h9 h8
    unfold wf3 at w
    exact ((c2 i h9 h8).kp K (by simp [nT2]) (by simp [nT2])).cg rfl (fun k k1 k2 => gup_i (by have h7 : 0 ≤ X 14 (60 * i + k) ∧ X 14 (60 * i + k) < X 12 0 := w.2.2 k k1 k2; show X 14 (60 * i + k) ≠ _; omega))

def r_version : Nat → Bool
  | 19 => true
  | 20 => true
  | _ => false
def y_version (f c : Int) : Nat → Int
  | 19 => f
  | _ => c
def xVersion (X : wM) (f c : Int) : wM := xnew X 21 r_version (y_version f c)

theorem RC.new_version {E : Nat} {S S2 S3 : wS} {G : wG} {X : wM} {T : Nat → Nat × Int} {q a9 : Nat} {f c : Int} (hw : WF X) (hh : HH E S G T X) (hq : sK S q = 0) (ha : sK S a9 = 0) (hqa : a9 ≠ q) (l1 : sK S2 a9 = 10) (l2 : sN S2 a9 = 960) (l3 : ∀ i : Nat, i < 960 → sE S2 10 a9 i = .long 0) (hn : nE S S2) (hk : sK S2 q = 5) (hf : ∀ j, j < 3 → sG S2 (64 * 5 + j) q = oF5 (gup (gup G 5 (X 21 0) q) 9 (X 21 0) a9) (xVersion X f c) (X 21 0) j) (hc : X 21 0 < 10) (h1 : 0 ≤ f ∧ f < X 1 0) (h2 : 0 ≤ c ∧ c ≤ 7) (hz : ∀ i, 0 ≤ i → i < 61440 → X 33 (61440 * X 21 0 + i) = 0)
    (hL : LsP E S2 T (G 20 3) (20, 3) (X 21 0 + 1) (fun k => if k = X 21 0 then q else G 5 k) S3) : RC E S3 (gup (gup G 5 (X 21 0) q) 9 (X 21 0) a9) (xVersion X f c) ∧ cF S S3 := by
  obtain ⟨T', t1, t2, t3⟩ := hL
  obtain ⟨w6, w1, w2, w3, w4, w5⟩ := hw
  obtain ⟨a1, a2, a3, a4, a5, a6, ⟨⟨b0, b1, b2, b3, b4⟩, c1, c2⟩, hv⟩ := hh
  have hA := b3
  have w6' := w6
  unfold wf6 at w6'
  have hs2 : ∀ c, sK S c ≠ 0 → sK S2 c ≠ 0 := fun c hc => by rw [(hn c hc).1]; exact hc
  have hqs : ∀ c, sK S c ≠ 0 → c ≠ q := fun c hc z => hc (by rw [z]; exact hq)
  have has : ∀ c, sK S c ≠ 0 → c ≠ a9 := fun c hc z => hc (by rw [z]; exact ha)
  have K1 := t3.K t1 (show T (G 20 3) = (20, 3) from hA.2.1)
  have hT : ∀ c, sK S c ≠ 0 → (fun c => if c = q then (5, X 21 0) else if c = a9 then (9, X 21 0) else T' c) c = T' c := by
    intro c hc
    show (if c = q then _ else _) = _
    rw [if_neg (hqs c hc), if_neg (has c hc)]
  have K : ∀ c, sK S c ≠ 0 → nT2 (20, 3) (30, 3) (T c) → ceq S S3 c ∧ (fun c => if c = q then (5, X 21 0) else if c = a9 then (9, X 21 0) else T' c) c = T c := by
    intro c hc hp
    obtain ⟨k1, k2⟩ := K1 c (hs2 c hc) hp
    exact ⟨(hn c hc).tr k1, by rw [hT c hc]; exact k2⟩
  have hlist : AL E S3 (fun c => if c = q then (5, X 21 0) else if c = a9 then (9, X 21 0) else T' c) (G 20 3) (20, 3) (X 21 0 + 1) (fun k => if k = X 21 0 then q else G 5 k) := by
    obtain ⟨d1, d2, d3, d4, d5, b, d6, d7⟩ := t2
    refine ⟨d1, ?_, d3, d4, d5, b, d6, ?_⟩
    · have hz : sK S (G 20 3) ≠ 0 := by rw [hA.1]; decide
      rw [hT _ hz]; exact d2
    · rcases d7 with d7 | ⟨g1, g2, g3⟩
      · exact Or.inl d7
      · refine Or.inr ⟨g1, ?_, g3⟩
        have hbq : b ≠ q := by
          intro z
          rw [z] at g1
          have := (t3 q (by rw [hk]; decide)).1
          rw [hk] at this
          omega
        have hba : b ≠ a9 := by
          intro z
          rw [z] at g1
          have := (t3 a9 (by rw [l1]; decide)).1
          rw [l1] at this
          omega
        show (if b = q then _ else _) = _
        rw [if_neg hbq, if_neg hba]
        exact g2
  have hcq := t3 q (by rw [hk]; decide)
  obtain ⟨z1, z2, z3, z4⟩ := hcq
  have hqg : q ≠ G 20 3 := by intro z; rw [z] at hk; have := (hn (G 20 3) (by rw [hA.1]; decide)).1; rw [hA.1] at this; omega
  refine ⟨⟨⟨?w6, ?w1, ?w2, ?w3, ?w4, ?w5⟩, (fun c => if c = q then (5, X 21 0) else if c = a9 then (9, X 21 0) else T' c), (a1.kp (by decide) K (fun i => by simp [nT2])).cg rfl ?f1, (a2.kp (by decide) K (fun i => by simp [nT2])).cg rfl ?f2, (a3.kp (by decide) K (fun i => by simp [nT2])).cg rfl ?f3, (a4.kp (by decide) K (fun i => by simp [nT2])).cg rfl ?f4, ?h5, (a6.kp (by decide) K (fun i => by simp [nT2])).cg rfl ?f6, ⟨⟨b0.kp K (by simp [nT2]) (by simp [nT2]), b1.kp K (by simp [nT2]) (by simp [nT2]), b2.kp K (by simp [nT2]) (by simp [nT2]), ?bl, b4.kp K (by simp [nT2]) (by simp [nT2])⟩, ?c1, ?c2⟩, ?hv⟩, (hn.cF).tr (t3.cF (by rw [(hn _ (by rw [hA.1]; decide)).1]; exact hA.1))⟩
  case w6 =>
    unfold wf6
    show (0 ≤ X 1 0 ∧ X 1 0 ≤ 6) ∧ (0 ≤ X 12 0 ∧ X 12 0 ≤ 60) ∧ (0 ≤ X 17 0 ∧ X 17 0 ≤ 24) ∧ (0 ≤ (xVersion X f c) 21 0 ∧ (xVersion X f c) 21 0 ≤ 10) ∧ (0 ≤ X 28 0 ∧ X 28 0 ≤ 20) ∧ _
    have ec : (xVersion X f c) 21 0 = X 21 0 + 1 := xnew_c
    exact ⟨by omega, by omega, by omega, by omega, by omega, w6'.2.2.2.2.2⟩
  case w1 =>
    intro i h9 h8
    exact w1 i h9 h8
  case w2 =>
    intro i h9 h8
    exact w2 i h9 h8
  case w3 =>
    intro i h9 h8
    exact w3 i h9 h8
  case w4 =>
    intro i h9 h8
    exact w4 i h9 h8
  case w5 =>
    intro i h9 h8
    have ec : (xVersion X f c) 21 0 = X 21 0 + 1 := xnew_c
    rw [ec] at h8
    by_cases e : i = X 21 0
    · subst e
      unfold wf5
      rw [show (xVersion X f c) 19 (X 21 0) = f from xnew_v (by decide) rfl, show (xVersion X f c) 20 (X 21 0) = c from xnew_v (by decide) rfl]
      exact ⟨h1, h2⟩
    · have w := w5 i h9 (by omega)
      unfold wf5 at *
      rw [show (xVersion X f c) 19 i = X 19 i from xnew_o (by decide) e, show (xVersion X f c) 20 i = X 20 i from xnew_o (by decide) e]
      exact w
  case f1 => exact fun i h9 h8 j hj => rfl
  case f2 => exact fun i h9 h8 j hj => rfl
  case f3 => exact fun i h9 h8 j hj => rfl
  case f4 => exact fun i h9 h8 j hj => rfl
  case h5 =>
    intro i h9 h8
    have ec : (xVersion X f c) 21 0 = X 21 0 + 1 := xnew_c
    rw [ec] at h8
    by_cases e : i = X 21 0
    · subst e
      rw [show (gup (gup G 5 (X 21 0) q) 9 (X 21 0) a9) 5 (X 21 0) = q from gup_at]
      refine ⟨z1.trans hk, ?_, fun j hj => ?_⟩
      · show (if q = q then _ else _) = _
        rw [if_pos rfl]
      · rcases z3 (64 * 5 + j) with z | z
        · exact absurd z.1 hqg
        · rw [z]; exact hf j hj
    · obtain ⟨d1, d2, d3⟩ := (a5.kp (by decide) K (fun i => by simp [nT2])) i h9 (by omega)
      rw [show (gup (gup G 5 (X 21 0) q) 9 (X 21 0) a9) 5 i = G 5 i from gup_i e]
      refine ⟨d1, d2, fun j hj => ?_⟩
      rw [d3 j hj]
      rcases (show j = 0 ∨ j = 1 ∨ j = 2 by omega) with rfl | rfl | rfl
      · show (.ref (G 1 (X 19 i)) : Value) = .ref ((gup (gup G 5 (X 21 0) q) 9 (X 21 0) a9) 1 ((xVersion X f c) 19 i))
        rw [show (xVersion X f c) 19 i = X 19 i from xnew_o (by decide) e]
        rfl
      · show (.int (iN (X 20 i)) : Value) = .int (iN ((xVersion X f c) 20 i))
        rw [show (xVersion X f c) 20 i = X 20 i from xnew_o (by decide) e]
      · show (.ref (G 9 i) : Value) = .ref ((gup (gup G 5 (X 21 0) q) 9 (X 21 0) a9) 9 i)
        rw [show (gup (gup G 5 (X 21 0) q) 9 (X 21 0) a9) 9 i = G 9 i from gup_i e]
  case f6 => exact fun i h9 h8 j hj => rfl
  case bl => exact hlist.cg xnew_c (fun k k1 k2 => by
    show (gup (gup G 5 (X 21 0) q) 9 (X 21 0) a9) 5 k = (if k = X 21 0 then q else G 5 k)
    split
    · rename_i e; rw [e]; exact gup_at
    · rename_i e; exact gup_i e)
  case c1 =>
    intro i h9 h8
    exact (c1 i h9 h8).kp K (by simp [nT2]) (by simp [nT2])
  case c2 =>
    intro i h9 h8
    exact (c2 i h9 h8).kp K (by simp [nT2]) (by simp [nT2])
  case hv =>
    intro i h9 h8
    have ec : (xVersion X f c) 21 0 = X 21 0 + 1 := xnew_c
    rw [ec] at h8
    by_cases e : i = X 21 0
    · subst e
      rw [show (gup (gup G 5 (X 21 0) q) 9 (X 21 0) a9) 9 (X 21 0) = a9 from gup_at]
      obtain ⟨y1, y2, y3, y4⟩ := t3 a9 (by rw [l1]; decide)
      refine ⟨y1.trans l1, ?_, y2.trans l2, fun j hj => ⟨0, ?_, fun b hb => ?_⟩⟩
      · show (if a9 = q then _ else _) = _
        rw [if_neg hqa, if_pos rfl]
      · rcases y4 10 j with z | z
        · exact absurd z.1 (by decide)
        · rw [z]; exact l3 j hj
      · have e9 := hz (64 * (j : Int) + b) (by omega) (by omega)
        show _ = X 33 (61440 * X 21 0 + 64 * (j : Int) + b)
        rw [Int.add_assoc, e9]
        have e8 : ∀ b, b < 64 → bN ((0 : Int64).toBitVec.getLsbD b) = 0 := by decide +kernel
        exact e8 b hb
    · rw [show (gup (gup G 5 (X 21 0) q) 9 (X 21 0) a9) 9 i = G 9 i from gup_i e]
      exact (hv.kp K (fun i => by simp [nT2])) i h9 (by omega)

