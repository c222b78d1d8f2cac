/-! THE CLASS's public methods against the reference's numbers. -/
theorem Ct.mono {l : Launch} {y : MethodName} {cc : ByteArray} {nL : Nat} {ret : Option FieldType} {d mc ms : Nat} {av : List Value} {S : wS} {Post Post' : wR → wS → Prop} (h : Ct l y cc nL ret d mc ms av S Post) (w : ∀ r S', Post r S' → Post' r S') : Ct l y cc nL ret d mc ms av S Post' := by
  intro D sz
  refine (h D sz).mono (fun _ _ z => z) (fun _ _ _ _ _ z => z) (fun a s o t _ z => ?_)
  rcases z with ⟨⟨v, S', h1, h2, h3⟩, z⟩ | ⟨q, h0, E, ce, L, ⟨S', h1, h2⟩, z⟩
  · exact Or.inl ⟨⟨v, S', h1, w _ _ h2, h3⟩, z⟩
  · exact Or.inr ⟨q, h0, E, ce, L, ⟨S', w _ _ h1, h2⟩, z⟩
theorem CtD.mono {l : Launch} {D : wD} {y : MethodName} {cc : ByteArray} {nL : Nat} {ret : Option FieldType} {d mc ms : Nat} {av : List Value} {S : wS} {Post Post' : wR → wS → Prop} (h : CtD l D y cc nL ret d mc ms av S Post) (w : ∀ r S', Post r S' → Post' r S') : CtD l D y cc nL ret d mc ms av S Post' := by
  intro sz
  refine (h sz).mono (fun _ _ z => z) (fun _ _ _ _ _ z => z) (fun a s o t _ z => ?_)
  rcases z with ⟨⟨v, S', h1, h2, h3⟩, z⟩ | ⟨q, h0, E, ce, L, ⟨S', h1, h2⟩, z⟩
  · exact Or.inl ⟨⟨v, S', h1, w _ _ h2, h3⟩, z⟩
  · exact Or.inr ⟨q, h0, E, ce, L, ⟨S', w _ _ h1, h2⟩, z⟩
theorem CtN.mono {l : Launch} {D : wD} {y : MethodName} {cc : ByteArray} {nL : Nat} {ret : Option FieldType} {d mc ms : Nat} {av : List Value} {S : wS} {Post Post' : wR → wS → Prop} (h : CtN l D y cc nL ret d mc ms av S Post) (w : ∀ r S', Post r S' → Post' r S') : CtN l D y cc nL ret d mc ms av S Post' := by
  intro sz
  refine (h sz).mono (fun _ _ z => z) (fun _ _ _ _ _ z => z) (fun a s o t _ z => ?_)
  rcases z with ⟨⟨v, S', h1, h2, h3⟩, z⟩ | ⟨q, h0, E, ce, L, ⟨S', h1, h2⟩, z⟩
  · exact Or.inl ⟨⟨v, S', h1, w _ _ h2, h3⟩, z⟩
  · exact Or.inr ⟨q, h0, E, ce, L, ⟨S', w _ _ h1, h2⟩, z⟩
/-- the class's object q beside the reference's numbers M -/
def Jn (E : Nat) (S : wS) (q : Nat) (M : wM) : Prop := ∃ (G : wG) (Y : wM), G 6 0 = q ∧ RC E S G (mix Y M) ∧ Rel Y M ∧ Inv M ∧ I9 M
def pubR (E : Nat) (S : wS) (q : Nat) (xc : Int) (es : List String) (v : Option Value) (M' : wM) (r : wR) (S' : wS) : Prop :=
  cF S S' ∧ Jn E S' q M' ∧ ((xc = 0 ∧ r = .inl v) ∨ ∃ (k : Nat) (e : String), es[k]? = some e ∧ xc = (k : Int) + 1 ∧ r = .inr e ∧ S' = S)
theorem xe0 {Y M : wM} {c : Int} : XE (mix Y M) (mix Y (mup M 0 0 c)) := ⟨fun j hj => by rcases hj with rfl | rfl | rfl | rfl | rfl | rfl | rfl | rfl <;> rfl, fun _ _ _ => ⟨rfl, rfl, fun _ _ _ => rfl⟩, fun _ _ _ => ⟨rfl, rfl, rfl, rfl, rfl⟩, fun _ _ _ => ⟨rfl, rfl, fun _ _ _ => rfl⟩, fun _ _ _ => ⟨rfl, rfl, rfl, rfl, rfl, rfl, rfl, rfl, rfl⟩, fun _ _ _ => ⟨rfl, rfl, fun _ _ _ => rfl⟩⟩
theorem pub_of {E : Nat} {S S' : wS} {G : wG} {Y M M' X' : wM} {xc xc' : Int} {es : List String} {V v : Value} {r : wR} (hI : Inv M) (hZ : I9 M) (hR : Rel Y M) (hC : RC E S G (mix Y M)) (h : pubP E S G xc es (some V) X' r S') (hx : xc = xc') (hv : xc' = 0 → V = v) (hk : xc' = 0 → Kept X' M') (hn : xc' ≠ 0 → M' = M) : pubR E S (G 6 0) xc' es (some v) M' r S' := by
  subst hx
  rcases h with ⟨h1, h2, G', h3, h4, h5⟩ | ⟨k, e, h1, h2, h3, h4⟩
  · obtain ⟨k1, k2, k3, k4⟩ := hk h1
    exact ⟨h5, ⟨G', X', h3, h4.mix k1, k2, k3, k4⟩, Or.inl ⟨h1, by rw [h2, hv h1]⟩⟩
  · have e9 := hn (by omega)
    subst e9
    subst h4
    exact ⟨cF.rf, ⟨G, Y, rfl, hC, hR, hI, hZ⟩, Or.inr ⟨k, e, h1, h2, h3, rfl⟩⟩
theorem h_len {M : wM} (I : Inv M) : ∀ f, 0 ≤ f → f < M 1 0 → M 3 f ≤ M 12 0 := fun f a b => (I.2.2.1 f a (by have := I.1.1; omega)).2.1
theorem h_day {M : wM} (I : Inv M) : M 29 0 + 99 ≤ 60000 := by
  have := I.1.2.2.2.2.2.2
  omega
theorem h_five {M : wM} (I : Inv M) : ∀ s, 0 ≤ s → s < M 12 0 → 1 ≤ M 5 s := fun s a b => (I.2.1 s a b).2.2.1
theorem last_at {M : wM} (I : Inv M) {r : Int} (hr : 0 ≤ r ∧ r < M 17 0) (h : 0 < M 16 r) : M 4 (lastM M r) = M 13 r := by
  have i4 := I.2.2.2.2.1
  have q17 := I.1.2.2.1
  have v := ((i4 r hr.1 (by omega)).2.2.2.2 (M 16 r - 1) (by omega) (by omega)).2.2.2.1
  unfold lastM
  rw [show 60 * r + M 16 r - 1 = 60 * r + (M 16 r - 1) by omega]
  exact v
theorem h_m {M : wM} (I : Inv M) : ∀ r, 0 ≤ r → r < M 17 0 → 0 < M 16 r → M 4 (lastM M r) = M 13 r := fun r a b c => last_at I ⟨a, b⟩ c
theorem h_16 {M : wM} (I : Inv M) : ∀ r s, 0 ≤ r → r < M 17 0 → 0 ≤ s → s < M 12 0 → M 7 s = -1 → M 16 r < 60 := fun r s a b c d e => by
  have i1 := I.1
  have i4 := I.2.2.2.2.1
  have := reelM_lt i1 i4 (r := r) (s := s) ⟨a, by have := i1.2.2.1; omega⟩ ⟨c, d⟩ (by omega)
  have := i1.2.1
  omega
theorem h_mj {M : wM} (I : Inv M) : ∀ r q, 0 ≤ r → r < M 17 0 → 0 ≤ q → q < M 17 0 → M 13 r = M 13 q → 0 < M 16 r → 0 < M 16 q → M 4 (lastM M r) = M 4 (M 14 (60 * q)) := fun r q a b c d e f g => by
  rw [last_at I ⟨a, b⟩ f, e]
  have i4 := I.2.2.2.2.1
  have q17 := I.1.2.2.1
  have v := ((i4 q c (by omega)).2.2.2.2 0 (by omega) g).2.2.2.1
  rw [Int.add_zero] at v
  exact v.symm
theorem h_cap {M : wM} (I : Inv M) : ∀ r q, 0 ≤ r → r < M 17 0 → 0 ≤ q → q < M 17 0 → ¬ r = q → M 16 r + M 16 q ≤ 60 := fun r q a b c d e => by
  have := cap I.1 I.2.2.2.2.1 ⟨a, b⟩ ⟨c, d⟩ e
  have := I.1.2.1
  omega
theorem swS_cg {X M : wM} {f fr : Int} (h2 : ∀ i, X 2 i = M 2 i) (h5 : ∀ i, X 5 i = M 5 i) (h7 : ∀ i, X 7 i = M 7 i) : ∀ k, swS X f fr k = swS M f fr k
  | 0 => rfl
  | k + 1 => by rw [swS, swS, swS_cg h2 h5 h7 k, h2, h5, h7]
theorem swM_cg {Y M : wM} {c f fr : Int} : swM (mix Y (mup M 0 0 c)) f fr = swM M f fr := by
  unfold swM
  rw [swS_cg (X := mix Y (mup M 0 0 c)) (M := M) (fun _ => rfl) (fun _ => rfl) (fun _ => rfl)]
  rfl
theorem e_shotAt {Y M : wM} {c f z : Int} : x_shotAt (mix Y (mup M 0 0 c)) f z = x_shotAt M f z := by
  unfold x_shotAt
  rw [swM_cg]
  rfl
theorem loK_c0 {M : wM} {c v f a b : Int} {w : Bool} : ∀ k, loK (mup M 0 0 c) v f a b w k = loK M v f a b w k
  | 0 => rfl
  | k + 1 => by
    rw [loK, loK, loK_c0 k]
    rfl
theorem loM_c0 {M : wM} {c v f a b : Int} {w : Bool} : ∀ k, loM (mup M 0 0 c) v f a b w k = loM M v f a b w k
  | 0 => rfl
  | k + 1 => by
    rw [loM, loM, loM_c0 k, loK_c0 k]
    rfl
theorem kept_id {Y M : wM} (I : Inv M) (Z : I9 M) (R : Rel Y M) : Kept (mix Y M) M := ⟨OE.rf, R, I, Z⟩
set_option maxHeartbeats 1000000 in
theorem s_shots (l : Launch) (hfl : l.stackTraces = false) {E0 : Nat} {S : wS} {q9 : Nat} {M : wM} (h : Jn E0 S q9 M) {f : Int} (h_f : rg f) : Ct l yX5_shots cX5_shots 2 (some FieldType.int) 20 100 6000 [.ref q9, .int (iN f)] S (pubR E0 S q9 (x_shots M f) ["java/lang/IndexOutOfBoundsException"] (some (.int (iN (v_shots M f)))) (n_shots M f)) := by
  obtain ⟨G, Y, rfl, hC, hR, hI, hZ⟩ := h
  replace hC : RC E0 S G (mix Y (mup M 0 0 (x_shots M f))) := hC.xe xe0
  replace hR : Rel Y (mup M 0 0 (x_shots M f)) := hR
  replace hI : Inv (mup M 0 0 (x_shots M f)) := hI
  replace hZ : I9 (mup M 0 0 (x_shots M f)) := hZ
  refine Ct.mono (p_shots l hfl hC h_f) (fun r9 S9 h9 => ?_)
  exact pub_of hI hZ hR hC h9 rfl (fun _ => rfl) (fun hx => by unfold n_shots; rw [if_pos hx]; exact kept_id hI hZ hR) (fun hx => by unfold n_shots; rw [if_neg hx])

set_option maxHeartbeats 1000000 in
theorem s_lengthOf (l : Launch) (hfl : l.stackTraces = false) {E0 : Nat} {S : wS} {q9 : Nat} {M : wM} (h : Jn E0 S q9 M) {z : Int} (h_z : rg z) : Ct l yX5_lengthOf cX5_lengthOf 2 (some FieldType.int) 20 100 6000 [.ref q9, .int (iN z)] S (pubR E0 S q9 (x_lengthOf M z) ["java/lang/IndexOutOfBoundsException"] (some (.int (iN (v_lengthOf M z)))) (n_lengthOf M z)) := by
  obtain ⟨G, Y, rfl, hC, hR, hI, hZ⟩ := h
  replace hC : RC E0 S G (mix Y (mup M 0 0 (x_lengthOf M z))) := hC.xe xe0
  replace hR : Rel Y (mup M 0 0 (x_lengthOf M z)) := hR
  replace hI : Inv (mup M 0 0 (x_lengthOf M z)) := hI
  replace hZ : I9 (mup M 0 0 (x_lengthOf M z)) := hZ
  refine Ct.mono (p_lengthOf l hfl hC h_z) (fun r9 S9 h9 => ?_)
  exact pub_of hI hZ hR hC h9 rfl (fun _ => rfl) (fun hx => by unfold n_lengthOf; rw [if_pos hx]; exact kept_id hI hZ hR) (fun hx => by unfold n_lengthOf; rw [if_neg hx])

set_option maxHeartbeats 1000000 in
theorem s_scanned (l : Launch) (hfl : l.stackTraces = false) {E0 : Nat} {S : wS} {q9 : Nat} {M : wM} (h : Jn E0 S q9 M) {z : Int} (h_z : rg z) : Ct l yX5_scanned cX5_scanned 2 (some FieldType.int) 20 100 6000 [.ref q9, .int (iN z)] S (pubR E0 S q9 (x_scanned M z) ["java/lang/IndexOutOfBoundsException"] (some (.int (iN (v_scanned M z)))) (n_scanned M z)) := by
  obtain ⟨G, Y, rfl, hC, hR, hI, hZ⟩ := h
  replace hC : RC E0 S G (mix Y (mup M 0 0 (x_scanned M z))) := hC.xe xe0
  replace hR : Rel Y (mup M 0 0 (x_scanned M z)) := hR
  replace hI : Inv (mup M 0 0 (x_scanned M z)) := hI
  replace hZ : I9 (mup M 0 0 (x_scanned M z)) := hZ
  refine Ct.mono (p_scanned l hfl hC h_z) (fun r9 S9 h9 => ?_)
  exact pub_of hI hZ hR hC h9 rfl (fun _ => rfl) (fun hx => by unfold n_scanned; rw [if_pos hx]; exact kept_id hI hZ hR) (fun hx => by unfold n_scanned; rw [if_neg hx])

set_option maxHeartbeats 1000000 in
theorem s_missed (l : Launch) (hfl : l.stackTraces = false) {E0 : Nat} {S : wS} {q9 : Nat} {M : wM} (h : Jn E0 S q9 M) {z : Int} (h_z : rg z) : Ct l yX5_missed cX5_missed 2 (some FieldType.int) 20 100 6000 [.ref q9, .int (iN z)] S (pubR E0 S q9 (x_missed M z) ["java/lang/IndexOutOfBoundsException"] (some (.int (iN (v_missed M z)))) (n_missed M z)) := by
  obtain ⟨G, Y, rfl, hC, hR, hI, hZ⟩ := h
  replace hC : RC E0 S G (mix Y (mup M 0 0 (x_missed M z))) := hC.xe xe0
  replace hR : Rel Y (mup M 0 0 (x_missed M z)) := hR
  replace hI : Inv (mup M 0 0 (x_missed M z)) := hI
  replace hZ : I9 (mup M 0 0 (x_missed M z)) := hZ
  refine Ct.mono (p_missed l hfl hC h_z) (fun r9 S9 h9 => ?_)
  exact pub_of hI hZ hR hC h9 rfl (fun _ => rfl) (fun hx => by unfold n_missed; rw [if_pos hx]; exact kept_id hI hZ hR) (fun hx => by unfold n_missed; rw [if_neg hx])

set_option maxHeartbeats 1000000 in
theorem s_reelOf (l : Launch) (hfl : l.stackTraces = false) {E0 : Nat} {S : wS} {q9 : Nat} {M : wM} (h : Jn E0 S q9 M) {z : Int} (h_z : rg z) : Ct l yX5_reelOf cX5_reelOf 3 (some FieldType.int) 20 100 6000 [.ref q9, .int (iN z)] S (pubR E0 S q9 (x_reelOf M z) ["java/lang/IndexOutOfBoundsException"] (some (.int (iN (v_reelOf M z)))) (n_reelOf M z)) := by
  obtain ⟨G, Y, rfl, hC, hR, hI, hZ⟩ := h
  replace hC : RC E0 S G (mix Y (mup M 0 0 (x_reelOf M z))) := hC.xe xe0
  replace hR : Rel Y (mup M 0 0 (x_reelOf M z)) := hR
  replace hI : Inv (mup M 0 0 (x_reelOf M z)) := hI
  replace hZ : I9 (mup M 0 0 (x_reelOf M z)) := hZ
  refine Ct.mono (p_reelOf l hfl hC h_z) (fun r9 S9 h9 => ?_)
  exact pub_of hI hZ hR hC h9 rfl (fun _ => rfl) (fun hx => by unfold n_reelOf; rw [if_pos hx]; exact kept_id hI hZ hR) (fun hx => by unfold n_reelOf; rw [if_neg hx])

set_option maxHeartbeats 1000000 in
theorem s_gradeOf (l : Launch) (hfl : l.stackTraces = false) {E0 : Nat} {S : wS} {q9 : Nat} {M : wM} (h : Jn E0 S q9 M) {z : Int} (h_z : rg z) : Ct l yX5_gradeOf cX5_gradeOf 2 (some FieldType.int) 20 100 6000 [.ref q9, .int (iN z)] S (pubR E0 S q9 (x_gradeOf M z) ["java/lang/IndexOutOfBoundsException"] (some (.int (iN (v_gradeOf M z)))) (n_gradeOf M z)) := by
  obtain ⟨G, Y, rfl, hC, hR, hI, hZ⟩ := h
  replace hC : RC E0 S G (mix Y (mup M 0 0 (x_gradeOf M z))) := hC.xe xe0
  replace hR : Rel Y (mup M 0 0 (x_gradeOf M z)) := hR
  replace hI : Inv (mup M 0 0 (x_gradeOf M z)) := hI
  replace hZ : I9 (mup M 0 0 (x_gradeOf M z)) := hZ
  refine Ct.mono (p_gradeOf l hfl hC h_z) (fun r9 S9 h9 => ?_)
  exact pub_of hI hZ hR hC h9 rfl (fun _ => rfl) (fun hx => by unfold n_gradeOf; rw [if_pos hx]; exact kept_id hI hZ hR) (fun hx => by unfold n_gradeOf; rw [if_neg hx])

set_option maxHeartbeats 1000000 in
theorem s_gradeFrom (l : Launch) (hfl : l.stackTraces = false) {E0 : Nat} {S : wS} {q9 : Nat} {M : wM} (h : Jn E0 S q9 M) {z : Int} (h_z : rg z) : Ct l yX5_gradeFrom cX5_gradeFrom 4 (some FieldType.int) 20 100 6000 [.ref q9, .int (iN z)] S (pubR E0 S q9 (x_gradeFrom M z) ["java/lang/IndexOutOfBoundsException"] (some (.int (iN (v_gradeFrom M z)))) (n_gradeFrom M z)) := by
  obtain ⟨G, Y, rfl, hC, hR, hI, hZ⟩ := h
  replace hC : RC E0 S G (mix Y (mup M 0 0 (x_gradeFrom M z))) := hC.xe xe0
  replace hR : Rel Y (mup M 0 0 (x_gradeFrom M z)) := hR
  replace hI : Inv (mup M 0 0 (x_gradeFrom M z)) := hI
  replace hZ : I9 (mup M 0 0 (x_gradeFrom M z)) := hZ
  refine Ct.mono (p_gradeFrom l hfl hC h_z) (fun r9 S9 h9 => ?_)
  exact pub_of hI hZ hR hC h9 rfl (fun _ => rfl) (fun hx => by unfold n_gradeFrom; rw [if_pos hx]; exact kept_id hI hZ hR) (fun hx => by unfold n_gradeFrom; rw [if_neg hx])

set_option maxHeartbeats 1000000 in
theorem s_shotOf (l : Launch) (hfl : l.stackTraces = false) {E0 : Nat} {S : wS} {q9 : Nat} {M : wM} (h : Jn E0 S q9 M) {f z : Int} (h_f : rg f)  (h_z : rg z) : Ct l yX5_shotOf cX5_shotOf 4 (some FieldType.int) 20 100 6000 [.ref q9, .int (iN f), .int (iN z)] S (pubR E0 S q9 (x_shotOf M f z) ["java/lang/IndexOutOfBoundsException"] (some (.int (iN (v_shotOf M f z)))) (n_shotOf M f z)) := by
  obtain ⟨G, Y, rfl, hC, hR, hI, hZ⟩ := h
  replace hC : RC E0 S G (mix Y (mup M 0 0 (x_shotOf M f z))) := hC.xe xe0
  replace hR : Rel Y (mup M 0 0 (x_shotOf M f z)) := hR
  replace hI : Inv (mup M 0 0 (x_shotOf M f z)) := hI
  replace hZ : I9 (mup M 0 0 (x_shotOf M f z)) := hZ
  refine Ct.mono (p_shotOf l hfl hC h_f h_z) (fun r9 S9 h9 => ?_)
  exact pub_of hI hZ hR hC h9 rfl (fun _ => rfl) (fun hx => by unfold n_shotOf; rw [if_pos hx]; exact kept_id hI hZ hR) (fun hx => by unfold n_shotOf; rw [if_neg hx])

set_option maxHeartbeats 1000000 in
theorem s_frames (l : Launch) (hfl : l.stackTraces = false) {E0 : Nat} {S : wS} {q9 : Nat} {M : wM} (h : Jn E0 S q9 M) {z : Int} (h_z : rg z) : Ct l yX5_frames cX5_frames 2 (some FieldType.int) 20 100 6000 [.ref q9, .int (iN z)] S (pubR E0 S q9 (x_frames M z) ["java/lang/IndexOutOfBoundsException"] (some (.int (iN (v_frames M z)))) (n_frames M z)) := by
  obtain ⟨G, Y, rfl, hC, hR, hI, hZ⟩ := h
  replace hC : RC E0 S G (mix Y (mup M 0 0 (x_frames M z))) := hC.xe xe0
  replace hR : Rel Y (mup M 0 0 (x_frames M z)) := hR
  replace hI : Inv (mup M 0 0 (x_frames M z)) := hI
  replace hZ : I9 (mup M 0 0 (x_frames M z)) := hZ
  refine Ct.mono (p_frames l hfl hC h_z) (fun r9 S9 h9 => ?_)
  exact pub_of hI hZ hR hC h9 rfl (fun hx => congrArg (fun z => Value.int (iN z)) ((e_framesV hI hR (Decidable.not_not.mp (ite0 hx (by decide)).1)).1)) (fun hx => by unfold n_frames; rw [if_pos hx]; exact kept_id hI hZ hR) (fun hx => by unfold n_frames; rw [if_neg hx])

set_option maxHeartbeats 1000000 in
theorem s_wear (l : Launch) (hfl : l.stackTraces = false) {E0 : Nat} {S : wS} {q9 : Nat} {M : wM} (h : Jn E0 S q9 M) {r z : Int} (h_r : rg r)  (h_z : rg z) : Ct l yX5_wear cX5_wear 3 (some FieldType.int) 20 100 6000 [.ref q9, .int (iN r), .int (iN z)] S (pubR E0 S q9 (x_wear M r z) ["java/lang/IndexOutOfBoundsException"] (some (.int (iN (v_wear M r z)))) (n_wear M r z)) := by
  obtain ⟨G, Y, rfl, hC, hR, hI, hZ⟩ := h
  replace hC : RC E0 S G (mix Y (mup M 0 0 (x_wear M r z))) := hC.xe xe0
  replace hR : Rel Y (mup M 0 0 (x_wear M r z)) := hR
  replace hI : Inv (mup M 0 0 (x_wear M r z)) := hI
  replace hZ : I9 (mup M 0 0 (x_wear M r z)) := hZ
  refine Ct.mono (p_wear l hfl hC h_r h_z) (fun r9 S9 h9 => ?_)
  exact pub_of hI hZ hR hC h9 rfl (fun hx => congrArg (fun z => Value.int (iN z)) (by
    have c := Decidable.not_not.mp (ite0 hx (by decide)).1
    have e := wear_at hR.1 (r := r) c.1 (k := z.toNat) (by show (z.toNat : Int) < M 16 r - 1; omega)
    rw [Int.toNat_of_nonneg c.2.1] at e
    exact e)) (fun hx => by unfold n_wear; rw [if_pos hx]; exact kept_id hI hZ hR) (fun hx => by unfold n_wear; rw [if_neg hx])

set_option maxHeartbeats 1000000 in
theorem s_setLimit (l : Launch) (hfl : l.stackTraces = false) {E0 : Nat} {S : wS} {q9 : Nat} {M : wM} (h : Jn E0 S q9 M) {a : Int} (h_a : rg a) : Ct l yX5_setLimit cX5_setLimit 3 (some FieldType.int) 20 100 6000 [.ref q9, .int (iN a)] S (pubR E0 S q9 (x_setLimit M a) ["java/lang/IllegalArgumentException", "java/lang/UnsupportedOperationException"] (some (.int (iN (v_setLimit M a)))) (n_setLimit M a)) := by
  obtain ⟨G, Y, rfl, hC, hR, hI, hZ⟩ := h
  replace hC : RC E0 S G (mix Y (mup M 0 0 (x_setLimit M a))) := hC.xe xe0
  replace hR : Rel Y (mup M 0 0 (x_setLimit M a)) := hR
  replace hI : Inv (mup M 0 0 (x_setLimit M a)) := hI
  replace hZ : I9 (mup M 0 0 (x_setLimit M a)) := hZ
  refine Ct.mono (p_setLimit l hfl hC h_a) (fun r9 S9 h9 => ?_)
  exact pub_of hI hZ hR hC h9 (e_setLimit hI hR) (fun _ => rfl) (fun hx => by unfold n_setLimit; rw [if_pos hx]; exact t_setLimit hI hZ hR hx) (fun hx => by unfold n_setLimit; rw [if_neg hx])

set_option maxHeartbeats 1000000 in
theorem s_run (l : Launch) (hfl : l.stackTraces = false) {E0 : Nat} {S : wS} {q9 : Nat} {M : wM} (h : Jn E0 S q9 M) {r : Int} (h_r : rg r) : Ct l yX5_run cX5_run 3 (some FieldType.int) 20 100 6000 [.ref q9, .int (iN r)] S (pubR E0 S q9 (x_run M r) ["java/lang/IndexOutOfBoundsException", "java/lang/UnsupportedOperationException"] (some (.int (iN (v_run M r)))) (n_run M r)) := by
  obtain ⟨G, Y, rfl, hC, hR, hI, hZ⟩ := h
  replace hC : RC E0 S G (mix Y (mup M 0 0 (x_run M r))) := hC.xe xe0
  replace hR : Rel Y (mup M 0 0 (x_run M r)) := hR
  replace hI : Inv (mup M 0 0 (x_run M r)) := hI
  replace hZ : I9 (mup M 0 0 (x_run M r)) := hZ
  refine Ct.mono (p_run l hfl hC h_r (h_run hI hR)) (fun r9 S9 h9 => ?_)
  exact pub_of hI hZ hR hC h9 (e_run hI hR) (fun hx => congrArg (fun z => Value.int (iN z)) ((t_run hI hZ hR hx).2)) (fun hx => by unfold n_run; rw [if_pos hx]; exact (t_run hI hZ hR hx).1) (fun hx => by unfold n_run; rw [if_neg hx])

set_option maxHeartbeats 1000000 in
theorem s_giveBack (l : Launch) (hfl : l.stackTraces = false) {E0 : Nat} {S : wS} {q9 : Nat} {M : wM} (h : Jn E0 S q9 M) {z : Int} (h_z : rg z) : Ct l yX5_giveBack cX5_giveBack 3 (some FieldType.int) 20 100 6000 [.ref q9, .int (iN z)] S (pubR E0 S q9 (x_giveBack M z) ["java/lang/IndexOutOfBoundsException", "java/lang/UnsupportedOperationException"] (some (.int (iN (v_giveBack M z)))) (n_giveBack M z)) := by
  obtain ⟨G, Y, rfl, hC, hR, hI, hZ⟩ := h
  replace hC : RC E0 S G (mix Y (mup M 0 0 (x_giveBack M z))) := hC.xe xe0
  replace hR : Rel Y (mup M 0 0 (x_giveBack M z)) := hR
  replace hI : Inv (mup M 0 0 (x_giveBack M z)) := hI
  replace hZ : I9 (mup M 0 0 (x_giveBack M z)) := hZ
  refine Ct.mono (p_giveBack l hfl hC h_z) (fun r9 S9 h9 => ?_)
  exact pub_of hI hZ hR hC h9 rfl (fun _ => rfl) (fun hx => by unfold n_giveBack; rw [if_pos hx]; exact t_giveBack hI hZ hR hx) (fun hx => by unfold n_giveBack; rw [if_neg hx])

set_option maxHeartbeats 1000000 in
theorem s_advance (l : Launch) (hfl : l.stackTraces = false) {E0 : Nat} {S : wS} {q9 : Nat} {M : wM} (h : Jn E0 S q9 M) {a : Int} (h_a : rg a) (hd : M 29 0 + 99 ≤ 50688) : Ct l yX5_advance cX5_advance 5 (some FieldType.int) 20 100 6000 [.ref q9, .int (iN a)] S (pubR E0 S q9 (x_advance M a) ["java/lang/IllegalArgumentException"] (some (.int (iN (v_advance M a)))) (n_advance M a)) := by
  obtain ⟨G, Y, rfl, hC, hR, hI, hZ⟩ := h
  replace hC : RC E0 S G (mix Y (mup M 0 0 (x_advance M a))) := hC.xe xe0
  replace hR : Rel Y (mup M 0 0 (x_advance M a)) := hR
  replace hI : Inv (mup M 0 0 (x_advance M a)) := hI
  replace hZ : I9 (mup M 0 0 (x_advance M a)) := hZ
  refine Ct.mono (p_advance l hfl hC h_a (h_day hI)) (fun r9 S9 h9 => ?_)
  exact pub_of hI hZ hR hC h9 rfl (fun _ => rfl) (fun hx => by unfold n_advance; rw [if_pos hx]; exact t_advance hI hZ hR hx hd) (fun hx => by unfold n_advance; rw [if_neg hx])

set_option maxHeartbeats 1000000 in
theorem s_addShot (l : Launch) (hfl : l.stackTraces = false) {D : wD} {S : wS} {q9 : Nat} {M : wM} (h : Jn D.2.2.1 S q9 M) {f a b : Int} (h_f : rg f)  (h_a : rg a)  (h_b : rg b) : CtD l D yX5_addShot cX5_addShot 6 (some FieldType.int) 20 100 6000 [.ref q9, .int (iN f), .int (iN a), .int (iN b)] S (pubR D.2.2.1 S q9 (x_addShot M f a b) ["java/lang/IndexOutOfBoundsException", "java/lang/IllegalArgumentException", "java/lang/IllegalStateException"] (some (.int (iN (v_addShot M f a b)))) (n_addShot M f a b)) := by
  obtain ⟨G, Y, rfl, hC, hR, hI, hZ⟩ := h
  replace hC : RC D.2.2.1 S G (mix Y (mup M 0 0 (x_addShot M f a b))) := hC.xe xe0
  replace hR : Rel Y (mup M 0 0 (x_addShot M f a b)) := hR
  replace hI : Inv (mup M 0 0 (x_addShot M f a b)) := hI
  replace hZ : I9 (mup M 0 0 (x_addShot M f a b)) := hZ
  refine CtD.mono (p_addShot l hfl hC h_f h_a h_b (h_len hI)) (fun r9 S9 h9 => ?_)
  exact pub_of hI hZ hR hC h9 rfl (fun _ => rfl) (fun hx => by unfold n_addShot; rw [if_pos hx]; exact t_addShot hI hZ hR hx) (fun hx => by unfold n_addShot; rw [if_neg hx])

set_option maxHeartbeats 1000000 in
theorem s_addReel (l : Launch) (hfl : l.stackTraces = false) {D : wD} {S : wS} {q9 : Nat} {M : wM} (h : Jn D.2.2.1 S q9 M) {f : Int} (h_f : rg f) : CtD l D yX5_addReel cX5_addReel 3 (some FieldType.int) 20 100 6000 [.ref q9, .int (iN f)] S (pubR D.2.2.1 S q9 (x_addReel M f) ["java/lang/IndexOutOfBoundsException", "java/lang/IllegalStateException"] (some (.int (iN (v_addReel M f)))) (n_addReel M f)) := by
  obtain ⟨G, Y, rfl, hC, hR, hI, hZ⟩ := h
  replace hC : RC D.2.2.1 S G (mix Y (mup M 0 0 (x_addReel M f))) := hC.xe xe0
  replace hR : Rel Y (mup M 0 0 (x_addReel M f)) := hR
  replace hI : Inv (mup M 0 0 (x_addReel M f)) := hI
  replace hZ : I9 (mup M 0 0 (x_addReel M f)) := hZ
  refine CtD.mono (p_addReel l hfl hC h_f) (fun r9 S9 h9 => ?_)
  exact pub_of hI hZ hR hC h9 rfl (fun _ => rfl) (fun hx => by unfold n_addReel; rw [if_pos hx]; exact t_addReel hI hZ hR hx) (fun hx => by unfold n_addReel; rw [if_neg hx])

set_option maxHeartbeats 1000000 in
theorem s_put (l : Launch) (hfl : l.stackTraces = false) {D : wD} {S : wS} {q9 : Nat} {M : wM} (h : Jn D.2.2.1 S q9 M) {r z : Int} (h_r : rg r)  (h_z : rg z) : CtD l D yX5_put cX5_put 5 (some FieldType.int) 20 100 6000 [.ref q9, .int (iN r), .int (iN z)] S (pubR D.2.2.1 S q9 (x_put M r z) ["java/lang/IndexOutOfBoundsException", "java/lang/IllegalArgumentException", "java/lang/UnsupportedOperationException"] (some (.int (iN (v_put M r z)))) (n_put M r z)) := by
  obtain ⟨G, Y, rfl, hC, hR, hI, hZ⟩ := h
  replace hC : RC D.2.2.1 S G (mix Y (mup M 0 0 (x_put M r z))) := hC.xe xe0
  replace hR : Rel Y (mup M 0 0 (x_put M r z)) := hR
  replace hI : Inv (mup M 0 0 (x_put M r z)) := hI
  replace hZ : I9 (mup M 0 0 (x_put M r z)) := hZ
  refine CtD.mono (p_put l hfl hC h_r h_z (e_PLs hI) (h_m hI) (h_16 hI)) (fun r9 S9 h9 => ?_)
  exact pub_of hI hZ hR hC h9 (e_put hI hR) (fun _ => rfl) (fun hx => by unfold n_put; rw [if_pos hx]; exact t_put hI hZ hR hx) (fun hx => by unfold n_put; rw [if_neg hx])

set_option maxHeartbeats 1000000 in
theorem s_grade (l : Launch) (hfl : l.stackTraces = false) {E0 : Nat} {S : wS} {q9 : Nat} {M : wM} (h : Jn E0 S q9 M) {z g : Int} (h_z : rg z)  (h_g : rg g) : Ct l yX5_grade cX5_grade 5 (some FieldType.int) 20 100 6000 [.ref q9, .int (iN z), .int (iN g)] S (pubR E0 S q9 (x_grade M z g) ["java/lang/IndexOutOfBoundsException", "java/lang/IllegalArgumentException", "java/lang/UnsupportedOperationException"] (some (.int (iN (v_grade M z g)))) (n_grade M z g)) := by
  obtain ⟨G, Y, rfl, hC, hR, hI, hZ⟩ := h
  replace hC : RC E0 S G (mix Y (mup M 0 0 (x_grade M z g))) := hC.xe xe0
  replace hR : Rel Y (mup M 0 0 (x_grade M z g)) := hR
  replace hI : Inv (mup M 0 0 (x_grade M z g)) := hI
  replace hZ : I9 (mup M 0 0 (x_grade M z g)) := hZ
  refine Ct.mono (p_grade l hfl hC h_z h_g) (fun r9 S9 h9 => ?_)
  exact pub_of hI hZ hR hC h9 rfl (fun _ => rfl) (fun hx => by unfold n_grade; rw [if_pos hx]; exact t_grade hI hZ hR hx) (fun hx => by unfold n_grade; rw [if_neg hx])

set_option maxHeartbeats 1000000 in
theorem s_mend (l : Launch) (hfl : l.stackTraces = false) {E0 : Nat} {S : wS} {q9 : Nat} {M : wM} (h : Jn E0 S q9 M) {r z : Int} (h_r : rg r)  (h_z : rg z) : Ct l yX5_mend cX5_mend 6 (some FieldType.int) 20 100 6000 [.ref q9, .int (iN r), .int (iN z)] S (pubR E0 S q9 (x_mend M r z) ["java/lang/IndexOutOfBoundsException", "java/lang/UnsupportedOperationException"] (some (.int (iN (v_mend M r z)))) (n_mend M r z)) := by
  obtain ⟨G, Y, rfl, hC, hR, hI, hZ⟩ := h
  replace hC : RC E0 S G (mix Y (mup M 0 0 (x_mend M r z))) := hC.xe xe0
  replace hR : Rel Y (mup M 0 0 (x_mend M r z)) := hR
  replace hI : Inv (mup M 0 0 (x_mend M r z)) := hI
  replace hZ : I9 (mup M 0 0 (x_mend M r z)) := hZ
  refine Ct.mono (p_mend l hfl hC h_r h_z) (fun r9 S9 h9 => ?_)
  exact pub_of hI hZ hR hC h9 (e_mend hI hR) (fun hx => congrArg (fun z => Value.int (iN z)) ((t_mend hI hZ hR hx).2)) (fun hx => by unfold n_mend; rw [if_pos hx]; exact (t_mend hI hZ hR hx).1) (fun hx => by unfold n_mend; rw [if_neg hx])

set_option maxHeartbeats 1000000 in
theorem s_scan (l : Launch) (hfl : l.stackTraces = false) {E0 : Nat} {S : wS} {q9 : Nat} {M : wM} (h : Jn E0 S q9 M) {r z : Int} (h_r : rg r)  (h_z : rg z) : Ct l yX5_scan cX5_scan 7 (some FieldType.int) 20 100 6000 [.ref q9, .int (iN r), .int (iN z)] S (pubR E0 S q9 (x_scan M r z) ["java/lang/IndexOutOfBoundsException", "java/lang/IllegalArgumentException", "java/lang/UnsupportedOperationException"] (some (.int (iN (v_scan M r z)))) (n_scan M r z)) := by
  obtain ⟨G, Y, rfl, hC, hR, hI, hZ⟩ := h
  replace hC : RC E0 S G (mix Y (mup M 0 0 (x_scan M r z))) := hC.xe xe0
  replace hR : Rel Y (mup M 0 0 (x_scan M r z)) := hR
  replace hI : Inv (mup M 0 0 (x_scan M r z)) := hI
  replace hZ : I9 (mup M 0 0 (x_scan M r z)) := hZ
  refine Ct.mono (p_scan l hfl hC h_r h_z) (fun r9 S9 h9 => ?_)
  exact pub_of hI hZ hR hC h9 (e_scan hI hR) (fun hx => congrArg (fun z => Value.int (iN z)) (e_scanV hR (Decidable.not_not.mp (ite0 hx (by decide)).1))) (fun hx => by unfold n_scan; rw [if_pos hx]; exact t_scan hI hZ hR hx) (fun hx => by unfold n_scan; rw [if_neg hx])

set_option maxHeartbeats 1000000 in
theorem s_shown (l : Launch) (hfl : l.stackTraces = false) {E0 : Nat} {S : wS} {q9 : Nat} {M : wM} (h : Jn E0 S q9 M)  : Ct l yX5_shown cX5_shown 1 (some FieldType.long) 20 100 6000 [.ref q9] S (pubR E0 S q9 (0) [] (some (.long (iL (M 30 0)))) (mup M 0 0 0)) := by
  obtain ⟨G, Y, rfl, hC, hR, hI, hZ⟩ := h
  replace hC : RC E0 S G (mix Y (mup M 0 0 (0))) := hC.xe xe0
  replace hR : Rel Y (mup M 0 0 (0)) := hR
  replace hI : Inv (mup M 0 0 (0)) := hI
  replace hZ : I9 (mup M 0 0 (0)) := hZ
  refine Ct.mono (p_shown l hfl hC) (fun r9 S9 h9 => ?_)
  exact pub_of hI hZ hR hC h9 rfl (fun _ => rfl) (fun _ => kept_id hI hZ hR) (fun h => absurd rfl h)

set_option maxHeartbeats 1000000 in
theorem s_keptShare (l : Launch) (hfl : l.stackTraces = false) {E0 : Nat} {S : wS} {q9 : Nat} {M : wM} (h : Jn E0 S q9 M)  : Ct l yX5_keptShare cX5_keptShare 4 (some FieldType.float) 20 100 6000 [.ref q9] S (pubR E0 S q9 (x_keptShare M) ["java/lang/ArithmeticException"] (some (.float (v_keptShare M))) (n_keptShare M )) := by
  obtain ⟨G, Y, rfl, hC, hR, hI, hZ⟩ := h
  replace hC : RC E0 S G (mix Y (mup M 0 0 (x_keptShare M))) := hC.xe xe0
  replace hR : Rel Y (mup M 0 0 (x_keptShare M)) := hR
  replace hI : Inv (mup M 0 0 (x_keptShare M)) := hI
  replace hZ : I9 (mup M 0 0 (x_keptShare M)) := hZ
  refine Ct.mono (p_keptShare l hfl hC) (fun r9 S9 h9 => ?_)
  exact pub_of hI hZ hR hC h9 rfl (fun _ => rfl) (fun hx => by unfold n_keptShare; rw [if_pos hx]; exact kept_id hI hZ hR) (fun hx => by unfold n_keptShare; rw [if_neg hx])

set_option maxHeartbeats 1000000 in
theorem s_meanWear (l : Launch) (hfl : l.stackTraces = false) {E0 : Nat} {S : wS} {q9 : Nat} {M : wM} (h : Jn E0 S q9 M)  : Ct l yX5_meanWear cX5_meanWear 5 (some FieldType.double) 20 100 6000 [.ref q9] S (pubR E0 S q9 (x_meanWear M) ["java/lang/ArithmeticException"] (some (.double (v_meanWear M))) (n_meanWear M )) := by
  obtain ⟨G, Y, rfl, hC, hR, hI, hZ⟩ := h
  replace hC : RC E0 S G (mix Y (mup M 0 0 (x_meanWear M))) := hC.xe xe0
  replace hR : Rel Y (mup M 0 0 (x_meanWear M)) := hR
  replace hI : Inv (mup M 0 0 (x_meanWear M)) := hI
  replace hZ : I9 (mup M 0 0 (x_meanWear M)) := hZ
  refine Ct.mono (p_meanWear l hfl hC) (fun r9 S9 h9 => ?_)
  exact pub_of hI hZ hR hC h9 e_meanWear (fun _ => congrArg Value.double (congr (congrArg FP.ddiv (congrArg (fun z => FP.i2d (iN z)) (e_meanXs hR))) (congrArg (fun z => FP.i2d (iN z)) (e_meanXn (Y := Y) (M := (mup M 0 0 (x_meanWear M))))))) (fun hx => by unfold n_meanWear; rw [if_pos hx]; exact kept_id hI hZ hR) (fun hx => by unfold n_meanWear; rw [if_neg hx])

set_option maxHeartbeats 1000000 in
theorem s_isSound (l : Launch) (hfl : l.stackTraces = false) {E0 : Nat} {S : wS} {q9 : Nat} {M : wM} (h : Jn E0 S q9 M)  : Ct l yX5_isSound cX5_isSound 1 (some FieldType.boolean) 20 100 6000 [.ref q9] S (pubR E0 S q9 (0) [] (some (.int (iN 1))) (mup M 0 0 0)) := by
  obtain ⟨G, Y, rfl, hC, hR, hI, hZ⟩ := h
  replace hC : RC E0 S G (mix Y (mup M 0 0 (0))) := hC.xe xe0
  replace hR : Rel Y (mup M 0 0 (0)) := hR
  replace hI : Inv (mup M 0 0 (0)) := hI
  replace hZ : I9 (mup M 0 0 (0)) := hZ
  refine Ct.mono (p_isSound l hfl hC  (h_sound hI hR).1 (h_sound hI hR).2.1 (h_sound hI hR).2.2) (fun r9 S9 h9 => ?_)
  exact pub_of hI hZ hR hC h9 rfl (fun _ => rfl) (fun _ => kept_id hI hZ hR) (fun h => absurd rfl h)

set_option maxHeartbeats 1000000 in
theorem s_addFilm (l : Launch) (hfl : l.stackTraces = false) {D : wD} {S : wS} {q9 : Nat} {M : wM} (h : Jn D.2.2.1 S q9 M)  : CtN l D yX5_addFilm cX5_addFilm 1 (some FieldType.int) 20 100 6000 [.ref q9] S (pubR D.2.2.1 S q9 (x_addFilm M) ["java/lang/IllegalStateException"] (some (.int (iN (v_addFilm M )))) (n_addFilm M )) := by
  obtain ⟨G, Y, rfl, hC, hR, hI, hZ⟩ := h
  replace hC : RC D.2.2.1 S G (mix Y (mup M 0 0 (x_addFilm M))) := hC.xe xe0
  replace hR : Rel Y (mup M 0 0 (x_addFilm M)) := hR
  replace hI : Inv (mup M 0 0 (x_addFilm M)) := hI
  replace hZ : I9 (mup M 0 0 (x_addFilm M)) := hZ
  refine CtN.mono (p_addFilm l hfl hC) (fun r9 S9 h9 => ?_)
  exact pub_of hI hZ hR hC h9 rfl (fun _ => rfl) (fun hx => by unfold n_addFilm; rw [if_pos hx]; exact t_addFilm hI hZ hR hx) (fun hx => by unfold n_addFilm; rw [if_neg hx])

set_option maxHeartbeats 1000000 in
theorem s_found (l : Launch) (hfl : l.stackTraces = false) {D : wD} {S : wS} {q9 : Nat} {M : wM} (h : Jn D.2.2.1 S q9 M) {f z a b : Int} (h_f : rg f)  (h_z : rg z)  (h_a : rg a)  (h_b : rg b) : CtD l D yX5_found cX5_found 8 (some FieldType.int) 20 100 6000 [.ref q9, .int (iN f), .int (iN z), .int (iN a), .int (iN b)] S (pubR D.2.2.1 S q9 (x_found M f z a b) ["java/lang/IndexOutOfBoundsException", "java/lang/IllegalArgumentException", "java/lang/UnsupportedOperationException", "java/lang/IllegalStateException"] (some (.int (iN (v_found M f z a b)))) (n_found M f z a b)) := by
  obtain ⟨G, Y, rfl, hC, hR, hI, hZ⟩ := h
  replace hC : RC D.2.2.1 S G (mix Y (mup M 0 0 (x_found M f z a b))) := hC.xe xe0
  replace hR : Rel Y (mup M 0 0 (x_found M f z a b)) := hR
  replace hI : Inv (mup M 0 0 (x_found M f z a b)) := hI
  replace hZ : I9 (mup M 0 0 (x_found M f z a b)) := hZ
  refine CtD.mono (p_found l hfl hC h_f h_z h_a h_b (h_len hI)) (fun r9 S9 h9 => ?_)
  exact pub_of hI hZ hR hC h9 (e_found hR) (fun _ => rfl) (fun hx => by unfold n_found; rw [if_pos hx]; exact t_found hI hZ hR hx) (fun hx => by unfold n_found; rw [if_neg hx])

set_option maxHeartbeats 1000000 in
theorem s_join (l : Launch) (hfl : l.stackTraces = false) {D : wD} {S : wS} {q9 : Nat} {M : wM} (h : Jn D.2.2.1 S q9 M) {r q : Int} (h_r : rg r)  (h_q : rg q) : CtD l D yX5_join cX5_join 7 (some FieldType.int) 20 100 10000 [.ref q9, .int (iN r), .int (iN q)] S (pubR D.2.2.1 S q9 (x_join M r q) ["java/lang/IndexOutOfBoundsException", "java/lang/IllegalArgumentException", "java/lang/UnsupportedOperationException"] (some (.int (iN (v_join M r q)))) (n_join M r q)) := by
  obtain ⟨G, Y, rfl, hC, hR, hI, hZ⟩ := h
  replace hC : RC D.2.2.1 S G (mix Y (mup M 0 0 (x_join M r q))) := hC.xe xe0
  replace hR : Rel Y (mup M 0 0 (x_join M r q)) := hR
  replace hI : Inv (mup M 0 0 (x_join M r q)) := hI
  replace hZ : I9 (mup M 0 0 (x_join M r q)) := hZ
  refine CtD.mono (p_join l hfl hC h_r h_q (e_PLs hI) (h_mj hI) (h_cap hI)) (fun r9 S9 h9 => ?_)
  exact pub_of hI hZ hR hC h9 (e_join hI hR) (fun _ => rfl) (fun hx => by unfold n_join; rw [if_pos hx]; exact t_join hI hZ hR hx) (fun hx => by unfold n_join; rw [if_neg hx])

set_option maxHeartbeats 1000000 in
theorem s_passOn (l : Launch) (hfl : l.stackTraces = false) {E0 : Nat} {S : wS} {q9 : Nat} {M : wM} (h : Jn E0 S q9 M) {z : Int} (h_z : rg z) : Ct l yX5_passOn cX5_passOn 7 (some FieldType.int) 20 100 6000 [.ref q9, .int (iN z)] S (pubR E0 S q9 (x_passOn M z) ["java/lang/IndexOutOfBoundsException", "java/lang/UnsupportedOperationException"] (some (.int (iN (v_passOn M z)))) (n_passOn M z)) := by
  obtain ⟨G, Y, rfl, hC, hR, hI, hZ⟩ := h
  replace hC : RC E0 S G (mix Y (mup M 0 0 (x_passOn M z))) := hC.xe xe0
  replace hR : Rel Y (mup M 0 0 (x_passOn M z)) := hR
  replace hI : Inv (mup M 0 0 (x_passOn M z)) := hI
  replace hZ : I9 (mup M 0 0 (x_passOn M z)) := hZ
  refine Ct.mono (p_passOn l hfl hC h_z) (fun r9 S9 h9 => ?_)
  exact pub_of hI hZ hR hC h9 rfl (fun hx => congrArg (fun z => Value.int (iN z)) ((t_passOn hI hZ hR hx).2)) (fun hx => by unfold n_passOn; rw [if_pos hx]; exact (t_passOn hI hZ hR hx).1) (fun hx => by unfold n_passOn; rw [if_neg hx])

set_option maxHeartbeats 1000000 in
theorem s_addVersion (l : Launch) (hfl : l.stackTraces = false) {D : wD} {S : wS} {q9 : Nat} {M : wM} (h : Jn D.2.2.1 S q9 M) {f a : Int} (h_f : rg f)  (h_a : rg a) : CtD l D yX5_addVersion cX5_addVersion 4 (some FieldType.int) 20 100 6000 [.ref q9, .int (iN f), .int (iN a)] S (pubR D.2.2.1 S q9 (x_addVersion M f a) ["java/lang/IndexOutOfBoundsException", "java/lang/IllegalArgumentException", "java/lang/UnsupportedOperationException", "java/lang/IllegalStateException"] (some (.int (iN (v_addVersion M f a)))) (n_addVersion M f a)) := by
  obtain ⟨G, Y, rfl, hC, hR, hI, hZ⟩ := h
  replace hC : RC D.2.2.1 S G (mix Y (mup M 0 0 (x_addVersion M f a))) := hC.xe xe0
  replace hR : Rel Y (mup M 0 0 (x_addVersion M f a)) := hR
  replace hI : Inv (mup M 0 0 (x_addVersion M f a)) := hI
  replace hZ : I9 (mup M 0 0 (x_addVersion M f a)) := hZ
  refine CtD.mono (p_addVersion l hfl hC h_f h_a (hz_ver hI hR)) (fun r9 S9 h9 => ?_)
  exact pub_of hI hZ hR hC h9 rfl (fun _ => rfl) (fun hx => by unfold n_addVersion; rw [if_pos hx]; exact t_addVersion hI hZ hR hx) (fun hx => by unfold n_addVersion; rw [if_neg hx])

set_option maxHeartbeats 1000000 in
theorem s_leaveOut (l : Launch) (hfl : l.stackTraces = false) {E0 : Nat} {S : wS} {q9 : Nat} {M : wM} (h : Jn E0 S q9 M) {f a b : Int} (h_f : rg f)  (h_a : rg a)  (h_b : rg b) {w : Bool} : Ct l yX5_leaveOut cX5_leaveOut 12 (some FieldType.int) 20 100 6000 [.ref q9, .int (iN f), .int (iN a), .int (iN b), .int (iN (bN w))] S (pubR E0 S q9 (x_leaveOut M f a b w) ["java/lang/IndexOutOfBoundsException", "java/lang/IllegalArgumentException"] (some (.int (iN (v_leaveOut M f a b w)))) (n_leaveOut M f a b w)) := by
  obtain ⟨G, Y, rfl, hC, hR, hI, hZ⟩ := h
  replace hC : RC E0 S G (mix Y (mup M 0 0 (x_leaveOut M f a b w))) := hC.xe xe0
  replace hR : Rel Y (mup M 0 0 (x_leaveOut M f a b w)) := hR
  replace hI : Inv (mup M 0 0 (x_leaveOut M f a b w)) := hI
  replace hZ : I9 (mup M 0 0 (x_leaveOut M f a b w)) := hZ
  refine Ct.mono (p_leaveOut (w := w) l hfl hC h_f h_a h_b) (fun r9 S9 h9 => ?_)
  exact pub_of hI hZ hR hC h9 rfl (fun hx => congrArg (fun z => Value.int (iN z)) ((t_leaveOut (w := w) hI hZ hR hx).2.trans (loM_c0 _))) (fun hx => by unfold n_leaveOut; rw [if_pos hx, ← loK_c0 (c := x_leaveOut M f a b w)]; exact (t_leaveOut (w := w) hI hZ hR hx).1) (fun hx => by unfold n_leaveOut; rw [if_neg hx])

set_option maxHeartbeats 1000000 in
theorem s_lend (l : Launch) (hfl : l.stackTraces = false) {D : wD} {S : wS} {q9 : Nat} {M : wM} (h : Jn D.2.2.1 S q9 M) {f a b g : Int} (h_f : rg f)  (h_a : rg a)  (h_b : rg b)  (h_g : rg g) : CtD l D yX5_lend cX5_lend 6 (some FieldType.int) 20 100 6000 [.ref q9, .int (iN f), .int (iN a), .int (iN b), .int (iN g)] S (pubR D.2.2.1 S q9 (x_lend M f a b g) ["java/lang/IndexOutOfBoundsException", "java/lang/IllegalArgumentException", "java/lang/UnsupportedOperationException", "java/lang/IllegalStateException"] (some (.int (iN (v_lend M f a b g)))) (n_lend M f a b g)) := by
  obtain ⟨G, Y, rfl, hC, hR, hI, hZ⟩ := h
  replace hC : RC D.2.2.1 S G (mix Y (mup M 0 0 (x_lend M f a b g))) := hC.xe xe0
  replace hR : Rel Y (mup M 0 0 (x_lend M f a b g)) := hR
  replace hI : Inv (mup M 0 0 (x_lend M f a b g)) := hI
  replace hZ : I9 (mup M 0 0 (x_lend M f a b g)) := hZ
  refine CtD.mono (p_lend l hfl hC h_f h_a h_b h_g (h_day hI)) (fun r9 S9 h9 => ?_)
  exact pub_of hI hZ hR hC h9 (e_lend hI hR) (fun _ => rfl) (fun hx => by unfold n_lend; rw [if_pos hx]; exact t_lend hI hZ hR hx) (fun hx => by unfold n_lend; rw [if_neg hx])

set_option maxHeartbeats 1000000 in
theorem s_show (l : Launch) (hfl : l.stackTraces = false) {E0 : Nat} {S : wS} {q9 : Nat} {M : wM} (h : Jn E0 S q9 M) {z : Int} (h_z : rg z) : Ct l yX5_show cX5_show 5 (some FieldType.int) 20 100 6000 [.ref q9, .int (iN z)] S (pubR E0 S q9 (x_show M z) ["java/lang/IndexOutOfBoundsException", "java/lang/UnsupportedOperationException"] (some (.int (iN (v_show M z)))) (n_show M z)) := by
  obtain ⟨G, Y, rfl, hC, hR, hI, hZ⟩ := h
  replace hC : RC E0 S G (mix Y (mup M 0 0 (x_show M z))) := hC.xe xe0
  replace hR : Rel Y (mup M 0 0 (x_show M z)) := hR
  replace hI : Inv (mup M 0 0 (x_show M z)) := hI
  replace hZ : I9 (mup M 0 0 (x_show M z)) := hZ
  refine Ct.mono (p_show l hfl hC h_z (h_show hI hR)) (fun r9 S9 h9 => ?_)
  exact pub_of hI hZ hR hC h9 rfl (fun _ => rfl) (fun hx => by unfold n_show; rw [if_pos hx]; exact t_show hI hZ hR hx) (fun hx => by unfold n_show; rw [if_neg hx])

set_option maxHeartbeats 1000000 in
theorem s_frameOf (l : Launch) (hfl : l.stackTraces = false) {E0 : Nat} {S : wS} {q9 : Nat} {M : wM} (h : Jn E0 S q9 M) {z : Int} (h_z : rg z) : Ct l yX5_frameOf cX5_frameOf 3 (some FieldType.int) 20 100 6000 [.ref q9, .int (iN z)] S (pubR E0 S q9 (x_frameOf M z) ["java/lang/IndexOutOfBoundsException", "java/util/NoSuchElementException"] (some (.int (iN (v_frameOf M z)))) (n_frameOf M z)) := by
  obtain ⟨G, Y, rfl, hC, hR, hI, hZ⟩ := h
  replace hC : RC E0 S G (mix Y (mup M 0 0 (x_frameOf M z))) := hC.xe xe0
  replace hR : Rel Y (mup M 0 0 (x_frameOf M z)) := hR
  replace hI : Inv (mup M 0 0 (x_frameOf M z)) := hI
  replace hZ : I9 (mup M 0 0 (x_frameOf M z)) := hZ
  refine Ct.mono (p_frameOf l hfl hC h_z (e_PLs hI)) (fun r9 S9 h9 => ?_)
  exact pub_of hI hZ hR hC h9 rfl (fun _ => rfl) (fun hx => by unfold n_frameOf; rw [if_pos hx]; exact kept_id hI hZ hR) (fun hx => by unfold n_frameOf; rw [if_neg hx])

set_option maxHeartbeats 1000000 in
theorem s_shotAt (l : Launch) (hfl : l.stackTraces = false) {E0 : Nat} {S : wS} {q9 : Nat} {M : wM} (h : Jn E0 S q9 M) {f z : Int} (h_f : rg f)  (h_z : rg z) : Ct l yX5_shotAt cX5_shotAt 7 (some FieldType.int) 20 100 6000 [.ref q9, .int (iN f), .int (iN z)] S (pubR E0 S q9 (x_shotAt M f z) ["java/lang/IndexOutOfBoundsException", "java/util/NoSuchElementException"] (some (.int (iN (v_shotAt M f z)))) (n_shotAt M f z)) := by
  obtain ⟨G, Y, rfl, hC, hR, hI, hZ⟩ := h
  replace hC : RC E0 S G (mix Y (mup M 0 0 (x_shotAt M f z))) := hC.xe xe0
  replace hR : Rel Y (mup M 0 0 (x_shotAt M f z)) := hR
  replace hI : Inv (mup M 0 0 (x_shotAt M f z)) := hI
  replace hZ : I9 (mup M 0 0 (x_shotAt M f z)) := hZ
  refine Ct.mono (p_shotAt l hfl hC h_f h_z (h_five hI)) (fun r9 S9 h9 => ?_)
  exact pub_of hI hZ hR hC h9 e_shotAt (fun _ => congrArg (fun z => Value.int (iN z)) swM_cg) (fun hx => by unfold n_shotAt; rw [if_pos hx]; exact kept_id hI hZ hR) (fun hx => by unfold n_shotAt; rw [if_neg hx])

