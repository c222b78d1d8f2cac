/-! THE REFERENCE: its shares and means; no NaN comes. -/
theorem t32 (x : Nat) : (UInt32.ofNat x).toNat = x % 4294967296 := rfl
theorem t64 (x : Nat) : (UInt64.ofNat x).toNat = x % 18446744073709551616 := rfl
def fpOK (f : FP.Core.Fmt) : FP.Core.Datum → Prop
  | .nan => False
  | .inf _ => True
  | .fin _ c q => c < 2 ^ f.p ∧ q ≤ f.qmax
theorem fp_bound {f : FP.Core.Fmt} {s : Bool} {c : Nat} {q : Int} (h : c < 2 ^ f.p) : fpOK f (FP.Core.bound f s c q) := by
  unfold FP.Core.bound
  split
  · exact ⟨h, by assumption⟩
  · trivial
theorem fp_settle {f : FP.Core.Fmt} {s : Bool} {c : Nat} {q : Int} (hp : f.tails < 2 ^ f.p) : fpOK f (FP.Core.settle f s c q) := by
  unfold FP.Core.settle
  split
  · exact fp_bound (by assumption)
  · exact fp_bound hp
theorem fp_ratio {f : FP.Core.Fmt} {s : Bool} {a b : Nat} {e : Int} (hp : f.tails < 2 ^ f.p) (hq : f.qmin ≤ f.qmax) : fpOK f (FP.Core.roundRatio f s a b e) := by
  unfold FP.Core.roundRatio
  split
  · exact ⟨Nat.two_pow_pos _, hq⟩
  · exact fp_settle hp
theorem fp_quot {f : FP.Core.Fmt} {s t : Bool} {c d : Nat} {q r : Int} (hp : f.tails < 2 ^ f.p) (hq : f.qmin ≤ f.qmax) (h : c = 0 → ¬ d = 0) : fpOK f (FP.Core.quotient f (.fin s c q) (.fin t d r)) := by
  unfold FP.Core.quotient
  simp only
  split
  · rw [if_neg (fun z => h z (by assumption))]; trivial
  · exact fp_ratio hp hq
theorem fp_n32 {d : FP.Core.Datum} (h : fpOK FP.Core.b32 d) : vf_n32 (UInt32.ofNat (FP.Core.encode FP.Core.b32 d)) := by
  have key : FP.Core.encode FP.Core.b32 d % 4294967296 % 2147483648 ≤ 2139095040 := by
    cases d with
    | nan => exact h.elim
    | inf s =>
      show ((s.toNat * 256 + (256 - 1)) * 8388608 + 0) % 4294967296 % 2147483648 ≤ 2139095040
      cases s <;> decide
    | fin s c q =>
      obtain ⟨h1, h2⟩ := h
      have h1 : c < 16777216 := h1
      have h2 : q ≤ 104 := h2
      show (if c < 8388608 then (s.toNat * 256 + 0) * 8388608 + c else (s.toNat * 256 + ((q - (-149)).toNat + 1)) * 8388608 + (c - 8388608)) % 4294967296 % 2147483648 ≤ 2139095040
      have hs : s.toNat ≤ 1 := by cases s <;> decide
      split <;> omega
  unfold vf_n32
  rw [UInt32.le_iff_toNat_le, UInt32.toNat_and]
  show (UInt32.ofNat (FP.Core.encode FP.Core.b32 d)).toNat &&& (2 ^ 31 - 1) ≤ 2139095040
  rw [Nat.and_two_pow_sub_one_eq_mod, t32]
  exact key
theorem fp_n64 {d : FP.Core.Datum} (h : fpOK FP.Core.b64 d) : vf_n64 (UInt64.ofNat (FP.Core.encode FP.Core.b64 d)) := by
  have key : FP.Core.encode FP.Core.b64 d % 18446744073709551616 % 9223372036854775808 ≤ 9218868437227405312 := by
    cases d with
    | nan => exact h.elim
    | inf s =>
      show ((s.toNat * 2048 + (2048 - 1)) * 4503599627370496 + 0) % 18446744073709551616 % 9223372036854775808 ≤ 9218868437227405312
      cases s <;> decide
    | fin s c q =>
      obtain ⟨h1, h2⟩ := h
      have h1 : c < 9007199254740992 := h1
      have h2 : q ≤ 971 := h2
      show (if c < 4503599627370496 then (s.toNat * 2048 + 0) * 4503599627370496 + c else (s.toNat * 2048 + ((q - (-1074)).toNat + 1)) * 4503599627370496 + (c - 4503599627370496)) % 18446744073709551616 % 9223372036854775808 ≤ 9218868437227405312
      have hs : s.toNat ≤ 1 := by cases s <;> decide
      split <;> omega
  unfold vf_n64
  rw [UInt64.le_iff_toNat_le, UInt64.toNat_and]
  show (UInt64.ofNat (FP.Core.encode FP.Core.b64 d)).toNat &&& (2 ^ 63 - 1) ≤ 9218868437227405312
  rw [Nat.and_two_pow_sub_one_eq_mod, t64]
  exact key
def fpFin (n : Nat) : FP.Core.Datum → Prop
  | .fin _ c _ => c = 0 → n = 0
  | _ => False
def chkF (a : Nat) : Bool := match FP.Core.decode FP.Core.b32 (FP.i2f (iN a)).toNat with
  | .fin _ c _ => c != 0 || a == 0
  | _ => false
theorem chkF_all : ∀ a : Fin 61, chkF a.val = true := by decide +kernel
theorem fp_i2f {z : Int} (h : 0 ≤ z ∧ z ≤ 60) : fpFin z.toNat (FP.Core.decode FP.Core.b32 (FP.i2f (iN z)).toNat) := by
  have h1 := chkF_all ⟨z.toNat, by omega⟩
  unfold chkF at h1
  rw [show ((⟨z.toNat, by omega⟩ : Fin 61).val : Int) = z by show ((z.toNat : Nat) : Int) = z; omega] at h1
  revert h1
  generalize FP.Core.decode FP.Core.b32 (FP.i2f (iN z)).toNat = d
  intro h1
  cases d with
  | nan => exact absurd (show false = true from h1) (by decide)
  | inf s => exact absurd (show false = true from h1) (by decide)
  | fin s c q =>
    intro hc
    subst hc
    simpa using h1
theorem fp_fdiv {a b : Int} (ha : 0 ≤ a ∧ a ≤ 60) (hb : 1 ≤ b ∧ b ≤ 60) : vf_n32 (FP.fdiv (FP.i2f (iN a)) (FP.i2f (iN b))) := by
  have h1 := fp_i2f ha
  have h2 := fp_i2f (z := b) (by omega)
  show vf_n32 (UInt32.ofNat (FP.Core.encode FP.Core.b32 (FP.Core.quotient FP.Core.b32 (FP.Core.decode FP.Core.b32 (FP.i2f (iN a)).toNat) (FP.Core.decode FP.Core.b32 (FP.i2f (iN b)).toNat))))
  revert h1 h2
  generalize FP.Core.decode FP.Core.b32 (FP.i2f (iN a)).toNat = d
  generalize FP.Core.decode FP.Core.b32 (FP.i2f (iN b)).toNat = g
  intro h1 h2
  cases d with
  | nan => exact h1.elim
  | inf s => exact h1.elim
  | fin s c q =>
    cases g with
    | nan => exact h2.elim
    | inf s => exact h2.elim
    | fin t d r => exact fp_n32 (fp_quot (by decide) (by decide) (fun _ hd => by have := h2 hd; omega))
theorem fp_i2d {z : Int} (h : 0 ≤ z ∧ z < 1073741824) : fpFin z.toNat (FP.Core.decode FP.Core.b64 (FP.i2d (iN z)).toNat) := by
  have e0 : (iN z).toInt = z := iN_T (by unfold rg; omega)
  show fpFin z.toNat (FP.Core.decode FP.Core.b64 (UInt64.ofNat (FP.Core.encode FP.Core.b64 (FP.Core.round FP.Core.b64 (FP.Core.ofInt (iN z).toInt)))).toNat)
  rw [e0, t64]
  by_cases hz : z = 0
  · subst hz
    intro _; rfl
  · have e1 : FP.Core.ofInt z = .fin false z.toNat 0 := by
      unfold FP.Core.ofInt
      rw [show decide (z < 0) = false from decide_eq_false (by omega), show z.natAbs = z.toNat by omega]
    rw [e1]
    show fpFin z.toNat (FP.Core.decode FP.Core.b64 (FP.Core.encode FP.Core.b64 (FP.Core.roundRatio FP.Core.b64 false z.toNat 1 0) % 18446744073709551616))
    generalize hn : z.toNat = n
    have hn0 : n ≠ 0 := by omega
    have hn1 : n < 2 ^ 30 := by omega
    have L1 : 2 ^ n.log2 ≤ n := Nat.log2_self_le hn0
    have L2 : n < 2 ^ (n.log2 + 1) := Nat.lt_log2_self
    have L3 : n.log2 < 30 := by
      rcases Nat.lt_or_ge n.log2 30 with q | q
      · exact q
      · have := Nat.pow_le_pow_right (show 2 > 0 by omega) q
        omega
    unfold FP.Core.roundRatio
    rw [if_neg hn0]
    have e2 : FP.Core.leading n 1 = (n.log2 : Int) := by
      unfold FP.Core.leading
      simp only [show Nat.log2 1 = 0 from by decide]
      rw [if_pos (by simpa using L1)]
      simp
    have e3 : FP.Core.quantum FP.Core.b64 n 1 0 = (n.log2 : Int) - 52 := by
      unfold FP.Core.quantum
      rw [e2, show FP.Core.b64.qmin = -1074 from by decide, show (FP.Core.b64.p : Int) = 53 from rfl]
      omega
    unfold FP.Core.roundAt
    rw [e3]
    have e4 : FP.Core.unitsNum n 0 ((n.log2 : Int) - 52) = n * 2 ^ (52 - n.log2) := by
      unfold FP.Core.unitsNum
      rw [show (0 - ((n.log2 : Int) - 52)).toNat = 52 - n.log2 by omega]
    have e5 : FP.Core.unitsDen 1 0 ((n.log2 : Int) - 52) = 1 := by
      unfold FP.Core.unitsDen
      rw [show ((n.log2 : Int) - 52 - 0).toNat = 0 by omega]
    have e6 : FP.Core.nearest (n * 2 ^ (52 - n.log2)) 1 = n * 2 ^ (52 - n.log2) := by
      unfold FP.Core.nearest
      rw [if_pos (by rw [Nat.mod_one]; decide), Nat.div_one]
    rw [e4, e5, e6]
    generalize hN : n * 2 ^ (52 - n.log2) = N
    have N1 : 4503599627370496 ≤ N := by
      have := Nat.mul_le_mul_right (2 ^ (52 - n.log2)) L1
      rw [← Nat.pow_add, show n.log2 + (52 - n.log2) = 52 by omega, hN] at this
      omega
    have N2 : N < 9007199254740992 := by
      have := Nat.mul_lt_mul_of_pos_right L2 (Nat.two_pow_pos (52 - n.log2))
      rw [← Nat.pow_add, show n.log2 + 1 + (52 - n.log2) = 53 by omega, hN] at this
      omega
    have e7 : FP.Core.settle FP.Core.b64 false N ((n.log2 : Int) - 52) = .fin false N ((n.log2 : Int) - 52) := by
      unfold FP.Core.settle FP.Core.bound
      rw [if_pos (show N < 2 ^ FP.Core.b64.p from N2), if_pos (show (n.log2 : Int) - 52 ≤ FP.Core.b64.qmax by rw [show FP.Core.b64.qmax = 971 from by decide]; omega)]
    rw [e7]
    have e8 : FP.Core.encode FP.Core.b64 (.fin false N ((n.log2 : Int) - 52)) = (n.log2 + 1023) * 4503599627370496 + (N - 4503599627370496) := by
      show (if N < 4503599627370496 then _ else (0 * 2048 + (((n.log2 : Int) - 52 - (-1074)).toNat + 1)) * 4503599627370496 + (N - 4503599627370496)) = _
      rw [if_neg (by omega)]
      omega
    rw [e8]
    have e9 : ((n.log2 + 1023) * 4503599627370496 + (N - 4503599627370496)) % 18446744073709551616 = (n.log2 + 1023) * 4503599627370496 + (N - 4503599627370496) := Nat.mod_eq_of_lt (by omega)
    rw [e9]
    generalize hK : (n.log2 + 1023) * 4503599627370496 + (N - 4503599627370496) = K
    have f1 : FP.Core.fieldE FP.Core.b64 K = n.log2 + 1023 := by
      show K / 4503599627370496 % 2048 = _
      omega
    unfold FP.Core.decode
    rw [f1, if_neg (show ¬ n.log2 + 1023 = FP.Core.b64.exps - 1 by rw [show FP.Core.b64.exps = 2048 from by decide]; omega), if_neg (by omega)]
    intro hc
    have : 4503599627370496 + FP.Core.fieldT FP.Core.b64 K = 0 := hc
    omega
theorem fp_ddiv {a b : Int} (ha : 0 ≤ a ∧ a < 1073741824) (hb : 1 ≤ b ∧ b < 1073741824) : vf_n64 (FP.ddiv (FP.i2d (iN a)) (FP.i2d (iN b))) := by
  have h1 := fp_i2d ha
  have h2 := fp_i2d (z := b) (by omega)
  show vf_n64 (UInt64.ofNat (FP.Core.encode FP.Core.b64 (FP.Core.quotient FP.Core.b64 (FP.Core.decode FP.Core.b64 (FP.i2d (iN a)).toNat) (FP.Core.decode FP.Core.b64 (FP.i2d (iN b)).toNat))))
  revert h1 h2
  generalize FP.Core.decode FP.Core.b64 (FP.i2d (iN a)).toNat = d
  generalize FP.Core.decode FP.Core.b64 (FP.i2d (iN b)).toNat = g
  intro h1 h2
  cases d with
  | nan => exact h1.elim
  | inf s => exact h1.elim
  | fin s c q =>
    cases g with
    | nan => exact h2.elim
    | inf s => exact h2.elim
    | fin t d r => exact fp_n64 (fp_quot (by decide) (by decide) (fun _ hd => by have := h2 hd; omega))
section FLT
variable {p : Program} {l : Launch} {e : Env} {R : Room} {s : State} {m : MethodId} {args : Array Value} {below : List Frame} {meth : Method} {c : Code} {nL : Nat} {D : wD} {A : Nat → Prop} {Q : State → Prop}
variable {cc : ByteArray} {own : String} {pc : Nat} {lv : List (Nat × Value)} {st : List Value} {S : wS} {k n : Nat}
theorem j_fconst0 (C : Cx p l s m args meth c cc nL own D A) (d : decode cc pc = .ok (.fconst 0, 1)) (kk : J p l e R s m args below meth c nL D A Q (pc + 1) lv (.float FP.fconst0 :: st) S k n) : J p l e R s m args below meth c nL D A Q pc lv st S k n :=
  fun H locs ls h1 h2 h3 => lv_fconst0 C.1 C.2.1 d (kk H locs ls h1 h2 h3)
theorem j_dconst0 (C : Cx p l s m args meth c cc nL own D A) (d : decode cc pc = .ok (.dconst 0, 1)) (kk : J p l e R s m args below meth c nL D A Q (pc + 1) lv (.double FP.dconst0 :: st) S k n) : J p l e R s m args below meth c nL D A Q pc lv st S k n :=
  fun H locs ls h1 h2 h3 => lv_dconst0 C.1 C.2.1 d (kk H locs ls h1 h2 h3)
end FLT
theorem rF {a b : UInt32} (h : a = b) : (.inl (some (.float a)) : wR) = .inl (some (.float b)) := by rw [h]
theorem rD {a b : UInt64} (h : a = b) : (.inl (some (.double a)) : wR) = .inl (some (.double b)) := by rw [h]
def keptN (M : wM) (k : Nat) : Int := sumI (fun q => if M 7 q = -1 then 0 else 1) k
def meanS (M : wM) (k : Nat) : Int := sumI (fun r => sumI (fun i => M 15 (60 * r + i)) (M 16 r - 1).toNat) k
def meanN (M : wM) (k : Nat) : Int := sumI (fun r => (((M 16 r - 1).toNat : Nat) : Int)) k
theorem keptN_rg {M : wM} {k : Nat} : 0 ≤ keptN M k ∧ keptN M k ≤ k := by
  have := sumI_bound (f := fun q : Nat => if M 7 q = -1 then (0 : Int) else 1) (c := 1) (n := k) (fun q _ => by show 0 ≤ (if M 7 q = -1 then (0 : Int) else 1) ∧ (if M 7 q = -1 then (0 : Int) else 1) ≤ 1; split <;> omega)
  unfold keptN
  omega
theorem mean_rg {M : wM} (i1 : I1 M) (i4 : I4 M) {k : Nat} (hk : (k : Int) ≤ M 17 0) : (0 ≤ meanS M k ∧ meanS M k ≤ 72000) ∧ 0 ≤ meanN M k ∧ meanN M k ≤ 1440 := by
  obtain ⟨-, a2, a3, a4, -⟩ := i1
  have q := sumI_bound (f := fun r : Nat => sumI (fun i : Nat => M 15 (60 * r + i)) (M 16 r - 1).toNat) (c := 3000) (n := k) (fun r hr => by
    have w4 := i4 r (by omega) (by omega)
    have q := sumI_bound (f := fun i : Nat => M 15 (60 * r + i)) (c := 50) (n := (M 16 r - 1).toNat) (fun i hi => by
      have := (w4.2.2.2.2 i (by omega) (by omega)).2.2.2.2.1 (by omega)
      show 0 ≤ M 15 (60 * r + i) ∧ M 15 (60 * r + i) ≤ 50
      omega)
    show 0 ≤ sumI (fun i : Nat => M 15 (60 * r + i)) (M 16 r - 1).toNat ∧ sumI (fun i : Nat => M 15 (60 * r + i)) (M 16 r - 1).toNat ≤ 3000
    have : (((M 16 r - 1).toNat : Nat) : Int) * 50 ≤ 60 * 50 := Int.mul_le_mul_of_nonneg_right (by omega) (by omega)
    omega)
  have q2 := sumI_bound (f := fun r : Nat => (((M 16 r - 1).toNat : Nat) : Int)) (c := 60) (n := k) (fun r hr => by
    have w4 := i4 r (by omega) (by omega)
    show 0 ≤ (((M 16 r - 1).toNat : Nat) : Int) ∧ (((M 16 r - 1).toNat : Nat) : Int) ≤ 60
    omega)
  unfold meanS meanN
  have e1 : (k : Int) * 3000 ≤ 24 * 3000 := Int.mul_le_mul_of_nonneg_right (by omega) (by omega)
  have e2 : (k : Int) * 60 ≤ 24 * 60 := Int.mul_le_mul_of_nonneg_right (by omega) (by omega)
  omega
def x_keptShare (M : wM) : Int := if M 12 0 = 0 then 1 else 0
def v_keptShare (M : wM) : UInt32 := FP.fdiv (FP.i2f (iN (keptN M (M 12 0).toNat))) (FP.i2f (iN (M 12 0)))
def n_keptShare (M : wM) : wM := if x_keptShare M = 0 then (mup M 0 0 (x_keptShare M)) else (mup M 0 0 (x_keptShare M))
def x_meanWear (M : wM) : Int := if meanN M (M 17 0).toNat = 0 then 1 else 0
def v_meanWear (M : wM) : UInt64 := FP.ddiv (FP.i2d (iN (meanS M (M 17 0).toNat))) (FP.i2d (iN (meanN M (M 17 0).toNat)))
def n_meanWear (M : wM) : wM := if x_meanWear M = 0 then (mup M 0 0 (x_meanWear M)) else (mup M 0 0 (x_meanWear M))
set_option maxHeartbeats 4000000 in
set_option maxRecDepth 100000 in
theorem m_keptShare (l : Launch) (hfl : l.stackTraces = false) {M : wM}  (I : Inv M) : MC l yX6_keptShare cX6_keptShare 3 (some FieldType.float) 4 [] M (.inl (some (.float (if x_keptShare M = 0 then v_keptShare M else FP.fconst0)))) (n_keptShare M) := by
  intro S0 o B hM0
  refine Ct.of cal_X6_keptShare hfl (Nat.le_of_ble_eq_true rfl) ?_
  intro p e s m args below meth c D sz C ME
  have hM : RMF S0 S0 o B M := ⟨hM0, mF.rf⟩
  have I9 := I
  obtain ⟨i1, i2, i3, i3e, i4, i4e, i5, i6, i7, i8, i10, i11⟩ := I9
  obtain ⟨a1, a2, a3, a4, a5, a6, a7⟩ := id i1
  have key : ∀ (x : Int) (S : wS), x = x_keptShare M → RMF S0 S o B M → J p l e { frames := 20 * 4, cells := 0, slots := 0, locals := 200 * 4 } s m args below meth c 3 D (wA S0 sz) (wQ below D sz S0 (fun r9 S9 => r9 = .inl (some (.float (if x_keptShare M = 0 then v_keptShare M else FP.fconst0))) ∧ RMF S0 S9 o B (n_keptShare M)) args s 0 0) 49 [(0, .ref o), (1, .int (iN (keptN M (M 12 0).toNat)))] [.int (iN x), .ref o] S 0 0 := by
    intro x S hx hM
    subst hx
    refine j_mcall C hM (c_goesOn l hfl (by unfold x_keptShare; (repeat' split) <;> (unfold rg; omega))) cal_X6_goesOn vi_X6_goesOn rfl ml_Mo_103 rfl rfl (Nat.le_of_ble_eq_true rfl) ⟨by decide, by decide⟩ ⟨by omega, by omega⟩ dX6_keptShare_49 (fun S hM => ?_)
    refine j_ifeq_b (tgt := 66) C dX6_keptShare_52 (by decide) (fun c52 => ?_) (fun c52 => ?_)
    · try simp only [decide_eq_true_eq, decide_eq_false_iff_not] at c52
      try simp only [decide_eq_true_eq, decide_eq_false_iff_not] at c52
      refine j_fconst0 C dX6_keptShare_66 ?_
      refine j_fret C ME ?_ (by omega) (by omega) dX6_keptShare_67
      refine ⟨rF ?_, ?_⟩
      · first
        | (rw [if_neg c52]; done)
        | (rw [if_pos c52]; unfold v_keptShare; rfl)
      · unfold n_keptShare
        first
        | (rw [if_neg c52]; exact hM)
        | (rw [if_pos c52]; exact hM)
    · try simp only [decide_eq_true_eq, decide_eq_false_iff_not] at c52
      try simp only [decide_eq_true_eq, decide_eq_false_iff_not] at c52
      have ok : ¬ M 12 0 = 0 := by
        clear I i1 i2 i3 i3e i4 i4e i5 i6 i7 i8 i10 i11; (try clear key); (try clear key2); (try clear ih); (try clear w5); (try clear w11); (try clear w2); (try clear w3); (try clear w4); (try clear w6); (try clear w7); (try clear w8); (try clear w9); (try clear p4); (try clear o4); unfold x_keptShare at c52
        (repeat' split at c52) <;> first | rfl | omega | (simp_all; done) | (simp_all; omega)
      
      refine j_iload_n C dX6_keptShare_55 rfl ?_
      refine j_i2f C dX6_keptShare_56 ?_
      refine j_aload_n C dX6_keptShare_57 rfl ?_
      refine j_mgeti C hM fl_Mo_91 ⟨by decide, rfl⟩ dX6_keptShare_58 ?_
      refine j_i2f C dX6_keptShare_61 ?_
      refine j_fdiv C (fp_fdiv (by have := keptN_rg (M := M) (k := (M 12 0).toNat); omega) (show 1 ≤ M 12 0 ∧ M 12 0 ≤ 60 by omega)) dX6_keptShare_62 ?_
      refine j_goto (tgt := 67) C dX6_keptShare_63 (by decide) ?_
      refine j_fret C ME ?_ (by omega) (by omega) dX6_keptShare_67
      refine ⟨rF ?_, ?_⟩
      · first
        | (rw [if_neg c52]; done)
        | (rw [if_pos c52]; unfold v_keptShare; rfl)
      · unfold n_keptShare
        first
        | (rw [if_neg c52]; exact hM)
        | (rw [if_pos c52]; exact hM)
  refine j_iconst C dX6_keptShare_0 ?_
  refine j_istore_n C dX6_keptShare_1 (by decide) ?_
  refine j_iconst C dX6_keptShare_2 ?_
  refine j_istore_n C dX6_keptShare_3 (by decide) ?_
  have key2 : ∀ (fuel : Nat) (i : Nat) (S : wS), M 12 0 - i < fuel → (i : Int) ≤ M 12 0 → RMF S0 S o B M → J p l e { frames := 20 * 4, cells := 0, slots := 0, locals := 200 * 4 } s m args below meth c 3 D (wA S0 sz) (wQ below D sz S0 (fun r9 S9 => r9 = .inl (some (.float (if x_keptShare M = 0 then v_keptShare M else FP.fconst0))) ∧ RMF S0 S9 o B (n_keptShare M)) args s 0 0) 4 [(0, .ref o), (1, .int (iN (keptN M i))), (2, .int (iN (i)))] [] S 0 0 := by
    intro fuel
    induction fuel with
    | zero => intro i S h1 h2 hM; omega
    | succ fuel ih =>
      intro i S h1 h2 hM
      have e9 : keptN M (i + 1) = keptN M i + (if M 7 i = -1 then 0 else 1) := rfl
      have w6 := fun (h : (i : Int) < M 12 0) => i2 i (by omega) h
      refine j_iload_n C dX6_keptShare_4 rfl ?_
      refine j_aload_n C dX6_keptShare_5 rfl ?_
      refine j_mgeti C hM fl_Mo_91 ⟨by decide, rfl⟩ dX6_keptShare_6 ?_
      refine j_icmp_ge (tgt := 36) C dX6_keptShare_9 (by decide) (by unfold rg at *; omega) (by unfold rg at *; omega) (fun c9 => ?_) (fun c9 => ?_)
      · have ei : i = (M 12 0).toNat := by omega
        subst ei
        refine j_aload_n C dX6_keptShare_36 rfl ?_
        refine j_aload_n C dX6_keptShare_37 rfl ?_
        refine j_mgeti C hM fl_Mo_91 ⟨by decide, rfl⟩ dX6_keptShare_38 ?_
        refine j_if_ne (tgt := 48) C dX6_keptShare_41 (by decide) (by unfold rg at *; omega) (fun c41 => ?_) (fun c41 => ?_)
        · refine j_iconst C dX6_keptShare_48 ?_
          refine J.lvs (lv' := [(0, .ref o), (1, .int (iN (keptN M (M 12 0).toNat)))]) ?_ ?_
          · intro q hq; simp only [List.mem_cons, List.not_mem_nil, or_false] at hq; rcases hq with rfl | rfl <;> rfl
          · refine key _ _ (by clear I i1 i2 i3 i3e i4 i4e i5 i6 i7 i8 i10 i11; (try clear key); (try clear key2); (try clear ih); (try clear w5); (try clear w11); (try clear w2); (try clear w3); (try clear w4); (try clear w6); (try clear w7); (try clear w8); (try clear w9); (try clear p4); (try clear o4); (try simp only [decide_eq_true_eq, decide_eq_false_iff_not] at *); unfold x_keptShare; (repeat' split) <;> first | rfl | omega | (simp_all; done) | (simp_all; omega)) hM
        · refine j_iconst C dX6_keptShare_44 ?_
          refine j_goto (tgt := 49) C dX6_keptShare_45 (by decide) ?_
          refine J.lvs (lv' := [(0, .ref o), (1, .int (iN (keptN M (M 12 0).toNat)))]) ?_ ?_
          · intro q hq; simp only [List.mem_cons, List.not_mem_nil, or_false] at hq; rcases hq with rfl | rfl <;> rfl
          · refine key _ _ (by clear I i1 i2 i3 i3e i4 i4e i5 i6 i7 i8 i10 i11; (try clear key); (try clear key2); (try clear ih); (try clear w5); (try clear w11); (try clear w2); (try clear w3); (try clear w4); (try clear w6); (try clear w7); (try clear w8); (try clear w9); (try clear p4); (try clear o4); (try simp only [decide_eq_true_eq, decide_eq_false_iff_not] at *); unfold x_keptShare; (repeat' split) <;> first | rfl | omega | (simp_all; done) | (simp_all; omega)) hM
      · have w6 := w6 (by omega)
        refine j_iload_n C dX6_keptShare_12 rfl ?_
        refine j_aload_n C dX6_keptShare_13 rfl ?_
        refine j_mgeta C hM fl_Mo_25 (by decide) dX6_keptShare_14 ?_
        refine j_iload_n C dX6_keptShare_17 rfl ?_
        refine j_mald C hM (by decide) rfl (by simp only [mLen]; omega) dX6_keptShare_18 ?_
        refine j_iconst C dX6_keptShare_19 ?_
        refine j_icmp_ne (tgt := 27) C dX6_keptShare_20 (by decide) (by unfold rg at *; omega) (by unfold rg at *; omega) (fun c20 => ?_) (fun c20 => ?_)
        · refine j_iconst C dX6_keptShare_27 ?_
          refine j_iadd C dX6_keptShare_28 ?_
          refine j_istore_n C dX6_keptShare_29 (by decide) ?_
          refine j_iinc C dX6_keptShare_30 rfl (by decide) ?_
          refine j_goto (tgt := 4) C dX6_keptShare_33 (by decide) ?_
          have ihk := ih (i + 1) S (by omega) (by omega) hM
          first
            | (rw [if_pos (by omega)] at e9
               rw [e9] at ihk
               refine J.lvs (lv' := [(0, .ref o), (1, .int (iN (keptN M i + 0))), (2, .int (iN (((i + 1 : Nat) : Int))))]) ?_ ?_
               · intro q hq; simp only [List.mem_cons, List.not_mem_nil, or_false] at hq; rcases hq with rfl | rfl | rfl <;> rfl
               · refine ihk)
            | (rw [if_neg (by omega)] at e9
               rw [e9] at ihk
               refine J.lvs (lv' := [(0, .ref o), (1, .int (iN (keptN M i + 1))), (2, .int (iN (((i + 1 : Nat) : Int))))]) ?_ ?_
               · intro q hq; simp only [List.mem_cons, List.not_mem_nil, or_false] at hq; rcases hq with rfl | rfl | rfl <;> rfl
               · refine ihk)
        · refine j_iconst C dX6_keptShare_23 ?_
          refine j_goto (tgt := 28) C dX6_keptShare_24 (by decide) ?_
          refine j_iadd C dX6_keptShare_28 ?_
          refine j_istore_n C dX6_keptShare_29 (by decide) ?_
          refine j_iinc C dX6_keptShare_30 rfl (by decide) ?_
          refine j_goto (tgt := 4) C dX6_keptShare_33 (by decide) ?_
          have ihk := ih (i + 1) S (by omega) (by omega) hM
          first
            | (rw [if_pos (by omega)] at e9
               rw [e9] at ihk
               refine J.lvs (lv' := [(0, .ref o), (1, .int (iN (keptN M i + 0))), (2, .int (iN (((i + 1 : Nat) : Int))))]) ?_ ?_
               · intro q hq; simp only [List.mem_cons, List.not_mem_nil, or_false] at hq; rcases hq with rfl | rfl | rfl <;> rfl
               · refine ihk)
            | (rw [if_neg (by omega)] at e9
               rw [e9] at ihk
               refine J.lvs (lv' := [(0, .ref o), (1, .int (iN (keptN M i + 1))), (2, .int (iN (((i + 1 : Nat) : Int))))]) ?_ ?_
               · intro q hq; simp only [List.mem_cons, List.not_mem_nil, or_false] at hq; rcases hq with rfl | rfl | rfl <;> rfl
               · refine ihk)
  refine J.lvs (lv' := [(0, .ref o), (1, .int (iN (keptN M 0))), (2, .int (iN (((0 : Nat) : Int))))]) ?_ ?_
  · intro q hq; simp only [List.mem_cons, List.not_mem_nil, or_false] at hq; rcases hq with rfl | rfl | rfl <;> rfl
  · exact key2 ((M 12 0).toNat + 1) 0 _ (by omega) (by omega) hM

set_option maxHeartbeats 4000000 in
set_option maxRecDepth 100000 in
theorem m_meanWear (l : Launch) (hfl : l.stackTraces = false) {M : wM}  (I : Inv M) : MC l yX6_meanWear cX6_meanWear 5 (some FieldType.double) 4 [] M (.inl (some (.double (if x_meanWear M = 0 then v_meanWear M else FP.dconst0)))) (n_meanWear M) := by
  intro S0 o B hM0
  refine Ct.of cal_X6_meanWear hfl (Nat.le_of_ble_eq_true rfl) ?_
  intro p e s m args below meth c D sz C ME
  have hM : RMF S0 S0 o B M := ⟨hM0, mF.rf⟩
  have I9 := I
  obtain ⟨i1, i2, i3, i3e, i4, i4e, i5, i6, i7, i8, i10, i11⟩ := I9
  obtain ⟨a1, a2, a3, a4, a5, a6, a7⟩ := id i1
  have wmr := mean_rg (k := (M 17 0).toNat) i1 i4 (by omega)
  have key : ∀ (x : Int) (S : wS), x = x_meanWear M → RMF S0 S o B M → J p l e { frames := 20 * 4, cells := 0, slots := 0, locals := 200 * 4 } s m args below meth c 5 D (wA S0 sz) (wQ below D sz S0 (fun r9 S9 => r9 = .inl (some (.double (if x_meanWear M = 0 then v_meanWear M else FP.dconst0))) ∧ RMF S0 S9 o B (n_meanWear M)) args s 0 0) 70 [(0, .ref o), (1, .int (iN (meanS M (M 17 0).toNat))), (2, .int (iN (meanN M (M 17 0).toNat)))] [.int (iN x), .ref o] S 0 0 := by
    intro x S hx hM
    subst hx
    refine j_mcall C hM (c_goesOn l hfl (by unfold x_meanWear; (repeat' split) <;> (unfold rg; omega))) cal_X6_goesOn vi_X6_goesOn rfl ml_Mo_103 rfl rfl (Nat.le_of_ble_eq_true rfl) ⟨by decide, by decide⟩ ⟨by omega, by omega⟩ dX6_meanWear_70 (fun S hM => ?_)
    refine j_ifeq_b (tgt := 84) C dX6_meanWear_73 (by decide) (fun c73 => ?_) (fun c73 => ?_)
    · try simp only [decide_eq_true_eq, decide_eq_false_iff_not] at c73
      try simp only [decide_eq_true_eq, decide_eq_false_iff_not] at c73
      refine j_dconst0 C dX6_meanWear_84 ?_
      refine j_dret C ME ?_ (by omega) (by omega) dX6_meanWear_85
      refine ⟨rD ?_, ?_⟩
      · first
        | (rw [if_neg c73]; done)
        | (rw [if_pos c73]; unfold v_meanWear; rfl)
      · unfold n_meanWear
        first
        | (rw [if_neg c73]; exact hM)
        | (rw [if_pos c73]; exact hM)
    · try simp only [decide_eq_true_eq, decide_eq_false_iff_not] at c73
      try simp only [decide_eq_true_eq, decide_eq_false_iff_not] at c73
      have ok : ¬ meanN M (M 17 0).toNat = 0 := by
        clear I i1 i2 i3 i3e i4 i4e i5 i6 i7 i8 i10 i11; (try clear key); (try clear key2); (try clear ih); (try clear w5); (try clear w11); (try clear w2); (try clear w3); (try clear w4); (try clear w6); (try clear w7); (try clear w8); (try clear w9); (try clear p4); (try clear o4); unfold x_meanWear at c73
        (repeat' split at c73) <;> first | rfl | omega | (simp_all; done) | (simp_all; omega)
      
      refine j_iload_n C dX6_meanWear_76 rfl ?_
      refine j_i2d C dX6_meanWear_77 ?_
      refine j_iload_n C dX6_meanWear_78 rfl ?_
      refine j_i2d C dX6_meanWear_79 ?_
      refine j_ddiv C (fp_ddiv (by omega) (by omega)) dX6_meanWear_80 ?_
      refine j_goto (tgt := 85) C dX6_meanWear_81 (by decide) ?_
      refine j_dret C ME ?_ (by omega) (by omega) dX6_meanWear_85
      refine ⟨rD ?_, ?_⟩
      · first
        | (rw [if_neg c73]; done)
        | (rw [if_pos c73]; unfold v_meanWear; rfl)
      · unfold n_meanWear
        first
        | (rw [if_neg c73]; exact hM)
        | (rw [if_pos c73]; exact hM)
  refine j_iconst C dX6_meanWear_0 ?_
  refine j_istore_n C dX6_meanWear_1 (by decide) ?_
  refine j_iconst C dX6_meanWear_2 ?_
  refine j_istore_n C dX6_meanWear_3 (by decide) ?_
  refine j_iconst C dX6_meanWear_4 ?_
  refine j_istore_n C dX6_meanWear_5 (by decide) ?_
  have key2 : ∀ (fuel : Nat) (i : Nat) (S : wS), M 17 0 - i < fuel → (i : Int) ≤ M 17 0 → RMF S0 S o B M → J p l e { frames := 20 * 4, cells := 0, slots := 0, locals := 200 * 4 } s m args below meth c 5 D (wA S0 sz) (wQ below D sz S0 (fun r9 S9 => r9 = .inl (some (.double (if x_meanWear M = 0 then v_meanWear M else FP.dconst0))) ∧ RMF S0 S9 o B (n_meanWear M)) args s 0 0) 6 [(0, .ref o), (1, .int (iN (meanS M i))), (2, .int (iN (meanN M i))), (3, .int (iN (i)))] [] S 0 0 := by
    intro fuel
    induction fuel with
    | zero => intro i S h1 h2 hM; omega
    | succ fuel ih =>
      intro i S h1 h2 hM
      have w4 := fun (h : (i : Int) < M 17 0) => i4 i (by omega) (by omega)
      refine j_iload_n C dX6_meanWear_6 rfl ?_
      refine j_aload_n C dX6_meanWear_7 rfl ?_
      refine j_mgeti C hM fl_Mo_94 ⟨by decide, rfl⟩ dX6_meanWear_8 ?_
      refine j_icmp_ge (tgt := 60) C dX6_meanWear_11 (by decide) (by unfold rg at *; omega) (by unfold rg at *; omega) (fun c11 => ?_) (fun c11 => ?_)
      · have ei : i = (M 17 0).toNat := by omega
        subst ei
        refine j_aload_n C dX6_meanWear_60 rfl ?_
        refine j_iload_n C dX6_meanWear_61 rfl ?_
        refine j_if_ne (tgt := 69) C dX6_meanWear_62 (by decide) (by unfold rg at *; omega) (fun c62 => ?_) (fun c62 => ?_)
        · refine j_iconst C dX6_meanWear_69 ?_
          refine J.lvs (lv' := [(0, .ref o), (1, .int (iN (meanS M (M 17 0).toNat))), (2, .int (iN (meanN M (M 17 0).toNat)))]) ?_ ?_
          · intro q hq; simp only [List.mem_cons, List.not_mem_nil, or_false] at hq; rcases hq with rfl | rfl | rfl <;> rfl
          · refine key _ _ (by clear I i1 i2 i3 i3e i4 i4e i5 i6 i7 i8 i10 i11; (try clear key); (try clear key2); (try clear ih); (try clear w5); (try clear w11); (try clear w2); (try clear w3); (try clear w4); (try clear w6); (try clear w7); (try clear w8); (try clear w9); (try clear p4); (try clear o4); (try simp only [decide_eq_true_eq, decide_eq_false_iff_not] at *); unfold x_meanWear; (repeat' split) <;> first | rfl | omega | (simp_all; done) | (simp_all; omega)) hM
        · refine j_iconst C dX6_meanWear_65 ?_
          refine j_goto (tgt := 70) C dX6_meanWear_66 (by decide) ?_
          refine J.lvs (lv' := [(0, .ref o), (1, .int (iN (meanS M (M 17 0).toNat))), (2, .int (iN (meanN M (M 17 0).toNat)))]) ?_ ?_
          · intro q hq; simp only [List.mem_cons, List.not_mem_nil, or_false] at hq; rcases hq with rfl | rfl | rfl <;> rfl
          · refine key _ _ (by clear I i1 i2 i3 i3e i4 i4e i5 i6 i7 i8 i10 i11; (try clear key); (try clear key2); (try clear ih); (try clear w5); (try clear w11); (try clear w2); (try clear w3); (try clear w4); (try clear w6); (try clear w7); (try clear w8); (try clear w9); (try clear p4); (try clear o4); (try simp only [decide_eq_true_eq, decide_eq_false_iff_not] at *); unfold x_meanWear; (repeat' split) <;> first | rfl | omega | (simp_all; done) | (simp_all; omega)) hM
      · have w4 := w4 (by omega)
        refine j_iconst C dX6_meanWear_14 ?_
        refine j_istore C dX6_meanWear_15 (by decide) ?_
        have key3 : ∀ (fuel : Nat) (j : Nat) (S : wS), M 16 i - j < fuel → ((j : Int) + 1 ≤ M 16 i ∨ j = 0) → RMF S0 S o B M → J p l e { frames := 20 * 4, cells := 0, slots := 0, locals := 200 * 4 } s m args below meth c 5 D (wA S0 sz) (wQ below D sz S0 (fun r9 S9 => r9 = .inl (some (.double (if x_meanWear M = 0 then v_meanWear M else FP.dconst0))) ∧ RMF S0 S9 o B (n_meanWear M)) args s 0 0) 17 [(0, .ref o), (1, .int (iN (meanS M i + sumI (fun q : Nat => M 15 (60 * i + q)) j))), (2, .int (iN (meanN M i + j))), (3, .int (iN (i))), (4, .int (iN (j)))] [] S 0 0 := by
          intro fuel
          induction fuel with
          | zero => intro j S g1 g2 hM; omega
          | succ fuel ihj =>
            intro j S g1 g2 hM
            have eK : M 16 i ≤ (j : Int) + 1 → meanS M (i + 1) = meanS M i + sumI (fun q : Nat => M 15 (60 * i + q)) j ∧ meanN M (i + 1) = meanN M i + j := by
              intro h
              have k1 : meanS M (i + 1) = meanS M i + sumI (fun q : Nat => M 15 (60 * i + q)) (M 16 i - 1).toNat := rfl
              have k2 : meanN M (i + 1) = meanN M i + (((M 16 i - 1).toNat : Nat) : Int) := rfl
              rw [k1, k2, show (M 16 i - 1).toNat = j by omega]
              exact ⟨rfl, rfl⟩
            refine j_iload C dX6_meanWear_17 rfl ?_
            refine j_iconst C dX6_meanWear_19 ?_
            refine j_iadd C dX6_meanWear_20 ?_
            refine j_aload_n C dX6_meanWear_21 rfl ?_
            refine j_mgeta C hM fl_Mo_49 (by decide) dX6_meanWear_22 ?_
            refine j_iload_n C dX6_meanWear_25 rfl ?_
            refine j_mald C hM (by decide) rfl (by simp only [mLen]; omega) dX6_meanWear_26 ?_
            refine j_icmp_ge (tgt := 54) C dX6_meanWear_27 (by decide) (by unfold rg at *; omega) (by unfold rg at *; omega) (fun c27 => ?_) (fun c27 => ?_)
            · refine j_iinc C dX6_meanWear_54 rfl (by decide) ?_
              refine j_goto (tgt := 6) C dX6_meanWear_57 (by decide) ?_
              have eK := eK (by omega)
              have ihk := ih (i + 1) S (by omega) (by omega) hM
              rw [eK.1, eK.2] at ihk
              refine J.lvs (lv' := [(0, .ref o), (1, .int (iN (meanS M i + sumI (fun q : Nat => M 15 (60 * i + q)) j))), (2, .int (iN (meanN M i + j))), (3, .int (iN (((i + 1 : Nat) : Int))))]) ?_ ?_
              · intro q hq; simp only [List.mem_cons, List.not_mem_nil, or_false] at hq; rcases hq with rfl | rfl | rfl | rfl <;> rfl
              · refine ihk
            · refine j_iload_n C dX6_meanWear_30 rfl ?_
              refine j_aload_n C dX6_meanWear_31 rfl ?_
              refine j_mgeta C hM fl_Mo_46 (by decide) dX6_meanWear_32 ?_
              refine j_bipush C dX6_meanWear_35 (by decide) ?_
              refine j_iload_n C dX6_meanWear_37 rfl ?_
              refine j_imul C dX6_meanWear_38 ?_
              refine j_iload C dX6_meanWear_39 rfl ?_
              refine j_iadd C dX6_meanWear_41 ?_
              refine j_mald C hM (by decide) rfl (by simp only [mLen]; omega) dX6_meanWear_42 ?_
              refine j_iadd C dX6_meanWear_43 ?_
              refine j_istore_n C dX6_meanWear_44 (by decide) ?_
              refine j_iinc C dX6_meanWear_45 rfl (by decide) ?_
              refine j_iinc C dX6_meanWear_48 rfl (by decide) ?_
              refine j_goto (tgt := 17) C dX6_meanWear_51 (by decide) ?_
              have ihk := ihj (j + 1) S (by omega) (by omega) hM
              rw [sumI, ← Int.add_assoc, show ∀ x : Int, x + ((j + 1 : Nat) : Int) = x + j + 1 from fun x => by omega] at ihk
              refine J.lvs (lv' := [(0, .ref o), (1, .int (iN (meanS M i + sumI (fun q : Nat => M 15 (60 * i + q)) j + M 15 (60 * i + j)))), (2, .int (iN (meanN M i + j + 1))), (3, .int (iN (i))), (4, .int (iN (((j + 1 : Nat) : Int))))]) ?_ ?_
              · intro q hq; simp only [List.mem_cons, List.not_mem_nil, or_false] at hq; rcases hq with rfl | rfl | rfl | rfl | rfl <;> rfl
              · refine ihk
        refine J.lvs (lv' := [(0, .ref o), (1, .int (iN (meanS M i))), (2, .int (iN (meanN M i))), (3, .int (iN (i))), (4, .int (iN (((0 : Nat) : Int))))]) ?_ ?_
        · intro q hq; simp only [List.mem_cons, List.not_mem_nil, or_false] at hq; rcases hq with rfl | rfl | rfl | rfl | rfl <;> rfl
        · exact (by have q9 := key3 ((M 16 i).toNat + 1) 0 S (by omega) (by omega) hM; rw [show (meanS M i : Int) + sumI (fun q : Nat => M 15 (60 * i + q)) 0 = meanS M i from Int.add_zero _, show (meanN M i : Int) + ((0 : Nat) : Int) = meanN M i from Int.add_zero _] at q9; exact q9)
  refine J.lvs (lv' := [(0, .ref o), (1, .int (iN (meanS M 0))), (2, .int (iN (meanN M 0))), (3, .int (iN (((0 : Nat) : Int))))]) ?_ ?_
  · intro q hq; simp only [List.mem_cons, List.not_mem_nil, or_false] at hq; rcases hq with rfl | rfl | rfl | rfl <;> rfl
  · exact key2 ((M 17 0).toNat + 1) 0 _ (by omega) (by omega) hM

