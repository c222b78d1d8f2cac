/-! THE LAW's own rows. -/
section LAW68
variable {p : Program} {l : Launch} {e : Env} {R : Room} {s : State} {m : MethodId} {args : Array Value} {below : List Frame} {meth : Method} {c : Code} {nL : Nat} {D : wD} {Q : State → Prop}
variable {cc : ByteArray} {own : String} {pc : Nat} {lv : List (Nat × Value)} {st : List Value} {S : wS} {k n : Nat} {A : Nat → Prop}
theorem j_lcmpS (C : Cx p l s m args meth c cc nL own D A) {x : Int64} (d : decode cc pc = .ok (.lcmp, 1)) (kk : J p l e R s m args below meth c nL D A Q (pc + 1) lv (.int (iN 0) :: st) S k n) : J p l e R s m args below meth c nL D A Q pc lv (.long x :: .long x :: st) S k n := by
  intro H locs ls h1 h2 h3
  refine W.lcmp C.1 C.2.1 d ?_
  have e : (if x < x then (1 : Int32) else if x = x then 0 else -1) = iN 0 := by
    rw [if_neg (by first | exact Int64.lt_irrefl x | (rw [Int64.lt_iff_toInt_lt]; omega)), if_pos rfl]
    decide
  rw [show lg_cmp x x = iN 0 from e]
  exact kk H locs ls h1 h2 h3
theorem j_fload (C : Cx p l s m args meth c cc nL own D A) {i : Nat} {x : UInt32} (d : decode cc pc = .ok (.fload i, 2)) (hl : lvg lv i = some (.float x)) (kk : J p l e R s m args below meth c nL D A Q (pc + 2) lv (.float x :: st) S k n) : J p l e R s m args below meth c nL D A Q pc lv st S k n :=
  fun H locs ls h1 h2 h3 => lv_fload C.1 C.2.1 d (lvg_at h1 hl) (kk H locs ls h1 h2 h3)
theorem j_dload (C : Cx p l s m args meth c cc nL own D A) {i : Nat} {x : UInt64} (d : decode cc pc = .ok (.dload i, 2)) (hl : lvg lv i = some (.double x)) (kk : J p l e R s m args below meth c nL D A Q (pc + 2) lv (.double x :: st) S k n) : J p l e R s m args below meth c nL D A Q pc lv st S k n :=
  fun H locs ls h1 h2 h3 => lv_dload C.1 C.2.1 d (lvg_at h1 hl) (kk H locs ls h1 h2 h3)
theorem j_fstore (C : Cx p l s m args meth c cc nL own D A) {i : Nat} {x : UInt32} (d : decode cc pc = .ok (.fstore i, 2)) (hn : i < nL) (kk : J p l e R s m args below meth c nL D A Q (pc + 2) (lvp lv i (.float x)) st S k n) : J p l e R s m args below meth c nL D A Q pc lv (.float x :: st) S k n :=
  fun H locs ls h1 h2 h3 => lv_fstore C.1 C.2.1 d h1 hn rfl (fun ls h1 => kk H locs ls h1 h2 h3)
theorem j_dstore (C : Cx p l s m args meth c cc nL own D A) {i : Nat} {x : UInt64} (d : decode cc pc = .ok (.dstore i, 2)) (hn : i + 1 < nL) (kk : J p l e R s m args below meth c nL D A Q (pc + 2) (lvp2 lv i (.double x)) st S k n) : J p l e R s m args below meth c nL D A Q pc lv (.double x :: st) S k n :=
  fun H locs ls h1 h2 h3 => lv_dstore C.1 C.2.1 d h1 hn rfl (fun ls h1 => kk H locs ls h1 h2 h3)
theorem fp_num {x : UInt64} (h : vf_n64 x) : FP.Core.decode FP.Core.b64 x.toNat ≠ .nan := by
  unfold vf_n64 at h
  rw [UInt64.le_iff_toNat_le, UInt64.toNat_and] at h
  have h : x.toNat &&& (2 ^ 63 - 1) ≤ 9218868437227405312 := h
  rw [Nat.and_two_pow_sub_one_eq_mod] at h
  have h : x.toNat % 9223372036854775808 ≤ 9218868437227405312 := h
  intro z
  unfold FP.Core.decode at z
  have e1 : FP.Core.fieldE FP.Core.b64 x.toNat = x.toNat / 4503599627370496 % 2048 := rfl
  have e2 : FP.Core.fieldT FP.Core.b64 x.toNat = x.toNat % 4503599627370496 := rfl
  have e3 : FP.Core.Fmt.exps FP.Core.b64 - 1 = 2047 := rfl
  rw [e1, e2, e3] at z
  by_cases q1 : x.toNat / 4503599627370496 % 2048 = 2047
  · rw [if_pos q1] at z
    by_cases q2 : x.toNat % 4503599627370496 = 0
    · rw [if_pos q2] at z
      exact nomatch z
    · omega
  · rw [if_neg q1] at z
    split at z <;> exact nomatch z
theorem fp_same {d : FP.Core.Datum} (h : d ≠ .nan) : FP.Core.order d d = some .eq := by
  cases d with
  | nan => exact absurd rfl h
  | inf s => cases s <;> rfl
  | fin s c q =>
    show some (compare _ _) = some .eq
    congr 1
    first | exact Std.ReflCmp.compare_self | simp [compare, compareOfLessAndEq]
theorem j_dcmpS (C : Cx p l s m args meth c cc nL own D A) {x : UInt64} {op : CmpOp} (hx : vf_n64 x) (d : decode cc pc = .ok (.dcmp op, 1)) (kk : J p l e R s m args below meth c nL D A Q (pc + 1) lv (.int (iN 0) :: st) S k n) : J p l e R s m args below meth c nL D A Q pc lv (.double x :: .double x :: st) S k n := by
  intro H locs ls h1 h2 h3
  refine lv_dcmp C.1 C.2.1 d ?_
  have e : Op.cmpValue (FP.dcmp x x) op = iN 0 := by
    rw [show FP.dcmp x x = some .eq from fp_same (fp_num hx)]
    exact iN_0
  rw [e]
  exact kk H locs ls h1 h2 h3
/-- the script -/
def ax (xs : Nat → Int32) (i j : Int) : Int := (xs (i + j).toNat).toInt
theorem ax_rg {xs : Nat → Int32} {i j : Int} : rg (ax xs i j) := rg_I _
theorem j_xlen (C : Cx p l s m args meth c cc nL own D A) {b L : Nat} {xs : Nat → Int32} (hX : va_X b L xs s s.heap) (hb : b < s.heap.size ∧ ¬ A b) (d : decode cc pc = .ok (.arraylength, 1)) (kk : J p l e R s m args below meth c nL D A Q (pc + 1) lv (.int (iN (L : Int)) :: st) S k n) : J p l e R s m args below meth c nL D A Q pc lv (.ref b :: st) S k n := by
  intro H locs ls h1 h2 h3
  refine va_slen C.1 C.2.1 hX hb.1 hb.2 h3 d ?_
  rw [iN_ofNat]
  exact kk H locs ls h1 h2 h3
theorem j_xld (C : Cx p l s m args meth c cc nL own D A) {b L : Nat} {xs : Nat → Int32} (hX : va_X b L xs s s.heap) (hb : b < s.heap.size ∧ ¬ A b) {i j : Int} (hi : 0 ≤ i + j ∧ i + j < (L : Int) ∧ L ≤ 2560) (d : decode cc pc = .ok (.iaload, 1)) (kk : J p l e R s m args below meth c nL D A Q (pc + 1) lv (.int (iN (ax xs i j)) :: st) S k n) : J p l e R s m args below meth c nL D A Q pc lv (.int (iN (i + j)) :: .ref b :: st) S k n := by
  intro H locs ls h1 h2 h3
  refine va_sld C.1 C.2.1 hX hb.1 hb.2 h3 (iN_in hi.1 hi.2.1 (by omega)) d ?_
  rw [iN_nat hi.1 (by omega), ← iN_asI (xs (i + j).toNat)]
  exact kk H locs ls h1 h2 h3
/-- script[i + j] -/
theorem j_arg (C : Cx p l s m args meth c cc nL own D A) {b L : Nat} {xs : Nat → Int32} (hX : va_X b L xs s s.heap) (hb : b < s.heap.size ∧ ¬ A b) {i j : Int} (hi : 0 ≤ i + j ∧ i + j < (L : Int) ∧ L ≤ 2560) (l0 : lvg lv 0 = some (.ref b)) (l5 : lvg lv 5 = some (.int (iN i)))
    (d0 : decode cc pc = .ok (.aload_n 0, 1)) (d1 : decode cc (pc + 1) = .ok (.iload 5, 2)) (d3 : decode cc (pc + 3) = .ok (.iconst j, 1)) (d4 : decode cc (pc + 4) = .ok (.iadd, 1)) (d5 : decode cc (pc + 5) = .ok (.iaload, 1))
    (kk : J p l e R s m args below meth c nL D A Q (pc + 6) lv (.int (iN (ax xs i j)) :: st) S k n) : J p l e R s m args below meth c nL D A Q pc lv st S k n :=
  j_aload_n C d0 l0 (j_iload C d1 l5 (j_iconst C d3 (j_iadd C d4 (j_xld C hX hb hi d5 kk))))
/-- script[i + j] != 0 -/
theorem j_argB (C : Cx p l s m args meth c cc nL own D A) {b L : Nat} {xs : Nat → Int32} (hX : va_X b L xs s s.heap) (hb : b < s.heap.size ∧ ¬ A b) {i j : Int} (hi : 0 ≤ i + j ∧ i + j < (L : Int) ∧ L ≤ 2560) (l0 : lvg lv 0 = some (.ref b)) (l5 : lvg lv 5 = some (.int (iN i)))
    (d0 : decode cc pc = .ok (.aload_n 0, 1)) (d1 : decode cc (pc + 1) = .ok (.iload 5, 2)) (d3 : decode cc (pc + 3) = .ok (.iconst j, 1)) (d4 : decode cc (pc + 4) = .ok (.iadd, 1)) (d5 : decode cc (pc + 5) = .ok (.iaload, 1))
    (d6 : decode cc (pc + 6) = .ok (.ifCond .eq 7, 3)) (d9 : decode cc (pc + 9) = .ok (.iconst 1, 1)) (d10 : decode cc (pc + 10) = .ok (.goto 4, 3)) (d13 : decode cc (pc + 13) = .ok (.iconst 0, 1))
    (kk : J p l e R s m args below meth c nL D A Q (pc + 14) lv (.int (iN (bN (decide (¬ ax xs i j = 0)))) :: st) S k n) : J p l e R s m args below meth c nL D A Q pc lv st S k n := by
  refine j_arg C hX hb hi l0 l5 d0 d1 d3 d4 d5 ?_
  refine j_if_eq (tgt := pc + 13) C d6 (by omega) ax_rg (fun h => ?_) (fun h => ?_)
  · refine j_iconst C d13 ?_
    rw [decide_eq_false (fun z => z h)] at kk
    exact kk
  · refine j_iconst C d9 ?_
    refine j_goto (tgt := pc + 14) C d10 (by omega) ?_
    rw [decide_eq_true h] at kk
    exact kk
end LAW68
