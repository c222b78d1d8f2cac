/-! MORE ROWS: bits, longs, quotients. -/
def andI (a b : Int) : Int := (iN a &&& iN b).toInt
def xorI (a b : Int) : Int := (iN a ^^^ iN b).toInt
def shlI (a b : Int) : Int := (iN a <<< (iN b &&& 31)).toInt
def shrI (a b : Int) : Int := (iN a >>> (iN b &&& 31)).toInt
theorem rg_I (x : Int32) : rg x.toInt := ⟨Int32.le_toInt x, by have := Int32.toInt_lt x; unfold rg at *; omega⟩
theorem rg_and (a b : Int) : rg (andI a b) := rg_I _
theorem rg_xor (a b : Int) : rg (xorI a b) := rg_I _
theorem rg_shl (a b : Int) : rg (shlI a b) := rg_I _
theorem rg_shr (a b : Int) : rg (shrI a b) := rg_I _
theorem iN_div {a b : Int} (h1 : 0 ≤ a ∧ a < 2147483648) (h2 : 0 < b ∧ b < 2147483648) : iN a / iN b = iN (a / b) := by
  have e : 0 ≤ a / b := Int.ediv_nonneg h1.1 (by omega)
  have f : a / b ≤ a := Int.ediv_le_self b h1.1
  apply Int32.toInt_inj.mp
  rw [Int32.toInt_div, iN_T (by unfold rg; omega), iN_T (by unfold rg; omega), iN_T (by unfold rg; omega), Int.tdiv_eq_ediv_of_nonneg h1.1]
  exact Int.bmod_eq_of_le (by omega) (by omega)
theorem iN_ne0 {b : Int} (h2 : 0 < b ∧ b < 2147483648) : ¬ iN b = 0 := fun h => by
  have := (iN_eq0 (a := b) (by unfold rg; omega)).mp h
  omega
theorem iN_mod {a b : Int} (h1 : 0 ≤ a ∧ a < 2147483648) (h2 : 0 < b ∧ b < 2147483648) : iN a - iN a / iN b * iN b = iN (a % b) := by
  rw [iN_div h1 h2, iN_mul, iN_sub]
  congr 1
  rw [Int.emod_def, Int.mul_comm]
theorem iN_i2l {z : Int} (h : rg z) : (iN z).toInt64 = iL z := by
  apply Int64.toInt_inj.mp
  rw [Int32.toInt_toInt64, iN_T h]
  symm
  apply Int64.toInt_ofInt_of_le
  · unfold rg at h; omega
  · unfold rg at h; omega
theorem iL_add (x y : Int) : iL x + iL y = iL (x + y) := (Int64.ofInt_add x y).symm
section OPS
variable {p : Program} {l : Launch} {e : Env} {R : Room} {s : State} {m : MethodId} {args : Array Value} {below : List Frame} {meth : Method} {c : Code} {nL : Nat} {D : wD} {A : Nat → Prop} {Q : State → Prop}
variable {cc : ByteArray} {own : String} {pc : Nat} {lv : List (Nat × Value)} {st : List Value} {S : wS} {k n : Nat}
theorem j_iand (C : Cx p l s m args meth c cc nL own D A) {x y : Int}  (d : decode cc pc = .ok (.iand, 1)) (kk : J p l e R s m args below meth c nL D A Q (pc + 1) lv (.int (iN (andI x y)) :: st) S k n) : J p l e R s m args below meth c nL D A Q pc lv (.int (iN y) :: .int (iN x) :: st) S k n :=
  fun H locs ls h1 h2 h3 => lv_iand C.1 C.2.1 d (by have kk := kk H locs ls h1 h2 h3; unfold andI at kk; rw [iN_asI] at kk; exact kk)
theorem j_ixor (C : Cx p l s m args meth c cc nL own D A) {x y : Int}  (d : decode cc pc = .ok (.ixor, 1)) (kk : J p l e R s m args below meth c nL D A Q (pc + 1) lv (.int (iN (xorI x y)) :: st) S k n) : J p l e R s m args below meth c nL D A Q pc lv (.int (iN y) :: .int (iN x) :: st) S k n :=
  fun H locs ls h1 h2 h3 => lv_ixor C.1 C.2.1 d (by have kk := kk H locs ls h1 h2 h3; unfold xorI at kk; rw [iN_asI] at kk; exact kk)
theorem j_ishl (C : Cx p l s m args meth c cc nL own D A) {x y : Int}  (d : decode cc pc = .ok (.ishl, 1)) (kk : J p l e R s m args below meth c nL D A Q (pc + 1) lv (.int (iN (shlI x y)) :: st) S k n) : J p l e R s m args below meth c nL D A Q pc lv (.int (iN y) :: .int (iN x) :: st) S k n :=
  fun H locs ls h1 h2 h3 => lv_ishl C.1 C.2.1 d (by have kk := kk H locs ls h1 h2 h3; unfold shlI at kk; rw [iN_asI] at kk; exact kk)
theorem j_ishr (C : Cx p l s m args meth c cc nL own D A) {x y : Int}  (d : decode cc pc = .ok (.ishr, 1)) (kk : J p l e R s m args below meth c nL D A Q (pc + 1) lv (.int (iN (shrI x y)) :: st) S k n) : J p l e R s m args below meth c nL D A Q pc lv (.int (iN y) :: .int (iN x) :: st) S k n :=
  fun H locs ls h1 h2 h3 => lv_ishr C.1 C.2.1 d (by have kk := kk H locs ls h1 h2 h3; unfold shrI at kk; rw [iN_asI] at kk; exact kk)
theorem j_idiv (C : Cx p l s m args meth c cc nL own D A) {x y : Int} (hx : 0 ≤ x ∧ x < 2147483648) (hy : 0 < y ∧ y < 2147483648) (d : decode cc pc = .ok (.idiv, 1)) (kk : J p l e R s m args below meth c nL D A Q (pc + 1) lv (.int (iN (x / y)) :: st) S k n) : J p l e R s m args below meth c nL D A Q pc lv (.int (iN y) :: .int (iN x) :: st) S k n :=
  fun H locs ls h1 h2 h3 => lv_idiv C.1 C.2.1 d (iN_ne0 hy) (by rw [iN_div hx hy]; exact kk H locs ls h1 h2 h3)
theorem j_irem (C : Cx p l s m args meth c cc nL own D A) {x y : Int} (hx : 0 ≤ x ∧ x < 2147483648) (hy : 0 < y ∧ y < 2147483648) (d : decode cc pc = .ok (.irem, 1)) (kk : J p l e R s m args below meth c nL D A Q (pc + 1) lv (.int (iN (x % y)) :: st) S k n) : J p l e R s m args below meth c nL D A Q pc lv (.int (iN y) :: .int (iN x) :: st) S k n :=
  fun H locs ls h1 h2 h3 => lv_irem C.1 C.2.1 d (iN_ne0 hy) (by rw [iN_mod hx hy]; exact kk H locs ls h1 h2 h3)
theorem j_i2l (C : Cx p l s m args meth c cc nL own D A) {x : Int} (hx : rg x) (d : decode cc pc = .ok (.i2l, 1)) (kk : J p l e R s m args below meth c nL D A Q (pc + 1) lv (.long (iL x) :: st) S k n) : J p l e R s m args below meth c nL D A Q pc lv (.int (iN x) :: st) S k n :=
  fun H locs ls h1 h2 h3 => lv_i2l C.1 C.2.1 d (iN_i2l hx) (kk H locs ls h1 h2 h3)
theorem j_l2i (C : Cx p l s m args meth c cc nL own D A) {x : Int64} {v : Int32} (hx : x.toInt32 = v) (d : decode cc pc = .ok (.l2i, 1)) (kk : J p l e R s m args below meth c nL D A Q (pc + 1) lv (.int v :: st) S k n) : J p l e R s m args below meth c nL D A Q pc lv (.long x :: st) S k n :=
  fun H locs ls h1 h2 h3 => lv_l2i C.1 C.2.1 d hx (kk H locs ls h1 h2 h3)
theorem j_laddI (C : Cx p l s m args meth c cc nL own D A) {x y : Int}  (d : decode cc pc = .ok (.ladd, 1)) (kk : J p l e R s m args below meth c nL D A Q (pc + 1) lv (.long (iL (x + y)) :: st) S k n) : J p l e R s m args below meth c nL D A Q pc lv (.long (iL y) :: .long (iL x) :: st) S k n :=
  fun H locs ls h1 h2 h3 => lv_ladd C.1 C.2.1 d (iL_add x y ▸ kk H locs ls h1 h2 h3)
theorem j_ladd (C : Cx p l s m args meth c cc nL own D A) {x y : Int64}  (d : decode cc pc = .ok (.ladd, 1)) (kk : J p l e R s m args below meth c nL D A Q (pc + 1) lv (.long (x + y) :: st) S k n) : J p l e R s m args below meth c nL D A Q pc lv (.long y :: .long x :: st) S k n :=
  fun H locs ls h1 h2 h3 => lv_ladd C.1 C.2.1 d (kk H locs ls h1 h2 h3)
theorem j_lsub (C : Cx p l s m args meth c cc nL own D A) {x y : Int64}  (d : decode cc pc = .ok (.lsub, 1)) (kk : J p l e R s m args below meth c nL D A Q (pc + 1) lv (.long (x - y) :: st) S k n) : J p l e R s m args below meth c nL D A Q pc lv (.long y :: .long x :: st) S k n :=
  fun H locs ls h1 h2 h3 => lv_lsub C.1 C.2.1 d (kk H locs ls h1 h2 h3)
theorem j_land (C : Cx p l s m args meth c cc nL own D A) {x y : Int64}  (d : decode cc pc = .ok (.land, 1)) (kk : J p l e R s m args below meth c nL D A Q (pc + 1) lv (.long (x &&& y) :: st) S k n) : J p l e R s m args below meth c nL D A Q pc lv (.long y :: .long x :: st) S k n :=
  fun H locs ls h1 h2 h3 => lv_land C.1 C.2.1 d (kk H locs ls h1 h2 h3)
theorem j_lxor (C : Cx p l s m args meth c cc nL own D A) {x y : Int64}  (d : decode cc pc = .ok (.lxor, 1)) (kk : J p l e R s m args below meth c nL D A Q (pc + 1) lv (.long (x ^^^ y) :: st) S k n) : J p l e R s m args below meth c nL D A Q pc lv (.long y :: .long x :: st) S k n :=
  fun H locs ls h1 h2 h3 => lv_lxor C.1 C.2.1 d (kk H locs ls h1 h2 h3)
theorem j_lushr (C : Cx p l s m args meth c cc nL own D A) {x v : Int64} {y : Int32} (hv : (x.toUInt64 >>> (y.toInt64.toUInt64 &&& Int64.toUInt64 63)).toInt64 = v) (d : decode cc pc = .ok (.lushr, 1)) (kk : J p l e R s m args below meth c nL D A Q (pc + 1) lv (.long v :: st) S k n) : J p l e R s m args below meth c nL D A Q pc lv (.int y :: .long x :: st) S k n :=
  fun H locs ls h1 h2 h3 => lv_lushr C.1 C.2.1 d hv (kk H locs ls h1 h2 h3)
theorem j_lshl (C : Cx p l s m args meth c cc nL own D A) {x v : Int64} {y : Int32} (hv : x <<< (y.toInt64 &&& 63) = v) (d : decode cc pc = .ok (.lshl, 1)) (kk : J p l e R s m args below meth c nL D A Q (pc + 1) lv (.long v :: st) S k n) : J p l e R s m args below meth c nL D A Q pc lv (.int y :: .long x :: st) S k n :=
  fun H locs ls h1 h2 h3 => lv_lshl C.1 C.2.1 d hv (kk H locs ls h1 h2 h3)
theorem j_i2f (C : Cx p l s m args meth c cc nL own D A) {x : Int}  (d : decode cc pc = .ok (.i2f, 1)) (kk : J p l e R s m args below meth c nL D A Q (pc + 1) lv (.float (FP.i2f (iN x)) :: st) S k n) : J p l e R s m args below meth c nL D A Q pc lv (.int (iN x) :: st) S k n :=
  fun H locs ls h1 h2 h3 => lv_i2f C.1 C.2.1 d (kk H locs ls h1 h2 h3)
theorem j_i2d (C : Cx p l s m args meth c cc nL own D A) {x : Int}  (d : decode cc pc = .ok (.i2d, 1)) (kk : J p l e R s m args below meth c nL D A Q (pc + 1) lv (.double (FP.i2d (iN x)) :: st) S k n) : J p l e R s m args below meth c nL D A Q pc lv (.int (iN x) :: st) S k n :=
  fun H locs ls h1 h2 h3 => lv_i2d C.1 C.2.1 d (kk H locs ls h1 h2 h3)
theorem j_fdiv (C : Cx p l s m args meth c cc nL own D A) {x y : UInt32} (hne : vf_n32 (FP.fdiv x y)) (d : decode cc pc = .ok (.fdiv, 1)) (kk : J p l e R s m args below meth c nL D A Q (pc + 1) lv (.float (FP.fdiv x y) :: st) S k n) : J p l e R s m args below meth c nL D A Q pc lv (.float y :: .float x :: st) S k n :=
  fun H locs ls h1 h2 h3 => lv_fdiv C.1 C.2.1 d hne (kk H locs ls h1 h2 h3)
theorem j_ddiv (C : Cx p l s m args meth c cc nL own D A) {x y : UInt64} (hne : vf_n64 (FP.ddiv x y)) (d : decode cc pc = .ok (.ddiv, 1)) (kk : J p l e R s m args below meth c nL D A Q (pc + 1) lv (.double (FP.ddiv x y) :: st) S k n) : J p l e R s m args below meth c nL D A Q pc lv (.double y :: .double x :: st) S k n :=
  fun H locs ls h1 h2 h3 => lv_ddiv C.1 C.2.1 d hne (kk H locs ls h1 h2 h3)
end OPS
