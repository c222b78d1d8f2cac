/-! CORE 2: numbers; the rows of the walk over the memory. -/
def iN (z : Int) : Int32 := Int32.ofInt z
def iL (z : Int) : Int64 := Int64.ofInt z
def rg (z : Int) : Prop := -2147483648 ≤ z ∧ z < 2147483648
def bN (b : Bool) : Int := if b then 1 else 0
theorem iN_add (a b : Int) : iN a + iN b = iN (a + b) := (Int32.ofInt_add a b).symm
theorem iN_sub (a b : Int) : iN a - iN b = iN (a - b) := (Int32.ofInt_sub a b).symm
theorem iN_mul (a b : Int) : iN a * iN b = iN (a * b) := (Int32.ofInt_mul a b).symm
theorem iN_T {z : Int} (h : rg z) : (iN z).toInt = z := by
  obtain ⟨h1, h2⟩ := h
  exact Int32.toInt_ofInt_of_le (by simpa using h1) (by simpa using h2)
theorem iN_asI (x : Int32) : iN x.toInt = x := by simp [iN]
theorem iN_lt {a b : Int} (ha : rg a) (hb : rg b) : iN a < iN b ↔ a < b := by rw [Int32.lt_iff_toInt_lt, iN_T ha, iN_T hb]
theorem iN_le {a b : Int} (ha : rg a) (hb : rg b) : iN a ≤ iN b ↔ a ≤ b := by rw [Int32.le_iff_toInt_le, iN_T ha, iN_T hb]
theorem iN_eq {a b : Int} (ha : rg a) (hb : rg b) : iN a = iN b ↔ a = b := ⟨fun h => by rw [← iN_T ha, ← iN_T hb, h], fun h => by rw [h]⟩
theorem iN_0 : (0 : Int32) = iN 0 := by decide
theorem rg_0 : rg 0 := by unfold rg; omega
theorem iN_lt0 {a : Int} (ha : rg a) : iN a < 0 ↔ a < 0 := by rw [iN_0]; exact iN_lt ha rg_0
theorem iN_eq0 {a : Int} (ha : rg a) : iN a = 0 ↔ a = 0 := by rw [iN_0]; exact iN_eq ha rg_0
theorem iN_le0 {a : Int} (ha : rg a) : iN a ≤ 0 ↔ a ≤ 0 := by rw [iN_0]; exact iN_le ha rg_0
theorem iN_ge0 {a : Int} (ha : rg a) : 0 ≤ iN a ↔ 0 ≤ a := by rw [iN_0]; exact iN_le rg_0 ha
theorem iN_gt0 {a : Int} (ha : rg a) : 0 < iN a ↔ 0 < a := by rw [iN_0]; exact iN_lt rg_0 ha
theorem iN_nat {z : Int} (h0 : 0 ≤ z) (h1 : z < 2147483648) : (iN z).toNatClampNeg = z.toNat := by
  show (iN z).toInt.toNat = z.toNat
  rw [iN_T ⟨by omega, h1⟩]
theorem iN_in {z : Int} {n : Nat} (h0 : 0 ≤ z) (h1 : z < n) (h2 : z < 2147483648) : ¬ (iN z < 0 ∨ n ≤ (iN z).toNatClampNeg) := by
  rw [iN_lt0 ⟨by omega, h2⟩, iN_nat h0 h2]
  omega
theorem iN_ofNat (n : Nat) : Int32.ofNat n = iN (n : Int) := by simp [iN, Int32.ofInt_eq_ofNat]
theorem bN_rg (b : Bool) : rg (bN b) := by cases b <;> (unfold rg bN; simp)
theorem bN_0 (b : Bool) : bN b = 0 ↔ b = false := by cases b <;> simp [bN]
section CORE
variable {p : Program} {l : Launch} {e : Env} {R : Room} {s : State} {m : MethodId} {args : Array Value} {below : List Frame} {meth : Method} {c : Code} {nL : Nat} {D : wD} {A : Nat → Prop} {Q : State → Prop}
variable {cc : ByteArray} {own : String} {pc : Nat} {lv : List (Nat × Value)} {st : List Value} {S : wS} {k n : Nat}
theorem FL.use {idx kd j : Nat} (h : FL own idx kd j) (hW : ∀ w ∈ WALL, w.before args s = true) : ∃ ref : String, (Cond.fieldLink own idx ref ((kC kd).2.1 j).2.1 ((kC kd).2.1 j).2.2.1).before args s = true ∧ ∀ x, s.fieldFound? ((kC kd).2.1 j).1 ((kC kd).2.1 j).2.1 ((kC kd).2.1 j).2.2.1 = some x → s.fieldFound? ref ((kC kd).2.1 j).2.1 ((kC kd).2.1 j).2.2.1 = some x := by
  obtain ⟨ref, h1, h2⟩ := h
  refine ⟨ref, hW _ h1, ?_⟩
  rcases h2 with h2 | h2
  · rw [← h2]
    exact fun _ h => h
  · exact u_same (hW _ h2)
/-- other locals, by their numbers -/
theorem J.lvs {lv' : List (Nat × Value)} (hs : ∀ q ∈ lv', lvg lv q.1 = some q.2) (kk : J p l e R s m args below meth c nL D A Q pc lv' st S k n) : J p l e R s m args below meth c nL D A Q pc lv st S k n :=
  fun H locs ls h1 h2 h3 => kk H locs ls (lvg_sub h1 hs) h2 h3
theorem J.widen {k' n' : Nat} (h1 : k ≤ k') (h2 : n ≤ n') (kk : J p l e R s m args below meth c nL D A Q pc lv st S k' n') : J p l e R s m args below meth c nL D A Q pc lv st S k n :=
  fun H locs ls a b c => W.widen h1 h2 (kk H locs ls a b c)
theorem j_iconst (C : Cx p l s m args meth c cc nL own D A) {z : Int} (d : decode cc pc = .ok (.iconst z, 1)) (kk : J p l e R s m args below meth c nL D A Q (pc + 1) lv (.int (iN z) :: st) S k n) : J p l e R s m args below meth c nL D A Q pc lv st S k n :=
  fun H locs ls h1 h2 h3 => lv_iconst C.1 C.2.1 d rfl (kk H locs ls h1 h2 h3)
theorem j_bipush (C : Cx p l s m args meth c cc nL own D A) {z : Int} (d : decode cc pc = .ok (.bipush z, 2)) (hv : (Int8.ofInt z).toInt32 = iN z) (kk : J p l e R s m args below meth c nL D A Q (pc + 2) lv (.int (iN z) :: st) S k n) : J p l e R s m args below meth c nL D A Q pc lv st S k n :=
  fun H locs ls h1 h2 h3 => lv_bipush C.1 C.2.1 d hv (kk H locs ls h1 h2 h3)
theorem j_sipush (C : Cx p l s m args meth c cc nL own D A) {z : Int} (d : decode cc pc = .ok (.sipush z, 3)) (hv : (Int16.ofInt z).toInt32 = iN z) (kk : J p l e R s m args below meth c nL D A Q (pc + 3) lv (.int (iN z) :: st) S k n) : J p l e R s m args below meth c nL D A Q pc lv st S k n :=
  fun H locs ls h1 h2 h3 => lv_sipush C.1 C.2.1 d hv (kk H locs ls h1 h2 h3)
theorem j_lconst (C : Cx p l s m args meth c cc nL own D A) {z : Fin 2} {v : Int} (d : decode cc pc = .ok (.lconst z, 1)) (hv : Int64.ofNat (z : Nat) = iL v) (kk : J p l e R s m args below meth c nL D A Q (pc + 1) lv (.long (iL v) :: st) S k n) : J p l e R s m args below meth c nL D A Q pc lv st S k n :=
  fun H locs ls h1 h2 h3 => lv_lconst C.1 C.2.1 d hv (kk H locs ls h1 h2 h3)
theorem j_null (C : Cx p l s m args meth c cc nL own D A) (d : decode cc pc = .ok (.aconst_null, 1)) (kk : J p l e R s m args below meth c nL D A Q (pc + 1) lv (.null :: st) S k n) : J p l e R s m args below meth c nL D A Q pc lv st S k n :=
  fun H locs ls h1 h2 h3 => lv_null C.1 C.2.1 d (kk H locs ls h1 h2 h3)
theorem j_ldc2 (C : Cx p l s m args meth c cc nL own D A) {idx : Nat} {v : Int64} (hc : Cond.constantLong own idx v ∈ WALL) (d : decode cc pc = .ok (.ldc2_w idx, 3)) (kk : J p l e R s m args below meth c nL D A Q (pc + 3) lv (.long v :: st) S k n) : J p l e R s m args below meth c nL D A Q pc lv st S k n :=
  fun H locs ls h1 h2 h3 => lv_ldc2 C.1 C.2.1 C.2.2.2.1 (C.2.2.2.2.1 _ hc) d (kk H locs ls h1 h2 h3)
theorem j_ldc (C : Cx p l s m args meth c cc nL own D A) {idx : Nat} {v : Int32} {z : Int} (hc : Cond.constant own idx v ∈ WALL) (hz : v = iN z) (d : decode cc pc = .ok (.ldc idx, 2)) (kk : J p l e R s m args below meth c nL D A Q (pc + 2) lv (.int (iN z) :: st) S k n) : J p l e R s m args below meth c nL D A Q pc lv st S k n :=
  fun H locs ls h1 h2 h3 => lv_ldc C.1 C.2.1 C.2.2.2.1 (C.2.2.2.2.1 _ hc) d (hz ▸ kk H locs ls h1 h2 h3)
theorem j_iload_n (C : Cx p l s m args meth c cc nL own D A) {i : Fin 4} {x : Int32} (d : decode cc pc = .ok (.iload_n i, 1)) (hl : lvg lv (i : Nat) = some (.int x)) (kk : J p l e R s m args below meth c nL D A Q (pc + 1) lv (.int x :: st) S k n) : J p l e R s m args below meth c nL D A Q pc lv st S k n :=
  fun H locs ls h1 h2 h3 => lv_iload_n C.1 C.2.1 d rfl (lvg_at h1 hl) (kk H locs ls h1 h2 h3)
theorem j_iload (C : Cx p l s m args meth c cc nL own D A) {i : Nat} {x : Int32} (d : decode cc pc = .ok (.iload i, 2)) (hl : lvg lv i = some (.int x)) (kk : J p l e R s m args below meth c nL D A Q (pc + 2) lv (.int x :: st) S k n) : J p l e R s m args below meth c nL D A Q pc lv st S k n :=
  fun H locs ls h1 h2 h3 => lv_iload C.1 C.2.1 d (lvg_at h1 hl) (kk H locs ls h1 h2 h3)
theorem j_aload_n (C : Cx p l s m args meth c cc nL own D A) {i : Fin 4} {x : Nat} (d : decode cc pc = .ok (.aload_n i, 1)) (hl : lvg lv (i : Nat) = some (.ref x)) (kk : J p l e R s m args below meth c nL D A Q (pc + 1) lv (.ref x :: st) S k n) : J p l e R s m args below meth c nL D A Q pc lv st S k n :=
  fun H locs ls h1 h2 h3 => lv_aload_n C.1 C.2.1 d rfl (lvg_at h1 hl) (kk H locs ls h1 h2 h3)
theorem j_aload (C : Cx p l s m args meth c cc nL own D A) {i : Nat} {x : Nat} (d : decode cc pc = .ok (.aload i, 2)) (hl : lvg lv i = some (.ref x)) (kk : J p l e R s m args below meth c nL D A Q (pc + 2) lv (.ref x :: st) S k n) : J p l e R s m args below meth c nL D A Q pc lv st S k n :=
  fun H locs ls h1 h2 h3 => lv_aload C.1 C.2.1 d (lvg_at h1 hl) (kk H locs ls h1 h2 h3)
theorem j_aload_nN (C : Cx p l s m args meth c cc nL own D A) {i : Fin 4} (d : decode cc pc = .ok (.aload_n i, 1)) (hl : lvg lv (i : Nat) = some .null) (kk : J p l e R s m args below meth c nL D A Q (pc + 1) lv (.null :: st) S k n) : J p l e R s m args below meth c nL D A Q pc lv st S k n :=
  fun H locs ls h1 h2 h3 => lv_aload_nN C.1 C.2.1 d rfl (lvg_at h1 hl) (kk H locs ls h1 h2 h3)
theorem j_lload_n (C : Cx p l s m args meth c cc nL own D A) {i : Fin 4} {x : Int64} (d : decode cc pc = .ok (.lload_n i, 1)) (hl : lvg lv (i : Nat) = some (.long x)) (kk : J p l e R s m args below meth c nL D A Q (pc + 1) lv (.long x :: st) S k n) : J p l e R s m args below meth c nL D A Q pc lv st S k n :=
  fun H locs ls h1 h2 h3 => lv_lload_n C.1 C.2.1 d rfl (lvg_at h1 hl) (kk H locs ls h1 h2 h3)
theorem j_lload (C : Cx p l s m args meth c cc nL own D A) {i : Nat} {x : Int64} (d : decode cc pc = .ok (.lload i, 2)) (hl : lvg lv i = some (.long x)) (kk : J p l e R s m args below meth c nL D A Q (pc + 2) lv (.long x :: st) S k n) : J p l e R s m args below meth c nL D A Q pc lv st S k n :=
  fun H locs ls h1 h2 h3 => lv_lload C.1 C.2.1 d (lvg_at h1 hl) (kk H locs ls h1 h2 h3)
theorem j_istore_n (C : Cx p l s m args meth c cc nL own D A) {i : Fin 4} {x : Int32} (d : decode cc pc = .ok (.istore_n i, 1)) (hn : (i : Nat) < nL) (kk : J p l e R s m args below meth c nL D A Q (pc + 1) (lvp lv i (.int x)) st S k n) : J p l e R s m args below meth c nL D A Q pc lv (.int x :: st) S k n :=
  fun H locs ls h1 h2 h3 => lv_istore_n C.1 C.2.1 d rfl h1 hn rfl (fun ls h1 => kk H locs ls h1 h2 h3)
theorem j_istore (C : Cx p l s m args meth c cc nL own D A) {i : Nat} {x : Int32} (d : decode cc pc = .ok (.istore i, 2)) (hn : i < nL) (kk : J p l e R s m args below meth c nL D A Q (pc + 2) (lvp lv i (.int x)) st S k n) : J p l e R s m args below meth c nL D A Q pc lv (.int x :: st) S k n :=
  fun H locs ls h1 h2 h3 => lv_istore C.1 C.2.1 d h1 hn rfl (fun ls h1 => kk H locs ls h1 h2 h3)
theorem j_astore_n (C : Cx p l s m args meth c cc nL own D A) {i : Fin 4} {x : Nat} (d : decode cc pc = .ok (.astore_n i, 1)) (hn : (i : Nat) < nL) (kk : J p l e R s m args below meth c nL D A Q (pc + 1) (lvp lv i (.ref x)) st S k n) : J p l e R s m args below meth c nL D A Q pc lv (.ref x :: st) S k n :=
  fun H locs ls h1 h2 h3 => lv_astore_n C.1 C.2.1 d rfl h1 hn rfl (fun ls h1 => kk H locs ls h1 h2 h3)
theorem j_astore (C : Cx p l s m args meth c cc nL own D A) {i : Nat} {x : Nat} (d : decode cc pc = .ok (.astore i, 2)) (hn : i < nL) (kk : J p l e R s m args below meth c nL D A Q (pc + 2) (lvp lv i (.ref x)) st S k n) : J p l e R s m args below meth c nL D A Q pc lv (.ref x :: st) S k n :=
  fun H locs ls h1 h2 h3 => lv_astore C.1 C.2.1 d h1 hn rfl (fun ls h1 => kk H locs ls h1 h2 h3)
theorem j_astore_nN (C : Cx p l s m args meth c cc nL own D A) {i : Fin 4} (d : decode cc pc = .ok (.astore_n i, 1)) (hn : (i : Nat) < nL) (kk : J p l e R s m args below meth c nL D A Q (pc + 1) (lvp lv i .null) st S k n) : J p l e R s m args below meth c nL D A Q pc lv (.null :: st) S k n :=
  fun H locs ls h1 h2 h3 => lv_astore_nN C.1 C.2.1 d rfl h1 hn rfl (fun ls h1 => kk H locs ls h1 h2 h3)
/-- a value put into a local of two words -/
def lvp2 (lv : List (Nat × Value)) (i : Nat) (v : Value) : List (Nat × Value) := (i, v) :: lv.filter (fun q => !(q.1 == i) && (!(q.1 == i + 1) && !(q.1 + 1 == i && q.2.category == 2)))
theorem j_lstore_n (C : Cx p l s m args meth c cc nL own D A) {i : Fin 4} {x : Int64} (d : decode cc pc = .ok (.lstore_n i, 1)) (hn : (i : Nat) + 1 < nL) (kk : J p l e R s m args below meth c nL D A Q (pc + 1) (lvp2 lv i (.long x)) st S k n) : J p l e R s m args below meth c nL D A Q pc lv (.long x :: st) S k n :=
  fun H locs ls h1 h2 h3 => lv_lstore_n C.1 C.2.1 d rfl h1 hn rfl (fun ls h1 => kk H locs ls h1 h2 h3)
theorem j_lstore (C : Cx p l s m args meth c cc nL own D A) {i : Nat} {x : Int64} (d : decode cc pc = .ok (.lstore i, 2)) (hn : i + 1 < nL) (kk : J p l e R s m args below meth c nL D A Q (pc + 2) (lvp2 lv i (.long x)) st S k n) : J p l e R s m args below meth c nL D A Q pc lv (.long x :: st) S k n :=
  fun H locs ls h1 h2 h3 => lv_lstore C.1 C.2.1 d h1 hn rfl (fun ls h1 => kk H locs ls h1 h2 h3)
theorem lvg_idx : ∀ {lv : List (Nat × Value)} {i : Nat} {v : Value}, lvg lv i = some v → ∃ q : Nat, lv[q]? = some (i, v) := fun h => List.getElem?_of_mem (lvg_mem h)
theorem j_iinc (C : Cx p l s m args meth c cc nL own D A) {i : Nat} {z x : Int} (d : decode cc pc = .ok (.iinc i z, 3)) (hl : lvg lv i = some (.int (iN x))) (hn : i < nL) (kk : J p l e R s m args below meth c nL D A Q (pc + 3) (lvp lv i (.int (iN (x + z)))) st S k n) : J p l e R s m args below meth c nL D A Q pc lv st S k n := by
  intro H locs ls h1 h2 h3
  obtain ⟨q, hq⟩ := lvg_idx hl
  exact lv_iinc C.1 C.2.1 d h1 hq (iN_add x z) hn rfl (fun ls h1 => kk H locs ls h1 h2 h3)
theorem j_iadd (C : Cx p l s m args meth c cc nL own D A) {x y : Int} (d : decode cc pc = .ok (.iadd, 1)) (kk : J p l e R s m args below meth c nL D A Q (pc + 1) lv (.int (iN (x + y)) :: st) S k n) : J p l e R s m args below meth c nL D A Q pc lv (.int (iN y) :: .int (iN x) :: st) S k n :=
  fun H locs ls h1 h2 h3 => lv_iadd C.1 C.2.1 d (iN_add x y ▸ kk H locs ls h1 h2 h3)
theorem j_isub (C : Cx p l s m args meth c cc nL own D A) {x y : Int} (d : decode cc pc = .ok (.isub, 1)) (kk : J p l e R s m args below meth c nL D A Q (pc + 1) lv (.int (iN (x - y)) :: st) S k n) : J p l e R s m args below meth c nL D A Q pc lv (.int (iN y) :: .int (iN x) :: st) S k n :=
  fun H locs ls h1 h2 h3 => lv_isub C.1 C.2.1 d (iN_sub x y ▸ kk H locs ls h1 h2 h3)
theorem j_imul (C : Cx p l s m args meth c cc nL own D A) {x y : Int} (d : decode cc pc = .ok (.imul, 1)) (kk : J p l e R s m args below meth c nL D A Q (pc + 1) lv (.int (iN (x * y)) :: st) S k n) : J p l e R s m args below meth c nL D A Q pc lv (.int (iN y) :: .int (iN x) :: st) S k n :=
  fun H locs ls h1 h2 h3 => lv_imul C.1 C.2.1 d (iN_mul x y ▸ kk H locs ls h1 h2 h3)
theorem j_goto (C : Cx p l s m args meth c cc nL own D A) {off : Int} {tgt : Nat} (d : decode cc pc = .ok (.goto off, 3)) (ht : (pc : Int) + off = (tgt : Int)) (kk : J p l e R s m args below meth c nL D A Q tgt lv st S k n) : J p l e R s m args below meth c nL D A Q pc lv st S k n :=
  fun H locs ls h1 h2 h3 => lv_goto C.1 C.2.1 d ht (kk H locs ls h1 h2 h3)
theorem j_dup (C : Cx p l s m args meth c cc nL own D A) {v : Value} (d : decode cc pc = .ok (.dup, 1)) (hv : v.category = 1) (kk : J p l e R s m args below meth c nL D A Q (pc + 1) lv (v :: v :: st) S k n) : J p l e R s m args below meth c nL D A Q pc lv (v :: st) S k n :=
  fun H locs ls h1 h2 h3 => lv_dup C.1 C.2.1 d hv (kk H locs ls h1 h2 h3)
theorem j_pop (C : Cx p l s m args meth c cc nL own D A) {v : Value} (d : decode cc pc = .ok (.pop, 1)) (hv : v.category = 1) (kk : J p l e R s m args below meth c nL D A Q (pc + 1) lv st S k n) : J p l e R s m args below meth c nL D A Q pc lv (v :: st) S k n :=
  fun H locs ls h1 h2 h3 => lv_pop C.1 C.2.1 d hv (kk H locs ls h1 h2 h3)
theorem j_dup_x1 (C : Cx p l s m args meth c cc nL own D A) {v w : Value} (d : decode cc pc = .ok (.dup_x1, 1)) (hv : v.category = 1) (hw : w.category = 1) (kk : J p l e R s m args below meth c nL D A Q (pc + 1) lv (v :: w :: v :: st) S k n) : J p l e R s m args below meth c nL D A Q pc lv (v :: w :: st) S k n :=
  fun H locs ls h1 h2 h3 => lv_dup_x1 C.1 C.2.1 d hv hw (kk H locs ls h1 h2 h3)
theorem j_dup2 (C : Cx p l s m args meth c cc nL own D A) {v w : Value} (d : decode cc pc = .ok (.dup2, 1)) (hv : v.category = 1) (hw : w.category = 1) (kk : J p l e R s m args below meth c nL D A Q (pc + 1) lv (v :: w :: v :: w :: st) S k n) : J p l e R s m args below meth c nL D A Q pc lv (v :: w :: st) S k n :=
  fun H locs ls h1 h2 h3 => lv_dup2_11 C.1 C.2.1 d hv hw (kk H locs ls h1 h2 h3)
theorem j_icmp_eq (C : Cx p l s m args meth c cc nL own D A) {a b : Int} {off : Int} {tgt : Nat} (d : decode cc pc = .ok (.if_icmp .eq off, 3)) (ht : (pc : Int) + off = (tgt : Int)) (ha : rg a) (hb : rg b) (kt : a = b → J p l e R s m args below meth c nL D A Q tgt lv st S k n) (kf : ¬ (a = b) → J p l e R s m args below meth c nL D A Q (pc + 3) lv st S k n) : J p l e R s m args below meth c nL D A Q pc lv (.int (iN b) :: .int (iN a) :: st) S k n :=
  fun H locs ls h1 h2 h3 => lv_icmp_eq C.1 C.2.1 d ht (fun h => kt ((iN_eq ha hb).mp h) H locs ls h1 h2 h3) (fun h => kf (fun z => h ((iN_eq ha hb).mpr z)) H locs ls h1 h2 h3)
theorem j_if_eq (C : Cx p l s m args meth c cc nL own D A) {a : Int} {off : Int} {tgt : Nat} (d : decode cc pc = .ok (.ifCond .eq off, 3)) (ht : (pc : Int) + off = (tgt : Int)) (ha : rg a) (kt : a = 0 → J p l e R s m args below meth c nL D A Q tgt lv st S k n) (kf : ¬ (a = 0) → J p l e R s m args below meth c nL D A Q (pc + 3) lv st S k n) : J p l e R s m args below meth c nL D A Q pc lv (.int (iN a) :: st) S k n :=
  fun H locs ls h1 h2 h3 => lv_if_eq C.1 C.2.1 d ht (fun h => kt ((iN_eq0 ha).mp h) H locs ls h1 h2 h3) (fun h => kf (fun z => h ((iN_eq0 ha).mpr z)) H locs ls h1 h2 h3)
theorem j_icmp_ne (C : Cx p l s m args meth c cc nL own D A) {a b : Int} {off : Int} {tgt : Nat} (d : decode cc pc = .ok (.if_icmp .ne off, 3)) (ht : (pc : Int) + off = (tgt : Int)) (ha : rg a) (hb : rg b) (kt : ¬ a = b → J p l e R s m args below meth c nL D A Q tgt lv st S k n) (kf : a = b → J p l e R s m args below meth c nL D A Q (pc + 3) lv st S k n) : J p l e R s m args below meth c nL D A Q pc lv (.int (iN b) :: .int (iN a) :: st) S k n :=
  fun H locs ls h1 h2 h3 => lv_icmp_ne C.1 C.2.1 d ht (fun h => kt (fun z => h ((iN_eq ha hb).mpr z)) H locs ls h1 h2 h3) (fun h => kf ((iN_eq ha hb).mp h) H locs ls h1 h2 h3)
theorem j_if_ne (C : Cx p l s m args meth c cc nL own D A) {a : Int} {off : Int} {tgt : Nat} (d : decode cc pc = .ok (.ifCond .ne off, 3)) (ht : (pc : Int) + off = (tgt : Int)) (ha : rg a) (kt : ¬ a = 0 → J p l e R s m args below meth c nL D A Q tgt lv st S k n) (kf : a = 0 → J p l e R s m args below meth c nL D A Q (pc + 3) lv st S k n) : J p l e R s m args below meth c nL D A Q pc lv (.int (iN a) :: st) S k n :=
  fun H locs ls h1 h2 h3 => lv_if_ne C.1 C.2.1 d ht (fun h => kt (fun z => h ((iN_eq0 ha).mpr z)) H locs ls h1 h2 h3) (fun h => kf ((iN_eq0 ha).mp h) H locs ls h1 h2 h3)
theorem j_icmp_lt (C : Cx p l s m args meth c cc nL own D A) {a b : Int} {off : Int} {tgt : Nat} (d : decode cc pc = .ok (.if_icmp .lt off, 3)) (ht : (pc : Int) + off = (tgt : Int)) (ha : rg a) (hb : rg b) (kt : a < b → J p l e R s m args below meth c nL D A Q tgt lv st S k n) (kf : ¬ (a < b) → J p l e R s m args below meth c nL D A Q (pc + 3) lv st S k n) : J p l e R s m args below meth c nL D A Q pc lv (.int (iN b) :: .int (iN a) :: st) S k n :=
  fun H locs ls h1 h2 h3 => lv_icmp_lt C.1 C.2.1 d ht (fun h => kt ((iN_lt ha hb).mp h) H locs ls h1 h2 h3) (fun h => kf (fun z => h ((iN_lt ha hb).mpr z)) H locs ls h1 h2 h3)
theorem j_if_lt (C : Cx p l s m args meth c cc nL own D A) {a : Int} {off : Int} {tgt : Nat} (d : decode cc pc = .ok (.ifCond .lt off, 3)) (ht : (pc : Int) + off = (tgt : Int)) (ha : rg a) (kt : a < 0 → J p l e R s m args below meth c nL D A Q tgt lv st S k n) (kf : ¬ (a < 0) → J p l e R s m args below meth c nL D A Q (pc + 3) lv st S k n) : J p l e R s m args below meth c nL D A Q pc lv (.int (iN a) :: st) S k n :=
  fun H locs ls h1 h2 h3 => lv_if_lt C.1 C.2.1 d ht (fun h => kt ((iN_lt0 ha).mp h) H locs ls h1 h2 h3) (fun h => kf (fun z => h ((iN_lt0 ha).mpr z)) H locs ls h1 h2 h3)
theorem j_icmp_ge (C : Cx p l s m args meth c cc nL own D A) {a b : Int} {off : Int} {tgt : Nat} (d : decode cc pc = .ok (.if_icmp .ge off, 3)) (ht : (pc : Int) + off = (tgt : Int)) (ha : rg a) (hb : rg b) (kt : b ≤ a → J p l e R s m args below meth c nL D A Q tgt lv st S k n) (kf : ¬ (b ≤ a) → J p l e R s m args below meth c nL D A Q (pc + 3) lv st S k n) : J p l e R s m args below meth c nL D A Q pc lv (.int (iN b) :: .int (iN a) :: st) S k n :=
  fun H locs ls h1 h2 h3 => lv_icmp_ge C.1 C.2.1 d ht (fun h => kt ((iN_le hb ha).mp h) H locs ls h1 h2 h3) (fun h => kf (fun z => h ((iN_le hb ha).mpr z)) H locs ls h1 h2 h3)
theorem j_if_ge (C : Cx p l s m args meth c cc nL own D A) {a : Int} {off : Int} {tgt : Nat} (d : decode cc pc = .ok (.ifCond .ge off, 3)) (ht : (pc : Int) + off = (tgt : Int)) (ha : rg a) (kt : 0 ≤ a → J p l e R s m args below meth c nL D A Q tgt lv st S k n) (kf : ¬ (0 ≤ a) → J p l e R s m args below meth c nL D A Q (pc + 3) lv st S k n) : J p l e R s m args below meth c nL D A Q pc lv (.int (iN a) :: st) S k n :=
  fun H locs ls h1 h2 h3 => lv_if_ge C.1 C.2.1 d ht (fun h => kt ((iN_ge0 ha).mp h) H locs ls h1 h2 h3) (fun h => kf (fun z => h ((iN_ge0 ha).mpr z)) H locs ls h1 h2 h3)
theorem j_icmp_gt (C : Cx p l s m args meth c cc nL own D A) {a b : Int} {off : Int} {tgt : Nat} (d : decode cc pc = .ok (.if_icmp .gt off, 3)) (ht : (pc : Int) + off = (tgt : Int)) (ha : rg a) (hb : rg b) (kt : b < a → J p l e R s m args below meth c nL D A Q tgt lv st S k n) (kf : ¬ (b < a) → J p l e R s m args below meth c nL D A Q (pc + 3) lv st S k n) : J p l e R s m args below meth c nL D A Q pc lv (.int (iN b) :: .int (iN a) :: st) S k n :=
  fun H locs ls h1 h2 h3 => lv_icmp_gt C.1 C.2.1 d ht (fun h => kt ((iN_lt hb ha).mp h) H locs ls h1 h2 h3) (fun h => kf (fun z => h ((iN_lt hb ha).mpr z)) H locs ls h1 h2 h3)
theorem j_if_gt (C : Cx p l s m args meth c cc nL own D A) {a : Int} {off : Int} {tgt : Nat} (d : decode cc pc = .ok (.ifCond .gt off, 3)) (ht : (pc : Int) + off = (tgt : Int)) (ha : rg a) (kt : 0 < a → J p l e R s m args below meth c nL D A Q tgt lv st S k n) (kf : ¬ (0 < a) → J p l e R s m args below meth c nL D A Q (pc + 3) lv st S k n) : J p l e R s m args below meth c nL D A Q pc lv (.int (iN a) :: st) S k n :=
  fun H locs ls h1 h2 h3 => lv_if_gt C.1 C.2.1 d ht (fun h => kt ((iN_gt0 ha).mp h) H locs ls h1 h2 h3) (fun h => kf (fun z => h ((iN_gt0 ha).mpr z)) H locs ls h1 h2 h3)
theorem j_icmp_le (C : Cx p l s m args meth c cc nL own D A) {a b : Int} {off : Int} {tgt : Nat} (d : decode cc pc = .ok (.if_icmp .le off, 3)) (ht : (pc : Int) + off = (tgt : Int)) (ha : rg a) (hb : rg b) (kt : a ≤ b → J p l e R s m args below meth c nL D A Q tgt lv st S k n) (kf : ¬ (a ≤ b) → J p l e R s m args below meth c nL D A Q (pc + 3) lv st S k n) : J p l e R s m args below meth c nL D A Q pc lv (.int (iN b) :: .int (iN a) :: st) S k n :=
  fun H locs ls h1 h2 h3 => lv_icmp_le C.1 C.2.1 d ht (fun h => kt ((iN_le ha hb).mp h) H locs ls h1 h2 h3) (fun h => kf (fun z => h ((iN_le ha hb).mpr z)) H locs ls h1 h2 h3)
theorem j_if_le (C : Cx p l s m args meth c cc nL own D A) {a : Int} {off : Int} {tgt : Nat} (d : decode cc pc = .ok (.ifCond .le off, 3)) (ht : (pc : Int) + off = (tgt : Int)) (ha : rg a) (kt : a ≤ 0 → J p l e R s m args below meth c nL D A Q tgt lv st S k n) (kf : ¬ (a ≤ 0) → J p l e R s m args below meth c nL D A Q (pc + 3) lv st S k n) : J p l e R s m args below meth c nL D A Q pc lv (.int (iN a) :: st) S k n :=
  fun H locs ls h1 h2 h3 => lv_if_le C.1 C.2.1 d ht (fun h => kt ((iN_le0 ha).mp h) H locs ls h1 h2 h3) (fun h => kf (fun z => h ((iN_le0 ha).mpr z)) H locs ls h1 h2 h3)
theorem j_ifeq_b (C : Cx p l s m args meth c cc nL own D A) {b : Bool} {off : Int} {tgt : Nat} (d : decode cc pc = .ok (.ifCond .eq off, 3)) (ht : (pc : Int) + off = (tgt : Int)) (kt : b = false → J p l e R s m args below meth c nL D A Q tgt lv st S k n) (kf : b = true → J p l e R s m args below meth c nL D A Q (pc + 3) lv st S k n) : J p l e R s m args below meth c nL D A Q pc lv (.int (iN (bN b)) :: st) S k n :=
  j_if_eq C d ht (bN_rg b) (fun h => kt ((bN_0 b).mp h)) (fun h => kf (by cases b with | false => exact absurd rfl h | true => rfl))
theorem j_ifne_b (C : Cx p l s m args meth c cc nL own D A) {b : Bool} {off : Int} {tgt : Nat} (d : decode cc pc = .ok (.ifCond .ne off, 3)) (ht : (pc : Int) + off = (tgt : Int)) (kt : b = true → J p l e R s m args below meth c nL D A Q tgt lv st S k n) (kf : b = false → J p l e R s m args below meth c nL D A Q (pc + 3) lv st S k n) : J p l e R s m args below meth c nL D A Q pc lv (.int (iN (bN b)) :: st) S k n :=
  j_if_ne C d ht (bN_rg b) (fun h => kt (by cases b with | false => exact absurd rfl h | true => rfl)) (fun h => kf ((bN_0 b).mp h))
theorem j_acmp_ne (C : Cx p l s m args meth c cc nL own D A) {x y : Nat} {off : Int} {tgt : Nat} (d : decode cc pc = .ok (.if_acmp .ne off, 3)) (ht : (pc : Int) + off = (tgt : Int)) (kt : ¬ x = y → J p l e R s m args below meth c nL D A Q tgt lv st S k n) (kf : x = y → J p l e R s m args below meth c nL D A Q (pc + 3) lv st S k n) : J p l e R s m args below meth c nL D A Q pc lv (.ref y :: .ref x :: st) S k n :=
  fun H locs ls h1 h2 h3 => lv_acmp_ne (rx := some x) (ry := some y) C.1 C.2.1 d ht (fun h => kt (fun z => h (by rw [z])) H locs ls h1 h2 h3) (fun h => kf (Option.some.inj h) H locs ls h1 h2 h3)
theorem j_acmp_eq (C : Cx p l s m args meth c cc nL own D A) {x y : Nat} {off : Int} {tgt : Nat} (d : decode cc pc = .ok (.if_acmp .eq off, 3)) (ht : (pc : Int) + off = (tgt : Int)) (kt : x = y → J p l e R s m args below meth c nL D A Q tgt lv st S k n) (kf : ¬ x = y → J p l e R s m args below meth c nL D A Q (pc + 3) lv st S k n) : J p l e R s m args below meth c nL D A Q pc lv (.ref y :: .ref x :: st) S k n :=
  fun H locs ls h1 h2 h3 => lv_acmp_eq (rx := some x) (ry := some y) C.1 C.2.1 d ht (fun h => kt (Option.some.inj h) H locs ls h1 h2 h3) (fun h => kf (fun z => h (by rw [z])) H locs ls h1 h2 h3)
theorem j_acmp_neN (C : Cx p l s m args meth c cc nL own D A) {y : Nat} {off : Int} {tgt : Nat} (d : decode cc pc = .ok (.if_acmp .ne off, 3)) (ht : (pc : Int) + off = (tgt : Int)) (kt : J p l e R s m args below meth c nL D A Q tgt lv st S k n) : J p l e R s m args below meth c nL D A Q pc lv (.ref y :: .null :: st) S k n :=
  fun H locs ls h1 h2 h3 => lv_acmp_ne (rx := none) (ry := some y) C.1 C.2.1 d ht (fun h => kt H locs ls h1 h2 h3) (fun h => by cases h)
theorem j_ifnonnull (C : Cx p l s m args meth c cc nL own D A) {x : Nat} {off : Int} {tgt : Nat} (d : decode cc pc = .ok (.ifnonnull off, 3)) (ht : (pc : Int) + off = (tgt : Int)) (kk : J p l e R s m args below meth c nL D A Q tgt lv st S k n) : J p l e R s m args below meth c nL D A Q pc lv (.ref x :: st) S k n :=
  fun H locs ls h1 h2 h3 => lv_ifnonnull C.1 C.2.1 d ht (kk H locs ls h1 h2 h3)
theorem j_ifnonnullN (C : Cx p l s m args meth c cc nL own D A) {off : Int} (d : decode cc pc = .ok (.ifnonnull off, 3)) (kk : J p l e R s m args below meth c nL D A Q (pc + 3) lv st S k n) : J p l e R s m args below meth c nL D A Q pc lv (.null :: st) S k n :=
  fun H locs ls h1 h2 h3 => lv_ifnonnullN C.1 C.2.1 d (kk H locs ls h1 h2 h3)
theorem j_ifnull (C : Cx p l s m args meth c cc nL own D A) {x : Nat} {off : Int} (d : decode cc pc = .ok (.ifnull off, 3)) (kk : J p l e R s m args below meth c nL D A Q (pc + 3) lv st S k n) : J p l e R s m args below meth c nL D A Q pc lv (.ref x :: st) S k n :=
  fun H locs ls h1 h2 h3 => lv_ifnull C.1 C.2.1 d (kk H locs ls h1 h2 h3)
theorem j_ifnullN (C : Cx p l s m args meth c cc nL own D A) {off : Int} {tgt : Nat} (d : decode cc pc = .ok (.ifnull off, 3)) (ht : (pc : Int) + off = (tgt : Int)) (kk : J p l e R s m args below meth c nL D A Q tgt lv st S k n) : J p l e R s m args below meth c nL D A Q pc lv (.null :: st) S k n :=
  fun H locs ls h1 h2 h3 => lv_ifnullN C.1 C.2.1 d ht (kk H locs ls h1 h2 h3)
theorem j_mmax (C : Cx p l s m args meth c cc nL own D A) {idx : Nat} {x y : Int} (hl : Cond.methodLink own idx Lib.Math.max.name ∈ WALL) (hx : rg x) (hy : rg y) (hr : 1 ≤ R.frames ∧ (st.map fun v => v.category).sum + 13 ≤ R.locals ∧ k ≤ R.cells ∧ n ≤ R.slots) (d : decode cc pc = .ok (.invokestatic idx, 3))
    (kk : J p l e R s m args below meth c nL D A Q (pc + 3) lv (.int (iN (max x y)) :: st) S k n) : J p l e R s m args below meth c nL D A Q pc lv (.int (iN y) :: .int (iN x) :: st) S k n := by
  intro H locs ls h1 h2 h3
  obtain ⟨c1, c2, c3, c4, c5, -⟩ := C
  refine va_mmax c1 c2 (by rw [c3]; exact h1.1.symm) c4 (c5 _ hl) (c5 _ sm_max) (c5 _ ini_Ma) (c5 _ co_max) hr.1 hr.2.1 hr.2.2.1 hr.2.2.2 d ?_
  have e : (if iN x < iN y then iN y else iN x) = iN (max x y) := by
    by_cases q : x < y
    · rw [if_pos ((iN_lt hx hy).mpr q)]; congr 1; omega
    · rw [if_neg (fun z => q ((iN_lt hx hy).mp z))]; congr 1; omega
  rw [e]
  exact kk H locs ls h1 h2 h3
theorem j_mmin (C : Cx p l s m args meth c cc nL own D A) {idx : Nat} {x y : Int} (hl : Cond.methodLink own idx Lib.Math.min.name ∈ WALL) (hx : rg x) (hy : rg y) (hr : 1 ≤ R.frames ∧ (st.map fun v => v.category).sum + 13 ≤ R.locals ∧ k ≤ R.cells ∧ n ≤ R.slots) (d : decode cc pc = .ok (.invokestatic idx, 3))
    (kk : J p l e R s m args below meth c nL D A Q (pc + 3) lv (.int (iN (min x y)) :: st) S k n) : J p l e R s m args below meth c nL D A Q pc lv (.int (iN y) :: .int (iN x) :: st) S k n := by
  intro H locs ls h1 h2 h3
  obtain ⟨c1, c2, c3, c4, c5, -⟩ := C
  refine va_mmin c1 c2 (by rw [c3]; exact h1.1.symm) c4 (c5 _ hl) (c5 _ sm_min) (c5 _ ini_Ma) (c5 _ co_min) hr.1 hr.2.1 hr.2.2.1 hr.2.2.2 d ?_
  have e : (if iN y < iN x then iN y else iN x) = iN (min x y) := by
    by_cases q : y < x
    · rw [if_pos ((iN_lt hy hx).mpr q)]; congr 1; omega
    · rw [if_neg (fun z => q ((iN_lt hy hx).mp z))]; congr 1; omega
  rw [e]
  exact kk H locs ls h1 h2 h3
/-- getfield -/
theorem j_get (C : Cx p l s m args meth c cc nL own D A) {a kd j idx : Nat} {v : Value} (hf : FL own idx kd j) (hk : sK S a = kd) (h8 : 1 ≤ kd ∧ kd ≤ 8 ∧ j < (kC kd).2.2) (hv : sG S (64 * kd + j) a = v) (d : decode cc pc = .ok (.getfield idx, 3))
    (kk : J p l e R s m args below meth c nL D A Q (pc + 3) lv (v :: st) S k n) : J p l e R s m args below meth c nL D A Q pc lv (.ref a :: st) S k n := by
  intro H locs ls h1 h2 h3
  obtain ⟨c1, c2, c3, c4, c5, c6, -⟩ := C
  obtain ⟨g1, g2, g3⟩ := h8
  obtain ⟨ref, f1, f2⟩ := hf.use c5
  obtain ⟨-, w2, -⟩ := h2 a (by omega)
  obtain ⟨cell, q1, q2, q3, q4⟩ := w2.1 (by omega)
  rw [hk] at q2 q4
  obtain ⟨hS, hfc, kC9, hkC, hkind⟩ := c6.1 kd g1 g2
  obtain ⟨cf, kf, fi, f, hi, hsl⟩ := hS j g3
  refine W.getf c1 c2 c4 f1 (f2 _ hi) (u_facts hfc hkC (u_lays c5 (kC_in kd g1 g2) g3) hi).1 q1 (by rw [q3]; exact fun h => by cases h) (v := v) ?_ rfl rfl d (kk H locs ls h1 h2 h3)
  rw [hsl, q4 j g3]
  exact congrArg some hv
theorem wI_put {H H' : Heap} {a kd j : Nat} {v : Value} (h2 : wI D A S H) (hk : sK S a = kd) (h8 : 1 ≤ kd ∧ kd ≤ 8 ∧ j < (kC kd).2.2) (hn : ∀ x y, x < (kC kd).2.2 → y < (kC kd).2.2 → x ≠ y → D.2.1 kd x ≠ D.2.1 kd y) {cell : Cell} (q2 : cell.cls = D.1 kd) (q3 : cell.vm = .none) (q4 : ∀ i, i < (kC kd).2.2 → cell.slots[D.2.1 kd i]? = some (sG S (64 * kd + i) a)) (e1 : H'[a]? = some (cell.setSlot (D.2.1 kd j) v)) (e3 : ∀ q, q ≠ a → H'[q]? = H[q]?) : wI D A (sPut S (64 * kd + j) a v) H' := by
  intro b hb
  obtain ⟨w1, w2, w3⟩ := h2 b hb
  refine ⟨w1, ?_, w3⟩
  obtain ⟨g1, g2, g3⟩ := h8
  by_cases e : b = a
  · subst e
    refine ⟨fun q => ?_, fun q => ?_⟩
    · show t_OB b (D.1 (sK S b)) (kC (sK S b)).2.2 (D.2.1 (sK S b)) H' _
      rw [hk]
      refine t_OB.to (V := updV (fun i => sG S (64 * kd + i) b) j v) ⟨_, e1, q2, q3, t_set q4 hn g3 v⟩ (fun i hi => ?_)
      show (if i = j then v else sG S (64 * kd + i) b) = if (64 * sK S b + i = 64 * kd + j ∧ b = b) then v else sG S (64 * sK S b + i) b
      rw [hk]
      by_cases z : i = j
      · subst z; simp
      · rw [if_neg z, if_neg (by omega)]
    · exact absurd (show 9 ≤ sK S b from q) (by omega)
  · refine ⟨fun q => ?_, fun q => ?_⟩
    · refine ((w2.1 q).kept (e3 b e)).to (fun i hi => ?_)
      show sG S (64 * sK S b + i) b = if (64 * sK S b + i = 64 * kd + j ∧ b = a) then v else sG S (64 * sK S b + i) b
      rw [if_neg (fun z => e z.2)]
    · show H'[b]? = _
      rw [e3 b e]
      exact w2.2 q
/-- putfield of a field that isn't final -/
theorem j_put (C : Cx p l s m args meth c cc nL own D A) {a kd j idx : Nat} {v : Value} (hf : FL own idx kd j) (hk : sK S a = kd) (h8 : 1 ≤ kd ∧ kd ≤ 8 ∧ j < (kC kd).2.2) (hfin : ((kC kd).2.1 j).2.2.2 = false) (hn : narrow (kT kd j) v = v) (hfit : fits (kT kd j) v = true) (d : decode cc pc = .ok (.putfield idx, 3))
    (kk : J p l e R s m args below meth c nL D A Q (pc + 3) lv st (sPut S (64 * kd + j) a v) k n) : J p l e R s m args below meth c nL D A Q pc lv (v :: .ref a :: st) S k n := by
  intro H locs ls h1 h2 h3
  obtain ⟨c1, c2, c3, c4, c5, c6, -⟩ := C
  obtain ⟨g1, g2, g3⟩ := h8
  obtain ⟨ref, f1, f2⟩ := hf.use c5
  obtain ⟨-, w2, w3⟩ := h2 a (by omega)
  obtain ⟨cell, q1, q2, q3, q4⟩ := w2.1 (by omega)
  rw [hk] at q2 q4
  obtain ⟨hS, hfc, kC9, hkC, hkind⟩ := c6.1 kd g1 g2
  have hap : ∀ x y, x < (kC kd).2.2 → y < (kC kd).2.2 → x ≠ y → D.2.1 kd x ≠ D.2.1 kd y := by
    intro x y hx hy hne
    obtain ⟨_, _, _, fa, hia, ea⟩ := hS x hx
    obtain ⟨_, _, _, fb, hib, eb⟩ := hS y hy
    rw [← ea, ← eb]
    refine u_apart (u_lays c5 (kC_in kd g1 g2) hx) (u_lays c5 (kC_in kd g1 g2) hy) hia hib ?_
    rw [(State.fieldFound?_type hia (kC_ty kd g1 g2 x hx)).1, (State.fieldFound?_type hib (kC_ty kd g1 g2 y hy)).1]
    exact kC_nm kd g1 g2 x hx y hy hne
  obtain ⟨cf, kf, fi, f, hi, hsl⟩ := hS j g3
  have hlay := c5 _ (kC_in kd g1 g2 _ (u_in_lay g3))
  unfold u_lay at hlay
  rw [if_neg (by rw [hfin]; decide)] at hlay
  have hst := (u_facts hfc hkC (u_lays c5 (kC_in kd g1 g2) g3) hi).1
  have h6 := u_store hfc hkC hkind hlay hi (kC_ty kd g1 g2 j g3) hn hfit
  refine W.putK c1 c2 (f := f) ⟨c4, f1, ⟨_, _, _, f2 _ hi⟩, hst⟩ (by rw [q2]; exact h6) q1 q3 (by rw [hsl]; exact k2_hasslot (q4 j g3)) rfl rfl d fun H' e1 e2 e3 => ?_
  rw [hsl] at e1 ⊢
  exact kk H' _ ls h1 (wI_put h2 hk ⟨g1, g2, g3⟩ hap q2 q3 q4 e1 e3) (h3.put e2 e3 w3)
/-- putfield of a final field in a constructor -/
theorem j_putF (C : Cx p l s m args meth c cc nL own D A) (hin : meth.name = "<init>") {a kd j idx : Nat} {v : Value} (hf : FL own idx kd j) (hk : sK S a = kd) (h8 : 1 ≤ kd ∧ kd ≤ 8 ∧ j < (kC kd).2.2) (hfin : ((kC kd).2.1 j).2.2.2 = true) (hdecl : ((kC kd).2.1 j).1 = own) (hn : narrow (kT kd j) v = v) (hfit : fits (kT kd j) v = true) (d : decode cc pc = .ok (.putfield idx, 3))
    (kk : J p l e R s m args below meth c nL D A Q (pc + 3) lv st (sPut S (64 * kd + j) a v) k n) : J p l e R s m args below meth c nL D A Q pc lv (v :: .ref a :: st) S k n := by
  intro H locs ls h1 h2 h3
  obtain ⟨c1, c2, c3, c4, c5, c6, -⟩ := C
  obtain ⟨g1, g2, g3⟩ := h8
  obtain ⟨ref, f1, f2⟩ := hf.use c5
  obtain ⟨-, w2, w3⟩ := h2 a (by omega)
  obtain ⟨cell, q1, q2, q3, q4⟩ := w2.1 (by omega)
  rw [hk] at q2 q4
  obtain ⟨hS, hfc, kC9, hkC, hkind⟩ := c6.1 kd g1 g2
  have hap : ∀ x y, x < (kC kd).2.2 → y < (kC kd).2.2 → x ≠ y → D.2.1 kd x ≠ D.2.1 kd y := by
    intro x y hx hy hne
    obtain ⟨_, _, _, fa, hia, ea⟩ := hS x hx
    obtain ⟨_, _, _, fb, hib, eb⟩ := hS y hy
    rw [← ea, ← eb]
    refine u_apart (u_lays c5 (kC_in kd g1 g2) hx) (u_lays c5 (kC_in kd g1 g2) hy) hia hib ?_
    rw [(State.fieldFound?_type hia (kC_ty kd g1 g2 x hx)).1, (State.fieldFound?_type hib (kC_ty kd g1 g2 y hy)).1]
    exact kC_nm kd g1 g2 x hx y hy hne
  obtain ⟨cf, kf, fi, f, hi, hsl⟩ := hS j g3
  have hlay := c5 _ (kC_in kd g1 g2 _ (u_in_lay g3))
  unfold u_lay at hlay
  rw [if_pos hfin] at hlay
  have hst := (u_facts hfc hkC (u_lays c5 (kC_in kd g1 g2) g3) hi).1
  have hcf : m.cls = cf := by
    obtain ⟨_, _, c', _, _, _, -, -, hf', -, -, -, hown2, -⟩ := Cond.laysFinal_spec hlay
    have e1 : c' = cf := by have := hi.symm.trans hf'; simp at this; exact this.1.symm
    rw [hdecl] at hown2
    rw [← e1]; exact Option.some.inj (c4.symm.trans hown2)
  have h6 := u_fits hfc hkC hkind (Or.inr hlay) hi (kC_ty kd g1 g2 j g3) hn hfit
  refine W.putFinK c1 c2 c4 f1 (f2 _ hi) hst hcf hin (by rw [q2]; exact h6) q1 q3 (by rw [hsl]; exact k2_hasslot (q4 j g3)) rfl rfl d fun H' e1 e2 e3 => ?_
  rw [hsl] at e1 ⊢
  exact kk H' _ ls h1 (wI_put h2 hk ⟨g1, g2, g3⟩ hap q2 q3 q4 e1 e3) (h3.put e2 e3 w3)
theorem wI_putE {H H' : Heap} {a kd i : Nat} {v : Value} (h2 : wI D A S H) (hk : sK S a = kd) (h9 : 9 ≤ kd) (hi : i < sN S a) (e1 : H'[a]? = some ((arrV (D.1 kd) (sN S a) (fun j => sE S kd a j)).setSlot i v)) (e3 : ∀ q, q ≠ a → H'[q]? = H[q]?) : wI D A (sPutE S kd a i v) H' := by
  intro b hb
  obtain ⟨w1, w2, w3⟩ := h2 b hb
  refine ⟨w1, ?_, w3⟩
  by_cases e : b = a
  · subst e
    refine ⟨fun q => absurd (show sK S b ≤ 8 from q) (by omega), fun q => ?_⟩
    show H'[b]? = some (arrV (D.1 (sK S b)) (sN S b) (fun j => if (sK S b = kd ∧ b = b ∧ j = i) then v else sE S (sK S b) b j))
    rw [e1, hk, arrV_store]
    congr 2
    funext j
    by_cases z : j = i
    · subst z; simp [updV]
    · simp [updV, z]
  · refine ⟨fun q => (w2.1 q).kept (e3 b e), fun q => ?_⟩
    show H'[b]? = some (arrV (D.1 (sK S b)) (sN S b) (fun j => if (sK S b = kd ∧ b = a ∧ j = i) then v else sE S (sK S b) b j))
    rw [e3 b e, w2.2 q]
    congr 2
    funext j
    rw [if_neg (fun z => e z.2.1)]
theorem j_iald (C : Cx p l s m args meth c cc nL own D A) {a : Nat} {z : Int} {v : Value} (hk : sK S a = 9) (hz : 0 ≤ z ∧ z < (sN S a : Int) ∧ z < 2147483648) (hv : sE S 9 a z.toNat = v) (d : decode cc pc = .ok (.iaload, 1)) (kk : J p l e R s m args below meth c nL D A Q (pc + 1) lv (v :: st) S k n) : J p l e R s m args below meth c nL D A Q pc lv (.int (iN z) :: .ref a :: st) S k n := by
  intro H locs ls h1 h2 h3
  obtain ⟨c1, c2, c3, c4, c5, c6, -⟩ := C
  obtain ⟨-, w2, -⟩ := h2 a (by omega)
  have q1 := w2.2 (by omega)
  rw [hk] at q1
  refine W.iald c1 c2 q1 ((c6.2 9 (by omega) (by omega)).1 _ _) (fun h => by cases h) (by rw [arrV_size]; exact iN_in hz.1 hz.2.1 hz.2.2) (v := v) (by rw [iN_nat hz.1 hz.2.2, arrV_read _ _ (by omega), hv]) rfl rfl d (kk H locs ls h1 h2 h3)
theorem j_lald (C : Cx p l s m args meth c cc nL own D A) {a : Nat} {z : Int} {v : Value} (hk : sK S a = 10) (hz : 0 ≤ z ∧ z < (sN S a : Int) ∧ z < 2147483648) (hv : sE S 10 a z.toNat = v) (d : decode cc pc = .ok (.laload, 1)) (kk : J p l e R s m args below meth c nL D A Q (pc + 1) lv (v :: st) S k n) : J p l e R s m args below meth c nL D A Q pc lv (.int (iN z) :: .ref a :: st) S k n := by
  intro H locs ls h1 h2 h3
  obtain ⟨c1, c2, c3, c4, c5, c6, -⟩ := C
  obtain ⟨-, w2, -⟩ := h2 a (by omega)
  have q1 := w2.2 (by omega)
  rw [hk] at q1
  refine W.lald c1 c2 q1 ((c6.2 10 (by omega) (by omega)).1 _ _) (fun h => by cases h) (by rw [arrV_size]; exact iN_in hz.1 hz.2.1 hz.2.2) (v := v) (by rw [iN_nat hz.1 hz.2.2, arrV_read _ _ (by omega), hv]) rfl rfl d (kk H locs ls h1 h2 h3)
theorem j_zald (C : Cx p l s m args meth c cc nL own D A) {a : Nat} {z : Int} {v : Value} (hk : sK S a = 11) (hz : 0 ≤ z ∧ z < (sN S a : Int) ∧ z < 2147483648) (hv : sE S 11 a z.toNat = v) (d : decode cc pc = .ok (.baload, 1)) (kk : J p l e R s m args below meth c nL D A Q (pc + 1) lv (v :: st) S k n) : J p l e R s m args below meth c nL D A Q pc lv (.int (iN z) :: .ref a :: st) S k n := by
  intro H locs ls h1 h2 h3
  obtain ⟨c1, c2, c3, c4, c5, c6, -⟩ := C
  obtain ⟨-, w2, -⟩ := h2 a (by omega)
  have q1 := w2.2 (by omega)
  rw [hk] at q1
  refine W.zald c1 c2 q1 ((c6.2 11 (by omega) (by omega)).1 _ _) (fun h => by cases h) (by rw [arrV_size]; exact iN_in hz.1 hz.2.1 hz.2.2) (v := v) (by rw [iN_nat hz.1 hz.2.2, arrV_read _ _ (by omega), hv]) rfl rfl d (kk H locs ls h1 h2 h3)
theorem j_aald (C : Cx p l s m args meth c cc nL own D A) {a : Nat} {z : Int} {v : Value} (hk : sK S a = 12) (hz : 0 ≤ z ∧ z < (sN S a : Int) ∧ z < 2147483648) (hv : sE S 12 a z.toNat = v) (d : decode cc pc = .ok (.aaload, 1)) (kk : J p l e R s m args below meth c nL D A Q (pc + 1) lv (v :: st) S k n) : J p l e R s m args below meth c nL D A Q pc lv (.int (iN z) :: .ref a :: st) S k n := by
  intro H locs ls h1 h2 h3
  obtain ⟨c1, c2, c3, c4, c5, c6, -⟩ := C
  obtain ⟨-, w2, -⟩ := h2 a (by omega)
  have q1 := w2.2 (by omega)
  rw [hk] at q1
  refine W.aald (ty := .object "java/lang/Object") c1 c2 q1 ((c6.2 12 (by omega) (by omega)).1 _ _) rfl (fun h => by cases h) (by rw [arrV_size]; exact iN_in hz.1 hz.2.1 hz.2.2) (v := v) (by rw [iN_nat hz.1 hz.2.2, arrV_read _ _ (by omega), hv]) rfl rfl d (kk H locs ls h1 h2 h3)
theorem j_dald (C : Cx p l s m args meth c cc nL own D A) {a : Nat} {z : Int} {v : Value} (hk : sK S a = 13) (hz : 0 ≤ z ∧ z < (sN S a : Int) ∧ z < 2147483648) (hv : sE S 13 a z.toNat = v) (d : decode cc pc = .ok (.daload, 1)) (kk : J p l e R s m args below meth c nL D A Q (pc + 1) lv (v :: st) S k n) : J p l e R s m args below meth c nL D A Q pc lv (.int (iN z) :: .ref a :: st) S k n := by
  intro H locs ls h1 h2 h3
  obtain ⟨c1, c2, c3, c4, c5, c6, -⟩ := C
  obtain ⟨-, w2, -⟩ := h2 a (by omega)
  have q1 := w2.2 (by omega)
  rw [hk] at q1
  refine W.dald c1 c2 q1 ((c6.2 13 (by omega) (by omega)).1 _ _) (fun h => by cases h) (by rw [arrV_size]; exact iN_in hz.1 hz.2.1 hz.2.2) (v := v) (by rw [iN_nat hz.1 hz.2.2, arrV_read _ _ (by omega), hv]) rfl rfl d (kk H locs ls h1 h2 h3)
theorem j_iast (C : Cx p l s m args meth c cc nL own D A) {a : Nat} {z : Int} {x : Int32} (hk : sK S a = 9) (hz : 0 ≤ z ∧ z < (sN S a : Int) ∧ z < 2147483648) (d : decode cc pc = .ok (.iastore, 1)) (kk : J p l e R s m args below meth c nL D A Q (pc + 1) lv st (sPutE S 9 a z.toNat (.int x)) k n) : J p l e R s m args below meth c nL D A Q pc lv (.int x :: .int (iN z) :: .ref a :: st) S k n := by
  intro H locs ls h1 h2 h3
  obtain ⟨c1, c2, c3, c4, c5, c6, -⟩ := C
  obtain ⟨-, w2, w3⟩ := h2 a (by omega)
  have q1 := w2.2 (by omega)
  rw [hk] at q1
  refine W.iast c1 c2 q1 ((c6.2 9 (by omega) (by omega)).1 _ _) (fun h => by cases h) (by rw [arrV_size]; exact iN_in hz.1 hz.2.1 hz.2.2) rfl rfl d (fun H' e1 e2 e3 => ?_)
  rw [iN_nat hz.1 hz.2.2] at e1 ⊢
  exact kk H' _ ls h1 (wI_putE h2 hk (by omega) (by omega) e1 e3) (h3.put e2 e3 w3)
theorem j_last (C : Cx p l s m args meth c cc nL own D A) {a : Nat} {z : Int} {x : Int64} (hk : sK S a = 10) (hz : 0 ≤ z ∧ z < (sN S a : Int) ∧ z < 2147483648) (d : decode cc pc = .ok (.lastore, 1)) (kk : J p l e R s m args below meth c nL D A Q (pc + 1) lv st (sPutE S 10 a z.toNat (.long x)) k n) : J p l e R s m args below meth c nL D A Q pc lv (.long x :: .int (iN z) :: .ref a :: st) S k n := by
  intro H locs ls h1 h2 h3
  obtain ⟨c1, c2, c3, c4, c5, c6, -⟩ := C
  obtain ⟨-, w2, w3⟩ := h2 a (by omega)
  have q1 := w2.2 (by omega)
  rw [hk] at q1
  refine W.last c1 c2 q1 ((c6.2 10 (by omega) (by omega)).1 _ _) (fun h => by cases h) (by rw [arrV_size]; exact iN_in hz.1 hz.2.1 hz.2.2) rfl rfl d (fun H' e1 e2 e3 => ?_)
  rw [iN_nat hz.1 hz.2.2] at e1 ⊢
  exact kk H' _ ls h1 (wI_putE h2 hk (by omega) (by omega) e1 e3) (h3.put e2 e3 w3)
theorem j_dast (C : Cx p l s m args meth c cc nL own D A) {a : Nat} {z : Int} {x : UInt64} (hk : sK S a = 13) (hz : 0 ≤ z ∧ z < (sN S a : Int) ∧ z < 2147483648) (d : decode cc pc = .ok (.dastore, 1)) (kk : J p l e R s m args below meth c nL D A Q (pc + 1) lv st (sPutE S 13 a z.toNat (.double x)) k n) : J p l e R s m args below meth c nL D A Q pc lv (.double x :: .int (iN z) :: .ref a :: st) S k n := by
  intro H locs ls h1 h2 h3
  obtain ⟨c1, c2, c3, c4, c5, c6, -⟩ := C
  obtain ⟨-, w2, w3⟩ := h2 a (by omega)
  have q1 := w2.2 (by omega)
  rw [hk] at q1
  refine W.dast c1 c2 q1 ((c6.2 13 (by omega) (by omega)).1 _ _) (fun h => by cases h) (by rw [arrV_size]; exact iN_in hz.1 hz.2.1 hz.2.2) rfl rfl d (fun H' e1 e2 e3 => ?_)
  rw [iN_nat hz.1 hz.2.2] at e1 ⊢
  exact kk H' _ ls h1 (wI_putE h2 hk (by omega) (by omega) e1 e3) (h3.put e2 e3 w3)
theorem j_zast (C : Cx p l s m args meth c cc nL own D A) {a : Nat} {z : Int} {b : Bool} (hk : sK S a = 11) (hz : 0 ≤ z ∧ z < (sN S a : Int) ∧ z < 2147483648) (d : decode cc pc = .ok (.bastore, 1)) (kk : J p l e R s m args below meth c nL D A Q (pc + 1) lv st (sPutE S 11 a z.toNat (.int (iN (bN b)))) k n) : J p l e R s m args below meth c nL D A Q pc lv (.int (iN (bN b)) :: .int (iN z) :: .ref a :: st) S k n := by
  intro H locs ls h1 h2 h3
  obtain ⟨c1, c2, c3, c4, c5, c6, -⟩ := C
  obtain ⟨-, w2, w3⟩ := h2 a (by omega)
  have q1 := w2.2 (by omega)
  rw [hk] at q1
  refine W.zast c1 c2 q1 ((c6.2 11 (by omega) (by omega)).1 _ _) (fun h => by cases h) (by rw [arrV_size]; exact iN_in hz.1 hz.2.1 hz.2.2) rfl rfl d (fun H' e1 e2 e3 => ?_)
  rw [iN_nat hz.1 hz.2.2] at e1 ⊢
  have e0 : narrow .boolean (.int (iN (bN b))) = .int (iN (bN b)) := by cases b <;> decide
  rw [e0] at e1
  exact kk H' _ ls h1 (wI_putE h2 hk (by omega) (by omega) e1 e3) (h3.put e2 e3 w3)
theorem j_alen (C : Cx p l s m args meth c cc nL own D A) {a kd : Nat} (hk : sK S a = kd) (h9 : 9 ≤ kd ∧ kd ≤ 13) (d : decode cc pc = .ok (.arraylength, 1)) (kk : J p l e R s m args below meth c nL D A Q (pc + 1) lv (.int (iN (sN S a)) :: st) S k n) : J p l e R s m args below meth c nL D A Q pc lv (.ref a :: st) S k n := by
  intro H locs ls h1 h2 h3
  obtain ⟨c1, c2, c3, c4, c5, c6, -⟩ := C
  obtain ⟨-, w2, -⟩ := h2 a (by omega)
  have q1 := w2.2 (by omega)
  rw [hk] at q1
  refine W.alen (n := iN (sN S a)) c1 c2 q1 ((c6.2 kd h9.1 h9.2).1 _ _) ?_ rfl rfl d (kk H locs ls h1 h2 h3)
  rw [arrV_size]
  exact iN_ofNat _
/-- what is known of ArrayList's empty row: it isn't ours -/
theorem j_ea (C : Cx p l s m args meth c cc nL own D A) (kk : sK S D.2.2.1 = 0 → J p l e R s m args below meth c nL D A Q pc lv st S k n) : J p l e R s m args below meth c nL D A Q pc lv st S k n := by
  intro H locs ls h1 h2 h3
  obtain ⟨c1, c2, c3, c4, c5, c6, c7, -⟩ := C
  refine kk ?_ H locs ls h1 h2 h3
  rcases Nat.eq_zero_or_pos (sK S D.2.2.1) with q | q
  · exact q
  · exact absurd (h2 _ (by omega)).2.2 c7.2.2.2.2
theorem wI_new {H H' : Heap} {kd : Nat} {f : Nat → Value} (h2 : wI D A S H) (h8 : 1 ≤ kd ∧ kd ≤ 8) (hA : A H.size) (e1 : t_OB H.size (D.1 kd) (kC kd).2.2 (D.2.1 kd) H' f) (e3 : ∀ q, q < H.size → H'[q]? = H[q]?) : wI D A (sNew S kd H.size f) H' := by
  intro b hb
  have h64 := kC_64 kd h8.1 h8.2
  by_cases e : b = H.size
  · subst e
    have ek : sK (sNew S kd H.size f) H.size = kd := by simp [sK, sNew]
    refine ⟨by omega, ⟨fun q => ?_, fun q => by omega⟩, hA⟩
    rw [ek]
    refine e1.to (fun i hi => ?_)
    show f i = if (H.size = H.size ∧ 64 * kd ≤ 64 * kd + i ∧ 64 * kd + i < 64 * kd + 64) then f (64 * kd + i - 64 * kd) else _
    rw [if_pos ⟨rfl, by omega, by omega⟩, Nat.add_sub_cancel_left]
  · have ek : sK (sNew S kd H.size f) b = sK S b := by simp [sK, sNew, e]
    rw [ek] at hb
    obtain ⟨w1, w2, w3⟩ := h2 b hb
    have hlt := w2.lt
    refine ⟨by omega, ⟨fun q => ?_, fun q => ?_⟩, w3⟩
    · rw [ek] at q ⊢
      refine ((w2.1 q).kept (e3 b hlt)).to (fun i hi => ?_)
      show sG S (64 * sK S b + i) b = if (b = H.size ∧ _) then _ else sG S (64 * sK S b + i) b
      rw [if_neg (fun z => e z.1)]
    · rw [ek] at q ⊢
      rw [e3 b hlt, w2.2 q]
      rfl
theorem j_new (C : Cx p l s m args meth c cc nL own D A) {kd idx : Nat} (h8 : 1 ≤ kd ∧ kd ≤ 8) (hl : Cond.classLink own idx (kC kd).1 ∈ WALL) (hi : Cond.instantiable (kC kd).1 (kC kd).2.2 ∈ WALL ∧ Cond.initialized (kC kd).1 ∈ WALL) (hr : k + 1 ≤ R.cells ∧ n + (kC kd).2.2 ≤ R.slots) (d : decode cc pc = .ok (.new idx, 3))
    (kk : ∀ q : Nat, sK S q = 0 → q ≠ D.2.2.1 → J p l e R s m args below meth c nL D A Q (pc + 3) lv (.ref q :: st) (sNew S kd q (fun j => defaultValue (kT kd j))) (k + 1) (n + (kC kd).2.2)) : J p l e R s m args below meth c nL D A Q pc lv st S k n := by
  intro H locs ls h1 h2 h3
  obtain ⟨c1, c2, c3, c4, c5, c6, c7, c8, c9, -⟩ := C
  have hKn := c6.1 kd h8.1 h8.2
  have hea : D.2.2.1 < H.size := by
    obtain ⟨cell, z, -⟩ := c7.2.2.2.1
    exact Nat.lt_of_lt_of_le (Array.getElem?_eq_some_iff.mp z).1 h3.1
  refine W.newcK c1 c2 c4 (c5 _ hl) (c5 _ hi.1) (c5 _ hi.2) rfl d hr.1 hr.2 hKn.2.1 rfl fun H1 kC9 hkC e1 z1 o1 => ?_
  exact kk H.size h2.new (by omega) H1 locs ls h1 (wI_new h2 h8 (c9 _ h3.1) (u_born (kT kd) c5 (kC_in kd h8.1 h8.2) hKn hkC e1 (kC_ty kd h8.1 h8.2)) o1) ⟨Nat.le_trans h3.1 (by omega), fun x g1 g2 => (o1 x (Nat.lt_of_lt_of_le g1 h3.1)).trans (h3.2.1 x g1 g2), h3.2.2⟩
theorem wI_newA {H H' : Heap} {kd N : Nat} {f : Nat → Value} (h2 : wI D A S H) (h9 : 9 ≤ kd ∧ kd ≤ 13) (hA : A H.size) (e1 : H'[H.size]? = some (arrV (D.1 kd) N f)) (e3 : ∀ q, q < H.size → H'[q]? = H[q]?) : wI D A (sNewA S kd H.size N f) H' := by
  intro b hb
  by_cases e : b = H.size
  · subst e
    have ek : sK (sNewA S kd H.size N f) H.size = kd := by simp [sK, sNewA]
    have en : sN (sNewA S kd H.size N f) H.size = N := by simp [sN, sNewA]
    refine ⟨by omega, ⟨fun q => by omega, fun q => ?_⟩, hA⟩
    rw [ek, en, e1]
    congr 2
    funext j
    show f j = if (kd = kd ∧ H.size = H.size) then f j else _
    rw [if_pos ⟨rfl, rfl⟩]
  · have ek : sK (sNewA S kd H.size N f) b = sK S b := by simp [sK, sNewA, e]
    have en : sN (sNewA S kd H.size N f) b = sN S b := by simp [sN, sNewA, e]
    rw [ek] at hb
    obtain ⟨w1, w2, w3⟩ := h2 b hb
    have hlt := w2.lt
    refine ⟨by omega, ⟨fun q => ?_, fun q => ?_⟩, w3⟩
    · rw [ek] at q ⊢
      exact (w2.1 q).kept (e3 b hlt)
    · rw [ek] at q ⊢
      rw [en, e3 b hlt, w2.2 q]
      congr 2
      funext j
      show sE S (sK S b) b j = if (sK S b = kd ∧ b = H.size) then f j else sE S (sK S b) b j
      rw [if_neg (fun z => e z.2)]
theorem j_newa (C : Cx p l s m args meth c cc nL own D A) {atype : ArrayType} {kd : Nat} {z : Int} {ty : FieldType} (h9 : 9 ≤ kd ∧ kd ≤ 13) (hty : newarray.typeOf atype = ty) (hta : ty = kA kd) (hac : Cond.arrayClass ty ∈ WALL) (hcid : ∀ (U : State) (cA : ClassId), va_RA U (D.1 kd) (kA kd) → U.vm.findClass ("[" ++ ty.toString) = some cA → cA = D.1 kd) (h0 : 0 ≤ z ∧ z < 2147483648) (hby : z.toNat * componentBytes ty ≤ 536870912) (hr : k + 1 ≤ R.cells ∧ n + z.toNat ≤ R.slots) (d : decode cc pc = .ok (.newarray atype, 2))
    (kk : ∀ q : Nat, sK S q = 0 → q ≠ D.2.2.1 → J p l e R s m args below meth c nL D A Q (pc + 2) lv (.ref q :: st) (sNewA S kd q z.toNat (fun _ => defaultValue ty)) (k + 1) (n + z.toNat)) : J p l e R s m args below meth c nL D A Q pc lv (.int (iN z) :: st) S k n := by
  intro H locs ls h1 h2 h3
  obtain ⟨c1, c2, c3, c4, c5, c6, c7, c8, c9, -⟩ := C
  subst hty
  have hea : D.2.2.1 < H.size := by
    obtain ⟨cell, z, -⟩ := c7.2.2.2.1
    exact Nat.lt_of_lt_of_le (Array.getElem?_eq_some_iff.mp z).1 h3.1
  refine va_newaK c1 c2 (c5 _ hac) rfl d rfl (by rw [iN_lt0 ⟨by omega, h0.2⟩]; omega) (iN_nat h0.1 h0.2) hby hr.1 hr.2 rfl fun H1 cA e1 z1 o1 hAr hNm => ?_
  cases hcid s cA (c6.2 kd h9.1 h9.2).2 hNm
  exact kk H.size h2.new (by omega) H1 locs ls h1 (wI_newA h2 h9 (c9 _ h3.1) e1 o1) ⟨Nat.le_trans h3.1 (by omega), fun x g1 g2 => (o1 x (Nat.lt_of_lt_of_le g1 h3.1)).trans (h3.2.1 x g1 g2), h3.2.2⟩
/-- an object of kind kd as a receiver -/
theorem wI_recv {H : Heap} {U : State} {a kd : Nat} (h2 : wI D A S H) (hK : wKn D U) (hk : sK S a = kd) (h8 : 1 ≤ kd ∧ kd ≤ 8) : ∃ cell : Cell, H[a]? = some cell ∧ cell.vm.isStatics = false ∧ U.vm.findClass (kC kd).1 = some cell.cls := by
  obtain ⟨-, w2, -⟩ := h2 a (by omega)
  obtain ⟨cell, q1, q2, q3, q4⟩ := w2.1 (by omega)
  rw [hk] at q2
  exact ⟨cell, q1, by rw [q3]; rfl, by rw [q2]; exact (hK.1 kd h8.1 h8.2).2.1⟩
theorem j_cast (C : Cx p l s m args meth c cc nL own D A) {a kd idx : Nat} (hk : sK S a = kd) (h8 : 1 ≤ kd ∧ kd ≤ 8) (hl : Cond.classLink own idx (kC kd).1 ∈ WALL) (d : decode cc pc = .ok (.checkcast idx, 3)) (kk : J p l e R s m args below meth c nL D A Q (pc + 3) lv (.ref a :: st) S k n) : J p l e R s m args below meth c nL D A Q pc lv (.ref a :: st) S k n := by
  intro H locs ls h1 h2 h3
  obtain ⟨c1, c2, c3, c4, c5, c6, -⟩ := C
  exact va_castS c1 c2 c4 (c5 _ hl) (c6.1 kd h8.1 h8.2).2 (wI_recv h2 c6 hk h8) d (kk H locs ls h1 h2 h3)
end CORE
