/-! BITS: how many bits a long has (the family wb_ is pasted from kit/laws/BITS). -/
theorem wb_tb (n : Nat) : (lN n).toBitVec = BitVec.ofNat 64 n := rfl
theorem wb_inj {a b : Int64} (h : a.toBitVec = b.toBitVec) : a = b := Int64.toBitVec_inj.mp h
theorem wb_tn {n : Nat} (h : n < 2 ^ 64) : (lN n).toBitVec.toNat = n := by rw [wb_tb, BitVec.toNat_ofNat, Nat.mod_eq_of_lt h]
theorem wb_of (x : Int64) : ∃ n, n < 2 ^ 64 ∧ x = lN n := ⟨x.toBitVec.toNat, x.toBitVec.isLt, wb_inj (by rw [wb_tb]; simp)⟩
theorem wb_c : ∀ k, k < 64 → ((nI k).toInt64 &&& 63) = lN k := by decide +kernel
theorem wb_cu : ∀ k, k < 64 → ((nI k).toInt64.toUInt64 &&& Int64.toUInt64 63) = UInt64.ofNat k := by decide +kernel
theorem wb_sm : ∀ k, k < 64 → (BitVec.ofNat 64 k).smod 64 = BitVec.ofNat 64 k := by decide +kernel
theorem wb_lt2 {a b : Nat} (h : a < b) : 2 ^ a < 2 ^ b := Nat.pow_lt_pow_right (by decide) h
theorem wb_shr {n k : Nat} (hn : n < 2 ^ 64) (hk : k < 64) : ((lN n).toUInt64 >>> ((nI k).toInt64.toUInt64 &&& Int64.toUInt64 63)).toInt64 = lN (n / 2 ^ k) := by
  rw [wb_cu k hk]
  apply wb_inj
  apply BitVec.eq_of_toNat_eq
  show ((lN n).toUInt64 >>> UInt64.ofNat k).toNat = (BitVec.ofNat 64 _).toNat
  have h1 : (UInt64.ofNat k).toNat = k := by
    show (BitVec.ofNat 64 k).toNat = k
    rw [BitVec.toNat_ofNat, Nat.mod_eq_of_lt (by omega)]
  have h2 : (lN n).toUInt64.toNat = n := wb_tn hn
  rw [UInt64.toNat_shiftRight, h1, h2, Nat.mod_eq_of_lt hk, Nat.shiftRight_eq_div_pow, BitVec.toNat_ofNat, Nat.mod_eq_of_lt (Nat.lt_of_le_of_lt (Nat.div_le_self _ _) hn)]
theorem wb_and {a b : Nat} (ha : a < 2 ^ 64) (hb : b < 2 ^ 64) : lN a &&& lN b = lN (a &&& b) := by
  apply wb_inj
  rw [Int64.toBitVec_and, wb_tb, wb_tb, wb_tb]
  apply BitVec.eq_of_toNat_eq
  rw [BitVec.toNat_and, BitVec.toNat_ofNat, BitVec.toNat_ofNat, BitVec.toNat_ofNat, Nat.mod_eq_of_lt ha, Nat.mod_eq_of_lt hb, Nat.mod_eq_of_lt (Nat.and_lt_two_pow _ hb)]
theorem wb_mask {n k : Nat} (hn : n < 2 ^ 64) (hk : k < 64) : lN n &&& lN (2 ^ k - 1) = lN (n % 2 ^ k) := by
  rw [wb_and hn (by have := wb_lt2 hk; omega), Nat.and_two_pow_sub_one_eq_mod]

def mk8 (c : Nat) : Nat → Nat
  | 0 => 0
  | n + 1 => c + 256 * mk8 c n
theorem tb8 {a : Nat} (q i : Nat) (ha : a < 256) : (a + 256 * q).testBit i = if i < 8 then a.testBit i else q.testBit (i - 8) := by
  have h := Nat.testBit_two_pow_mul_add q (i := 8) ha i
  rw [Nat.add_comm]
  exact h
theorem land8 {a c : Nat} (q m : Nat) (ha : a < 256) (hc : c < 256) : (a + 256 * q) &&& (c + 256 * m) = (a &&& c) + 256 * (q &&& m) := by
  have h : a &&& c < 2 ^ 8 := Nat.and_lt_two_pow a hc
  apply Nat.eq_of_testBit_eq
  intro i
  rw [Nat.testBit_and, tb8 q i ha, tb8 m i hc, tb8 (q &&& m) i h]
  split <;> rw [Nat.testBit_and]
def ps1 (n x : Nat) : Nat := x - (x / 2 &&& mk8 85 n)
def ps2 (n x : Nat) : Nat := (x &&& mk8 51 n) + (x / 4 &&& mk8 51 n)
def ps3 (n x : Nat) : Nat := (x + x / 16) &&& mk8 15 n
def pd1 (b : Nat) : Nat := b - (b / 2 &&& 85)
def pd2 (b : Nat) : Nat := (pd1 b &&& 51) + (pd1 b / 4 &&& 51)
def p8 (b : Nat) : Nat := b % 2 + b / 2 % 2 + b / 4 % 2 + b / 8 % 2 + b / 16 % 2 + b / 32 % 2 + b / 64 % 2 + b / 128 % 2
theorem pk85 : ∀ b, b < 256 → ∀ r, r < 2 → (b / 2 + 128 * r) &&& 85 = b / 2 &&& 85 := by decide +kernel
theorem pk51 : ∀ b, b < 256 → ∀ r, r < 4 → (b / 4 + 64 * r) &&& 51 = b / 4 &&& 51 := by decide +kernel
theorem pd_ok : ∀ b, b < 256 → pd1 b < 256 ∧ pd2 b % 16 ≤ 4 ∧ pd2 b + pd2 b / 16 + 64 < 256 ∧ (pd2 b + pd2 b / 16) % 16 = p8 b ∧ p8 b ≤ 8 := by decide +kernel
theorem ps1_sp (n b q : Nat) (hb : b < 256) : ps1 (n + 1) (b + 256 * q) = pd1 b + 256 * ps1 n q := by
  unfold ps1 pd1
  have e : (b + 256 * q) / 2 = (b / 2 + 128 * (q % 2)) + 256 * (q / 2) := by omega
  rw [mk8, e, land8 _ _ (by omega) (by decide), pk85 b hb _ (by omega)]
  have h1 : b / 2 &&& 85 ≤ b / 2 := Nat.and_le_left
  have h2 : q / 2 &&& mk8 85 n ≤ q / 2 := Nat.and_le_left
  omega
theorem ps2_sp (n c r : Nat) (hc : c < 256) : ps2 (n + 1) (c + 256 * r) = ((c &&& 51) + (c / 4 &&& 51)) + 256 * ps2 n r := by
  unfold ps2
  have e : (c + 256 * r) / 4 = (c / 4 + 64 * (r % 4)) + 256 * (r / 4) := by omega
  rw [mk8, e, land8 _ _ hc (by decide), land8 _ _ (by omega) (by decide), pk51 c hc _ (by omega)]
  omega
theorem ps3_sp (n c r : Nat) (hc : c + c / 16 + 64 < 256) (hr : r % 16 ≤ 4) : ps3 (n + 1) (c + 256 * r) = (c + c / 16) % 16 + 256 * ps3 n r := by
  unfold ps3
  have e : c + 256 * r + (c + 256 * r) / 16 = (c + c / 16 + 16 * (r % 16)) + 256 * (r + r / 16) := by omega
  have e2 : (c + c / 16 + 16 * (r % 16)) &&& 15 = (c + c / 16 + 16 * (r % 16)) % 16 := Nat.and_two_pow_sub_one_eq_mod _ 4
  rw [mk8, e, land8 _ _ (by omega) (by decide), e2]
  omega
def psF (n x : Nat) : Nat := ps3 n (ps2 n (ps1 n x))
theorem ps_lo (n q : Nat) : ps2 n (ps1 n q) % 16 ≤ 4 := by
  cases n with
  | zero => simp [ps2, mk8]
  | succ n =>
    have e : q = q % 256 + 256 * (q / 256) := by omega
    have h := pd_ok (q % 256) (by omega)
    rw [e, ps1_sp _ _ _ (by omega), ps2_sp _ _ _ h.1]
    have h2 : pd2 (q % 256) % 16 ≤ 4 := h.2.1
    unfold pd2 at h2
    omega
theorem psF_sp (n b q : Nat) (hb : b < 256) : psF (n + 1) (b + 256 * q) = p8 b + 256 * psF n q := by
  have h := pd_ok b hb
  unfold psF
  rw [ps1_sp n b q hb, ps2_sp n (pd1 b) _ h.1]
  have e : (pd1 b &&& 51) + (pd1 b / 4 &&& 51) = pd2 b := rfl
  rw [e, ps3_sp n (pd2 b) _ h.2.2.1 (ps_lo n q), h.2.2.2.1]
theorem psF_at (n x : Nat) : psF (n + 1) x = p8 (x % 256) + 256 * psF n (x / 256) := by
  have h := psF_sp n (x % 256) (x / 256) (by omega)
  rw [show x % 256 + 256 * (x / 256) = x by omega] at h
  exact h
theorem psF_0 (x : Nat) : psF 0 x = 0 := by simp [psF, ps3, mk8]
theorem sumI_app (f : Nat → Int) (m : Nat) : ∀ n, sumI f (m + n) = sumI f m + sumI (fun i => f (m + i)) n
  | 0 => by simp [sumI]
  | n + 1 => by
    show sumI f (m + n + 1) = _
    rw [sumI, sumI_app f m n, sumI, Int.add_assoc]
def pcB (x n : Nat) : Int := sumI (fun i => bN (x.testBit i)) n
theorem pc8 : ∀ b, b < 256 → pcB b 8 = (p8 b : Int) := by decide +kernel
theorem pcB_sp (n x : Nat) : pcB x (8 + n) = (p8 (x % 256) : Int) + pcB (x / 256) n := by
  unfold pcB
  rw [sumI_app]
  congr 1
  · rw [← pc8 (x % 256) (by omega)]
    unfold pcB
    refine sumI_cong (fun k hk => ?_)
    have h := tb8 (x / 256) k (show x % 256 < 256 by omega)
    rw [show x % 256 + 256 * (x / 256) = x by omega, if_pos hk] at h
    rw [h]
  · refine sumI_cong (fun k hk => ?_)
    have h := tb8 (x / 256) (8 + k) (show x % 256 < 256 by omega)
    rw [show x % 256 + 256 * (x / 256) = x by omega, if_neg (by omega), Nat.add_sub_cancel_left] at h
    rw [h]
theorem pcB_0 (x : Nat) : pcB x 0 = 0 := rfl
theorem pe1 {y a0 a1 a2 r1 r2 r3 : Nat} (h0 : a0 ≤ 8) (h1 : a1 ≤ 8) (h2 : a2 ≤ 8) (e0 : y = a0 + 256 * r1) (e1 : r1 = a1 + 256 * r2) (e2 : r2 = a2 + 256 * r3) : y / 256 = r1 ∧ (y + y / 256) / 65536 = r2 + r3 ∧ y + y / 256 = (a0 + a1) + 256 * (a1 + a2) + 65536 * (r2 + r3) := by
  have q : y / 256 = r1 := by omega
  rw [q]
  refine ⟨rfl, ?_, ?_⟩ <;> omega
theorem pe2 {w b0 b1 b2 b3 v : Nat} (h0 : b0 ≤ 32) (h1 : b1 ≤ 32) (h2 : b2 ≤ 32) (h3 : b3 ≤ 32) (e : w = b0 + 256 * b1 + 65536 * b2 + 16777216 * b3 + 4294967296 * v) : w / 4294967296 = v := by omega
theorem pe3 {z t2 t3 t4 t5 t6 a0 a1 a2 a3 a4 a5 a6 : Nat} (q3 : z = (a0 + a1) + 256 * (a1 + a2) + 65536 * t2) (s2 : t2 = (a2 + a3) + 256 * t3) (s3 : t3 = (a3 + a4) + 256 * t4) (s4 : t4 = (a4 + a5) + 256 * t5) (s5 : t5 = (a5 + a6) + 256 * t6) :
    z + t2 = (a0 + a1 + a2 + a3) + 256 * (a1 + a2 + a3 + a4) + 65536 * (a2 + a3 + a4 + a5) + 16777216 * (a3 + a4 + a5 + a6) + 4294967296 * (t4 + t6) := by
  have e2 : t2 = (a2 + a3) + 256 * (a3 + a4) + 65536 * (a4 + a5) + 16777216 * (a5 + a6) + 4294967296 * t6 := by omega
  have e3 : 65536 * t2 = 65536 * (a2 + a3) + 16777216 * (a3 + a4) + 4294967296 * t4 := by omega
  rw [q3, e3, e2]
  omega
theorem pe4 {t4 t5 t6 w a4 a5 a6 a7 c0 c1 c2 c3 s : Nat} (s4 : t4 = (a4 + a5) + 256 * t5) (s6 : t6 = (a6 + a7) + 256 * a7) (hw : w = c0 + 256 * c1 + 65536 * c2 + 16777216 * c3 + 4294967296 * (t4 + t6)) (hs : s = c0 + (a4 + a5 + a6 + a7)) (h : s ≤ 64) : (w + (t4 + t6)) % 128 = s := by
  have e : t4 + t6 = (a4 + a5 + a6 + a7) + 256 * (t5 + a7) := by omega
  have e2 : w + (t4 + t6) = s + 128 * (2 * c1 + 512 * c2 + 131072 * c3 + 33554432 * (t4 + t6) + 2 * (t5 + a7)) := by
    rw [hw, hs]
    clear hw hs
    generalize t4 + t6 = x at e ⊢
    omega
  rw [e2]
  omega
/-- the last steps: eight numbers added up -/
theorem ps_end {y : Nat} (a0 a1 a2 a3 a4 a5 a6 a7 : Nat) (h0 : a0 ≤ 8) (h1 : a1 ≤ 8) (h2 : a2 ≤ 8) (h3 : a3 ≤ 8) (h4 : a4 ≤ 8) (h5 : a5 ≤ 8) (h6 : a6 ≤ 8) (h7 : a7 ≤ 8)
    (hy : y = a0 + 256 * (a1 + 256 * (a2 + 256 * (a3 + 256 * (a4 + 256 * (a5 + 256 * (a6 + 256 * a7))))))) : ∃ z w : Nat, z = y + y / 256 ∧ w = z + z / 65536 ∧ w + w / 4294967296 < 18446744073709551616 ∧ z < 18446744073709551616 ∧ w < 18446744073709551616 ∧ y < 18446744073709551616 ∧ (w + w / 4294967296) % 128 = a0 + a1 + a2 + a3 + a4 + a5 + a6 + a7 := by
  generalize hr6 : a6 + 256 * a7 = r6 at hy
  generalize hr5 : a5 + 256 * r6 = r5 at hy
  generalize hr4 : a4 + 256 * r5 = r4 at hy
  generalize hr3 : a3 + 256 * r4 = r3 at hy
  generalize hr2 : a2 + 256 * r3 = r2 at hy
  generalize hr1 : a1 + 256 * r2 = r1 at hy
  have k0 : a0 + a1 + a2 + a3 ≤ 32 := by clear hy hr1 hr2 hr3 hr4 hr5 hr6; omega
  have k1 : a1 + a2 + a3 + a4 ≤ 32 := by clear hy hr1 hr2 hr3 hr4 hr5 hr6; omega
  have k2 : a2 + a3 + a4 + a5 ≤ 32 := by clear hy hr1 hr2 hr3 hr4 hr5 hr6; omega
  have k3 : a3 + a4 + a5 + a6 ≤ 32 := by clear hy hr1 hr2 hr3 hr4 hr5 hr6; omega
  have k4 : a0 + a1 + a2 + a3 + a4 + a5 + a6 + a7 ≤ 64 := by clear hy hr1 hr2 hr3 hr4 hr5 hr6; omega
  have k5 : a0 + a1 + a2 + a3 + a4 + a5 + a6 + a7 = a0 + a1 + a2 + a3 + (a4 + a5 + a6 + a7) := by clear hy hr1 hr2 hr3 hr4 hr5 hr6; omega
  obtain ⟨q1, q2, q3⟩ := pe1 h0 h1 h2 hy hr1.symm hr2.symm
  have b6 : r6 ≤ 2056 := by clear q1 q2 q3 hy hr5 hr4 hr3 hr2 hr1; omega
  have b5 : r5 ≤ 526344 := by clear q1 q2 q3 hy hr6 hr4 hr3 hr2 hr1; omega
  have b4 : r4 ≤ 134744072 := by clear q1 q2 q3 hy hr5 hr6 hr3 hr2 hr1; omega
  have b3 : r3 ≤ 34494482440 := by clear q1 q2 q3 hy hr5 hr4 hr6 hr2 hr1; omega
  have b2 : r2 ≤ 8830587504648 := by clear q1 q2 q3 hy hr5 hr4 hr3 hr6 hr1; omega
  have b1 : r1 ≤ 2260630401189896 := by clear q1 q2 q3 hy hr5 hr4 hr3 hr2 hr6; omega
  have b0 : y ≤ 578721382704613384 := by clear q1 q2 q3 hr6 hr5 hr4 hr3 hr2 hr1; omega
  have s2 : r2 + r3 = (a2 + a3) + 256 * (r3 + r4) := by clear q1 q2 q3 hy hr1; omega
  have s3 : r3 + r4 = (a3 + a4) + 256 * (r4 + r5) := by clear q1 q2 q3 hy hr1 s2; omega
  have s4 : r4 + r5 = (a4 + a5) + 256 * (r5 + r6) := by clear q1 q2 q3 hy hr1 s2 s3; omega
  have s5 : r5 + r6 = (a5 + a6) + 256 * (r6 + a7) := by clear q1 q2 q3 hy hr1 s2 s3 s4; omega
  have s6 : r6 + a7 = (a6 + a7) + 256 * a7 := by clear q1 q2 q3 hy hr1 s2 s3 s4 s5; omega
  have c4 : (r4 + r5) + (r6 + a7) ≤ 140000000 := by clear q1 q2 q3 hy hr1 s2 s3 s4 s5; omega
  have cz : y + y / 256 ≤ 580982013105803280 := by rw [q1]; clear q1 q2 q3 hy hr1 hr2 hr3 hr4 hr5 hr6 s2 s3 s4 s5 s6 c4; omega
  have cz2 : (y + y / 256) / 65536 ≤ 8900000000000 := by rw [q2]; clear q1 q2 q3 hy hr1 s2 s3 s4 s5; omega
  clear hr6 hr5 hr4 hr3 hr2 hr1 hy q1
  generalize y + y / 256 = z at q2 q3 cz cz2 ⊢
  have hw := pe3 q3 s2 s3 s4 s5
  rw [← q2] at hw
  have hd := pe2 k0 k1 k2 k3 hw
  refine ⟨z, z + z / 65536, rfl, rfl, ?_, Nat.lt_of_le_of_lt cz (Nat.le_of_ble_eq_true rfl), ?_, Nat.lt_of_le_of_lt b0 (Nat.le_of_ble_eq_true rfl), ?_⟩
  · rw [hd]
    clear hw hd q2 q3 s2 s3 s4 s5 s6
    omega
  · clear hw hd q2 q3 s2 s3 s4 s5 s6
    omega
  · rw [hd]
    exact pe4 s4 s6 hw k5 k4
/-- how many bits a long has -/
def pcL (w : Int64) : Int := sumI (fun i => bN (w.toBitVec.getLsbD i)) 64
theorem pcL_lN {n : Nat} (hn : n < 2 ^ 64) : pcL (lN n) = pcB n 64 := by
  unfold pcL pcB
  refine sumI_cong (fun k hk => ?_)
  rw [← BitVec.testBit_toNat, wb_tn hn]
theorem lN_plus (a b : Nat) : lN a + lN b = lN (a + b) := lN_add a b
theorem mk8_85 : mk8 85 8 = 6148914691236517205 := by decide
theorem mk8_51 : mk8 51 8 = 3689348814741910323 := by decide
theorem mk8_15 : mk8 15 8 = 1085102592571150095 := by decide
theorem pc_all {n : Nat} (hn : n < 2 ^ 64) : ∃ z w : Nat, z = psF 8 n + psF 8 n / 256 ∧ w = z + z / 65536 ∧ w + w / 4294967296 < 18446744073709551616 ∧ z < 18446744073709551616 ∧ w < 18446744073709551616 ∧ psF 8 n < 18446744073709551616 ∧ (((w + w / 4294967296) % 128 : Nat) : Int) = pcB n 64 := by
  have hp : ∀ k, p8 (k % 256) ≤ 8 := fun k => (pd_ok (k % 256) (by omega)).2.2.2.2
  have e : psF 8 n = p8 (n % 256) + 256 * (p8 (n / 256 % 256) + 256 * (p8 (n / 256 / 256 % 256) + 256 * (p8 (n / 256 / 256 / 256 % 256) + 256 * (p8 (n / 256 / 256 / 256 / 256 % 256) + 256 * (p8 (n / 256 / 256 / 256 / 256 / 256 % 256) + 256 * (p8 (n / 256 / 256 / 256 / 256 / 256 / 256 % 256) + 256 * p8 (n / 256 / 256 / 256 / 256 / 256 / 256 / 256 % 256))))))) := by
    rw [psF_at, psF_at, psF_at, psF_at, psF_at, psF_at, psF_at, psF_at, psF_0, Nat.mul_zero, Nat.add_zero]
  obtain ⟨z, w, h1, h2, h3, h4, h5, h5b, h6⟩ := ps_end _ _ _ _ _ _ _ _ (hp _) (hp _) (hp _) (hp _) (hp _) (hp _) (hp _) (hp _) e
  refine ⟨z, w, h1, h2, h3, h4, h5, h5b, ?_⟩
  rw [h6]
  have e2 : pcB n 64 = _ := pcB_sp 56 n
  rw [e2, show (56 : Nat) = 8 + 48 from rfl, pcB_sp, show (48 : Nat) = 8 + 40 from rfl, pcB_sp, show (40 : Nat) = 8 + 32 from rfl, pcB_sp, show (32 : Nat) = 8 + 24 from rfl, pcB_sp, show (24 : Nat) = 8 + 16 from rfl, pcB_sp, show (16 : Nat) = 8 + 8 from rfl, pcB_sp, show pcB (n / 256 / 256 / 256 / 256 / 256 / 256 / 256) 8 = pcB (n / 256 / 256 / 256 / 256 / 256 / 256 / 256) (8 + 0) from rfl, pcB_sp, pcB_0]
  omega
theorem shrL {n k : Nat} {v : Int64} (hn : n < 2 ^ 64) (hk : k < 64) (hv : v = lN (n / 2 ^ k)) : ((lN n).toUInt64 >>> ((iN (k : Int)).toInt64.toUInt64 &&& Int64.toUInt64 63)).toInt64 = v := by
  rw [← iN_ofNat, hv]
  exact wb_shr hn hk
theorem lN_sub2 {a b : Nat} (h : b ≤ a) : lN a - lN b = lN (a - b) := lN_sub h
theorem and127 {n : Nat} (hn : n < 2 ^ 64) : andI ((lN n).toInt32).toInt 127 = ((n % 128 : Nat) : Int) := by
  unfold andI
  rw [iN_asI]
  have e : iN 127 = (127 : Int64).toInt32 := by decide
  rw [e, ← Int64.toInt32_and]
  have e2 : lN n &&& (127 : Int64) = lN (n % 128) := wb_mask (k := 7) hn (by decide)
  rw [e2, lN_i]
  exact nI_toInt (by omega)
theorem div_lt64 {n k : Nat} (hn : n < 2 ^ 64) : n / k < 2 ^ 64 := Nat.lt_of_le_of_lt (Nat.div_le_self _ _) hn

set_option maxHeartbeats 4000000 in
set_option maxRecDepth 100000 in
theorem c_bitCount (l : Launch) (hfl : l.stackTraces = false) {S : wS} {x9 : Int64} : Ct l yJ13_bitCount_95d88 cJ13_bitCount_95d88 2 (some FieldType.int) 1 0 0 [.long x9] S (fun r S' => r = .inl (some (.int (iN (pcL x9)))) ∧ S' = S) := by
  obtain ⟨n9, hn, rfl⟩ := wb_of x9
  rw [pcL_lN hn]
  refine Ct.of cal_J13_bitCount_95d88 hfl (Nat.le_of_ble_eq_true rfl) ?_
  intro p e s m args below meth c D sz C ME
  obtain ⟨z9, w9, h1, h2, h3, h4, h5, h6, h7⟩ := pc_all hn
  have k1 : n9 / 2 &&& mk8 85 8 ≤ n9 := Nat.le_trans Nat.and_le_left (Nat.div_le_self _ _)
  have m1 : ps1 8 n9 < 2 ^ 64 := Nat.lt_of_le_of_lt (Nat.sub_le _ _) hn
  have m85 : mk8 85 8 < 2 ^ 64 := by decide
  have m51 : mk8 51 8 < 2 ^ 64 := by decide
  have m15 : mk8 15 8 < 2 ^ 64 := by decide
  have m2 : ps2 8 (ps1 8 n9) < 2 ^ 64 := by
    have a1 : ps1 8 n9 &&& mk8 51 8 ≤ mk8 51 8 := Nat.and_le_right
    have a2 : ps1 8 n9 / 4 &&& mk8 51 8 ≤ mk8 51 8 := Nat.and_le_right
    have a3 : mk8 51 8 = 3689348814741910323 := mk8_51
    unfold ps2
    omega
  have m3 : ps2 8 (ps1 8 n9) + ps2 8 (ps1 8 n9) / 16 < 2 ^ 64 := by
    have a1 : ps1 8 n9 &&& mk8 51 8 ≤ mk8 51 8 := Nat.and_le_right
    have a2 : ps1 8 n9 / 4 &&& mk8 51 8 ≤ mk8 51 8 := Nat.and_le_right
    have a3 : mk8 51 8 = 3689348814741910323 := mk8_51
    unfold ps2
    omega
  refine j_lload_n C dJ13_bitCount_95d88_0 rfl ?_
  refine j_lload_n C dJ13_bitCount_95d88_1 rfl ?_
  refine j_iconst C dJ13_bitCount_95d88_2 ?_
  refine j_lushr (v := lN (n9 / 2)) C (shrL (k := 1) hn (by decide) rfl) dJ13_bitCount_95d88_3 ?_
  refine j_ldc2 (v := lN (mk8 85 8)) C (by rw [mk8_85]; exact kc_Lg_314) dJ13_bitCount_95d88_4 ?_
  refine j_land C dJ13_bitCount_95d88_7 ?_
  rw [wb_and (div_lt64 hn) m85]
  refine j_lsub C dJ13_bitCount_95d88_8 ?_
  rw [lN_sub2 k1]
  refine j_lstore_n C dJ13_bitCount_95d88_9 (by decide) ?_
  refine j_lload_n (x := lN (ps1 8 n9)) C dJ13_bitCount_95d88_10 rfl ?_
  refine j_ldc2 (v := lN (mk8 51 8)) C (by rw [mk8_51]; exact kc_Lg_316) dJ13_bitCount_95d88_11 ?_
  refine j_land C dJ13_bitCount_95d88_14 ?_
  rw [wb_and m1 m51]
  refine j_lload_n (x := lN (ps1 8 n9)) C dJ13_bitCount_95d88_15 rfl ?_
  refine j_iconst C dJ13_bitCount_95d88_16 ?_
  refine j_lushr (v := lN (ps1 8 n9 / 4)) C (shrL (k := 2) m1 (by decide) rfl) dJ13_bitCount_95d88_17 ?_
  refine j_ldc2 (v := lN (mk8 51 8)) C (by rw [mk8_51]; exact kc_Lg_316) dJ13_bitCount_95d88_18 ?_
  refine j_land C dJ13_bitCount_95d88_21 ?_
  rw [wb_and (div_lt64 m1) m51]
  refine j_ladd C dJ13_bitCount_95d88_22 ?_
  rw [lN_plus]
  refine j_lstore_n C dJ13_bitCount_95d88_23 (by decide) ?_
  refine j_lload_n (x := lN (ps2 8 (ps1 8 n9))) C dJ13_bitCount_95d88_24 rfl ?_
  refine j_lload_n (x := lN (ps2 8 (ps1 8 n9))) C dJ13_bitCount_95d88_25 rfl ?_
  refine j_iconst C dJ13_bitCount_95d88_26 ?_
  refine j_lushr (v := lN (ps2 8 (ps1 8 n9) / 16)) C (shrL (k := 4) m2 (by decide) rfl) dJ13_bitCount_95d88_27 ?_
  refine j_ladd C dJ13_bitCount_95d88_28 ?_
  rw [lN_plus]
  refine j_ldc2 (v := lN (mk8 15 8)) C (by rw [mk8_15]; exact kc_Lg_318) dJ13_bitCount_95d88_29 ?_
  refine j_land C dJ13_bitCount_95d88_32 ?_
  rw [wb_and m3 m15]
  refine j_lstore_n C dJ13_bitCount_95d88_33 (by decide) ?_
  refine j_lload_n (x := lN (psF 8 n9)) C dJ13_bitCount_95d88_34 rfl ?_
  refine j_lload_n (x := lN (psF 8 n9)) C dJ13_bitCount_95d88_35 rfl ?_
  refine j_bipush C dJ13_bitCount_95d88_36 (by decide) ?_
  refine j_lushr (v := lN (psF 8 n9 / 256)) C (shrL (k := 8) h6 (by decide) rfl) dJ13_bitCount_95d88_38 ?_
  refine j_ladd C dJ13_bitCount_95d88_39 ?_
  rw [lN_plus, ← h1]
  refine j_lstore_n C dJ13_bitCount_95d88_40 (by decide) ?_
  refine j_lload_n (x := lN z9) C dJ13_bitCount_95d88_41 rfl ?_
  refine j_lload_n (x := lN z9) C dJ13_bitCount_95d88_42 rfl ?_
  refine j_bipush C dJ13_bitCount_95d88_43 (by decide) ?_
  refine j_lushr (v := lN (z9 / 65536)) C (shrL (k := 16) h4 (by decide) rfl) dJ13_bitCount_95d88_45 ?_
  refine j_ladd C dJ13_bitCount_95d88_46 ?_
  rw [lN_plus, ← h2]
  refine j_lstore_n C dJ13_bitCount_95d88_47 (by decide) ?_
  refine j_lload_n (x := lN w9) C dJ13_bitCount_95d88_48 rfl ?_
  refine j_lload_n (x := lN w9) C dJ13_bitCount_95d88_49 rfl ?_
  refine j_bipush C dJ13_bitCount_95d88_50 (by decide) ?_
  refine j_lushr (v := lN (w9 / 4294967296)) C (shrL (k := 32) h5 (by decide) rfl) dJ13_bitCount_95d88_52 ?_
  refine j_ladd C dJ13_bitCount_95d88_53 ?_
  rw [lN_plus]
  refine j_lstore_n C dJ13_bitCount_95d88_54 (by decide) ?_
  refine j_lload_n (x := lN (w9 + w9 / 4294967296)) C dJ13_bitCount_95d88_55 rfl ?_
  refine j_l2i (v := iN ((lN (w9 + w9 / 4294967296)).toInt32).toInt) C (iN_asI _).symm dJ13_bitCount_95d88_56 ?_
  refine j_bipush C dJ13_bitCount_95d88_57 (by decide) ?_
  refine j_iand C dJ13_bitCount_95d88_59 ?_
  refine j_iret C ME ?_ (by omega) (by omega) dJ13_bitCount_95d88_60
  exact ⟨rI (by rw [and127 h3, h7]), rfl⟩

/-! spans of bits -/
theorem spLo : ∀ a, a < 64 → ∀ i, i < 64 → ((-1 : Int64) <<< ((nI a).toInt64 &&& 63)).toBitVec.getLsbD i = decide (a ≤ i) := by decide +kernel
theorem spHi : ∀ b, b < 64 → ∀ i, i < 64 → (((-1 : Int64).toUInt64 >>> ((nI b).toInt64.toUInt64 &&& Int64.toUInt64 63)).toInt64).toBitVec.getLsbD i = decide (i < 64 - b) := by decide +kernel
theorem m1_bit : ∀ i, i < 64 → (-1 : Int64).toBitVec.getLsbD i = true := by decide +kernel
/-- the bits of a span -/
def spX (a b : Int) (m : Int64) : Prop := ∀ i : Nat, i < 64 → m.toBitVec.getLsbD i = decide (a ≤ (i : Int) ∧ (i : Int) < b)
theorem sp0 {a b : Int} (h : max a 0 ≥ min b 64) : spX a b (iL 0) := by
  intro i hi
  have e : ∀ i, i < 64 → (iL 0).toBitVec.getLsbD i = false := by decide +kernel
  rw [e i hi]
  symm
  exact decide_eq_false (by omega)
theorem sp1 {a b lo hi : Int} (h1 : lo = max a 0) (h2 : hi = min b 64) (h : lo < hi) : spX a b (((-1 : Int64) <<< ((iN lo).toInt64 &&& 63)) &&& ((-1 : Int64).toUInt64 >>> ((iN (64 - hi)).toInt64.toUInt64 &&& Int64.toUInt64 63)).toInt64) := by
  intro i hi9
  have e1 : iN lo = nI lo.toNat := by
    have := iN_ofNat lo.toNat
    rw [show ((lo.toNat : Nat) : Int) = lo by omega] at this
    exact this.symm
  have e2 : iN (64 - hi) = nI (64 - hi).toNat := by
    have := iN_ofNat (64 - hi).toNat
    rw [show (((64 - hi).toNat : Nat) : Int) = 64 - hi by omega] at this
    exact this.symm
  rw [Int64.toBitVec_and, BitVec.getLsbD_and, e1, e2, spLo _ (by omega) i hi9, spHi _ (by omega) i hi9, ← Bool.decide_and]
  exact decide_eq_decide.mpr (by omega)

set_option maxHeartbeats 4000000 in
set_option maxRecDepth 100000 in
theorem c_span (l : Launch) (hfl : l.stackTraces = false) {S : wS} {a9 b9 : Int} (ha : rg a9) (hb : rg b9) : Ct l yX4_bitsBetween cX4_bitsBetween 4 (some FieldType.long) 1 0 0 [.int (iN a9), .int (iN b9)] S (fun r S' => (∃ m, r = .inl (some (.long m)) ∧ spX a9 b9 m) ∧ S' = S) := by
  refine Ct.of cal_X4_bitsBetween hfl (Nat.le_of_ble_eq_true rfl) ?_
  intro p e s m args below meth c D sz C ME
  refine j_iload_n C dX4_bitsBetween_0 rfl ?_
  refine j_iconst C dX4_bitsBetween_1 ?_
  refine j_mmax C ml_Ve_40 (by unfold rg at *; omega) (by unfold rg at *; omega) ⟨by decide, (Nat.le_of_ble_eq_true rfl), (by first | omega | (dsimp only; omega)), (by first | omega | (dsimp only; omega))⟩ dX4_bitsBetween_2 ?_
  refine j_istore_n C dX4_bitsBetween_5 (by decide) ?_
  refine j_iload_n C dX4_bitsBetween_6 rfl ?_
  refine j_bipush C dX4_bitsBetween_7 (by decide) ?_
  refine j_mmin C ml_Ve_46 (by unfold rg at *; omega) (by unfold rg at *; omega) ⟨by decide, (Nat.le_of_ble_eq_true rfl), (by first | omega | (dsimp only; omega)), (by first | omega | (dsimp only; omega))⟩ dX4_bitsBetween_9 ?_
  refine j_istore_n C dX4_bitsBetween_12 (by decide) ?_
  refine j_iload_n C dX4_bitsBetween_13 rfl ?_
  refine j_iload_n C dX4_bitsBetween_14 rfl ?_
  refine j_icmp_lt (tgt := 22) C dX4_bitsBetween_15 (by decide) (by unfold rg at *; omega) (by unfold rg at *; omega) (fun c15 => ?_) (fun c15 => ?_)
  · refine j_ldc2 C kc_Ve_32 dX4_bitsBetween_22 ?_
    refine j_iload_n C dX4_bitsBetween_25 rfl ?_
    refine j_lshl C rfl dX4_bitsBetween_26 ?_
    refine j_ldc2 C kc_Ve_32 dX4_bitsBetween_27 ?_
    refine j_bipush C dX4_bitsBetween_30 (by decide) ?_
    refine j_iload_n C dX4_bitsBetween_32 rfl ?_
    refine j_isub C dX4_bitsBetween_33 ?_
    refine j_lushr C rfl dX4_bitsBetween_34 ?_
    refine j_land C dX4_bitsBetween_35 ?_
    refine j_lret C ME ?_ (by omega) (by omega) dX4_bitsBetween_36
    first
    | exact ⟨⟨_, rfl, sp0 (by omega)⟩, rfl⟩
    | exact ⟨⟨_, rfl, sp1 rfl rfl (by omega)⟩, rfl⟩
  · refine j_lconst (v := 0) C dX4_bitsBetween_18 (by decide) ?_
    refine j_goto (tgt := 36) C dX4_bitsBetween_19 (by decide) ?_
    refine j_lret C ME ?_ (by omega) (by omega) dX4_bitsBetween_36
    first
    | exact ⟨⟨_, rfl, sp0 (by omega)⟩, rfl⟩
    | exact ⟨⟨_, rfl, sp1 rfl rfl (by omega)⟩, rfl⟩

