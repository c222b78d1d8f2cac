/-! THE REFERENCE: what holds of its numbers between calls; sums and searches. -/
def I1 (M : wM) : Prop := (0 ≤ M 1 0 ∧ M 1 0 ≤ 6) ∧ (0 ≤ M 12 0 ∧ M 12 0 ≤ 60) ∧ (0 ≤ M 17 0 ∧ M 17 0 ≤ 24) ∧ (2 ≤ M 18 0 ∧ M 18 0 ≤ 50) ∧ (0 ≤ M 21 0 ∧ M 21 0 ≤ 10) ∧ (0 ≤ M 28 0 ∧ M 28 0 ≤ 20) ∧ (0 ≤ M 29 0 ∧ M 29 0 ≤ 50688)
def I2 (M : wM) : Prop := ∀ s, 0 ≤ s → s < M 12 0 → 0 ≤ M 4 s ∧ M 4 s < M 1 0 ∧ 1 ≤ M 5 s ∧ M 5 s ≤ 999 ∧ 0 ≤ M 6 s ∧ M 6 s ≤ 9 ∧ -1 ≤ M 7 s ∧ M 7 s < M 17 0 ∧ 0 ≤ M 8 s ∧ M 8 s ≤ 4 ∧ 0 ≤ M 9 s ∧ M 9 s ≤ 999 ∧ -1 ≤ M 10 s ∧ M 10 s ≤ 99 ∧ -1 ≤ M 11 s ∧ M 11 s < M 12 0
def I3 (M : wM) : Prop := ∀ f, 0 ≤ f → f < 6 → 0 ≤ M 3 f ∧ M 3 f ≤ M 12 0 ∧ (M 1 0 ≤ f → M 3 f = 0) ∧ ∀ k, 0 ≤ k → k < M 3 f → 0 ≤ M 2 (60 * f + k) ∧ M 2 (60 * f + k) < M 12 0 ∧ M 4 (M 2 (60 * f + k)) = f ∧ ∀ k', 0 ≤ k' → k' < M 3 f → M 2 (60 * f + k) = M 2 (60 * f + k') → k = k'
def I3e (M : wM) : Prop := ∀ s, 0 ≤ s → s < M 12 0 → ∃ k, 0 ≤ k ∧ k < M 3 (M 4 s) ∧ M 2 (60 * M 4 s + k) = s
def I4 (M : wM) : Prop := ∀ r, 0 ≤ r → r < 24 → 0 ≤ M 16 r ∧ M 16 r ≤ M 12 0 ∧ (M 17 0 ≤ r → M 16 r = 0) ∧ (r < M 17 0 → 0 ≤ M 13 r ∧ M 13 r < M 1 0) ∧ ∀ k, 0 ≤ k → k < M 16 r → 0 ≤ M 14 (60 * r + k) ∧ M 14 (60 * r + k) < M 12 0 ∧ M 7 (M 14 (60 * r + k)) = r ∧ M 4 (M 14 (60 * r + k)) = M 13 r ∧ (k + 1 < M 16 r → 0 ≤ M 15 (60 * r + k) ∧ M 15 (60 * r + k) ≤ M 18 0) ∧ ∀ k', 0 ≤ k' → k' < M 16 r → M 14 (60 * r + k) = M 14 (60 * r + k') → k = k'
def I4e (M : wM) : Prop := ∀ s, 0 ≤ s → s < M 12 0 → 0 ≤ M 7 s → ∃ k, 0 ≤ k ∧ k < M 16 (M 7 s) ∧ M 14 (60 * M 7 s + k) = s
def I5 (M : wM) : Prop := ∀ s, 0 ≤ s → s < M 12 0 → 0 ≤ M 11 s → M 10 s = -1 ∧ 0 ≤ M 10 (M 11 s) ∧ M 4 (M 11 s) = M 4 s ∧ M 6 (M 11 s) = M 6 s
def I6 (M : wM) : Prop := ∀ v, 0 ≤ v → v < 10 → 0 ≤ M 19 v ∧ M 19 v ≤ 5 ∧ (v < M 21 0 → M 19 v < M 1 0) ∧ 0 ≤ M 20 v ∧ M 20 v ≤ 7
def I8 (M : wM) : Prop := ∀ q, 0 ≤ q → q < 20 → 0 ≤ M 23 q ∧ M 23 q < 10 ∧ (q < M 28 0 → M 23 q < M 21 0) ∧ 0 ≤ M 24 q ∧ M 24 q ≤ 9 ∧ 0 ≤ M 25 q ∧ M 25 q ≤ 3 ∧ 0 ≤ M 26 q ∧ M 26 q ≤ 50787 ∧ 0 ≤ M 27 q ∧ M 27 q ≤ 1 ∧ (M 28 0 ≤ q → M 27 q = 0)
def anyI (P : Nat → Bool) : Nat → Bool
  | 0 => false
  | n + 1 => anyI P n || P n
def sumI (f : Nat → Int) : Nat → Int
  | 0 => 0
  | n + 1 => sumI f n + f n
def maxI (f : Nat → Int) : Nat → Int
  | 0 => 0
  | n + 1 => if maxI f n < f n then f n else maxI f n
theorem anyI_iff (P : Nat → Bool) : ∀ n, anyI P n = true ↔ ∃ k, k < n ∧ P k = true
  | 0 => by simp [anyI]
  | n + 1 => by
    rw [anyI, Bool.or_eq_true, anyI_iff P n]
    constructor
    · rintro (⟨k, h1, h2⟩ | h)
      · exact ⟨k, by omega, h2⟩
      · exact ⟨n, by omega, h⟩
    · rintro ⟨k, h1, h2⟩
      rcases Nat.lt_or_ge k n with q | q
      · exact Or.inl ⟨k, q, h2⟩
      · exact Or.inr (by rw [show n = k by omega]; exact h2)
theorem sumI_bound {f : Nat → Int} {c : Int} : ∀ {n : Nat}, (∀ k, k < n → 0 ≤ f k ∧ f k ≤ c) → 0 ≤ sumI f n ∧ sumI f n ≤ n * c
  | 0, _ => by simp [sumI]
  | n + 1, h => by
    have h1 := sumI_bound (n := n) (fun k hk => h k (by omega))
    have h2 := h n (by omega)
    have e : ((n + 1 : Nat) : Int) * c = n * c + c := by rw [Int.natCast_add, Int.add_mul]; simp
    rw [sumI, e]
    omega
theorem maxI_bound {f : Nat → Int} {c : Int} (hc : 0 ≤ c) : ∀ {n : Nat}, (∀ k, k < n → f k ≤ c) → 0 ≤ maxI f n ∧ maxI f n ≤ c
  | 0, _ => by simp [maxI, hc]
  | n + 1, h => by
    have h1 := maxI_bound hc (n := n) (fun k hk => h k (by omega))
    have h2 := h n (by omega)
    rw [maxI]
    split <;> omega
theorem sumI_cong {f g : Nat → Int} : ∀ {n : Nat}, (∀ k, k < n → f k = g k) → sumI f n = sumI g n
  | 0, _ => rfl
  | n + 1, h => by rw [sumI, sumI, sumI_cong (fun k hk => h k (by omega)), h n (by omega)]
theorem anyI_cong {P P' : Nat → Bool} : ∀ {n : Nat}, (∀ k, k < n → P k = P' k) → anyI P n = anyI P' n
  | 0, _ => rfl
  | n + 1, h => by rw [anyI, anyI, anyI_cong (fun k hk => h k (by omega)), h n (by omega)]
theorem maxI_cong {f g : Nat → Int} : ∀ {n : Nat}, (∀ k, k < n → f k = g k) → maxI f n = maxI g n
  | 0, _ => rfl
  | n + 1, h => by rw [maxI, maxI, maxI_cong (fun k hk => h k (by omega)), h n (by omega)]
/-- the first i from k on, n at most, with P -/
def fstI (P : Nat → Bool) : Nat → Nat → Nat
  | k, 0 => k
  | k, n + 1 => if P k then k else fstI P (k + 1) n
theorem fstI_at (P : Nat → Bool) {i : Nat} (hi : P i = true) : ∀ (n k : Nat), k ≤ i → i < k + n → (∀ j, k ≤ j → j < i → P j = false) → fstI P k n = i
  | 0, k, h1, h2, _ => by omega
  | n + 1, k, h1, h2, h3 => by
    rw [fstI]
    by_cases e : k = i
    · rw [e, if_pos hi]
    · rw [if_neg (by rw [h3 k (Nat.le_refl _) (by omega)]; decide)]
      exact fstI_at P hi n (k + 1) (by omega) (by omega) (fun j g1 g2 => h3 j (by omega) g2)
/-- a film is lent -/
def lentP (M : wM) (f : Int) (k : Nat) : Bool := decide (M 27 k = 0) && decide (M 19 (M 23 k) = f)
def lentM (M : wM) (f : Int) : Bool := anyI (lentP M f) (M 28 0).toNat
def loanM (M : wM) : Bool := anyI (fun k => decide (M 27 k = 0)) (M 28 0).toNat
/-- the place of a shot in its film's row -/
def plM (M : wM) (s : Int) : Int := (fstI (fun k => decide (M 2 (60 * M 4 s + k) = s)) 0 60 : Nat)
def lastM (M : wM) (r : Int) : Int := M 14 (60 * r + M 16 r - 1)
def keptM (M : wM) (s : Int) : Int := if M 7 s = -1 then 0 else M 5 s
def aheadM (M : wM) (f : Int) (n : Nat) : Int := sumI (fun k => keptM M (M 2 (60 * f + k))) n
def greatM (M : wM) (r : Int) : Int := maxI (fun k => M 15 (60 * r + k)) (M 16 r - 1).toNat
def onM (M : wM) (r : Int) : Int := sumI (fun k => M 5 (M 14 (60 * r + k))) (M 16 r).toNat
theorem bT {b : Bool} (h : b = true) : (1 : Int) = bN b := by rw [h]; rfl
theorem bF {b : Bool} (h : b = false) : (0 : Int) = bN b := by rw [h]; rfl
theorem plM_spec {M : wM} (h1 : I1 M) (h3 : I3 M) (h2 : I2 M) (h3e : I3e M) {s : Int} (a : 0 ≤ s) (b : s < M 12 0) : 0 ≤ plM M s ∧ plM M s < M 3 (M 4 s) ∧ M 2 (60 * M 4 s + plM M s) = s ∧ ∀ k : Nat, (k : Int) < plM M s → M 2 (60 * M 4 s + k) ≠ s := by
  obtain ⟨k, k1, k2, k3⟩ := h3e s a b
  have i2 := h2 s a b
  have i3 := h3 (M 4 s) (by omega) (by obtain ⟨q, -⟩ := h1; omega)
  have hk : (fun k : Nat => decide (M 2 (60 * M 4 s + k) = s)) k.toNat = true := by
    simp only [decide_eq_true_eq]
    rw [Int.toNat_of_nonneg k1]; exact k3
  have hu : ∀ j : Nat, (j : Int) < k → M 2 (60 * M 4 s + j) ≠ s := by
    intro j hj e
    have := (i3.2.2.2 j (by omega) (by omega)).2.2.2 k k1 k2 (by rw [e, k3])
    omega
  have e : plM M s = k := by
    unfold plM
    rw [fstI_at (fun k : Nat => decide (M 2 (60 * M 4 s + k) = s)) hk 60 0 (by omega) (by obtain ⟨-, q, -⟩ := h1; omega) (fun j _ g => by
      simp only [decide_eq_false_iff_not]
      exact hu j (by omega))]
    omega
  rw [e]
  exact ⟨k1, k2, k3, hu⟩
