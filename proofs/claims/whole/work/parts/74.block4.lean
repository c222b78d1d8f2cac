/-! THE LAW's calls: shown, keptShare, meanWear, isSound. -/
section LAW74
variable {p : Program} {e : Env} {s : State} {m : MethodId} {args : Array Value} {below : List Frame} {meth : Method} {c : Code} {D : wD} {Q : State → Prop}
variable {S : wS} {k n : Nat} {A : Nat → Prop} {q o la da b L : Nat} {B : Nat → Nat} {M : wM} {xs : Nat → Int32} {i : Int}
set_option maxHeartbeats 1000000 in
theorem b_shown (l : Launch) (hfl : l.stackTraces = false) (C : Cx p l s m args meth c cL_law 9 RL D A) (I : LwI D S q o la da B M) (hR : k + 100 ≤ 603072 ∧ n + 10000 ≤ 7215209)
    (kk : ∀ (S' : wS) (M' : wM), LwI D S' q o la da B M' → M' 29 0 ≤ M 29 0 + 99 → J p l e room_1 s m args below meth c 9 D A Q 2278 (L0 b q o la da i) [] S' (k + 100) (n + 10000)) : J p l e room_1 s m args below meth c 9 D A Q 2120 (L0 b q o la da i) [] S k n := by
  refine j_aload_n C dL_law_2120 rfl ?_
  refine j_callV C (s_shown l hfl I.1) cal_X5_shown vi_X5_shown ml_La_230 I.1.k6 ⟨by decide, by decide, rfl⟩ rfl rfl (Nat.le_of_ble_eq_true rfl) ⟨Nat.le_of_ble_eq_true rfl, Nat.le_of_ble_eq_true rfl⟩ ⟨hR.1, by show n + 6000 ≤ 7215209; omega⟩ dL_law_2121 (fun E S9 h => ?_) (fun v9 S9 h => ?_)
  · obtain ⟨-, -, ⟨-, h⟩ | ⟨k9, e9, k1, -⟩⟩ := h
    · exact nomatch h
    · simp at k1
  · obtain ⟨hF, hJ, ⟨-, h9⟩ | ⟨k9, e9, k1, -⟩⟩ := h
    rotate_left
    · simp at k1
    cases h9
    refine J.widen (k' := k + 100) (n' := n + 10000) (Nat.le_refl _) (by omega) ?_
    have K1 := I.cF hF hJ
    refine j_aload_n C dL_law_2124 rfl ?_
    refine j_rcall C (kd := 10) (a := la) (rest := [.long (iL (M 30 0))]) (Or.inl rfl) K1 (m_shown l hfl) cal_X6_shown vi_X6_shown rfl ml_La_234 rfl rfl (Nat.le_of_ble_eq_true rfl) ⟨Nat.le_of_ble_eq_true rfl, Nat.le_of_ble_eq_true rfl⟩ hR dL_law_2125 (fun S2 K2 _ => ?_)
    refine j_lcmpS C dL_law_2128 ?_
    refine j_if_eq (tgt := 2278) C dL_law_2129 (by decide) rg_0 (fun _ => ?_) (fun z => absurd rfl z)
    exact kk S2 _ K2 (by show M 29 0 ≤ M 29 0 + 99; omega)
set_option maxHeartbeats 1000000 in
theorem b_isSound (l : Launch) (hfl : l.stackTraces = false) (C : Cx p l s m args meth c cL_law 9 RL D A) (I : LwI D S q o la da B M) (hR : k + 100 ≤ 603072 ∧ n + 10000 ≤ 7215209)
    (kk : ∀ (S' : wS) (M' : wM), LwI D S' q o la da B M' → M' 29 0 ≤ M 29 0 + 99 → J p l e room_1 s m args below meth c 9 D A Q 2278 (L0 b q o la da i) [] S' (k + 100) (n + 10000)) : J p l e room_1 s m args below meth c 9 D A Q 2265 (L0 b q o la da i) [] S k n := by
  refine j_aload_n C dL_law_2265 rfl ?_
  refine j_callV C (s_isSound l hfl I.1) cal_X5_isSound vi_X5_isSound ml_La_242 I.1.k6 ⟨by decide, by decide, rfl⟩ rfl rfl (Nat.le_of_ble_eq_true rfl) ⟨Nat.le_of_ble_eq_true rfl, Nat.le_of_ble_eq_true rfl⟩ ⟨hR.1, by show n + 6000 ≤ 7215209; omega⟩ dL_law_2266 (fun E S9 h => ?_) (fun v9 S9 h => ?_)
  · obtain ⟨-, -, ⟨-, h⟩ | ⟨k9, e9, k1, -⟩⟩ := h
    · exact nomatch h
    · simp at k1
  · obtain ⟨hF, hJ, ⟨-, h9⟩ | ⟨k9, e9, k1, -⟩⟩ := h
    rotate_left
    · simp at k1
    cases h9
    refine J.widen (k' := k + 100) (n' := n + 10000) (Nat.le_refl _) (by omega) ?_
    have K1 := I.cF hF hJ
    refine j_aload_n C dL_law_2269 rfl ?_
    refine j_rcall C (kd := 10) (a := la) (rest := [.int (iN 1)]) (Or.inl rfl) K1 (m_isSound l hfl) cal_X6_isSound vi_X6_isSound rfl ml_La_246 rfl rfl (Nat.le_of_ble_eq_true rfl) ⟨Nat.le_of_ble_eq_true rfl, Nat.le_of_ble_eq_true rfl⟩ hR dL_law_2270 (fun S2 K2 _ => ?_)
    refine j_icmp_eq (tgt := 2278) C dL_law_2273 (by decide) (by unfold rg; omega) (by unfold rg; omega) (fun _ => ?_) (fun z => absurd rfl z)
    exact kk S2 _ K2 (by show M 29 0 ≤ M 29 0 + 99; omega)
set_option maxHeartbeats 1000000 in
theorem b_keptShare (l : Launch) (hfl : l.stackTraces = false) (C : Cx p l s m args meth c cL_law 9 RL D A) (hs : hN s) (I : LwI D S q o la da B M) (hR : k + 100 ≤ 603072 ∧ n + 10000 ≤ 7215209)
    (kk : ∀ (S' : wS) (M' : wM), LwI D S' q o la da B M' → M' 29 0 ≤ M 29 0 + 99 → J p l e room_1 s m args below meth c 9 D A Q 2278 (L0 b q o la da i) [] S' (k + 100) (n + 10000)) : J p l e room_1 s m args below meth c 9 D A Q 2134 (L0 b q o la da i) [] S k n := by
  refine j_aload_n C dL_law_2134 rfl ?_
  refine j_aload C dL_law_2135 rfl ?_
  refine j_wcall C hs (Or.inr ⟨rfl, rfl⟩) I (w_keptShare l hfl I.1 I.2.2.2) calH_keptShare st_L_keptShare ml_La_235 rfl rfl (Nat.le_of_ble_eq_true rfl) (Nat.le_of_ble_eq_true rfl) hR dL_law_2137 dL_law_2140 (fun S1 K1 v1 => ?_)
  refine j_aload_n C dL_law_2142 rfl ?_
  refine j_rcall C (kd := 13) (a := da) (rest := []) (Or.inr rfl) K1 (m_keptShare l hfl I.1.inv) cal_X6_keptShare vi_X6_keptShare rfl ml_La_238 rfl rfl (Nat.le_of_ble_eq_true rfl) ⟨Nat.le_of_ble_eq_true rfl, Nat.le_of_ble_eq_true rfl⟩ hR dL_law_2143 (fun S2 K2 v2 => ?_)
  refine j_fstore C dL_law_2146 (by decide) ?_
  refine j_codes l hfl C (kd := 13) (a := da) (Or.inr rfl) K2 qx_keptShare qr_keptShare rfl rfl hR dL_law_2148 dL_law_2149 dL_law_2152 dL_law_2154 dL_law_2159 (fun S3 K3 v3 => ?_)
  have fin : J p l e room_1 s m args below meth c 9 D A Q 2197 (lvp (lvp (L0 b q o la da i) 6 (.int (iN (x_keptShare M)))) 7 (.float (if x_keptShare M = 0 then v_keptShare M else FP.fconst0))) [] S3 (k + 100) (n + 10000) := by
    refine j_goto (tgt := 2278) C dL_law_2197 (by decide) ?_
    exact J.lvs L0_67 (kk S3 _ K3 qd_keptShare)
  refine j_if_ne (tgt := 2197) C dL_law_2161 (by decide) qr_keptShare (fun _ => fin) (fun z => ?_)
  have l7 : lvg (lvp (lvp (L0 b q o la da i) 6 (.int (iN (x_keptShare M)))) 7 (.float (if x_keptShare M = 0 then v_keptShare M else FP.fconst0))) 7 = some (.float (v_keptShare M)) := by
    show some (Value.float (if x_keptShare M = 0 then v_keptShare M else FP.fconst0)) = _
    rw [if_pos z]
  have hx := kept_ok I.1.inv z
  refine j_aload C dL_law_2164 rfl ?_
  refine j_iconst C dL_law_2166 ?_
  refine j_dald C K3.2.2.2.1 ⟨by decide, by rw [K3.2.2.2.2]; decide, by decide⟩ (v3.trans (v2.trans (v1 z))) dL_law_2167 ?_
  refine j_fload C dL_law_2168 l7 ?_
  refine j_f2d C hx dL_law_2170 ?_
  refine j_dcmpS C hx dL_law_2171 ?_
  exact j_if_eq (tgt := 2197) C dL_law_2172 (by decide) rg_0 (fun _ => fin) (fun z => absurd rfl z)
set_option maxHeartbeats 1000000 in
theorem b_meanWear (l : Launch) (hfl : l.stackTraces = false) (C : Cx p l s m args meth c cL_law 9 RL D A) (hs : hN s) (I : LwI D S q o la da B M) (hR : k + 100 ≤ 603072 ∧ n + 10000 ≤ 7215209)
    (kk : ∀ (S' : wS) (M' : wM), LwI D S' q o la da B M' → M' 29 0 ≤ M 29 0 + 99 → J p l e room_1 s m args below meth c 9 D A Q 2278 (L0 b q o la da i) [] S' (k + 100) (n + 10000)) : J p l e room_1 s m args below meth c 9 D A Q 2200 (L0 b q o la da i) [] S k n := by
  refine j_aload_n C dL_law_2200 rfl ?_
  refine j_aload C dL_law_2201 rfl ?_
  refine j_wcall C hs (Or.inr ⟨rfl, rfl⟩) I (w_meanWear l hfl I.1 I.2.2.2) calH_meanWear st_L_meanWear ml_La_239 rfl rfl (Nat.le_of_ble_eq_true rfl) (Nat.le_of_ble_eq_true rfl) hR dL_law_2203 dL_law_2206 (fun S1 K1 v1 => ?_)
  refine j_aload_n C dL_law_2208 rfl ?_
  refine j_rcall C (kd := 13) (a := da) (rest := []) (Or.inr rfl) K1 (m_meanWear l hfl I.1.inv) cal_X6_meanWear vi_X6_meanWear rfl ml_La_241 rfl rfl (Nat.le_of_ble_eq_true rfl) ⟨Nat.le_of_ble_eq_true rfl, Nat.le_of_ble_eq_true rfl⟩ hR dL_law_2209 (fun S2 K2 v2 => ?_)
  refine j_dstore C dL_law_2212 (by decide) ?_
  refine j_codes l hfl C (kd := 13) (a := da) (Or.inr rfl) K2 qx_meanWear qr_meanWear rfl rfl hR dL_law_2214 dL_law_2215 dL_law_2218 dL_law_2220 dL_law_2225 (fun S3 K3 v3 => ?_)
  have fin : J p l e room_1 s m args below meth c 9 D A Q 2262 (lvp2 (lvp (L0 b q o la da i) 6 (.int (iN (x_meanWear M)))) 7 (.double (if x_meanWear M = 0 then v_meanWear M else FP.dconst0))) [] S3 (k + 100) (n + 10000) := by
    refine j_goto (tgt := 2278) C dL_law_2262 (by decide) ?_
    exact J.lvs L0_67d (kk S3 _ K3 qd_meanWear)
  refine j_if_ne (tgt := 2262) C dL_law_2227 (by decide) qr_meanWear (fun _ => fin) (fun z => ?_)
  have l7 : lvg (lvp2 (lvp (L0 b q o la da i) 6 (.int (iN (x_meanWear M)))) 7 (.double (if x_meanWear M = 0 then v_meanWear M else FP.dconst0))) 7 = some (.double (v_meanWear M)) := by
    show some (Value.double (if x_meanWear M = 0 then v_meanWear M else FP.dconst0)) = _
    rw [if_pos z]
  have hx := mean_ok I.1.inv z
  refine j_aload C dL_law_2230 rfl ?_
  refine j_iconst C dL_law_2232 ?_
  refine j_dald C K3.2.2.2.1 ⟨by decide, by rw [K3.2.2.2.2]; decide, by decide⟩ (v3.trans (v2.trans (v1 z))) dL_law_2233 ?_
  refine j_dload C dL_law_2234 l7 ?_
  refine j_dcmpS C hx dL_law_2236 ?_
  exact j_if_eq (tgt := 2262) C dL_law_2237 (by decide) rg_0 (fun _ => fin) (fun z => absurd rfl z)
end LAW74
