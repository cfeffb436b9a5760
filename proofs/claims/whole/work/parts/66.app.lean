/-! the class: append -/
def kA1b (V : Nat → Int → Int) (v : Int32) (s : Int) : Nat → Int → Int := st (st V 0 (V 2 1) (gBy v s)) 2 1 (V 2 1 + 1)
def kAp (V : Nat → Int → Int) (v : Int32) : Nat → Int → Int := kA1b (kA1b (kA1b (kA1b V v 24) v 16) v 8) v 0
/-- the text buffer holds t up to n -/
def TX (V : Nat → Int → Int) (t : Int → Int) (n : Int) : Prop := V 2 1 = n ∧ ∀ k, 0 ≤ k → k < n → V 0 k = t k
/-- the text buffers agree, n bytes are in them -/
def TY (V : Nat → Int → Int) (t : Int → Int) (n : Int) : Prop := V 2 1 = n ∧ ∀ k, 0 ≤ k → V 0 k = t k
theorem kA1b_1 {V : Nat → Int → Int} {v : Int32} {s : Int} : kA1b V v s 2 1 = V 2 1 + 1 := st_eq
theorem kA1b_o {V : Nat → Int → Int} {v : Int32} {s : Int} : (∀ y, y ≠ 1 → kA1b V v s 2 y = V 2 y) ∧ ∀ j : Nat, j ≠ 0 → j ≠ 2 → kA1b V v s j = V j := by
  refine ⟨fun y hy => ?_, fun j h0 h2 => ?_⟩
  · unfold kA1b
    rw [st_k hy, st_row (by decide)]
  · unfold kA1b
    rw [st_row h2, st_row h0]
theorem TX_1 {V : Nat → Int → Int} {t : Int → Int} {n s : Int} {v : Int32} (h : TX V t n) (hb : t n = gBy v s) : TX (kA1b V v s) t (n + 1) := by
  obtain ⟨h1, h2⟩ := h
  refine ⟨by rw [kA1b_1, h1], fun k k0 k1 => ?_⟩
  have e : kA1b V v s 0 k = if k = n then gBy v s else V 0 k := by
    unfold kA1b
    rw [st_row (by decide), st_if, h1]
  rw [e]
  by_cases hk : k = n
  · rw [if_pos hk, hk, hb]
  · rw [if_neg hk]
    exact h2 k k0 (by omega)
theorem TX_4 {V : Nat → Int → Int} {t : Int → Int} {n : Int} {v : Int32} (h : TX V t n) (h0 : t n = gBy v 24) (h1 : t (n + 1) = gBy v 16) (h2 : t (n + 2) = gBy v 8) (h3 : t (n + 3) = gBy v 0) : TX (kAp V v) t (n + 4) := by
  have a := TX_1 h h0
  have b := TX_1 a h1
  rw [Int.add_assoc] at b
  have c := TX_1 b h2
  rw [Int.add_assoc] at c
  have d := TX_1 c h3
  rw [Int.add_assoc] at d
  exact d
theorem kAp_o {V : Nat → Int → Int} {v : Int32} : (∀ y, y ≠ 1 → kAp V v 2 y = V 2 y) ∧ (∀ j : Nat, j ≠ 0 → j ≠ 2 → kAp V v j = V j) ∧ kAp V v 2 1 = V 2 1 + 4 := by
  refine ⟨fun y hy => ?_, fun j h0 h2 => ?_, ?_⟩
  · unfold kAp
    rw [kA1b_o.1 y hy, kA1b_o.1 y hy, kA1b_o.1 y hy, kA1b_o.1 y hy]
  · unfold kAp
    rw [kA1b_o.2 j h0 h2, kA1b_o.2 j h0 h2, kA1b_o.2 j h0 h2, kA1b_o.2 j h0 h2]
  · unfold kAp
    rw [kA1b_1, kA1b_1, kA1b_1, kA1b_1]
    omega
theorem kA1b_hi {V : Nat → Int → Int} {v : Int32} {s k : Int} (h : k ≠ V 2 1) : kA1b V v s 0 k = V 0 k := by
  unfold kA1b
  rw [st_row (by decide), st_if, if_neg h]
theorem kAp_hi {V : Nat → Int → Int} {v : Int32} {k : Int} (h : V 2 1 + 4 ≤ k) : kAp V v 0 k = V 0 k := by
  unfold kAp
  rw [kA1b_hi (by rw [kA1b_1, kA1b_1, kA1b_1]; omega), kA1b_hi (by rw [kA1b_1, kA1b_1]; omega), kA1b_hi (by rw [kA1b_1]; omega), kA1b_hi (by omega)]
section AP
variable {l : Launch} {X : XT} {t : Nat} {B : AH} {V : Nat → Int → Int} {a : Nat} {f : Nat → Option Nat} {c : Option Nat}
theorem c_X5_appendBytes (hl : l.stackTraces = false) (hb : 0 ≤ V 2 1 ∧ V 2 1 ≤ 396) {v : Int32} : Fn l X 1 M_X5_appendBytes [.ref t, .int v] (tp X t B V a f c) 0 0 Rv (tp X t B (kAp V v) a f c) := by
  have step : ∀ (Q : Ot → AH → Prop) (W : Nat → Int → Int) (s : Int), 0 ≤ W 2 1 → W 2 1 < 400 → 0 ≤ s → s ≤ 24 → G l X M_X5_appendBytes 1 Q 3 [(0, .ref t), (1, .int v), (2, .int (I (s - 8)))] [] (tp X t B (kA1b W v s) a f c) 0 0 → G l X M_X5_appendBytes 1 Q 3 [(0, .ref t), (1, .int v), (2, .int (I s))] [] (tp X t B W a f c) 0 0 := by
    intro Q W s h0 h1 s0 s1 K
    refine k_X5_appendBytes_3 ?_
    simp only [I_n]
    rw [gBy_u s0 s1]
    simp (disch := omega) only [true_implies, false_implies, not_true_eq_false, not_false_eq_true, rR_of, I_n, I_neg, I_add, I_sub, I_mul, I_le4, I_lt4, I_eq4, I_div4, I_bi0, I_bi01, I_bi1, nor_em, rI_of, rV_of, zI_of, zV_of, nz_and, br_T, br_F, br_T2, br_F2, st_eq, st9_0, st_k, st_i, true_and, and_true, Classical.not_not, tp_gI1, tp_gI2, tp_gI4, tp_gI7, tp_gI8, tp_pI1, tp_pI2, tp_pI4, tp_pI7, tp_pI8, tp_gR0, tp_gR3, tp_gR6, tp_gR5, tp_pR5, tp_pR9, tp_o]
    refine (put_t0 hl h0 h1).cl0 (by decide) ?_
    simp (disch := omega) only [true_implies, false_implies, not_true_eq_false, not_false_eq_true, rR_of, I_n, I_neg, I_add, I_sub, I_mul, I_le4, I_lt4, I_eq4, I_div4, I_bi0, I_bi01, I_bi1, nor_em, rI_of, rV_of, zI_of, zV_of, nz_and, br_T, br_F, br_T2, br_F2, st_eq, st9_0, st_k, st_i, true_and, and_true, Classical.not_not, tp_gI1, tp_gI2, tp_gI4, tp_gI7, tp_gI8, tp_pI1, tp_pI2, tp_pI4, tp_pI7, tp_pI8, tp_gR0, tp_gR3, tp_gR6, tp_gR5, tp_pR5, tp_pR9, tp_o]
    exact K
  refine Fn.of hl rfl rfl (Nat.le_of_ble_eq_true rfl) (k_X5_appendBytes_0 ?_)
  simp only [I_n]
  refine step _ V 24 hb.1 (by omega) (by omega) (by omega) ?_
  refine step _ (kA1b V v 24) 16 (by rw [kA1b_1]; omega) (by rw [kA1b_1]; omega) (by omega) (by omega) ?_
  refine step _ (kA1b (kA1b V v 24) v 16) 8 (by rw [kA1b_1, kA1b_1]; omega) (by rw [kA1b_1, kA1b_1]; omega) (by omega) (by omega) ?_
  refine step _ (kA1b (kA1b (kA1b V v 24) v 16) v 8) 0 (by rw [kA1b_1, kA1b_1, kA1b_1]; omega) (by rw [kA1b_1, kA1b_1, kA1b_1]; omega) (by omega) (by omega) ?_
  refine k_X5_appendBytes_3 ?_
  simp (disch := omega) only [true_implies, false_implies, not_true_eq_false, not_false_eq_true, rR_of, I_n, I_neg, I_add, I_sub, I_mul, I_le4, I_lt4, I_eq4, I_div4, I_bi0, I_bi01, I_bi1, nor_em, rI_of, rV_of, zI_of, zV_of, nz_and, br_T, br_F, br_T2, br_F2, st_eq, st9_0, st_k, st_i, true_and, and_true, Classical.not_not, tp_gI1, tp_gI2, tp_gI4, tp_gI7, tp_gI8, tp_pI1, tp_pI2, tp_pI4, tp_pI7, tp_pI8, tp_gR0, tp_gR3, tp_gR6, tp_gR5, tp_pR5, tp_pR9, tp_o]
  rfl
theorem c_X5_append (hl : l.stackTraces = false) (hb : 0 ≤ V 2 1 ∧ V 2 1 ≤ 400) {v1 v2 v3 v4 v5 : Int32} : Ct l X 2 M_X5_append [.ref t, .int v1, .int v2, .int v3, .int v4, .int v5] (tp X t B V a f c) 1 6 (fun o' A' => (V 2 1 + 20 ≤ 400 ∧ o' = Ri (I (V 2 1 + 20)) ∧ A' = tp X t B (kAp (kAp (kAp (kAp (kAp V v1) v2) v3) v4) v5) a f c) ∨ (¬ V 2 1 + 20 ≤ 400 ∧ o' = Th "java/lang/IllegalStateException" ∧ B.1 ≤ A'.1 ∧ A'.2 = (tp X t B V a f c).2)) := by
  obtain ⟨Q, hQ⟩ : ∃ Q : Ot → AH → Prop, Q = (fun o' A' => (V 2 1 + 20 ≤ 400 ∧ o' = Ri (I (V 2 1 + 20)) ∧ A' = tp X t B (kAp (kAp (kAp (kAp (kAp V v1) v2) v3) v4) v5) a f c) ∨ (¬ V 2 1 + 20 ≤ 400 ∧ o' = Th "java/lang/IllegalStateException" ∧ B.1 ≤ A'.1 ∧ A'.2 = (tp X t B V a f c).2)) := ⟨_, rfl⟩
  rw [← hQ]
  refine Ct.of hl rfl rfl (Nat.le_of_ble_eq_true rfl) (k_X5_append_0 ?_)
  simp (disch := omega) only [true_implies, false_implies, not_true_eq_false, not_false_eq_true, rR_of, I_n, I_neg, I_add, I_sub, I_mul, I_le4, I_lt4, I_eq4, I_div4, I_bi0, I_bi01, I_bi1, nor_em, rI_of, rV_of, zI_of, zV_of, nz_and, br_T, br_F, br_T2, br_F2, st_eq, st9_0, st_k, st_i, true_and, and_true, Classical.not_not, tp_gI1, tp_gI2, tp_gI4, tp_gI7, tp_gI8, tp_pI1, tp_pI2, tp_pI4, tp_pI7, tp_pI8, tp_gR0, tp_gR3, tp_gR6, tp_gR5, tp_pR5, tp_pR9, tp_o]
  refine ⟨fun h => ?_, fun h => ?_⟩
  · refine k_X5_append_18 ?_
    try simp only [I_n]
    refine Cal.of (c_X5_needState (v := 0) hl ⟨by decide, by decide⟩) (by decide) (by decide) (by decide) ?_
    rintro o1 A1 (⟨h1, -⟩ | ⟨h1, rfl, h2, h3⟩)
    · exact absurd rfl h1
    · refine Or.inr ⟨_, rfl, ?_⟩
      rw [hQ]
      exact Or.inr ⟨by omega, rfl, h2, h3⟩
  · refine k_X5_append_18 ?_
    try simp only [I_n]
    refine Cal.of (c_X5_needState (v := 1) hl ⟨by decide, by decide⟩) (by decide) (by decide) (by decide) ?_
    rintro o1 A1 (⟨h1, rfl, rfl⟩ | ⟨h1, -⟩)
    · have e1 := (kAp_o (V := V) (v := v1)).2.2
      have e2 := (kAp_o (V := kAp V v1) (v := v2)).2.2
      have e3 := (kAp_o (V := kAp (kAp V v1) v2) (v := v3)).2.2
      have e4 := (kAp_o (V := kAp (kAp (kAp V v1) v2) v3) (v := v4)).2.2
      have e5 := (kAp_o (V := kAp (kAp (kAp (kAp V v1) v2) v3) v4) (v := v5)).2.2
      simp (disch := omega) only [true_implies, false_implies, not_true_eq_false, not_false_eq_true, rR_of, I_n, I_neg, I_add, I_sub, I_mul, I_le4, I_lt4, I_eq4, I_div4, I_bi0, I_bi01, I_bi1, nor_em, rI_of, rV_of, zI_of, zV_of, nz_and, br_T, br_F, br_T2, br_F2, st_eq, st9_0, st_k, st_i, true_and, and_true, Classical.not_not, tp_gI1, tp_gI2, tp_gI4, tp_gI7, tp_gI8, tp_pI1, tp_pI2, tp_pI4, tp_pI7, tp_pI8, tp_gR0, tp_gR3, tp_gR6, tp_gR5, tp_pR5, tp_pR9, tp_o]
      refine (c_X5_appendBytes hl (by omega)).cl0 (by decide) ?_
      simp (disch := omega) only [true_implies, false_implies, not_true_eq_false, not_false_eq_true, rR_of, I_n, I_neg, I_add, I_sub, I_mul, I_le4, I_lt4, I_eq4, I_div4, I_bi0, I_bi01, I_bi1, nor_em, rI_of, rV_of, zI_of, zV_of, nz_and, br_T, br_F, br_T2, br_F2, st_eq, st9_0, st_k, st_i, true_and, and_true, Classical.not_not, tp_gI1, tp_gI2, tp_gI4, tp_gI7, tp_gI8, tp_pI1, tp_pI2, tp_pI4, tp_pI7, tp_pI8, tp_gR0, tp_gR3, tp_gR6, tp_gR5, tp_pR5, tp_pR9, tp_o]
      refine (c_X5_appendBytes hl (by omega)).cl0 (by decide) ?_
      simp (disch := omega) only [true_implies, false_implies, not_true_eq_false, not_false_eq_true, rR_of, I_n, I_neg, I_add, I_sub, I_mul, I_le4, I_lt4, I_eq4, I_div4, I_bi0, I_bi01, I_bi1, nor_em, rI_of, rV_of, zI_of, zV_of, nz_and, br_T, br_F, br_T2, br_F2, st_eq, st9_0, st_k, st_i, true_and, and_true, Classical.not_not, tp_gI1, tp_gI2, tp_gI4, tp_gI7, tp_gI8, tp_pI1, tp_pI2, tp_pI4, tp_pI7, tp_pI8, tp_gR0, tp_gR3, tp_gR6, tp_gR5, tp_pR5, tp_pR9, tp_o]
      refine (c_X5_appendBytes hl (by omega)).cl0 (by decide) ?_
      simp (disch := omega) only [true_implies, false_implies, not_true_eq_false, not_false_eq_true, rR_of, I_n, I_neg, I_add, I_sub, I_mul, I_le4, I_lt4, I_eq4, I_div4, I_bi0, I_bi01, I_bi1, nor_em, rI_of, rV_of, zI_of, zV_of, nz_and, br_T, br_F, br_T2, br_F2, st_eq, st9_0, st_k, st_i, true_and, and_true, Classical.not_not, tp_gI1, tp_gI2, tp_gI4, tp_gI7, tp_gI8, tp_pI1, tp_pI2, tp_pI4, tp_pI7, tp_pI8, tp_gR0, tp_gR3, tp_gR6, tp_gR5, tp_pR5, tp_pR9, tp_o]
      refine (c_X5_appendBytes hl (by omega)).cl0 (by decide) ?_
      simp (disch := omega) only [true_implies, false_implies, not_true_eq_false, not_false_eq_true, rR_of, I_n, I_neg, I_add, I_sub, I_mul, I_le4, I_lt4, I_eq4, I_div4, I_bi0, I_bi01, I_bi1, nor_em, rI_of, rV_of, zI_of, zV_of, nz_and, br_T, br_F, br_T2, br_F2, st_eq, st9_0, st_k, st_i, true_and, and_true, Classical.not_not, tp_gI1, tp_gI2, tp_gI4, tp_gI7, tp_gI8, tp_pI1, tp_pI2, tp_pI4, tp_pI7, tp_pI8, tp_gR0, tp_gR3, tp_gR6, tp_gR5, tp_pR5, tp_pR9, tp_o]
      refine (c_X5_appendBytes hl (by omega)).cl0 (by decide) ?_
      simp (disch := omega) only [true_implies, false_implies, not_true_eq_false, not_false_eq_true, rR_of, I_n, I_neg, I_add, I_sub, I_mul, I_le4, I_lt4, I_eq4, I_div4, I_bi0, I_bi01, I_bi1, nor_em, rI_of, rV_of, zI_of, zV_of, nz_and, br_T, br_F, br_T2, br_F2, st_eq, st9_0, st_k, st_i, true_and, and_true, Classical.not_not, tp_gI1, tp_gI2, tp_gI4, tp_gI7, tp_gI8, tp_pI1, tp_pI2, tp_pI4, tp_pI7, tp_pI8, tp_gR0, tp_gR3, tp_gR6, tp_gR5, tp_pR5, tp_pR9, tp_o]
      rw [hQ]
      refine Or.inl ⟨by omega, ?_, rfl⟩
      rw [e5, e4, e3, e2, e1]
      exact congrArg (fun z => Ri (I z)) (by omega)
    · exact absurd h1 (fun q => q (by decide))
end AP
