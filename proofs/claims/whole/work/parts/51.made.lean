/-! the class: a Plan made -/
section CQ
variable {l : Launch} {X : XT} {p : Nat} {A B : AH} {P : Nat → Int → Int} {r : Int → Int}
theorem gFs_n {r : Int → Int} : gFs r (gN r) = gT r := if_neg (by omega)
/-- the ends put: a whole Plan -/
theorem PV_end (g : GW r) (h : PV P r (gN r) (gT r)) (h10 : r 10 = 0) (h11 : r 11 = 0) (h12 : r 12 = 0) : PR (st (st (st P 3 (gN r) (r 0)) 4 (gN r) (gT r)) 5 (gT r) (r 0)) r := by
  obtain ⟨⟨a0, a1, a2, a3, a4, a5⟩, b, d, f⟩ := h
  have e10 : st (st (st P 3 (gN r) (r 0)) 4 (gN r) (gT r)) 5 (gT r) (r 0) 10 = P 10 := by rw [st_row (by decide), st_row (by decide), st_row (by decide)]
  have ej : ∀ j : Nat, j ≠ 3 → j ≠ 4 → j ≠ 5 → st (st (st P 3 (gN r) (r 0)) 4 (gN r) (gT r)) 5 (gT r) (r 0) j = P j := fun j h3 h4 h5 => by rw [st_row h5, st_row h4, st_row h3]
  refine ⟨⟨by rw [e10, a0], by rw [e10, a1], by rw [e10, a2], by rw [e10, a3], by rw [e10, a4, h11], by rw [e10, a5, h12]⟩, ?_, ?_, ?_, ?_, ?_, ?_, ?_, ?_⟩
  · rw [ej 0 (by decide) (by decide) (by decide), ej 1 (by decide) (by decide) (by decide)]
    exact b
  · intro k k0 k1
    rw [ej 2 (by decide) (by decide) (by decide)]
    exact (d k k0 k1).1
  · intro k k0 k1
    rw [st_row (show (3 : Nat) ≠ 5 by decide), st_row (show (4 : Nat) ≠ 5 by decide), st_row (show (3 : Nat) ≠ 4 by decide)]
    unfold gPs gFs
    by_cases hk : k = gN r
    · rw [hk, st_eq, st_eq, if_neg (by omega), if_neg (by omega)]
      exact ⟨rfl, rfl⟩
    · rw [st_k hk, st_k hk, st_row (show (4 : Nat) ≠ 3 by decide), if_pos (by omega), if_pos (by omega)]
      exact ⟨(d k k0 (by omega)).2.1, (d k k0 (by omega)).2.2⟩
  · intro q q0 q1
    unfold gLs
    by_cases hq : q = gT r
    · rw [hq, st_eq, if_neg (by omega)]
    · rw [st_k hq, st_row (show (5 : Nat) ≠ 4 by decide), st_row (show (5 : Nat) ≠ 3 by decide), if_pos (by omega)]
      exact (f q q0 (by omega)).1
  · intro q q0 q1
    rw [ej 6 (by decide) (by decide) (by decide)]
    exact (f q q0 q1).2.1
  · intro x x0 x1
    rw [ej 7 (by decide) (by decide) (by decide)]
    have g2 := g.2.2.1
    have g3 := g.2.2.2.2.1
    have dv := dvb (a := x) (b := r 2) (by omega)
    obtain ⟨n1, n2, n3, n4⟩ := gN_b g
    have k0 : 0 ≤ x / r 2 := Int.ediv_nonneg x0 (by omega)
    have k1 : x / r 2 < gN r := Int.ediv_lt_of_lt_mul (by omega) (by have m := Int.mul_comm (gN r) (r 2); omega)
    obtain ⟨l1, l2, l3, l4⟩ := gLen_b g k0 k1
    have j1 : x - r 2 * (x / r 2) < gLen r (x / r 2) := by
      unfold gLen
      split <;> omega
    obtain ⟨p1, p2, p3, p4, p5⟩ := gPo_b g k0 k1
    obtain ⟨f1, f2⟩ := gF_b g k0 k1
    have dq := dvb (a := x - r 2 * (x / r 2)) (b := r 3) (by omega)
    have q0 : 0 ≤ (x - r 2 * (x / r 2)) / r 3 := Int.ediv_nonneg (by omega) (by omega)
    have q1 : (x - r 2 * (x / r 2)) / r 3 < gPo r (x / r 2) := Int.ediv_lt_of_lt_mul (by omega) (by have m := Int.mul_comm (gPo r (x / r 2)) (r 3); omega)
    have a1 := gPl_of g k0 k1 q0 q1
    have a2 := gPt_of g k0 k1 q0 q1
    have w := (f (gF r (x / r 2) + (x - r 2 * (x / r 2)) / r 3) (by omega) (by omega)).2.2 (x - r 2 * (x / r 2) - r 3 * ((x - r 2 * (x / r 2)) / r 3)) (by omega) (by rw [a2]; split <;> omega)
    rw [a1, show r 2 * (x / r 2) + r 3 * ((x - r 2 * (x / r 2)) / r 3) + (x - r 2 * (x / r 2) - r 3 * ((x - r 2 * (x / r 2)) / r 3)) = x by omega] at w
    exact w
  · intro k k0 k1
    omega
  · intro k k0 k1
    omega
theorem gB_v (h10 : r 10 = 0) {s x : Int} : gB r s x = (r 1 + 37 * x + x * x / 5) - (r 1 + 37 * x + x * x / 5) / 251 * 251 := by
  have e : (if s = 1 then sg (fun f => if r (20 + 2 * f) = x then r (20 + 2 * f + 1) else 0) (r 10).toNat else 0) = 0 := by
    rw [h10]
    split <;> rfl
  unfold gB
  rw [e]
  omega
theorem c_X3_init (hl : l.stackTraces = false) (h : A.2 p = some (ob 4 df_4)) (hs : A.1 = p + 1) (g : GW r) (h1 : 0 ≤ r 1 ∧ r 1 ≤ 999) (h4 : r 4 = 3) (h10 : r 10 = 0) (h11 : r 11 = 0) (h12 : r 12 = 0) : Ct l X 3 M_X3_init [.ref p, .int (I (r 0)), .int (I (r 1)), .int (I (r 2)), .int (I (r 3))] A 10 1435 (fun o' A' => o' = Rv ∧ A'.1 = p + 11 ∧ ∃ P, PlanAt X A' p P ∧ PR P r ∧ ∀ b, b < p → A'.2 b = A.2 b) := by
  obtain ⟨n1, n2, n3, n4⟩ := gN_b g
  obtain ⟨t1, t2⟩ := gT_b g
  have lg0 := g.1
  have lg := g.2.1
  have g2 := g.2.2.1
  have g22 := g.2.2.2.1
  have g3 := g.2.2.2.2
  obtain ⟨Q, hQ⟩ : ∃ Q : Ot → AH → Prop, Q = (fun o' A' => o' = Rv ∧ A'.1 = p + 11 ∧ ∃ P, PlanAt X A' p P ∧ PR P r ∧ ∀ b, b < p → A'.2 b = A.2 b) := ⟨_, rfl⟩
  rw [← hQ]
  have last : ∀ (B : AH) (bc bs : Nat) (F : Nat → Int → Int), B.1 = p + 11 → (∀ b, b < p → B.2 b = A.2 b) → PV F r (gN r) (gT r) → G l X M_X3_init 3 Q 223 [(0, .ref p), (1, .int (I (r 0)))] [] (pp X p B F) bc bs := by
    intro B bc bs F hB1 hB hF
    have e2 := hF.1.2.2.1
    have e3 := hF.1.2.2.2.1
    refine k_X3_init_223 ?_
    simp (disch := omega) only [true_implies, false_implies, not_true_eq_false, not_false_eq_true, I_n, I_neg, I_add, I_sub, I_mul, I_le4, I_lt4, I_eq4, I_div4, I_bi0, I_bi01, I_bi1, nor_em, rI_of, rV_of, zI_of, zV_of, nz_and, br_T, br_F, br_T2, br_F2, st_eq, st9_0, st_k, st_i, true_and, and_true, Classical.not_not, pp_gI0, pp_gI1, pp_gI2, pp_gI3, pp_gI13, pp_gI15, pp_pI0, pp_pI1, pp_pI2, pp_pI3, pp_pI13, pp_pI15, pp_gR4, pp_gR5, pp_gR6, pp_gR7, pp_gR8, pp_gR9, pp_gR10, pp_gR11, pp_gR12, pp_gR14, pp_isO]
    rw [e2]
    refine (put_p3 hl (by omega) (by omega)).cl0 (by decide) ?_
    simp (disch := omega) only [true_implies, false_implies, not_true_eq_false, not_false_eq_true, I_n, I_neg, I_add, I_sub, I_mul, I_le4, I_lt4, I_eq4, I_div4, I_bi0, I_bi01, I_bi1, nor_em, rI_of, rV_of, zI_of, zV_of, nz_and, br_T, br_F, br_T2, br_F2, st_eq, st9_0, st_k, st_i, true_and, and_true, Classical.not_not, pp_gI0, pp_gI1, pp_gI2, pp_gI3, pp_gI13, pp_gI15, pp_pI0, pp_pI1, pp_pI2, pp_pI3, pp_pI13, pp_pI15, pp_gR4, pp_gR5, pp_gR6, pp_gR7, pp_gR8, pp_gR9, pp_gR10, pp_gR11, pp_gR12, pp_gR14, pp_isO]
    rw [e2, e3]
    refine (put_p4 hl (by omega) (by omega)).cl0 (by decide) ?_
    simp (disch := omega) only [true_implies, false_implies, not_true_eq_false, not_false_eq_true, I_n, I_neg, I_add, I_sub, I_mul, I_le4, I_lt4, I_eq4, I_div4, I_bi0, I_bi01, I_bi1, nor_em, rI_of, rV_of, zI_of, zV_of, nz_and, br_T, br_F, br_T2, br_F2, st_eq, st9_0, st_k, st_i, true_and, and_true, Classical.not_not, pp_gI0, pp_gI1, pp_gI2, pp_gI3, pp_gI13, pp_gI15, pp_pI0, pp_pI1, pp_pI2, pp_pI3, pp_pI13, pp_pI15, pp_gR4, pp_gR5, pp_gR6, pp_gR7, pp_gR8, pp_gR9, pp_gR10, pp_gR11, pp_gR12, pp_gR14, pp_isO]
    rw [e3]
    refine (put_p5 hl (by omega) (by omega)).cl0 (by decide) ?_
    simp (disch := omega) only [true_implies, false_implies, not_true_eq_false, not_false_eq_true, I_n, I_neg, I_add, I_sub, I_mul, I_le4, I_lt4, I_eq4, I_div4, I_bi0, I_bi01, I_bi1, nor_em, rI_of, rV_of, zI_of, zV_of, nz_and, br_T, br_F, br_T2, br_F2, st_eq, st9_0, st_k, st_i, true_and, and_true, Classical.not_not, pp_gI0, pp_gI1, pp_gI2, pp_gI3, pp_gI13, pp_gI15, pp_pI0, pp_pI1, pp_pI2, pp_pI3, pp_pI13, pp_pI15, pp_gR4, pp_gR5, pp_gR6, pp_gR7, pp_gR8, pp_gR9, pp_gR10, pp_gR11, pp_gR12, pp_gR14, pp_isO]
    rw [hQ]
    exact ⟨rfl, hB1, _, pp_at, PV_end g hF h10 h11 h12, fun b hb => (pp_out (Or.inl hb)).trans (hB b hb)⟩
  have pieces : ∀ (m : Nat) (k : Int) (B : AH) (bc bs : Nat) (F : Nat → Int → Int), 0 ≤ k → k + m = gN r → B.1 = p + 11 → (∀ b, b < p → B.2 b = A.2 b) → PV F r k (gFs r k) → G l X M_X3_init 3 Q 180 [(0, .ref p), (1, .int (I (r 0))), (3, .int (I (r 2))), (4, .int (I (r 3))), (5, .int (I k))] [] (pp X p B F) bc bs := by
    intro m
    induction m with
    | zero =>
      intro k B bc bs F k0 km hB1 hB hF
      have ek : k = gN r := by omega
      rw [ek, gFs_n] at hF
      have la := last B bc bs F hB1 hB hF
      have hc := Int.mul_comm (gN r) (r 2)
      have hb : 0 ≤ k * r 2 ∧ k * r 2 < r 0 + r 2 ∧ r 0 ≤ k * r 2 := by
        have := Int.mul_sub (r 2) (gN r) 1
        rw [ek]
        omega
      refine k_X3_init_180 ?_
      simp (disch := omega) only [true_implies, false_implies, not_true_eq_false, not_false_eq_true, I_n, I_neg, I_add, I_sub, I_mul, I_le4, I_lt4, I_eq4, I_div4, I_bi0, I_bi01, I_bi1, nor_em, rI_of, rV_of, zI_of, zV_of, nz_and, br_T, br_F, br_T2, br_F2, st_eq, st9_0, st_k, st_i, true_and, and_true, Classical.not_not, pp_gI0, pp_gI1, pp_gI2, pp_gI3, pp_gI13, pp_gI15, pp_pI0, pp_pI1, pp_pI2, pp_pI3, pp_pI13, pp_pI15, pp_gR4, pp_gR5, pp_gR6, pp_gR7, pp_gR8, pp_gR9, pp_gR10, pp_gR11, pp_gR12, pp_gR14, pp_isO]
      first | exact la | exact ⟨fun _ => la, fun _ => la⟩ | exact ⟨fun _ => la, fun _ => ⟨fun _ => la, fun hh => absurd hb.2.2 hh⟩⟩
    | succ m ih =>
      intro k B bc bs F k0 km hB1 hB hF
      have hc := Int.mul_comm k (r 2)
      obtain ⟨l1, l2, l3, l4⟩ := gLen_b g k0 (by omega)
      have e1 : (if r 0 - r 2 * k < r 2 then I (r 0 - r 2 * k) else I (r 2)) = I (gLen r k) := by
        unfold gLen
        by_cases hq : r 0 - r 2 * k < r 2
        · rw [if_pos hq, if_neg (by omega)]
        · rw [if_neg hq, if_pos (by omega)]
      have ef : gFs r k = gF r k := if_pos (by omega)
      have ed := gFs_d g k0 (by omega : k < gN r)
      rw [ef] at hF
      refine k_X3_init_180 ?_
      simp (disch := omega) only [true_implies, false_implies, not_true_eq_false, not_false_eq_true, I_n, I_neg, I_add, I_sub, I_mul, I_le4, I_lt4, I_eq4, I_div4, I_bi0, I_bi01, I_bi1, nor_em, rI_of, rV_of, zI_of, zV_of, nz_and, br_T, br_F, br_T2, br_F2, st_eq, st9_0, st_k, st_i, true_and, and_true, Classical.not_not, pp_gI0, pp_gI1, pp_gI2, pp_gI3, pp_gI13, pp_gI15, pp_pI0, pp_pI1, pp_pI2, pp_pI3, pp_pI13, pp_pI15, pp_gR4, pp_gR5, pp_gR6, pp_gR7, pp_gR8, pp_gR9, pp_gR10, pp_gR11, pp_gR12, pp_gR14, pp_isO]
      rw [hc]
      try simp (disch := omega) only [true_implies, false_implies, not_true_eq_false, not_false_eq_true, I_n, I_neg, I_add, I_sub, I_mul, I_le4, I_lt4, I_eq4, I_div4, I_bi0, I_bi01, I_bi1, nor_em, rI_of, rV_of, zI_of, zV_of, nz_and, br_T, br_F, br_T2, br_F2, st_eq, st9_0, st_k, st_i, true_and, and_true, Classical.not_not, pp_gI0, pp_gI1, pp_gI2, pp_gI3, pp_gI13, pp_gI15, pp_pI0, pp_pI1, pp_pI2, pp_pI3, pp_pI13, pp_pI15, pp_gR4, pp_gR5, pp_gR6, pp_gR7, pp_gR8, pp_gR9, pp_gR10, pp_gR11, pp_gR12, pp_gR14, pp_isO]
      rw [e1]
      refine (c_X3_addPiece hl g k0 (by omega) hF).cl0 (by decide) ?_
      rintro o1 A1 ⟨rfl, F', rfl, hF'⟩
      rw [rV_of]
      refine ih (k + 1) B bc bs F' (by omega) (by omega) hB1 hB ?_
      rw [show gFs r (k + 1) = gF r k + gPo r k by omega]
      exact hF'
  have places : ∀ (B : AH) (bc bs : Nat) (F : Nat → Int → Int), B.1 = p + 11 → (∀ b, b < p → B.2 b = A.2 b) → (F 10 0 = r 0 ∧ F 10 1 = r 4 ∧ F 10 2 = 0 ∧ F 10 3 = 0 ∧ F 10 13 = 0 ∧ F 10 15 = 0) → G l X M_X3_init 3 Q 122 [(0, .ref p), (1, .int (I (r 0))), (2, .int (I (r 1))), (3, .int (I (r 2))), (4, .int (I (r 3))), (5, .int (I 0))] [] (pp X p B F) bc bs := by
    intro B bc bs F hB1 hB hF
    have e0 : pp X p B F = pp X p B (sw (sw F 0 (cpy (F 0) (gB r 0) 0 0 ((0 : Nat) : Int))) 1 (cpy (F 1) (gB r 1) 0 0 ((0 : Nat) : Int))) := by rw [show ((0 : Nat) : Int) = 0 from rfl, cpy_z, cpy_z, sw_self, sw_self]
    rw [e0]
    refine up_to (n := (r 0).toNat) (P := fun j => G l X M_X3_init 3 Q 122 [(0, .ref p), (1, .int (I (r 0))), (2, .int (I (r 1))), (3, .int (I (r 2))), (4, .int (I (r 3))), (5, .int (I (j : Int)))] [] (pp X p B (sw (sw F 0 (cpy (F 0) (gB r 0) 0 0 (j : Int))) 1 (cpy (F 1) (gB r 1) 0 0 (j : Int)))) bc bs) ?_ ?_
    · rw [show (((r 0).toNat : Nat) : Int) = r 0 by omega]
      refine k_X3_init_122 ?_
      simp (disch := omega) only [true_implies, false_implies, not_true_eq_false, not_false_eq_true, I_n, I_neg, I_add, I_sub, I_mul, I_le4, I_lt4, I_eq4, I_div4, I_bi0, I_bi01, I_bi1, nor_em, rI_of, rV_of, zI_of, zV_of, nz_and, br_T, br_F, br_T2, br_F2, st_eq, st9_0, st_k, st_i, true_and, and_true, Classical.not_not, pp_gI0, pp_gI1, pp_gI2, pp_gI3, pp_gI13, pp_gI15, pp_pI0, pp_pI1, pp_pI2, pp_pI3, pp_pI13, pp_pI15, pp_gR4, pp_gR5, pp_gR6, pp_gR7, pp_gR8, pp_gR9, pp_gR10, pp_gR11, pp_gR12, pp_gR14, pp_isO]
      refine pieces (gN r).toNat 0 B bc bs _ (by omega) (by omega) hB1 hB ⟨?_, ?_, ?_, ?_⟩
      · rw [sw_j (by decide), sw_j (by decide)]
        rw [show gFs r 0 = 0 by unfold gFs gF; rw [if_pos (by omega), Int.mul_zero]]
        exact hF
      · intro x x0 x1
        rw [sw_j (show (0 : Nat) ≠ 1 by decide), sw_i, sw_i, cpy_in _ _ _ _ x0 x1, cpy_in _ _ _ _ x0 x1]
        exact ⟨rfl, rfl⟩
      · intro i i0 i1
        omega
      · intro q q0 q1
        rw [show gFs r 0 = 0 by unfold gFs gF; rw [if_pos (by omega), Int.mul_zero]] at q1
        omega
    · intro j hj ih
      have hjj : 0 ≤ (j : Int) * j ∧ (j : Int) * j ≤ 240 * 240 := ⟨Int.mul_nonneg (by omega) (by omega), Int.mul_le_mul (by omega) (by omega) (by omega) (by decide)⟩
      have c0 := cpy_s (r := F 0) (q := gB r 0) (f := 0) (t := 0) (n := (j : Int)) (by omega)
      have c1 := cpy_s (r := F 1) (q := gB r 1) (f := 0) (t := 0) (n := (j : Int)) (by omega)
      rw [Int.zero_add] at c0 c1
      have e : ∀ y0 y1, y0 = gB r 0 j → y1 = gB r 1 j → st (st (sw (sw F 0 (cpy (F 0) (gB r 0) 0 0 (j : Int))) 1 (cpy (F 1) (gB r 1) 0 0 (j : Int))) 0 (j : Int) y0) 1 (j : Int) y1 = sw (sw F 0 (cpy (F 0) (gB r 0) 0 0 ((j + 1 : Nat) : Int))) 1 (cpy (F 1) (gB r 1) 0 0 ((j + 1 : Nat) : Int)) := by
        intro y0 y1 hy0 hy1
        rw [hy0, hy1, show ((j + 1 : Nat) : Int) = (j : Int) + 1 from rfl, ← c0, ← c1]
        funext y z
        unfold sw rs st
        by_cases h1 : y = 1
        · subst h1
          by_cases hz : z = j <;> simp [hz]
        · by_cases h0 : y = 0
          · subst h0
            by_cases hz : z = j <;> simp [hz]
          · simp [h0, h1]
      have v0 := gB_v (s := 0) (x := (j : Int)) h10
      have v1 := gB_v (s := 1) (x := (j : Int)) h10
      refine k_X3_init_122 ?_
      simp (disch := omega) only [true_implies, false_implies, not_true_eq_false, not_false_eq_true, I_n, I_neg, I_add, I_sub, I_mul, I_le4, I_lt4, I_eq4, I_div4, I_bi0, I_bi01, I_bi1, nor_em, rI_of, rV_of, zI_of, zV_of, nz_and, br_T, br_F, br_T2, br_F2, st_eq, st9_0, st_k, st_i, true_and, and_true, Classical.not_not, pp_gI0, pp_gI1, pp_gI2, pp_gI3, pp_gI13, pp_gI15, pp_pI0, pp_pI1, pp_pI2, pp_pI3, pp_pI13, pp_pI15, pp_gR4, pp_gR5, pp_gR6, pp_gR7, pp_gR8, pp_gR9, pp_gR10, pp_gR11, pp_gR12, pp_gR14, pp_isO]
      rw [← v0]
      refine (put_p0 hl (by omega) (by omega)).cl0 (by decide) ?_
      simp (disch := omega) only [true_implies, false_implies, not_true_eq_false, not_false_eq_true, I_n, I_neg, I_add, I_sub, I_mul, I_le4, I_lt4, I_eq4, I_div4, I_bi0, I_bi01, I_bi1, nor_em, rI_of, rV_of, zI_of, zV_of, nz_and, br_T, br_F, br_T2, br_F2, st_eq, st9_0, st_k, st_i, true_and, and_true, Classical.not_not, pp_gI0, pp_gI1, pp_gI2, pp_gI3, pp_gI13, pp_gI15, pp_pI0, pp_pI1, pp_pI2, pp_pI3, pp_pI13, pp_pI15, pp_gR4, pp_gR5, pp_gR6, pp_gR7, pp_gR8, pp_gR9, pp_gR10, pp_gR11, pp_gR12, pp_gR14, pp_isO]
      refine (put_p1 hl (by omega) (by omega)).cl0 (by decide) ?_
      simp (disch := omega) only [true_implies, false_implies, not_true_eq_false, not_false_eq_true, I_n, I_neg, I_add, I_sub, I_mul, I_le4, I_lt4, I_eq4, I_div4, I_bi0, I_bi01, I_bi1, nor_em, rI_of, rV_of, zI_of, zV_of, nz_and, br_T, br_F, br_T2, br_F2, st_eq, st9_0, st_k, st_i, true_and, and_true, Classical.not_not, pp_gI0, pp_gI1, pp_gI2, pp_gI3, pp_gI13, pp_gI15, pp_pI0, pp_pI1, pp_pI2, pp_pI3, pp_pI13, pp_pI15, pp_gR4, pp_gR5, pp_gR6, pp_gR7, pp_gR8, pp_gR9, pp_gR10, pp_gR11, pp_gR12, pp_gR14, pp_isO]
      rw [e (gB r 0 j) (gB r 0 j) rfl (v0.trans v1.symm)]
      exact ih
  refine Ct.of hl rfl rfl (Nat.le_of_ble_eq_true rfl) (k_X3_init_0 ?_)
  obtain ⟨C0, hC0⟩ : ∃ C0, C0 = A := ⟨_, rfl⟩
  have c0 : C0.1 = p + 1 := by rw [hC0]; exact hs
  have f0_o : C0.2 (p) = some (ob 4 [.int 0, .int 0, .int 0, .int 0, .null, .null, .null, .null, .null, .null, .null, .null, .null, .int 0, .null, .int 0]) := by rw [hC0]; exact h
  have r0 : ∀ b, b < p → C0.2 b = A.2 b := fun b _ => by rw [hC0]
  rw [← hC0]
  clear hC0
  refine pV_i (k := 1) (v := .int 3) f0_o (Nat.le_of_ble_eq_true rfl) ?_
  intro C1 d1 q1 o1
  have c1 : C1.1 = p + 1 := by omega
  have r1 : ∀ b, b < p → C1.2 b = A.2 b := fun b hb => (o1 b (by omega)).trans (r0 b hb)
  have f1_o : C1.2 (p) = some (ob 4 [.int 0, .int 3, .int 0, .int 0, .null, .null, .null, .null, .null, .null, .null, .null, .null, .int 0, .null, .int 0]) := q1
  clear q1 o1 d1 c0 r0 f0_o
  refine pV_i (k := 2) (v := .int 0) f1_o (Nat.le_of_ble_eq_true rfl) ?_
  intro C2 d2 q2 o2
  have c2 : C2.1 = p + 1 := by omega
  have r2 : ∀ b, b < p → C2.2 b = A.2 b := fun b hb => (o2 b (by omega)).trans (r1 b hb)
  have f2_o : C2.2 (p) = some (ob 4 [.int 0, .int 3, .int 0, .int 0, .null, .null, .null, .null, .null, .null, .null, .null, .null, .int 0, .null, .int 0]) := q2
  clear q2 o2 d2 c1 r1 f1_o
  refine pV_i (k := 3) (v := .int 0) f2_o (Nat.le_of_ble_eq_true rfl) ?_
  intro C3 d3 q3 o3
  have c3 : C3.1 = p + 1 := by omega
  have r3 : ∀ b, b < p → C3.2 b = A.2 b := fun b hb => (o3 b (by omega)).trans (r2 b hb)
  have f3_o : C3.2 (p) = some (ob 4 [.int 0, .int 3, .int 0, .int 0, .null, .null, .null, .null, .null, .null, .null, .null, .null, .int 0, .null, .int 0]) := q3
  clear q3 o3 d3 c2 r2 f2_o
  refine mkA_i (b := p + 1) (n := 240) c3 (by decide) (by decide) (by decide) (by decide) ?_
  intro C4 d4 q4 o4
  have c4 : C4.1 = p + 2 := by omega
  have f4_o : C4.2 (p) = some (ob 4 [.int 0, .int 3, .int 0, .int 0, .null, .null, .null, .null, .null, .null, .null, .null, .null, .int 0, .null, .int 0]) := (o4 _ (by omega)).trans f3_o
  have r4 : ∀ b, b < p → C4.2 b = A.2 b := fun b hb => (o4 b (by omega)).trans (r3 b hb)
  have f4_x2 : C4.2 (p + 1) = some (ia X 240 (fun _ => 0)) := q4
  clear q4 o4 d4 c3 r3 f3_o
  refine pV_i (k := 4) (v := .ref (p + 1)) f4_o (Nat.le_of_ble_eq_true rfl) ?_
  intro C5 d5 q5 o5
  have c5 : C5.1 = p + 2 := by omega
  have f5_x2 : C5.2 (p + 1) = some (ia X 240 (fun _ => 0)) := (o5 _ (by omega)).trans f4_x2
  have r5 : ∀ b, b < p → C5.2 b = A.2 b := fun b hb => (o5 b (by omega)).trans (r4 b hb)
  have f5_o : C5.2 (p) = some (ob 4 [.int 0, .int 3, .int 0, .int 0, .ref (p + 1), .null, .null, .null, .null, .null, .null, .null, .null, .int 0, .null, .int 0]) := q5
  clear q5 o5 d5 c4 r4 f4_o f4_x2
  refine mkA_i (b := p + 2) (n := 240) c5 (by decide) (by decide) (by decide) (by decide) ?_
  intro C6 d6 q6 o6
  have c6 : C6.1 = p + 3 := by omega
  have f6_o : C6.2 (p) = some (ob 4 [.int 0, .int 3, .int 0, .int 0, .ref (p + 1), .null, .null, .null, .null, .null, .null, .null, .null, .int 0, .null, .int 0]) := (o6 _ (by omega)).trans f5_o
  have f6_x2 : C6.2 (p + 1) = some (ia X 240 (fun _ => 0)) := (o6 _ (by omega)).trans f5_x2
  have r6 : ∀ b, b < p → C6.2 b = A.2 b := fun b hb => (o6 b (by omega)).trans (r5 b hb)
  have f6_x3 : C6.2 (p + 2) = some (ia X 240 (fun _ => 0)) := q6
  clear q6 o6 d6 c5 r5 f5_o f5_x2
  refine pV_i (k := 5) (v := .ref (p + 2)) f6_o (Nat.le_of_ble_eq_true rfl) ?_
  intro C7 d7 q7 o7
  have c7 : C7.1 = p + 3 := by omega
  have f7_x2 : C7.2 (p + 1) = some (ia X 240 (fun _ => 0)) := (o7 _ (by omega)).trans f6_x2
  have f7_x3 : C7.2 (p + 2) = some (ia X 240 (fun _ => 0)) := (o7 _ (by omega)).trans f6_x3
  have r7 : ∀ b, b < p → C7.2 b = A.2 b := fun b hb => (o7 b (by omega)).trans (r6 b hb)
  have f7_o : C7.2 (p) = some (ob 4 [.int 0, .int 3, .int 0, .int 0, .ref (p + 1), .ref (p + 2), .null, .null, .null, .null, .null, .null, .null, .int 0, .null, .int 0]) := q7
  clear q7 o7 d7 c6 r6 f6_o f6_x2 f6_x3
  refine mkA_i (b := p + 3) (n := 60) c7 (by decide) (by decide) (by decide) (by decide) ?_
  intro C8 d8 q8 o8
  have c8 : C8.1 = p + 4 := by omega
  have f8_o : C8.2 (p) = some (ob 4 [.int 0, .int 3, .int 0, .int 0, .ref (p + 1), .ref (p + 2), .null, .null, .null, .null, .null, .null, .null, .int 0, .null, .int 0]) := (o8 _ (by omega)).trans f7_o
  have f8_x2 : C8.2 (p + 1) = some (ia X 240 (fun _ => 0)) := (o8 _ (by omega)).trans f7_x2
  have f8_x3 : C8.2 (p + 2) = some (ia X 240 (fun _ => 0)) := (o8 _ (by omega)).trans f7_x3
  have r8 : ∀ b, b < p → C8.2 b = A.2 b := fun b hb => (o8 b (by omega)).trans (r7 b hb)
  have f8_x4 : C8.2 (p + 3) = some (ia X 60 (fun _ => 0)) := q8
  clear q8 o8 d8 c7 r7 f7_o f7_x2 f7_x3
  refine pV_i (k := 6) (v := .ref (p + 3)) f8_o (Nat.le_of_ble_eq_true rfl) ?_
  intro C9 d9 q9 o9
  have c9 : C9.1 = p + 4 := by omega
  have f9_x2 : C9.2 (p + 1) = some (ia X 240 (fun _ => 0)) := (o9 _ (by omega)).trans f8_x2
  have f9_x3 : C9.2 (p + 2) = some (ia X 240 (fun _ => 0)) := (o9 _ (by omega)).trans f8_x3
  have f9_x4 : C9.2 (p + 3) = some (ia X 60 (fun _ => 0)) := (o9 _ (by omega)).trans f8_x4
  have r9 : ∀ b, b < p → C9.2 b = A.2 b := fun b hb => (o9 b (by omega)).trans (r8 b hb)
  have f9_o : C9.2 (p) = some (ob 4 [.int 0, .int 3, .int 0, .int 0, .ref (p + 1), .ref (p + 2), .ref (p + 3), .null, .null, .null, .null, .null, .null, .int 0, .null, .int 0]) := q9
  clear q9 o9 d9 c8 r8 f8_o f8_x2 f8_x3 f8_x4
  refine mkA_i (b := p + 4) (n := 61) c9 (by decide) (by decide) (by decide) (by decide) ?_
  intro C10 d10 q10 o10
  have c10 : C10.1 = p + 5 := by omega
  have f10_o : C10.2 (p) = some (ob 4 [.int 0, .int 3, .int 0, .int 0, .ref (p + 1), .ref (p + 2), .ref (p + 3), .null, .null, .null, .null, .null, .null, .int 0, .null, .int 0]) := (o10 _ (by omega)).trans f9_o
  have f10_x2 : C10.2 (p + 1) = some (ia X 240 (fun _ => 0)) := (o10 _ (by omega)).trans f9_x2
  have f10_x3 : C10.2 (p + 2) = some (ia X 240 (fun _ => 0)) := (o10 _ (by omega)).trans f9_x3
  have f10_x4 : C10.2 (p + 3) = some (ia X 60 (fun _ => 0)) := (o10 _ (by omega)).trans f9_x4
  have r10 : ∀ b, b < p → C10.2 b = A.2 b := fun b hb => (o10 b (by omega)).trans (r9 b hb)
  have f10_x5 : C10.2 (p + 4) = some (ia X 61 (fun _ => 0)) := q10
  clear q10 o10 d10 c9 r9 f9_o f9_x2 f9_x3 f9_x4
  refine pV_i (k := 7) (v := .ref (p + 4)) f10_o (Nat.le_of_ble_eq_true rfl) ?_
  intro C11 d11 q11 o11
  have c11 : C11.1 = p + 5 := by omega
  have f11_x2 : C11.2 (p + 1) = some (ia X 240 (fun _ => 0)) := (o11 _ (by omega)).trans f10_x2
  have f11_x3 : C11.2 (p + 2) = some (ia X 240 (fun _ => 0)) := (o11 _ (by omega)).trans f10_x3
  have f11_x4 : C11.2 (p + 3) = some (ia X 60 (fun _ => 0)) := (o11 _ (by omega)).trans f10_x4
  have f11_x5 : C11.2 (p + 4) = some (ia X 61 (fun _ => 0)) := (o11 _ (by omega)).trans f10_x5
  have r11 : ∀ b, b < p → C11.2 b = A.2 b := fun b hb => (o11 b (by omega)).trans (r10 b hb)
  have f11_o : C11.2 (p) = some (ob 4 [.int 0, .int 3, .int 0, .int 0, .ref (p + 1), .ref (p + 2), .ref (p + 3), .ref (p + 4), .null, .null, .null, .null, .null, .int 0, .null, .int 0]) := q11
  clear q11 o11 d11 c10 r10 f10_o f10_x2 f10_x3 f10_x4 f10_x5
  refine mkA_i (b := p + 5) (n := 61) c11 (by decide) (by decide) (by decide) (by decide) ?_
  intro C12 d12 q12 o12
  have c12 : C12.1 = p + 6 := by omega
  have f12_o : C12.2 (p) = some (ob 4 [.int 0, .int 3, .int 0, .int 0, .ref (p + 1), .ref (p + 2), .ref (p + 3), .ref (p + 4), .null, .null, .null, .null, .null, .int 0, .null, .int 0]) := (o12 _ (by omega)).trans f11_o
  have f12_x2 : C12.2 (p + 1) = some (ia X 240 (fun _ => 0)) := (o12 _ (by omega)).trans f11_x2
  have f12_x3 : C12.2 (p + 2) = some (ia X 240 (fun _ => 0)) := (o12 _ (by omega)).trans f11_x3
  have f12_x4 : C12.2 (p + 3) = some (ia X 60 (fun _ => 0)) := (o12 _ (by omega)).trans f11_x4
  have f12_x5 : C12.2 (p + 4) = some (ia X 61 (fun _ => 0)) := (o12 _ (by omega)).trans f11_x5
  have r12 : ∀ b, b < p → C12.2 b = A.2 b := fun b hb => (o12 b (by omega)).trans (r11 b hb)
  have f12_x6 : C12.2 (p + 5) = some (ia X 61 (fun _ => 0)) := q12
  clear q12 o12 d12 c11 r11 f11_o f11_x2 f11_x3 f11_x4 f11_x5
  refine pV_i (k := 8) (v := .ref (p + 5)) f12_o (Nat.le_of_ble_eq_true rfl) ?_
  intro C13 d13 q13 o13
  have c13 : C13.1 = p + 6 := by omega
  have f13_x2 : C13.2 (p + 1) = some (ia X 240 (fun _ => 0)) := (o13 _ (by omega)).trans f12_x2
  have f13_x3 : C13.2 (p + 2) = some (ia X 240 (fun _ => 0)) := (o13 _ (by omega)).trans f12_x3
  have f13_x4 : C13.2 (p + 3) = some (ia X 60 (fun _ => 0)) := (o13 _ (by omega)).trans f12_x4
  have f13_x5 : C13.2 (p + 4) = some (ia X 61 (fun _ => 0)) := (o13 _ (by omega)).trans f12_x5
  have f13_x6 : C13.2 (p + 5) = some (ia X 61 (fun _ => 0)) := (o13 _ (by omega)).trans f12_x6
  have r13 : ∀ b, b < p → C13.2 b = A.2 b := fun b hb => (o13 b (by omega)).trans (r12 b hb)
  have f13_o : C13.2 (p) = some (ob 4 [.int 0, .int 3, .int 0, .int 0, .ref (p + 1), .ref (p + 2), .ref (p + 3), .ref (p + 4), .ref (p + 5), .null, .null, .null, .null, .int 0, .null, .int 0]) := q13
  clear q13 o13 d13 c12 r12 f12_o f12_x2 f12_x3 f12_x4 f12_x5 f12_x6
  refine mkA_i (b := p + 6) (n := 241) c13 (by decide) (by decide) (by decide) (by decide) ?_
  intro C14 d14 q14 o14
  have c14 : C14.1 = p + 7 := by omega
  have f14_o : C14.2 (p) = some (ob 4 [.int 0, .int 3, .int 0, .int 0, .ref (p + 1), .ref (p + 2), .ref (p + 3), .ref (p + 4), .ref (p + 5), .null, .null, .null, .null, .int 0, .null, .int 0]) := (o14 _ (by omega)).trans f13_o
  have f14_x2 : C14.2 (p + 1) = some (ia X 240 (fun _ => 0)) := (o14 _ (by omega)).trans f13_x2
  have f14_x3 : C14.2 (p + 2) = some (ia X 240 (fun _ => 0)) := (o14 _ (by omega)).trans f13_x3
  have f14_x4 : C14.2 (p + 3) = some (ia X 60 (fun _ => 0)) := (o14 _ (by omega)).trans f13_x4
  have f14_x5 : C14.2 (p + 4) = some (ia X 61 (fun _ => 0)) := (o14 _ (by omega)).trans f13_x5
  have f14_x6 : C14.2 (p + 5) = some (ia X 61 (fun _ => 0)) := (o14 _ (by omega)).trans f13_x6
  have r14 : ∀ b, b < p → C14.2 b = A.2 b := fun b hb => (o14 b (by omega)).trans (r13 b hb)
  have f14_x7 : C14.2 (p + 6) = some (ia X 241 (fun _ => 0)) := q14
  clear q14 o14 d14 c13 r13 f13_o f13_x2 f13_x3 f13_x4 f13_x5 f13_x6
  refine pV_i (k := 9) (v := .ref (p + 6)) f14_o (Nat.le_of_ble_eq_true rfl) ?_
  intro C15 d15 q15 o15
  have c15 : C15.1 = p + 7 := by omega
  have f15_x2 : C15.2 (p + 1) = some (ia X 240 (fun _ => 0)) := (o15 _ (by omega)).trans f14_x2
  have f15_x3 : C15.2 (p + 2) = some (ia X 240 (fun _ => 0)) := (o15 _ (by omega)).trans f14_x3
  have f15_x4 : C15.2 (p + 3) = some (ia X 60 (fun _ => 0)) := (o15 _ (by omega)).trans f14_x4
  have f15_x5 : C15.2 (p + 4) = some (ia X 61 (fun _ => 0)) := (o15 _ (by omega)).trans f14_x5
  have f15_x6 : C15.2 (p + 5) = some (ia X 61 (fun _ => 0)) := (o15 _ (by omega)).trans f14_x6
  have f15_x7 : C15.2 (p + 6) = some (ia X 241 (fun _ => 0)) := (o15 _ (by omega)).trans f14_x7
  have r15 : ∀ b, b < p → C15.2 b = A.2 b := fun b hb => (o15 b (by omega)).trans (r14 b hb)
  have f15_o : C15.2 (p) = some (ob 4 [.int 0, .int 3, .int 0, .int 0, .ref (p + 1), .ref (p + 2), .ref (p + 3), .ref (p + 4), .ref (p + 5), .ref (p + 6), .null, .null, .null, .int 0, .null, .int 0]) := q15
  clear q15 o15 d15 c14 r14 f14_o f14_x2 f14_x3 f14_x4 f14_x5 f14_x6 f14_x7
  refine mkA_i (b := p + 7) (n := 240) c15 (by decide) (by decide) (by decide) (by decide) ?_
  intro C16 d16 q16 o16
  have c16 : C16.1 = p + 8 := by omega
  have f16_o : C16.2 (p) = some (ob 4 [.int 0, .int 3, .int 0, .int 0, .ref (p + 1), .ref (p + 2), .ref (p + 3), .ref (p + 4), .ref (p + 5), .ref (p + 6), .null, .null, .null, .int 0, .null, .int 0]) := (o16 _ (by omega)).trans f15_o
  have f16_x2 : C16.2 (p + 1) = some (ia X 240 (fun _ => 0)) := (o16 _ (by omega)).trans f15_x2
  have f16_x3 : C16.2 (p + 2) = some (ia X 240 (fun _ => 0)) := (o16 _ (by omega)).trans f15_x3
  have f16_x4 : C16.2 (p + 3) = some (ia X 60 (fun _ => 0)) := (o16 _ (by omega)).trans f15_x4
  have f16_x5 : C16.2 (p + 4) = some (ia X 61 (fun _ => 0)) := (o16 _ (by omega)).trans f15_x5
  have f16_x6 : C16.2 (p + 5) = some (ia X 61 (fun _ => 0)) := (o16 _ (by omega)).trans f15_x6
  have f16_x7 : C16.2 (p + 6) = some (ia X 241 (fun _ => 0)) := (o16 _ (by omega)).trans f15_x7
  have r16 : ∀ b, b < p → C16.2 b = A.2 b := fun b hb => (o16 b (by omega)).trans (r15 b hb)
  have f16_x8 : C16.2 (p + 7) = some (ia X 240 (fun _ => 0)) := q16
  clear q16 o16 d16 c15 r15 f15_o f15_x2 f15_x3 f15_x4 f15_x5 f15_x6 f15_x7
  refine pV_i (k := 10) (v := .ref (p + 7)) f16_o (Nat.le_of_ble_eq_true rfl) ?_
  intro C17 d17 q17 o17
  have c17 : C17.1 = p + 8 := by omega
  have f17_x2 : C17.2 (p + 1) = some (ia X 240 (fun _ => 0)) := (o17 _ (by omega)).trans f16_x2
  have f17_x3 : C17.2 (p + 2) = some (ia X 240 (fun _ => 0)) := (o17 _ (by omega)).trans f16_x3
  have f17_x4 : C17.2 (p + 3) = some (ia X 60 (fun _ => 0)) := (o17 _ (by omega)).trans f16_x4
  have f17_x5 : C17.2 (p + 4) = some (ia X 61 (fun _ => 0)) := (o17 _ (by omega)).trans f16_x5
  have f17_x6 : C17.2 (p + 5) = some (ia X 61 (fun _ => 0)) := (o17 _ (by omega)).trans f16_x6
  have f17_x7 : C17.2 (p + 6) = some (ia X 241 (fun _ => 0)) := (o17 _ (by omega)).trans f16_x7
  have f17_x8 : C17.2 (p + 7) = some (ia X 240 (fun _ => 0)) := (o17 _ (by omega)).trans f16_x8
  have r17 : ∀ b, b < p → C17.2 b = A.2 b := fun b hb => (o17 b (by omega)).trans (r16 b hb)
  have f17_o : C17.2 (p) = some (ob 4 [.int 0, .int 3, .int 0, .int 0, .ref (p + 1), .ref (p + 2), .ref (p + 3), .ref (p + 4), .ref (p + 5), .ref (p + 6), .ref (p + 7), .null, .null, .int 0, .null, .int 0]) := q17
  clear q17 o17 d17 c16 r16 f16_o f16_x2 f16_x3 f16_x4 f16_x5 f16_x6 f16_x7 f16_x8
  refine mkA_i (b := p + 8) (n := 240) c17 (by decide) (by decide) (by decide) (by decide) ?_
  intro C18 d18 q18 o18
  have c18 : C18.1 = p + 9 := by omega
  have f18_o : C18.2 (p) = some (ob 4 [.int 0, .int 3, .int 0, .int 0, .ref (p + 1), .ref (p + 2), .ref (p + 3), .ref (p + 4), .ref (p + 5), .ref (p + 6), .ref (p + 7), .null, .null, .int 0, .null, .int 0]) := (o18 _ (by omega)).trans f17_o
  have f18_x2 : C18.2 (p + 1) = some (ia X 240 (fun _ => 0)) := (o18 _ (by omega)).trans f17_x2
  have f18_x3 : C18.2 (p + 2) = some (ia X 240 (fun _ => 0)) := (o18 _ (by omega)).trans f17_x3
  have f18_x4 : C18.2 (p + 3) = some (ia X 60 (fun _ => 0)) := (o18 _ (by omega)).trans f17_x4
  have f18_x5 : C18.2 (p + 4) = some (ia X 61 (fun _ => 0)) := (o18 _ (by omega)).trans f17_x5
  have f18_x6 : C18.2 (p + 5) = some (ia X 61 (fun _ => 0)) := (o18 _ (by omega)).trans f17_x6
  have f18_x7 : C18.2 (p + 6) = some (ia X 241 (fun _ => 0)) := (o18 _ (by omega)).trans f17_x7
  have f18_x8 : C18.2 (p + 7) = some (ia X 240 (fun _ => 0)) := (o18 _ (by omega)).trans f17_x8
  have r18 : ∀ b, b < p → C18.2 b = A.2 b := fun b hb => (o18 b (by omega)).trans (r17 b hb)
  have f18_x9 : C18.2 (p + 8) = some (ia X 240 (fun _ => 0)) := q18
  clear q18 o18 d18 c17 r17 f17_o f17_x2 f17_x3 f17_x4 f17_x5 f17_x6 f17_x7 f17_x8
  refine pV_i (k := 11) (v := .ref (p + 8)) f18_o (Nat.le_of_ble_eq_true rfl) ?_
  intro C19 d19 q19 o19
  have c19 : C19.1 = p + 9 := by omega
  have f19_x2 : C19.2 (p + 1) = some (ia X 240 (fun _ => 0)) := (o19 _ (by omega)).trans f18_x2
  have f19_x3 : C19.2 (p + 2) = some (ia X 240 (fun _ => 0)) := (o19 _ (by omega)).trans f18_x3
  have f19_x4 : C19.2 (p + 3) = some (ia X 60 (fun _ => 0)) := (o19 _ (by omega)).trans f18_x4
  have f19_x5 : C19.2 (p + 4) = some (ia X 61 (fun _ => 0)) := (o19 _ (by omega)).trans f18_x5
  have f19_x6 : C19.2 (p + 5) = some (ia X 61 (fun _ => 0)) := (o19 _ (by omega)).trans f18_x6
  have f19_x7 : C19.2 (p + 6) = some (ia X 241 (fun _ => 0)) := (o19 _ (by omega)).trans f18_x7
  have f19_x8 : C19.2 (p + 7) = some (ia X 240 (fun _ => 0)) := (o19 _ (by omega)).trans f18_x8
  have f19_x9 : C19.2 (p + 8) = some (ia X 240 (fun _ => 0)) := (o19 _ (by omega)).trans f18_x9
  have r19 : ∀ b, b < p → C19.2 b = A.2 b := fun b hb => (o19 b (by omega)).trans (r18 b hb)
  have f19_o : C19.2 (p) = some (ob 4 [.int 0, .int 3, .int 0, .int 0, .ref (p + 1), .ref (p + 2), .ref (p + 3), .ref (p + 4), .ref (p + 5), .ref (p + 6), .ref (p + 7), .ref (p + 8), .null, .int 0, .null, .int 0]) := q19
  clear q19 o19 d19 c18 r18 f18_o f18_x2 f18_x3 f18_x4 f18_x5 f18_x6 f18_x7 f18_x8 f18_x9
  refine mkA_i (b := p + 9) (n := 36) c19 (by decide) (by decide) (by decide) (by decide) ?_
  intro C20 d20 q20 o20
  have c20 : C20.1 = p + 10 := by omega
  have f20_o : C20.2 (p) = some (ob 4 [.int 0, .int 3, .int 0, .int 0, .ref (p + 1), .ref (p + 2), .ref (p + 3), .ref (p + 4), .ref (p + 5), .ref (p + 6), .ref (p + 7), .ref (p + 8), .null, .int 0, .null, .int 0]) := (o20 _ (by omega)).trans f19_o
  have f20_x2 : C20.2 (p + 1) = some (ia X 240 (fun _ => 0)) := (o20 _ (by omega)).trans f19_x2
  have f20_x3 : C20.2 (p + 2) = some (ia X 240 (fun _ => 0)) := (o20 _ (by omega)).trans f19_x3
  have f20_x4 : C20.2 (p + 3) = some (ia X 60 (fun _ => 0)) := (o20 _ (by omega)).trans f19_x4
  have f20_x5 : C20.2 (p + 4) = some (ia X 61 (fun _ => 0)) := (o20 _ (by omega)).trans f19_x5
  have f20_x6 : C20.2 (p + 5) = some (ia X 61 (fun _ => 0)) := (o20 _ (by omega)).trans f19_x6
  have f20_x7 : C20.2 (p + 6) = some (ia X 241 (fun _ => 0)) := (o20 _ (by omega)).trans f19_x7
  have f20_x8 : C20.2 (p + 7) = some (ia X 240 (fun _ => 0)) := (o20 _ (by omega)).trans f19_x8
  have f20_x9 : C20.2 (p + 8) = some (ia X 240 (fun _ => 0)) := (o20 _ (by omega)).trans f19_x9
  have r20 : ∀ b, b < p → C20.2 b = A.2 b := fun b hb => (o20 b (by omega)).trans (r19 b hb)
  have f20_x10 : C20.2 (p + 9) = some (ia X 36 (fun _ => 0)) := q20
  clear q20 o20 d20 c19 r19 f19_o f19_x2 f19_x3 f19_x4 f19_x5 f19_x6 f19_x7 f19_x8 f19_x9
  refine pV_i (k := 12) (v := .ref (p + 9)) f20_o (Nat.le_of_ble_eq_true rfl) ?_
  intro C21 d21 q21 o21
  have c21 : C21.1 = p + 10 := by omega
  have f21_x2 : C21.2 (p + 1) = some (ia X 240 (fun _ => 0)) := (o21 _ (by omega)).trans f20_x2
  have f21_x3 : C21.2 (p + 2) = some (ia X 240 (fun _ => 0)) := (o21 _ (by omega)).trans f20_x3
  have f21_x4 : C21.2 (p + 3) = some (ia X 60 (fun _ => 0)) := (o21 _ (by omega)).trans f20_x4
  have f21_x5 : C21.2 (p + 4) = some (ia X 61 (fun _ => 0)) := (o21 _ (by omega)).trans f20_x5
  have f21_x6 : C21.2 (p + 5) = some (ia X 61 (fun _ => 0)) := (o21 _ (by omega)).trans f20_x6
  have f21_x7 : C21.2 (p + 6) = some (ia X 241 (fun _ => 0)) := (o21 _ (by omega)).trans f20_x7
  have f21_x8 : C21.2 (p + 7) = some (ia X 240 (fun _ => 0)) := (o21 _ (by omega)).trans f20_x8
  have f21_x9 : C21.2 (p + 8) = some (ia X 240 (fun _ => 0)) := (o21 _ (by omega)).trans f20_x9
  have f21_x10 : C21.2 (p + 9) = some (ia X 36 (fun _ => 0)) := (o21 _ (by omega)).trans f20_x10
  have r21 : ∀ b, b < p → C21.2 b = A.2 b := fun b hb => (o21 b (by omega)).trans (r20 b hb)
  have f21_o : C21.2 (p) = some (ob 4 [.int 0, .int 3, .int 0, .int 0, .ref (p + 1), .ref (p + 2), .ref (p + 3), .ref (p + 4), .ref (p + 5), .ref (p + 6), .ref (p + 7), .ref (p + 8), .ref (p + 9), .int 0, .null, .int 0]) := q21
  clear q21 o21 d21 c20 r20 f20_o f20_x2 f20_x3 f20_x4 f20_x5 f20_x6 f20_x7 f20_x8 f20_x9 f20_x10
  refine pV_i (k := 13) (v := .int 0) f21_o (Nat.le_of_ble_eq_true rfl) ?_
  intro C22 d22 q22 o22
  have c22 : C22.1 = p + 10 := by omega
  have f22_x2 : C22.2 (p + 1) = some (ia X 240 (fun _ => 0)) := (o22 _ (by omega)).trans f21_x2
  have f22_x3 : C22.2 (p + 2) = some (ia X 240 (fun _ => 0)) := (o22 _ (by omega)).trans f21_x3
  have f22_x4 : C22.2 (p + 3) = some (ia X 60 (fun _ => 0)) := (o22 _ (by omega)).trans f21_x4
  have f22_x5 : C22.2 (p + 4) = some (ia X 61 (fun _ => 0)) := (o22 _ (by omega)).trans f21_x5
  have f22_x6 : C22.2 (p + 5) = some (ia X 61 (fun _ => 0)) := (o22 _ (by omega)).trans f21_x6
  have f22_x7 : C22.2 (p + 6) = some (ia X 241 (fun _ => 0)) := (o22 _ (by omega)).trans f21_x7
  have f22_x8 : C22.2 (p + 7) = some (ia X 240 (fun _ => 0)) := (o22 _ (by omega)).trans f21_x8
  have f22_x9 : C22.2 (p + 8) = some (ia X 240 (fun _ => 0)) := (o22 _ (by omega)).trans f21_x9
  have f22_x10 : C22.2 (p + 9) = some (ia X 36 (fun _ => 0)) := (o22 _ (by omega)).trans f21_x10
  have r22 : ∀ b, b < p → C22.2 b = A.2 b := fun b hb => (o22 b (by omega)).trans (r21 b hb)
  have f22_o : C22.2 (p) = some (ob 4 [.int 0, .int 3, .int 0, .int 0, .ref (p + 1), .ref (p + 2), .ref (p + 3), .ref (p + 4), .ref (p + 5), .ref (p + 6), .ref (p + 7), .ref (p + 8), .ref (p + 9), .int 0, .null, .int 0]) := q22
  clear q22 o22 d22 c21 r21 f21_o f21_x2 f21_x3 f21_x4 f21_x5 f21_x6 f21_x7 f21_x8 f21_x9 f21_x10
  refine mkA_i (b := p + 10) (n := 16) c22 (by decide) (by decide) (by decide) (by decide) ?_
  intro C23 d23 q23 o23
  have c23 : C23.1 = p + 11 := by omega
  have f23_o : C23.2 (p) = some (ob 4 [.int 0, .int 3, .int 0, .int 0, .ref (p + 1), .ref (p + 2), .ref (p + 3), .ref (p + 4), .ref (p + 5), .ref (p + 6), .ref (p + 7), .ref (p + 8), .ref (p + 9), .int 0, .null, .int 0]) := (o23 _ (by omega)).trans f22_o
  have f23_x2 : C23.2 (p + 1) = some (ia X 240 (fun _ => 0)) := (o23 _ (by omega)).trans f22_x2
  have f23_x3 : C23.2 (p + 2) = some (ia X 240 (fun _ => 0)) := (o23 _ (by omega)).trans f22_x3
  have f23_x4 : C23.2 (p + 3) = some (ia X 60 (fun _ => 0)) := (o23 _ (by omega)).trans f22_x4
  have f23_x5 : C23.2 (p + 4) = some (ia X 61 (fun _ => 0)) := (o23 _ (by omega)).trans f22_x5
  have f23_x6 : C23.2 (p + 5) = some (ia X 61 (fun _ => 0)) := (o23 _ (by omega)).trans f22_x6
  have f23_x7 : C23.2 (p + 6) = some (ia X 241 (fun _ => 0)) := (o23 _ (by omega)).trans f22_x7
  have f23_x8 : C23.2 (p + 7) = some (ia X 240 (fun _ => 0)) := (o23 _ (by omega)).trans f22_x8
  have f23_x9 : C23.2 (p + 8) = some (ia X 240 (fun _ => 0)) := (o23 _ (by omega)).trans f22_x9
  have f23_x10 : C23.2 (p + 9) = some (ia X 36 (fun _ => 0)) := (o23 _ (by omega)).trans f22_x10
  have r23 : ∀ b, b < p → C23.2 b = A.2 b := fun b hb => (o23 b (by omega)).trans (r22 b hb)
  have f23_x11 : C23.2 (p + 10) = some (ia X 16 (fun _ => 0)) := q23
  clear q23 o23 d23 c22 r22 f22_o f22_x2 f22_x3 f22_x4 f22_x5 f22_x6 f22_x7 f22_x8 f22_x9 f22_x10
  refine pV_i (k := 14) (v := .ref (p + 10)) f23_o (Nat.le_of_ble_eq_true rfl) ?_
  intro C24 d24 q24 o24
  have c24 : C24.1 = p + 11 := by omega
  have f24_x2 : C24.2 (p + 1) = some (ia X 240 (fun _ => 0)) := (o24 _ (by omega)).trans f23_x2
  have f24_x3 : C24.2 (p + 2) = some (ia X 240 (fun _ => 0)) := (o24 _ (by omega)).trans f23_x3
  have f24_x4 : C24.2 (p + 3) = some (ia X 60 (fun _ => 0)) := (o24 _ (by omega)).trans f23_x4
  have f24_x5 : C24.2 (p + 4) = some (ia X 61 (fun _ => 0)) := (o24 _ (by omega)).trans f23_x5
  have f24_x6 : C24.2 (p + 5) = some (ia X 61 (fun _ => 0)) := (o24 _ (by omega)).trans f23_x6
  have f24_x7 : C24.2 (p + 6) = some (ia X 241 (fun _ => 0)) := (o24 _ (by omega)).trans f23_x7
  have f24_x8 : C24.2 (p + 7) = some (ia X 240 (fun _ => 0)) := (o24 _ (by omega)).trans f23_x8
  have f24_x9 : C24.2 (p + 8) = some (ia X 240 (fun _ => 0)) := (o24 _ (by omega)).trans f23_x9
  have f24_x10 : C24.2 (p + 9) = some (ia X 36 (fun _ => 0)) := (o24 _ (by omega)).trans f23_x10
  have f24_x11 : C24.2 (p + 10) = some (ia X 16 (fun _ => 0)) := (o24 _ (by omega)).trans f23_x11
  have r24 : ∀ b, b < p → C24.2 b = A.2 b := fun b hb => (o24 b (by omega)).trans (r23 b hb)
  have f24_o : C24.2 (p) = some (ob 4 [.int 0, .int 3, .int 0, .int 0, .ref (p + 1), .ref (p + 2), .ref (p + 3), .ref (p + 4), .ref (p + 5), .ref (p + 6), .ref (p + 7), .ref (p + 8), .ref (p + 9), .int 0, .ref (p + 10), .int 0]) := q24
  clear q24 o24 d24 c23 r23 f23_o f23_x2 f23_x3 f23_x4 f23_x5 f23_x6 f23_x7 f23_x8 f23_x9 f23_x10 f23_x11
  refine pV_i (k := 15) (v := .int 0) f24_o (Nat.le_of_ble_eq_true rfl) ?_
  intro C25 d25 q25 o25
  have c25 : C25.1 = p + 11 := by omega
  have f25_x2 : C25.2 (p + 1) = some (ia X 240 (fun _ => 0)) := (o25 _ (by omega)).trans f24_x2
  have f25_x3 : C25.2 (p + 2) = some (ia X 240 (fun _ => 0)) := (o25 _ (by omega)).trans f24_x3
  have f25_x4 : C25.2 (p + 3) = some (ia X 60 (fun _ => 0)) := (o25 _ (by omega)).trans f24_x4
  have f25_x5 : C25.2 (p + 4) = some (ia X 61 (fun _ => 0)) := (o25 _ (by omega)).trans f24_x5
  have f25_x6 : C25.2 (p + 5) = some (ia X 61 (fun _ => 0)) := (o25 _ (by omega)).trans f24_x6
  have f25_x7 : C25.2 (p + 6) = some (ia X 241 (fun _ => 0)) := (o25 _ (by omega)).trans f24_x7
  have f25_x8 : C25.2 (p + 7) = some (ia X 240 (fun _ => 0)) := (o25 _ (by omega)).trans f24_x8
  have f25_x9 : C25.2 (p + 8) = some (ia X 240 (fun _ => 0)) := (o25 _ (by omega)).trans f24_x9
  have f25_x10 : C25.2 (p + 9) = some (ia X 36 (fun _ => 0)) := (o25 _ (by omega)).trans f24_x10
  have f25_x11 : C25.2 (p + 10) = some (ia X 16 (fun _ => 0)) := (o25 _ (by omega)).trans f24_x11
  have r25 : ∀ b, b < p → C25.2 b = A.2 b := fun b hb => (o25 b (by omega)).trans (r24 b hb)
  have f25_o : C25.2 (p) = some (ob 4 [.int 0, .int 3, .int 0, .int 0, .ref (p + 1), .ref (p + 2), .ref (p + 3), .ref (p + 4), .ref (p + 5), .ref (p + 6), .ref (p + 7), .ref (p + 8), .ref (p + 9), .int 0, .ref (p + 10), .int 0]) := q25
  clear q25 o25 d25 c24 r24 f24_o f24_x2 f24_x3 f24_x4 f24_x5 f24_x6 f24_x7 f24_x8 f24_x9 f24_x10 f24_x11
  refine pV_i (k := 0) (v := .int (I (r 0))) f25_o (Nat.le_of_ble_eq_true rfl) ?_
  intro C26 d26 q26 o26
  have c26 : C26.1 = p + 11 := by omega
  have f26_x2 : C26.2 (p + 1) = some (ia X 240 (fun _ => 0)) := (o26 _ (by omega)).trans f25_x2
  have f26_x3 : C26.2 (p + 2) = some (ia X 240 (fun _ => 0)) := (o26 _ (by omega)).trans f25_x3
  have f26_x4 : C26.2 (p + 3) = some (ia X 60 (fun _ => 0)) := (o26 _ (by omega)).trans f25_x4
  have f26_x5 : C26.2 (p + 4) = some (ia X 61 (fun _ => 0)) := (o26 _ (by omega)).trans f25_x5
  have f26_x6 : C26.2 (p + 5) = some (ia X 61 (fun _ => 0)) := (o26 _ (by omega)).trans f25_x6
  have f26_x7 : C26.2 (p + 6) = some (ia X 241 (fun _ => 0)) := (o26 _ (by omega)).trans f25_x7
  have f26_x8 : C26.2 (p + 7) = some (ia X 240 (fun _ => 0)) := (o26 _ (by omega)).trans f25_x8
  have f26_x9 : C26.2 (p + 8) = some (ia X 240 (fun _ => 0)) := (o26 _ (by omega)).trans f25_x9
  have f26_x10 : C26.2 (p + 9) = some (ia X 36 (fun _ => 0)) := (o26 _ (by omega)).trans f25_x10
  have f26_x11 : C26.2 (p + 10) = some (ia X 16 (fun _ => 0)) := (o26 _ (by omega)).trans f25_x11
  have r26 : ∀ b, b < p → C26.2 b = A.2 b := fun b hb => (o26 b (by omega)).trans (r25 b hb)
  have f26_o : C26.2 (p) = some (ob 4 [.int (I (r 0)), .int 3, .int 0, .int 0, .ref (p + 1), .ref (p + 2), .ref (p + 3), .ref (p + 4), .ref (p + 5), .ref (p + 6), .ref (p + 7), .ref (p + 8), .ref (p + 9), .int 0, .ref (p + 10), .int 0]) := q26
  clear q26 o26 d26 c25 r25 f25_o f25_x2 f25_x3 f25_x4 f25_x5 f25_x6 f25_x7 f25_x8 f25_x9 f25_x10 f25_x11
  have hP : PlanAt X C26 p (fun j k => if j = 10 then (if k = 0 then r 0 else if k = 1 then 3 else 0) else 0) := ⟨f26_o, f26_x2, f26_x3, f26_x4, f26_x5, f26_x6, f26_x7, f26_x8, f26_x9, f26_x10, f26_x11⟩
  obtain ⟨B, hB⟩ : ∃ B, B = C26 := ⟨_, rfl⟩
  have eC : C26 = pp X p B (fun j k => if j = 10 then (if k = 0 then r 0 else if k = 1 then 3 else 0) else 0) := by rw [hB]; exact (pp_of hP).symm
  show G l X M_X3_init 3 Q 122 _ _ C26 _ _
  rw [eC]
  exact places B _ _ _ (by rw [hB]; exact c26) (by rw [hB]; exact r26) ⟨rfl, h4.symm, rfl, rfl, rfl, rfl⟩
end CQ
