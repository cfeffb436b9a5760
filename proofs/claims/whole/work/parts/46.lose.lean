/-! the class: loseAll, begin -/
def kLa (r : Int → Int) (D : Nat → Int → Int) : Nat → Int → Int := st (st (st (sw (sw (sw D 1 (cpy (D 1) (fun _ => -1) 0 0 240)) 3 (cpy (D 3) (fun _ => 0) 0 0 60)) 2 (cpy (D 2) (gPo r) 0 0 (gN r))) 10 5 (gT r)) 10 6 0) 10 7 0
theorem kLa_j {r : Int → Int} {D : Nat → Int → Int} {j : Nat} (h1 : j ≠ 1) (h2 : j ≠ 2) (h3 : j ≠ 3) (h : j ≠ 10) : kLa r D j = D j := by
  unfold kLa
  rw [st_row h, st_row h, st_row h, sw_j h2, sw_j h3, sw_j h1]
theorem kLa_y {r : Int → Int} {D : Nat → Int → Int} {y : Int} (h5 : y ≠ 5) (h6 : y ≠ 6) (h7 : y ≠ 7) : kLa r D 10 y = D 10 y := by
  unfold kLa
  rw [st_k h7, st_k h6, st_k h5, sw_j (by decide), sw_j (by decide), sw_j (by decide)]
/-- a row of which every part is missing -/
theorem DR_la {D : Nat → Int → Int} {q : Int → Int} (g : GW q) (hz : ∀ p, 0 ≤ p → p < gT q → q (96 + p) = 0)
    (h5 : D 10 8 = q 5 ∧ D 10 9 = q 6 ∧ D 10 10 = q 8 ∧ D 10 14 = q 13 ∧ D 11 3 = q 7) (h6 : ∀ s, 0 ≤ s → s ≤ 1 → D 4 s = q (14 + s) ∧ D 5 s = q (16 + s) ∧ D 6 s = q (18 + s))
    (h7 : ∀ j, 0 ≤ j → j < 40 → j < q 7 → D 7 j = q (576 + 3 * j) ∧ D 8 j = q (576 + 3 * j + 1) ∧ D 9 j = q (576 + 3 * j + 2)) (h8 : ∀ k, 0 ≤ k → k < 240 → 0 ≤ D 0 k ∧ D 0 k ≤ 255) : DR (kLa q D) q := by
  obtain ⟨t1, t2⟩ := gT_b g
  obtain ⟨n1, n2, n3⟩ := gN_b g
  have lg := g.2.1
  have hM : ∀ k, 0 ≤ k → k < gN q → gMi q k = gPo q k := fun k k0 k1 => by
    obtain ⟨f1, f2⟩ := gF_b g k0 k1
    obtain ⟨p1, -⟩ := gPo_b g k0 k1
    have := (sg_all (f := fun j => bi (q (96 + (gF q k + j)) = 0)) (gPo q k).toNat fun j _ => bi_b).mpr fun j hj => bi_t (hz _ (by omega) (by omega))
    unfold gMi
    omega
  have hV : ∀ k, 0 ≤ k → k < gN q → gV q k = 0 := fun k k0 k1 => by
    obtain ⟨p1, -⟩ := gPo_b g k0 k1
    have := hM k k0 k1
    exact if_pos (by omega)
  have hMs : gMs q = gT q := by
    have := (sg_all (f := fun j => bi (q (96 + j) = 0)) (gT q).toNat fun j _ => bi_b).mpr fun j hj => bi_t (hz _ (by omega) (by omega))
    unfold gMs
    omega
  have hIn : ∀ v : Int, v ≠ 0 → sg (fun k => if (0 : Int) ≤ k ∧ k < 0 then 0 else bi (gV q k = v)) (gN q).toNat = 0 := fun v hv => by
    have hh : ∀ n : Nat, (n : Int) ≤ gN q → sg (fun k => if (0 : Int) ≤ k ∧ k < 0 then 0 else bi (gV q k = v)) n = 0 := by
      intro n
      induction n with
      | zero => intro _; rfl
      | succ n ih =>
        intro hn
        rw [sg_s, ih (by omega), if_neg (by omega), hV n (by omega) (by omega), bi_f (Ne.symm hv)]
        rfl
    exact hh _ (by omega)
  have r1 : kLa q D 1 = cpy (D 1) (fun _ => -1) 0 0 240 := by
    unfold kLa
    rw [st_row (by decide), st_row (by decide), st_row (by decide), sw_j (by decide), sw_j (by decide), sw_i]
  have r2 : kLa q D 2 = cpy (D 2) (gPo q) 0 0 (gN q) := by
    unfold kLa
    rw [st_row (by decide), st_row (by decide), st_row (by decide), sw_i]
  have r3 : kLa q D 3 = cpy (D 3) (fun _ => 0) 0 0 60 := by
    unfold kLa
    rw [st_row (by decide), st_row (by decide), st_row (by decide), sw_j (by decide), sw_i]
  refine ⟨?_, ?_, ?_, ⟨?_, ?_, ?_⟩, ?_, ?_, ?_, ?_⟩
  · intro p p0 p1 hp
    exact absurd (hz p p0 p1) hp
  · intro p p0 p1
    rw [hz p p0 p1, r1, cpy_in _ _ _ _ p0 (by omega)]
    rfl
  · intro k k0 k1
    rw [r2, r3, cpy_in _ _ _ _ k0 k1, cpy_in _ _ _ _ k0 (by omega), hM k k0 k1, if_neg (by omega), hV k k0 k1]
    exact ⟨rfl, rfl⟩
  · rw [hMs]
    unfold kLa
    rw [st_k (by decide), st_k (by decide), st_eq]
  · rw [hIn 1 (by decide)]
    unfold kLa
    rw [st_k (by decide), st_eq]
  · rw [hIn 2 (by decide)]
    unfold kLa
    rw [st_eq]
  · rw [kLa_y (by decide) (by decide) (by decide), kLa_y (by decide) (by decide) (by decide), kLa_y (by decide) (by decide) (by decide), kLa_y (by decide) (by decide) (by decide), kLa_j (by decide) (by decide) (by decide) (by decide)]
    exact h5
  · rw [kLa_j (by decide) (by decide) (by decide) (by decide), kLa_j (by decide) (by decide) (by decide) (by decide), kLa_j (by decide) (by decide) (by decide) (by decide)]
    exact h6
  · rw [kLa_j (by decide) (by decide) (by decide) (by decide), kLa_j (by decide) (by decide) (by decide) (by decide), kLa_j (by decide) (by decide) (by decide) (by decide)]
    exact h7
  · rw [kLa_j (by decide) (by decide) (by decide) (by decide)]
    exact h8
section CL
variable {l : Launch} {X : XT} {A B : AH} {a p : Nat} {D P : Nat → Int → Int} {r : Int → Int}
theorem c_X1_loseAll (hl : l.stackTraces = false) (hd : p + 10 < a ∨ a + 12 < p) (hP : PlanAt X B p P) (hR : PR P r) (g : GW r) : Fn l X 2 M_X1_loseAll [.ref a] (dp X a p B D) 0 0 Rv (dp X a p B (kLa r D)) := by
  obtain ⟨t1, t2⟩ := gT_b g
  obtain ⟨n1, n2, n3⟩ := gN_b g
  have hp := fun D => dp_pl (D := D) hd hP
  obtain ⟨q1, q2, q3, q4, q5, q6⟩ := hR.1
  refine Fn.of hl rfl rfl (Nat.le_of_ble_eq_true rfl) (k_X1_loseAll_0 ?_)
  simp (disch := omega) only [true_implies, false_implies, not_true_eq_false, not_false_eq_true, I_n, I_neg, I_add, I_sub, I_mul, I_le4, I_lt4, I_eq4, I_div4, I_bi0, I_bi01, I_bi1, nor_em, rI_of, rV_of, zI_of, zV_of, nz_and, br_T, br_F, br_T2, br_F2, st_eq, st9_0, st_k, st_i, true_and, and_true, Classical.not_not, or_true, true_or, or_false, false_or, rR_of, dp_gI5, dp_gI6, dp_gI7, dp_gI8, dp_gI9, dp_gI10, dp_gI14, dp_pI5, dp_pI6, dp_pI7, dp_pI8, dp_pI9, dp_pI10, dp_pI14, dp_gR0, dp_gR1, dp_gR2, dp_gR3, dp_gR4, dp_gR11, dp_gR12, dp_gR13, dp_gR15, dp_gR16, dp_gA3, dp_pA3, dp_gAR0, dp_gAR1, dp_gAR2, dp_isO, dp_isA]
  refine (fi_d1 hl).cl0 (by decide) ?_
  simp (disch := omega) only [true_implies, false_implies, not_true_eq_false, not_false_eq_true, I_n, I_neg, I_add, I_sub, I_mul, I_le4, I_lt4, I_eq4, I_div4, I_bi0, I_bi01, I_bi1, nor_em, rI_of, rV_of, zI_of, zV_of, nz_and, br_T, br_F, br_T2, br_F2, st_eq, st9_0, st_k, st_i, true_and, and_true, Classical.not_not, or_true, true_or, or_false, false_or, rR_of, dp_gI5, dp_gI6, dp_gI7, dp_gI8, dp_gI9, dp_gI10, dp_gI14, dp_pI5, dp_pI6, dp_pI7, dp_pI8, dp_pI9, dp_pI10, dp_pI14, dp_gR0, dp_gR1, dp_gR2, dp_gR3, dp_gR4, dp_gR11, dp_gR12, dp_gR13, dp_gR15, dp_gR16, dp_gA3, dp_pA3, dp_gAR0, dp_gAR1, dp_gAR2, dp_isO, dp_isA]
  refine (fi_d3 hl).cl0 (by decide) ?_
  simp (disch := omega) only [true_implies, false_implies, not_true_eq_false, not_false_eq_true, I_n, I_neg, I_add, I_sub, I_mul, I_le4, I_lt4, I_eq4, I_div4, I_bi0, I_bi01, I_bi1, nor_em, rI_of, rV_of, zI_of, zV_of, nz_and, br_T, br_F, br_T2, br_F2, st_eq, st9_0, st_k, st_i, true_and, and_true, Classical.not_not, or_true, true_or, or_false, false_or, rR_of, dp_gI5, dp_gI6, dp_gI7, dp_gI8, dp_gI9, dp_gI10, dp_gI14, dp_pI5, dp_pI6, dp_pI7, dp_pI8, dp_pI9, dp_pI10, dp_pI14, dp_gR0, dp_gR1, dp_gR2, dp_gR3, dp_gR4, dp_gR11, dp_gR12, dp_gR13, dp_gR15, dp_gR16, dp_gA3, dp_pA3, dp_gAR0, dp_gAR1, dp_gAR2, dp_isO, dp_isA]
  rw [sw_j (show (3 : Nat) ≠ 1 by decide)]
  obtain ⟨E, hE⟩ : ∃ E, E = sw (sw D 1 (cpy (D 1) (fun _ => -1) 0 0 240)) 3 (cpy (D 3) (fun _ => 0) 0 0 60) := ⟨_, rfl⟩
  have hE2 : D 2 = E 2 := by
    rw [hE, sw_j (by decide), sw_j (by decide)]
  have hk : kLa r D = st (st (st (sw E 2 (cpy (E 2) (gPo r) 0 0 (gN r))) 10 5 (gT r)) 10 6 0) 10 7 0 := by
    rw [← hE2, hE]
    rfl
  rw [hk, ← hE]
  have e0 : dp X a p B E = dp X a p B (sw E 2 (cpy (E 2) (gPo r) 0 0 ((0 : Nat) : Int))) := by rw [show ((0 : Nat) : Int) = 0 from rfl, cpy_z, sw_self]
  rw [e0]
  refine up_to (n := (gN r).toNat) (P := fun j => G l X M_X1_loseAll 2 (fun o' A1 => o' = Rv ∧ A1 = dp X a p B (st (st (st (sw E 2 (cpy (E 2) (gPo r) 0 0 (gN r))) 10 5 (gT r)) 10 6 0) 10 7 0)) 18 [(0, .ref a), (1, .int (I (j : Int)))] [] (dp X a p B (sw E 2 (cpy (E 2) (gPo r) 0 0 (j : Int)))) 0 0) ?_ ?_
  · rw [show (((gN r).toNat : Nat) : Int) = gN r by omega]
    refine k_X1_loseAll_18 ?_
    simp (disch := omega) only [true_implies, false_implies, not_true_eq_false, not_false_eq_true, I_n, I_neg, I_add, I_sub, I_mul, I_le4, I_lt4, I_eq4, I_div4, I_bi0, I_bi01, I_bi1, nor_em, rI_of, rV_of, zI_of, zV_of, nz_and, br_T, br_F, br_T2, br_F2, st_eq, st9_0, st_k, st_i, true_and, and_true, Classical.not_not, or_true, true_or, or_false, false_or, rR_of, dp_gI5, dp_gI6, dp_gI7, dp_gI8, dp_gI9, dp_gI10, dp_gI14, dp_pI5, dp_pI6, dp_pI7, dp_pI8, dp_pI9, dp_pI10, dp_pI14, dp_gR0, dp_gR1, dp_gR2, dp_gR3, dp_gR4, dp_gR11, dp_gR12, dp_gR13, dp_gR15, dp_gR16, dp_gA3, dp_pA3, dp_gAR0, dp_gAR1, dp_gAR2, dp_isO, dp_isA]
    rw [(hp _).g2, q3]
    simp (disch := omega) only [true_implies, false_implies, not_true_eq_false, not_false_eq_true, I_n, I_neg, I_add, I_sub, I_mul, I_le4, I_lt4, I_eq4, I_div4, I_bi0, I_bi01, I_bi1, nor_em, rI_of, rV_of, zI_of, zV_of, nz_and, br_T, br_F, br_T2, br_F2, st_eq, st9_0, st_k, st_i, true_and, and_true, Classical.not_not, or_true, true_or, or_false, false_or, rR_of, dp_gI5, dp_gI6, dp_gI7, dp_gI8, dp_gI9, dp_gI10, dp_gI14, dp_pI5, dp_pI6, dp_pI7, dp_pI8, dp_pI9, dp_pI10, dp_pI14, dp_gR0, dp_gR1, dp_gR2, dp_gR3, dp_gR4, dp_gR11, dp_gR12, dp_gR13, dp_gR15, dp_gR16, dp_gA3, dp_pA3, dp_gAR0, dp_gAR1, dp_gAR2, dp_isO, dp_isA]
    rw [(hp _).g3, q4]
    simp (disch := omega) only [true_implies, false_implies, not_true_eq_false, not_false_eq_true, I_n, I_neg, I_add, I_sub, I_mul, I_le4, I_lt4, I_eq4, I_div4, I_bi0, I_bi01, I_bi1, nor_em, rI_of, rV_of, zI_of, zV_of, nz_and, br_T, br_F, br_T2, br_F2, st_eq, st9_0, st_k, st_i, true_and, and_true, Classical.not_not, or_true, true_or, or_false, false_or, rR_of, dp_gI5, dp_gI6, dp_gI7, dp_gI8, dp_gI9, dp_gI10, dp_gI14, dp_pI5, dp_pI6, dp_pI7, dp_pI8, dp_pI9, dp_pI10, dp_pI14, dp_gR0, dp_gR1, dp_gR2, dp_gR3, dp_gR4, dp_gR11, dp_gR12, dp_gR13, dp_gR15, dp_gR16, dp_gA3, dp_pA3, dp_gAR0, dp_gAR1, dp_gAR2, dp_isO, dp_isA]
    all_goals first | rfl | exact ⟨rfl, rfl⟩
  · intro j hj ih
    refine k_X1_loseAll_18 ?_
    simp (disch := omega) only [true_implies, false_implies, not_true_eq_false, not_false_eq_true, I_n, I_neg, I_add, I_sub, I_mul, I_le4, I_lt4, I_eq4, I_div4, I_bi0, I_bi01, I_bi1, nor_em, rI_of, rV_of, zI_of, zV_of, nz_and, br_T, br_F, br_T2, br_F2, st_eq, st9_0, st_k, st_i, true_and, and_true, Classical.not_not, or_true, true_or, or_false, false_or, rR_of, dp_gI5, dp_gI6, dp_gI7, dp_gI8, dp_gI9, dp_gI10, dp_gI14, dp_pI5, dp_pI6, dp_pI7, dp_pI8, dp_pI9, dp_pI10, dp_pI14, dp_gR0, dp_gR1, dp_gR2, dp_gR3, dp_gR4, dp_gR11, dp_gR12, dp_gR13, dp_gR15, dp_gR16, dp_gA3, dp_pA3, dp_gAR0, dp_gAR1, dp_gAR2, dp_isO, dp_isA]
    rw [(hp _).g2, q3]
    simp (disch := omega) only [true_implies, false_implies, not_true_eq_false, not_false_eq_true, I_n, I_neg, I_add, I_sub, I_mul, I_le4, I_lt4, I_eq4, I_div4, I_bi0, I_bi01, I_bi1, nor_em, rI_of, rV_of, zI_of, zV_of, nz_and, br_T, br_F, br_T2, br_F2, st_eq, st9_0, st_k, st_i, true_and, and_true, Classical.not_not, or_true, true_or, or_false, false_or, rR_of, dp_gI5, dp_gI6, dp_gI7, dp_gI8, dp_gI9, dp_gI10, dp_gI14, dp_pI5, dp_pI6, dp_pI7, dp_pI8, dp_pI9, dp_pI10, dp_pI14, dp_gR0, dp_gR1, dp_gR2, dp_gR3, dp_gR4, dp_gR11, dp_gR12, dp_gR13, dp_gR15, dp_gR16, dp_gA3, dp_pA3, dp_gAR0, dp_gAR1, dp_gAR2, dp_isO, dp_isA]
    refine ⟨(hp _).isO, (c_X3_partsOf hl (hp _) hR g (by omega) (by omega)).cl0 (by decide) ?_⟩
    simp (disch := omega) only [true_implies, false_implies, not_true_eq_false, not_false_eq_true, I_n, I_neg, I_add, I_sub, I_mul, I_le4, I_lt4, I_eq4, I_div4, I_bi0, I_bi01, I_bi1, nor_em, rI_of, rV_of, zI_of, zV_of, nz_and, br_T, br_F, br_T2, br_F2, st_eq, st9_0, st_k, st_i, true_and, and_true, Classical.not_not, or_true, true_or, or_false, false_or, rR_of, dp_gI5, dp_gI6, dp_gI7, dp_gI8, dp_gI9, dp_gI10, dp_gI14, dp_pI5, dp_pI6, dp_pI7, dp_pI8, dp_pI9, dp_pI10, dp_pI14, dp_gR0, dp_gR1, dp_gR2, dp_gR3, dp_gR4, dp_gR11, dp_gR12, dp_gR13, dp_gR15, dp_gR16, dp_gA3, dp_pA3, dp_gAR0, dp_gAR1, dp_gAR2, dp_isO, dp_isA]
    refine (put_d2 hl (by omega) (by omega)).cl0 (by decide) ?_
    simp (disch := omega) only [true_implies, false_implies, not_true_eq_false, not_false_eq_true, I_n, I_neg, I_add, I_sub, I_mul, I_le4, I_lt4, I_eq4, I_div4, I_bi0, I_bi01, I_bi1, nor_em, rI_of, rV_of, zI_of, zV_of, nz_and, br_T, br_F, br_T2, br_F2, st_eq, st9_0, st_k, st_i, true_and, and_true, Classical.not_not, or_true, true_or, or_false, false_or, rR_of, dp_gI5, dp_gI6, dp_gI7, dp_gI8, dp_gI9, dp_gI10, dp_gI14, dp_pI5, dp_pI6, dp_pI7, dp_pI8, dp_pI9, dp_pI10, dp_pI14, dp_gR0, dp_gR1, dp_gR2, dp_gR3, dp_gR4, dp_gR11, dp_gR12, dp_gR13, dp_gR15, dp_gR16, dp_gA3, dp_pA3, dp_gAR0, dp_gAR1, dp_gAR2, dp_isO, dp_isA]
    have e : st (sw E 2 (cpy (E 2) (gPo r) 0 0 (j : Int))) 2 (j : Int) (gPo r (j : Int)) = sw E 2 (cpy (E 2) (gPo r) 0 0 ((j + 1 : Nat) : Int)) := by
      have := cpy_s (r := E 2) (q := gPo r) (f := 0) (t := 0) (n := (j : Int)) (by omega)
      rw [Int.zero_add] at this
      rw [sw_st, sw_sw, sw_i, this]
      rfl
    rw [e]
    exact ih
theorem c_X1_begin (hl : l.stackTraces = false) {p0 : Nat} (h : DlA X A a p0 D) (hd : p + 10 < a ∨ a + 12 < p) (hP : PlanAt X A p P) (hR : PR P r) (g : GW r) (ha : a + 12 < A.1)
    {la : Nat} {n : Int} {gg : Nat → Option Nat} {m : Int32} (L : LST X A (a + 8) la n gg m) (hla : la < a ∨ a + 12 < la) (hlp : la < p ∨ p + 10 < la) (hE : xE X < a ∨ a + 12 < xE X) (hlp0 : la < A.1)
    (hz : ∀ p, 0 ≤ p → p < gT r → r (96 + p) = 0) (h5 : r 5 = 0 ∧ r 6 = 0 ∧ r 8 = 0 ∧ r 13 = 0 ∧ r 7 = 0) (h6 : r 14 = 1 ∧ r 15 = 1 ∧ r 16 = 0 ∧ r 17 = 0 ∧ r 18 = 0 ∧ r 19 = 0) (h8 : ∀ k, 0 ≤ k → k < 240 → 0 ≤ D 0 k ∧ D 0 k ≤ 255) :
    Ct l X 3 M_X1_begin [.ref a, .ref p] A 0 0 (fun o' A' => o' = Rv ∧ ∃ (F : Nat → Int → Int) (g' : Nat → Option Nat) (m' : Int32), DlA X A' a p F ∧ DR F r ∧ LST X A' (a + 8) la 0 g' m' ∧ A'.1 = A.1 ∧ ∀ b, (b < a ∨ a + 12 < b) → (b ≠ la ∨ la = xE X) → A'.2 b = A.2 b) := by
  obtain ⟨Q, hQ⟩ : ∃ Q : Ot → AH → Prop, Q = (fun o' A' => o' = Rv ∧ ∃ (F : Nat → Int → Int) (g' : Nat → Option Nat) (m' : Int32), DlA X A' a p F ∧ DR F r ∧ LST X A' (a + 8) la 0 g' m' ∧ A'.1 = A.1 ∧ ∀ b, (b < a ∨ a + 12 < b) → (b ≠ la ∨ la = xE X) → A'.2 b = A.2 b) := ⟨_, rfl⟩
  rw [← hQ]
  obtain ⟨B, hB⟩ : ∃ B, B = A := ⟨_, rfl⟩
  have eA : A = dp X a p0 B D := by rw [hB]; exact (dp_of h).symm
  refine Ct.of hl rfl rfl (Nat.le_of_ble_eq_true rfl) (k_X1_begin_0 ?_)
  rw [eA, dp_pR0]
  simp (disch := omega) only [true_implies, false_implies, not_true_eq_false, not_false_eq_true, I_n, I_neg, I_add, I_sub, I_mul, I_le4, I_lt4, I_eq4, I_div4, I_bi0, I_bi01, I_bi1, nor_em, rI_of, rV_of, zI_of, zV_of, nz_and, br_T, br_F, br_T2, br_F2, st_eq, st9_0, st_k, st_i, true_and, and_true, Classical.not_not, or_true, true_or, or_false, false_or, rR_of, dp_gI5, dp_gI6, dp_gI7, dp_gI8, dp_gI9, dp_gI10, dp_gI14, dp_pI5, dp_pI6, dp_pI7, dp_pI8, dp_pI9, dp_pI10, dp_pI14, dp_gR0, dp_gR1, dp_gR2, dp_gR3, dp_gR4, dp_gR11, dp_gR12, dp_gR13, dp_gR15, dp_gR16, dp_gA3, dp_pA3, dp_gAR0, dp_gAR1, dp_gAR2, dp_isO, dp_isA]
  refine (fi_d4 hl).cl0 (by decide) ?_
  simp (disch := omega) only [true_implies, false_implies, not_true_eq_false, not_false_eq_true, I_n, I_neg, I_add, I_sub, I_mul, I_le4, I_lt4, I_eq4, I_div4, I_bi0, I_bi01, I_bi1, nor_em, rI_of, rV_of, zI_of, zV_of, nz_and, br_T, br_F, br_T2, br_F2, st_eq, st9_0, st_k, st_i, true_and, and_true, Classical.not_not, or_true, true_or, or_false, false_or, rR_of, dp_gI5, dp_gI6, dp_gI7, dp_gI8, dp_gI9, dp_gI10, dp_gI14, dp_pI5, dp_pI6, dp_pI7, dp_pI8, dp_pI9, dp_pI10, dp_pI14, dp_gR0, dp_gR1, dp_gR2, dp_gR3, dp_gR4, dp_gR11, dp_gR12, dp_gR13, dp_gR15, dp_gR16, dp_gA3, dp_pA3, dp_gAR0, dp_gAR1, dp_gAR2, dp_isO, dp_isA]
  refine (fi_d5 hl).cl0 (by decide) ?_
  simp (disch := omega) only [true_implies, false_implies, not_true_eq_false, not_false_eq_true, I_n, I_neg, I_add, I_sub, I_mul, I_le4, I_lt4, I_eq4, I_div4, I_bi0, I_bi01, I_bi1, nor_em, rI_of, rV_of, zI_of, zV_of, nz_and, br_T, br_F, br_T2, br_F2, st_eq, st9_0, st_k, st_i, true_and, and_true, Classical.not_not, or_true, true_or, or_false, false_or, rR_of, dp_gI5, dp_gI6, dp_gI7, dp_gI8, dp_gI9, dp_gI10, dp_gI14, dp_pI5, dp_pI6, dp_pI7, dp_pI8, dp_pI9, dp_pI10, dp_pI14, dp_gR0, dp_gR1, dp_gR2, dp_gR3, dp_gR4, dp_gR11, dp_gR12, dp_gR13, dp_gR15, dp_gR16, dp_gA3, dp_pA3, dp_gAR0, dp_gAR1, dp_gAR2, dp_isO, dp_isA]
  refine (fi_d6 hl).cl0 (by decide) ?_
  simp (disch := omega) only [true_implies, false_implies, not_true_eq_false, not_false_eq_true, I_n, I_neg, I_add, I_sub, I_mul, I_le4, I_lt4, I_eq4, I_div4, I_bi0, I_bi01, I_bi1, nor_em, rI_of, rV_of, zI_of, zV_of, nz_and, br_T, br_F, br_T2, br_F2, st_eq, st9_0, st_k, st_i, true_and, and_true, Classical.not_not, or_true, true_or, or_false, false_or, rR_of, dp_gI5, dp_gI6, dp_gI7, dp_gI8, dp_gI9, dp_gI10, dp_gI14, dp_pI5, dp_pI6, dp_pI7, dp_pI8, dp_pI9, dp_pI10, dp_pI14, dp_gR0, dp_gR1, dp_gR2, dp_gR3, dp_gR4, dp_gR11, dp_gR12, dp_gR13, dp_gR15, dp_gR16, dp_gA3, dp_pA3, dp_gAR0, dp_gAR1, dp_gAR2, dp_isO, dp_isA]
  obtain ⟨E, hE0⟩ : ∃ E, E = sw (sw (sw (st (st (st (st D 10 8 0) 10 9 0) 10 10 0) 10 14 0) 4 (cpy (D 4) (fun _ => 1) 0 0 2)) 5 (cpy (D 5) (fun _ => 0) 0 0 2)) 6 (cpy (D 6) (fun _ => 0) 0 0 2) := ⟨_, rfl⟩
  have hE1 : sw (sw (sw (st (st (st (st D 10 8 0) 10 9 0) 10 10 0) 10 14 0) 4 (cpy (st (st (st (st D 10 8 0) 10 9 0) 10 10 0) 10 14 0 4) (fun _ => 1) 0 0 2)) 5 (cpy (sw (st (st (st (st D 10 8 0) 10 9 0) 10 10 0) 10 14 0) 4 (cpy (st (st (st (st D 10 8 0) 10 9 0) 10 10 0) 10 14 0 4) (fun _ => 1) 0 0 2) 5) (fun _ => 0) 0 0 2)) 6 (cpy (sw (sw (st (st (st (st D 10 8 0) 10 9 0) 10 10 0) 10 14 0) 4 (cpy (st (st (st (st D 10 8 0) 10 9 0) 10 10 0) 10 14 0 4) (fun _ => 1) 0 0 2)) 5 (cpy (sw (st (st (st (st D 10 8 0) 10 9 0) 10 10 0) 10 14 0) 4 (cpy (st (st (st (st D 10 8 0) 10 9 0) 10 10 0) 10 14 0 4) (fun _ => 1) 0 0 2) 5) (fun _ => 0) 0 0 2) 6) (fun _ => 0) 0 0 2) = E := by
    rw [hE0]
    simp only [sw_j (show (5 : Nat) ≠ 4 by decide), sw_j (show (6 : Nat) ≠ 4 by decide), sw_j (show (6 : Nat) ≠ 5 by decide), st_row (show (4 : Nat) ≠ 10 by decide), st_row (show (5 : Nat) ≠ 10 by decide), st_row (show (6 : Nat) ≠ 10 by decide)]
  rw [hE1]
  have L' : LST X (dp X a p B E) (a + 8) la n gg m := by
    refine L.of ?_ ?_ ?_
    · rw [← hB]
      exact dp_li
    · rw [← hB]
      exact dp_out hla
    · rw [← hB]
      exact dp_out hE
  refine ⟨⟨_, L'.1⟩, (c_li_clear hl L').cl0 (by decide) ?_⟩
  rintro o1 A2 ⟨rfl, g3, L3, e1, e2⟩
  rw [rV_of]
  have d2 : DlA X A2 a p E := dp_dl.of fun b b0 b1 b2 => e2 b b2 (Or.inl (by omega))
  obtain ⟨B2, hB2⟩ : ∃ B2, B2 = A2 := ⟨_, rfl⟩
  have eA2 : A2 = dp X a p B2 E := by rw [hB2]; exact (dp_of d2).symm
  have hP2 : PlanAt X B2 p P := by
    rw [hB2]
    refine hP.of fun b b0 b1 => ?_
    rw [e2 b (by omega) (Or.inl (by omega)), ← hB]
    exact dp_out (by omega)
  rw [eA2]
  simp (disch := omega) only [true_implies, false_implies, not_true_eq_false, not_false_eq_true, I_n, I_neg, I_add, I_sub, I_mul, I_le4, I_lt4, I_eq4, I_div4, I_bi0, I_bi01, I_bi1, nor_em, rI_of, rV_of, zI_of, zV_of, nz_and, br_T, br_F, br_T2, br_F2, st_eq, st9_0, st_k, st_i, true_and, and_true, Classical.not_not, or_true, true_or, or_false, false_or, rR_of, dp_gI5, dp_gI6, dp_gI7, dp_gI8, dp_gI9, dp_gI10, dp_gI14, dp_pI5, dp_pI6, dp_pI7, dp_pI8, dp_pI9, dp_pI10, dp_pI14, dp_gR0, dp_gR1, dp_gR2, dp_gR3, dp_gR4, dp_gR11, dp_gR12, dp_gR13, dp_gR15, dp_gR16, dp_gA3, dp_pA3, dp_gAR0, dp_gAR1, dp_gAR2, dp_isO, dp_isA]
  refine (c_X1_loseAll hl hd hP2 hR g).cl0 (by decide) ?_
  simp (disch := omega) only [true_implies, false_implies, not_true_eq_false, not_false_eq_true, I_n, I_neg, I_add, I_sub, I_mul, I_le4, I_lt4, I_eq4, I_div4, I_bi0, I_bi01, I_bi1, nor_em, rI_of, rV_of, zI_of, zV_of, nz_and, br_T, br_F, br_T2, br_F2, st_eq, st9_0, st_k, st_i, true_and, and_true, Classical.not_not, or_true, true_or, or_false, false_or, rR_of, dp_gI5, dp_gI6, dp_gI7, dp_gI8, dp_gI9, dp_gI10, dp_gI14, dp_pI5, dp_pI6, dp_pI7, dp_pI8, dp_pI9, dp_pI10, dp_pI14, dp_gR0, dp_gR1, dp_gR2, dp_gR3, dp_gR4, dp_gR11, dp_gR12, dp_gR13, dp_gR15, dp_gR16, dp_gA3, dp_pA3, dp_gAR0, dp_gAR1, dp_gAR2, dp_isO, dp_isA]
  have oo : ∀ b G', b < a ∨ a + 12 < b ∨ b = a + 8 → (dp X a p B2 G').2 b = A2.2 b := fun b G' hb => by
    rw [← hB2]
    rcases hb with h | h | h
    · exact dp_out (Or.inl h)
    · exact dp_out (Or.inr h)
    · rw [h]
      exact dp_li
  rw [hQ]
  have f10 : ∀ y, y ≠ 5 → y ≠ 6 → y ≠ 7 → kLa r (st E 11 3 0) 10 y = E 10 y := fun y h1 h2 h3 => by rw [kLa_y h1 h2 h3, st_row (by decide)]
  have E10 : ∀ y, E 10 y = st (st (st (st D 10 8 0) 10 9 0) 10 10 0) 10 14 0 10 y := fun y => by rw [hE0, sw_j (by decide), sw_j (by decide), sw_j (by decide)]
  have c := @cpy_in
  refine ⟨rfl, _, g3, m + 1, dp_dl, DR_la g hz ⟨?_, ?_, ?_, ?_, ?_⟩ ?_ ?_ ?_, L3.of (oo _ _ (by omega)) (oo _ _ (by omega)) (oo _ _ (by omega)), ?_, ?_⟩
  · rw [st_row (by decide), E10, h5.1]
    rfl
  · rw [st_row (by decide), E10, h5.2.1]
    rfl
  · rw [st_row (by decide), E10, h5.2.2.1]
    rfl
  · rw [st_row (by decide), E10, h5.2.2.2.1]
    rfl
  · rw [st_eq, h5.2.2.2.2]
  · intro s s0 s1
    rw [st_row (by decide), st_row (by decide), st_row (by decide), hE0, sw_j (show (4 : Nat) ≠ 6 by decide), sw_j (show (4 : Nat) ≠ 5 by decide), sw_i, sw_j (show (5 : Nat) ≠ 6 by decide), sw_i, sw_i, c _ _ _ _ s0 (by omega), c _ _ _ _ s0 (by omega), c _ _ _ _ s0 (by omega)]
    have hs : s = 0 ∨ s = 1 := by omega
    obtain ⟨x1, x2, x3, x4, x5, x6⟩ := h6
    rcases hs with rfl | rfl
    · exact ⟨x1.symm, x3.symm, x5.symm⟩
    · exact ⟨x2.symm, x4.symm, x6.symm⟩
  · intro j j0 j1 j2
    omega
  · intro k k0 k1
    rw [st_row (by decide), hE0, sw_j (by decide), sw_j (by decide), sw_j (by decide), st_row (by decide), st_row (by decide), st_row (by decide), st_row (by decide)]
    exact h8 k k0 k1
  · show B2.1 = A.1
    rw [hB2, e1, ← hB]
    rfl
  · intro b b1 b2
    rw [oo b _ (by omega), e2 b (by omega) b2, ← hB]
    exact dp_out b1
end CL
