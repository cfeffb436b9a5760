/-! the class: judge -/
theorem place_part {r : Int → Int} (g : GW r) {k j : Int} (k0 : 0 ≤ k) (k1 : k < gN r) (j0 : 0 ≤ j) (j1 : j < gLen r k) : ∃ p i, 0 ≤ p ∧ p < gT r ∧ gPc r p = k ∧ 0 ≤ i ∧ i < gPt r p ∧ gPl r p + i = r 2 * k + j ∧ gF r k ≤ p ∧ p < gF r k + gPo r k := by
  obtain ⟨p1, p2, p3, p4, p5⟩ := gPo_b g k0 k1
  obtain ⟨f1, f2⟩ := gF_b g k0 k1
  have g3 := g.2.2.2.2.1
  have d := dvb (a := j) (b := r 3) (by omega)
  have q0 : 0 ≤ j / r 3 := Int.ediv_nonneg j0 (by omega)
  have q1 : j / r 3 < gPo r k := Int.ediv_lt_of_lt_mul (by omega) (by have m := Int.mul_comm (gPo r k) (r 3); omega)
  have a1 := gPl_of g k0 k1 q0 q1
  have a2 := gPt_of g k0 k1 q0 q1
  have a3 := gPc_of g k0 k1 q0 q1
  refine ⟨gF r k + j / r 3, j - r 3 * (j / r 3), by omega, by omega, a3, by omega, ?_, by omega, by omega, by omega⟩
  rw [a2]
  split
  · omega
  · omega
/-- the bytes of a piece whose parts are all there -/
theorem DX_by {D : Nat → Int → Int} {r : Int → Int} {lo hi : Int} (g : GW r) (h : DX D r lo hi) {k : Int} (k0 : 0 ≤ k) (k1 : k < gN r) (hm : gMi r k = 0) : ∀ j, 0 ≤ j → j < gLen r k → D 0 (r 2 * k + j) = r (336 + r 2 * k + j) := by
  intro j j0 j1
  obtain ⟨p, i, p0, p1, pc, i0, i1, e, p2, p3⟩ := place_part g k0 k1 j0 j1
  have hp : r (96 + p) ≠ 0 := by
    have := gMi_0 (r := r) (k := k) (by omega) (i := p - gF r k) (by omega) (by omega)
    rwa [show gF r k + (p - gF r k) = p by omega] at this
  have := h.1 p p0 p1 hp i i0 i1
  rw [e] at this
  rw [this]
  congr 1
  omega
def kJ (r : Int → Int) (D : Nat → Int → Int) (k : Int) : Nat → Int → Int := if 0 < D 2 k then D else if gR' (D 0) (r 2 * k) (gLen r k) = gS r 0 (r 2 * k) (gLen r k) then kTell (st (st D 3 k 1) 10 6 (D 10 6 + 1)) 1 k 0 else kTell (st (st D 3 k 2) 10 7 (D 10 7 + 1)) 2 k 0
theorem sumX {r : Int → Int} {k hi v : Int} {n : Nat} (k0 : 0 ≤ k) (k1 : k < hi) (k2 : k < n) : sg (fun i => if k + 1 ≤ i ∧ i < hi then 0 else bi (gV r i = v)) n = sg (fun i => if k ≤ i ∧ i < hi then 0 else bi (gV r i = v)) n + bi (gV r k = v) := by
  have e := sg_one (f := fun i => if k ≤ i ∧ i < hi then 0 else bi (gV r i = v)) (g := fun i => if k + 1 ≤ i ∧ i < hi then 0 else bi (gV r i = v)) (n := n) (i := k) k0 k2 fun i hi1 hne => by
    by_cases h : k ≤ i ∧ i < hi
    · rw [if_pos h, if_pos (by omega)]
    · rw [if_neg h, if_neg (by omega)]
  rw [e]
  rw [if_pos ⟨Int.le_refl _, k1⟩, if_neg (by omega)]
  omega
/-- one verdict is out -/
theorem DX_v {D : Nat → Int → Int} {r : Int → Int} {k hi : Int} (h : DX D r k hi) (k0 : 0 ≤ k) (k1 : k < hi) (k2 : k < gN r) {E : Nat → Int → Int} (hj : ∀ j, j ≠ 3 → j ≠ 10 → E j = D j) (h3 : ∀ y, y ≠ k → E 3 y = D 3 y) (hk : E 3 k = gV r k) (h10 : ∀ y, y ≠ 6 → y ≠ 7 → E 10 y = D 10 y) (h6 : E 10 6 = D 10 6 + bi (gV r k = 1)) (h7 : E 10 7 = D 10 7 + bi (gV r k = 2)) : DX E r (k + 1) hi := by
  obtain ⟨a1, a2, a3, a4, a5, a6, a7, a8⟩ := h
  unfold DX
  rw [hj 0 (by decide) (by decide), hj 1 (by decide) (by decide), hj 2 (by decide) (by decide), hj 4 (by decide) (by decide), hj 5 (by decide) (by decide), hj 6 (by decide) (by decide), hj 7 (by decide) (by decide), hj 8 (by decide) (by decide), hj 9 (by decide) (by decide), hj 11 (by decide) (by decide), h10 5 (by omega) (by omega), h10 8 (by omega) (by omega), h10 9 (by omega) (by omega), h10 10 (by omega) (by omega), h10 14 (by omega) (by omega)]
  refine ⟨a1, a2, fun i i0 i1 => ?_, ⟨a4.1, ?_, ?_⟩, a5, a6, a7, a8⟩
  · obtain ⟨b1, b2⟩ := a3 i i0 i1
    refine ⟨b1, ?_⟩
    by_cases hik : i = k
    · rw [hik, hk, if_neg (by omega)]
    · rw [h3 i hik, b2]
      by_cases hc : k ≤ i ∧ i < hi
      · rw [if_pos hc, if_pos (by omega)]
      · rw [if_neg hc, if_neg (by omega)]
  · rw [h6, a4.2.1, sumX k0 k1 (by omega)]
  · rw [h7, a4.2.2, sumX k0 k1 (by omega)]
theorem DX_judge {D : Nat → Int → Int} {r : Int → Int} {k hi e : Int} (w : RW r e) (h : DX D r k hi) (k0 : 0 ≤ k) (k1 : k < hi) (k2 : k < gN r) : DX (kJ r D k) (rJ r k) (k + 1) hi := by
  obtain ⟨b1, b2⟩ := h.2.2.1 k k0 k2
  rw [if_pos ⟨Int.le_refl _, k1⟩] at b2
  have hn : 0 ≤ gMi r k := sg_bi.1
  unfold kJ rJ
  by_cases hm : 0 < gMi r k
  · have hv : gV r k = 0 := if_pos hm
    rw [b1, if_pos hm, hv, if_pos (Int.le_refl _)]
    exact DX_v h k0 k1 k2 (fun _ _ _ => rfl) (fun _ _ => rfl) (by rw [b2, hv]) (fun _ _ _ => rfl) (by rw [hv, bi_f (by decide)]; omega) (by rw [hv, bi_f (by decide)]; omega)
  · have hz : gMi r k = 0 := by omega
    have eb := DX_by w.1 h k0 k2 hz
    have es : gR' (D 0) (r 2 * k) (gLen r k) = gR' r (336 + r 2 * k) (gLen r k) := gR'_c eb
    rw [b1, if_neg hm, es]
    by_cases hs : gR' r (336 + r 2 * k) (gLen r k) = gS r 0 (r 2 * k) (gLen r k)
    · have hv : gV r k = 1 := by unfold gV; rw [if_neg hm, if_pos hs]
      rw [if_pos hs, hv, if_neg (by decide)]
      refine DX_tell w (DX_v h k0 k1 k2 (fun j h3 h10 => by rw [st_row h10, st_row h3]) (fun y hy => by rw [st_i (by decide), st_k hy]) (by rw [st_i (by decide), st_eq, hv]) (fun y h6 h7 => by rw [st_k h6, st_i (by decide)]) ?_ ?_)
      · rw [st_eq, hv, bi_t rfl]
      · rw [st_k (by omega), st_i (by decide), hv, bi_f (by decide)]
        omega
    · have hv : gV r k = 2 := by unfold gV; rw [if_neg hm, if_neg hs]
      rw [if_neg hs, hv, if_neg (by decide)]
      refine DX_tell w (DX_v h k0 k1 k2 (fun j h3 h10 => by rw [st_row h10, st_row h3]) (fun y hy => by rw [st_i (by decide), st_k hy]) (by rw [st_i (by decide), st_eq, hv]) (fun y h6 h7 => by rw [st_k h7, st_i (by decide)]) ?_ ?_)
      · rw [st_k (by omega), st_i (by decide), hv, bi_f (by decide)]
        omega
      · rw [st_eq, hv, bi_t rfl]
section CJ
variable {l : Launch} {X : XT} {a p : Nat} {B : AH} {D P : Nat → Int → Int} {r : Int → Int} {e lo hi : Int}
theorem c_X1_judge (hl : l.stackTraces = false) (hd : p + 10 < a ∨ a + 12 < p) (hP : PlanAt X B p P) (hR : PR P r) (w : RW r e) (h : DX D r lo hi) {k : Int} (k0 : 0 ≤ k) (k2 : k < gN r) : Fn l X 2 M_X1_judge [.ref a, .int (I k)] (dp X a p B D) 0 0 Rv (dp X a p B (kJ r D k)) := by
  obtain ⟨n1, n2, -⟩ := gN_b w.1
  obtain ⟨l1, l2, l3, l4⟩ := gLen_b w.1 k0 k2
  have lg := w.1.2.1
  have g4 := w.1.2.2.2.1
  obtain ⟨p1, p2, -⟩ := gPo_b w.1 k0 k2
  obtain ⟨q1, q2, -⟩ := gE_b w.1
  have hp := dp_pl (D := D) hd hP
  have e2 := (h.2.2.1 k k0 k2).1
  have hm : 0 ≤ gMi r k ∧ gMi r k ≤ (gPo r k).toNat := sg_bi
  have e5 := hR.2.2.1 k k0 k2
  have hS : 0 ≤ gS r 0 (r 2 * k) (gLen r k) ∧ gS r 0 (r 2 * k) (gLen r k) < 9973 := by unfold gS; omega
  have hRr : 0 ≤ gR' (D 0) (r 2 * k) (gLen r k) ∧ gR' (D 0) (r 2 * k) (gLen r k) < 9973 := by unfold gR'; omega
  have h11 := h.2.2.2.2.1.2.2.2.2
  have hgl := RW_gl w
  unfold kJ
  refine Fn.of hl rfl rfl (Nat.le_of_ble_eq_true rfl) (k_X1_judge_0 ?_)
  simp (disch := omega) only [true_implies, false_implies, not_true_eq_false, not_false_eq_true, I_n, I_neg, I_add, I_sub, I_mul, I_le4, I_lt4, I_eq4, I_div4, I_bi0, I_bi01, I_bi1, nor_em, rI_of, rV_of, zI_of, zV_of, nz_and, br_T, br_F, br_T2, br_F2, st_eq, st9_0, st_k, st_i, true_and, and_true, Classical.not_not, rR_of, dp_gI5, dp_gI6, dp_gI7, dp_gI8, dp_gI9, dp_gI10, dp_gI14, dp_pI5, dp_pI6, dp_pI7, dp_pI8, dp_pI9, dp_pI10, dp_pI14, dp_gR0, dp_gR1, dp_gR2, dp_gR3, dp_gR4, dp_gR11, dp_gR12, dp_gR13, dp_gR15, dp_gR16, dp_gA3, dp_pA3, dp_gAR0, dp_gAR1, dp_gAR2, dp_isO, dp_isA]
  refine (at_d2 hl (by omega) (by omega)).cl0 (by decide) ?_
  simp (disch := omega) only [true_implies, false_implies, not_true_eq_false, not_false_eq_true, I_n, I_neg, I_add, I_sub, I_mul, I_le4, I_lt4, I_eq4, I_div4, I_bi0, I_bi01, I_bi1, nor_em, rI_of, rV_of, zI_of, zV_of, nz_and, br_T, br_F, br_T2, br_F2, st_eq, st9_0, st_k, st_i, true_and, and_true, Classical.not_not, rR_of, dp_gI5, dp_gI6, dp_gI7, dp_gI8, dp_gI9, dp_gI10, dp_gI14, dp_pI5, dp_pI6, dp_pI7, dp_pI8, dp_pI9, dp_pI10, dp_pI14, dp_gR0, dp_gR1, dp_gR2, dp_gR3, dp_gR4, dp_gR11, dp_gR12, dp_gR13, dp_gR15, dp_gR16, dp_gA3, dp_pA3, dp_gAR0, dp_gAR1, dp_gAR2, dp_isO, dp_isA]
  refine ⟨fun hz => ?_, fun hz => ?_⟩
  · rw [if_neg (by omega)]
    refine ⟨hp.isO, (c_X3_pieceStart hl hp hR w.1 k0 k2).cl0 (by decide) ?_⟩
    simp (disch := omega) only [true_implies, false_implies, not_true_eq_false, not_false_eq_true, I_n, I_neg, I_add, I_sub, I_mul, I_le4, I_lt4, I_eq4, I_div4, I_bi0, I_bi01, I_bi1, nor_em, rI_of, rV_of, zI_of, zV_of, nz_and, br_T, br_F, br_T2, br_F2, st_eq, st9_0, st_k, st_i, true_and, and_true, Classical.not_not, rR_of, dp_gI5, dp_gI6, dp_gI7, dp_gI8, dp_gI9, dp_gI10, dp_gI14, dp_pI5, dp_pI6, dp_pI7, dp_pI8, dp_pI9, dp_pI10, dp_pI14, dp_gR0, dp_gR1, dp_gR2, dp_gR3, dp_gR4, dp_gR11, dp_gR12, dp_gR13, dp_gR15, dp_gR16, dp_gA3, dp_pA3, dp_gAR0, dp_gAR1, dp_gAR2, dp_isO, dp_isA]
    refine ⟨hp.isO, (c_X3_pieceLength hl hp hR w.1 k0 k2).cl0 (by decide) ?_⟩
    simp (disch := omega) only [true_implies, false_implies, not_true_eq_false, not_false_eq_true, I_n, I_neg, I_add, I_sub, I_mul, I_le4, I_lt4, I_eq4, I_div4, I_bi0, I_bi01, I_bi1, nor_em, rI_of, rV_of, zI_of, zV_of, nz_and, br_T, br_F, br_T2, br_F2, st_eq, st9_0, st_k, st_i, true_and, and_true, Classical.not_not, rR_of, dp_gI5, dp_gI6, dp_gI7, dp_gI8, dp_gI9, dp_gI10, dp_gI14, dp_pI5, dp_pI6, dp_pI7, dp_pI8, dp_pI9, dp_pI10, dp_pI14, dp_gR0, dp_gR1, dp_gR2, dp_gR3, dp_gR4, dp_gR11, dp_gR12, dp_gR13, dp_gR15, dp_gR16, dp_gA3, dp_pA3, dp_gAR0, dp_gAR1, dp_gAR2, dp_isO, dp_isA]
    refine (c_sumOf hl dp_k1 (by omega) (by omega) (by omega) (by omega) (by omega) fun y y0 y1 => h.2.2.2.2.2.2.2 y (by omega) (by omega)).cl0 (by decide) ?_
    simp (disch := omega) only [true_implies, false_implies, not_true_eq_false, not_false_eq_true, I_n, I_neg, I_add, I_sub, I_mul, I_le4, I_lt4, I_eq4, I_div4, I_bi0, I_bi01, I_bi1, nor_em, rI_of, rV_of, zI_of, zV_of, nz_and, br_T, br_F, br_T2, br_F2, st_eq, st9_0, st_k, st_i, true_and, and_true, Classical.not_not, rR_of, dp_gI5, dp_gI6, dp_gI7, dp_gI8, dp_gI9, dp_gI10, dp_gI14, dp_pI5, dp_pI6, dp_pI7, dp_pI8, dp_pI9, dp_pI10, dp_pI14, dp_gR0, dp_gR1, dp_gR2, dp_gR3, dp_gR4, dp_gR11, dp_gR12, dp_gR13, dp_gR15, dp_gR16, dp_gA3, dp_pA3, dp_gAR0, dp_gAR1, dp_gAR2, dp_isO, dp_isA]
    rw [hp.r6]
    refine (at_p2 hl hp (by omega) (by omega)).cl0 (by decide) ?_
    rw [e5]
    simp (disch := omega) only [true_implies, false_implies, not_true_eq_false, not_false_eq_true, I_n, I_neg, I_add, I_sub, I_mul, I_le4, I_lt4, I_eq4, I_div4, I_bi0, I_bi01, I_bi1, nor_em, rI_of, rV_of, zI_of, zV_of, nz_and, br_T, br_F, br_T2, br_F2, st_eq, st9_0, st_k, st_i, true_and, and_true, Classical.not_not, rR_of, dp_gI5, dp_gI6, dp_gI7, dp_gI8, dp_gI9, dp_gI10, dp_gI14, dp_pI5, dp_pI6, dp_pI7, dp_pI8, dp_pI9, dp_pI10, dp_pI14, dp_gR0, dp_gR1, dp_gR2, dp_gR3, dp_gR4, dp_gR11, dp_gR12, dp_gR13, dp_gR15, dp_gR16, dp_gA3, dp_pA3, dp_gAR0, dp_gAR1, dp_gAR2, dp_isO, dp_isA]
    refine ⟨fun hs => ?_, fun hs => ?_⟩
    · rw [if_neg hs]
      refine (put_d3 hl (by omega) (by omega)).cl0 (by decide) ?_
      simp (disch := omega) only [true_implies, false_implies, not_true_eq_false, not_false_eq_true, I_n, I_neg, I_add, I_sub, I_mul, I_le4, I_lt4, I_eq4, I_div4, I_bi0, I_bi01, I_bi1, nor_em, rI_of, rV_of, zI_of, zV_of, nz_and, br_T, br_F, br_T2, br_F2, st_eq, st9_0, st_k, st_i, true_and, and_true, Classical.not_not, rR_of, dp_gI5, dp_gI6, dp_gI7, dp_gI8, dp_gI9, dp_gI10, dp_gI14, dp_pI5, dp_pI6, dp_pI7, dp_pI8, dp_pI9, dp_pI10, dp_pI14, dp_gR0, dp_gR1, dp_gR2, dp_gR3, dp_gR4, dp_gR11, dp_gR12, dp_gR13, dp_gR15, dp_gR16, dp_gA3, dp_pA3, dp_gAR0, dp_gAR1, dp_gAR2, dp_isO, dp_isA]
      refine (c_X0_write (D := st (st D 3 k 2) 10 7 (D 10 7 + 1)) hl (by rw [st_i (by decide), st_i (by decide)]; omega)).cl0 (by decide) ?_
      simp (disch := omega) only [true_implies, false_implies, not_true_eq_false, not_false_eq_true, I_n, I_neg, I_add, I_sub, I_mul, I_le4, I_lt4, I_eq4, I_div4, I_bi0, I_bi01, I_bi1, nor_em, rI_of, rV_of, zI_of, zV_of, nz_and, br_T, br_F, br_T2, br_F2, st_eq, st9_0, st_k, st_i, true_and, and_true, Classical.not_not, rR_of, dp_gI5, dp_gI6, dp_gI7, dp_gI8, dp_gI9, dp_gI10, dp_gI14, dp_pI5, dp_pI6, dp_pI7, dp_pI8, dp_pI9, dp_pI10, dp_pI14, dp_gR0, dp_gR1, dp_gR2, dp_gR3, dp_gR4, dp_gR11, dp_gR12, dp_gR13, dp_gR15, dp_gR16, dp_gA3, dp_pA3, dp_gAR0, dp_gAR1, dp_gAR2, dp_isO, dp_isA]
    · rw [if_pos hs]
      refine (put_d3 hl (by omega) (by omega)).cl0 (by decide) ?_
      simp (disch := omega) only [true_implies, false_implies, not_true_eq_false, not_false_eq_true, I_n, I_neg, I_add, I_sub, I_mul, I_le4, I_lt4, I_eq4, I_div4, I_bi0, I_bi01, I_bi1, nor_em, rI_of, rV_of, zI_of, zV_of, nz_and, br_T, br_F, br_T2, br_F2, st_eq, st9_0, st_k, st_i, true_and, and_true, Classical.not_not, rR_of, dp_gI5, dp_gI6, dp_gI7, dp_gI8, dp_gI9, dp_gI10, dp_gI14, dp_pI5, dp_pI6, dp_pI7, dp_pI8, dp_pI9, dp_pI10, dp_pI14, dp_gR0, dp_gR1, dp_gR2, dp_gR3, dp_gR4, dp_gR11, dp_gR12, dp_gR13, dp_gR15, dp_gR16, dp_gA3, dp_pA3, dp_gAR0, dp_gAR1, dp_gAR2, dp_isO, dp_isA]
      refine (c_X0_write (D := st (st D 3 k 1) 10 6 (D 10 6 + 1)) hl (by rw [st_i (by decide), st_i (by decide)]; omega)).cl0 (by decide) ?_
      simp (disch := omega) only [true_implies, false_implies, not_true_eq_false, not_false_eq_true, I_n, I_neg, I_add, I_sub, I_mul, I_le4, I_lt4, I_eq4, I_div4, I_bi0, I_bi01, I_bi1, nor_em, rI_of, rV_of, zI_of, zV_of, nz_and, br_T, br_F, br_T2, br_F2, st_eq, st9_0, st_k, st_i, true_and, and_true, Classical.not_not, rR_of, dp_gI5, dp_gI6, dp_gI7, dp_gI8, dp_gI9, dp_gI10, dp_gI14, dp_pI5, dp_pI6, dp_pI7, dp_pI8, dp_pI9, dp_pI10, dp_pI14, dp_gR0, dp_gR1, dp_gR2, dp_gR3, dp_gR4, dp_gR11, dp_gR12, dp_gR13, dp_gR15, dp_gR16, dp_gA3, dp_pA3, dp_gAR0, dp_gAR1, dp_gAR2, dp_isO, dp_isA]
  · rw [if_pos (by omega)]
    all_goals first | rfl | exact ⟨rfl, rfl⟩
end CJ
