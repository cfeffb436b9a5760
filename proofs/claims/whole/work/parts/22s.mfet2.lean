/-! the reference: fetch -/
section MS2
variable {l : Launch} {X : XT} {o : Nat} {B A : AH} {S : Nat → Int → Int}
theorem L_X6_fetch (hl : l.stackTraces = false) {s k f : Int} (hs : 0 ≤ s ∧ s ≤ 1) : ∀ (m : Nat) (j : Int) (r : Int → Int) (n e : Int), RW r e → e + 10 + 10 * m ≤ 2000000000 → 0 ≤ j → 0 ≤ k → k < gN r → j + m = gPo r k → f = gF r k →
    G l X M_X6_fetch 6 (fun o' A1 => o' = Ri (I (n + (rFe s f m j r).2)) ∧ A1 = mp X o B (sr S (rFe s f m j r).1)) 66 [(0, .ref o), (1, .int (I s)), (2, .int (I k)), (3, .int (I n)), (4, .int (I j))] [] (mp X o B (sr S r)) 0 0 := by
  intro m
  induction m with
  | zero =>
    intro j r n e w he h0 hk hk1 hj hf
    obtain ⟨p1, p2, -⟩ := gPo_b w.1 hk hk1
    obtain ⟨q1, q2, -⟩ := gE_b w.1
    refine k_X6_fetch_66 ⟨mp_isO, (c_X6_partsOf (S := sr S r) hl w.1 hk hk1).cl0 (by decide) ?_⟩
    simp (disch := omega) only [sr_0, sr_sr, sr_st, true_implies, false_implies, not_true_eq_false, not_false_eq_true, I_n, I_neg, I_add, I_sub, I_mul, I_le4, I_lt4, I_eq4, I_div4, I_bi0, I_bi01, I_bi1, nor_em, rI_of, rV_of, zI_of, zV_of, nz_and, br_T, br_F, br_T2, br_F2, st_eq, st9_0, st_k, st_i, true_and, and_true, Classical.not_not, mp_isO, mp_gI4, mp_gI5, mp_gI7, mp_gI8, mp_gI9, mp_gI10, mp_gI11, mp_gI12, mp_gI13, mp_gI14, mp_gI15, mp_gI19, mp_gI20, mp_gI21, mp_gI23, mp_pI4, mp_pI5, mp_pI7, mp_pI8, mp_pI9, mp_pI10, mp_pI11, mp_pI12, mp_pI13, mp_pI14, mp_pI15, mp_pI19, mp_pI20, mp_pI21, mp_pI23, mp_gR0, mp_gR1, mp_gR2, mp_gR3, mp_gR6, mp_gR16, mp_gR17, mp_gR18, mp_gR22, mp_aI0, mp_aI1, mp_aI2, mp_aI3, mp_aI4, mp_aI5, mp_aI6, mp_aZ7, mp_aI8, mp_sI0, mp_sI1, mp_sI2, mp_sI3, mp_sI4, mp_sI5, mp_sI6, mp_sI8, mp_sZ0, mp_sZ1]
    rw [show rFe s f 0 j r = (r, 0) from rfl, Int.add_zero]
    all_goals first | rfl | exact ⟨rfl, rfl⟩
  | succ m ih =>
    intro j r n e w he h0 hk hk1 hj hf
    obtain ⟨p1, p2, -⟩ := gPo_b w.1 hk hk1
    obtain ⟨q1, q2, -⟩ := gE_b w.1
    obtain ⟨f1, f2⟩ := gF_b w.1 hk hk1
    obtain ⟨t1, t2⟩ := gT_b w.1
    have lg := w.1.2.1
    have h14 := RW_14 w hs
    have ho := w.2.2.2.2.2.2.2.2.2.1 (gF r k + j) (by omega) (by omega)
    refine k_X6_fetch_66 ⟨mp_isO, (c_X6_partsOf (S := sr S r) hl w.1 hk hk1).cl0 (by decide) ?_⟩
    simp (disch := omega) only [sr_0, sr_sr, sr_st, true_implies, false_implies, not_true_eq_false, not_false_eq_true, I_n, I_neg, I_add, I_sub, I_mul, I_le4, I_lt4, I_eq4, I_div4, I_bi0, I_bi01, I_bi1, nor_em, rI_of, rV_of, zI_of, zV_of, nz_and, br_T, br_F, br_T2, br_F2, st_eq, st9_0, st_k, st_i, true_and, and_true, Classical.not_not, mp_isO, mp_gI4, mp_gI5, mp_gI7, mp_gI8, mp_gI9, mp_gI10, mp_gI11, mp_gI12, mp_gI13, mp_gI14, mp_gI15, mp_gI19, mp_gI20, mp_gI21, mp_gI23, mp_pI4, mp_pI5, mp_pI7, mp_pI8, mp_pI9, mp_pI10, mp_pI11, mp_pI12, mp_pI13, mp_pI14, mp_pI15, mp_pI19, mp_pI20, mp_pI21, mp_pI23, mp_gR0, mp_gR1, mp_gR2, mp_gR3, mp_gR6, mp_gR16, mp_gR17, mp_gR18, mp_gR22, mp_aI0, mp_aI1, mp_aI2, mp_aI3, mp_aI4, mp_aI5, mp_aI6, mp_aZ7, mp_aI8, mp_sI0, mp_sI1, mp_sI2, mp_sI3, mp_sI4, mp_sI5, mp_sI6, mp_sI8, mp_sZ0, mp_sZ1]
    refine (c_X6_firstPart (S := sr S r) hl w.1).cl0 (by decide) ?_
    simp (disch := omega) only [sr_0, sr_sr, sr_st, true_implies, false_implies, not_true_eq_false, not_false_eq_true, I_n, I_neg, I_add, I_sub, I_mul, I_le4, I_lt4, I_eq4, I_div4, I_bi0, I_bi01, I_bi1, nor_em, rI_of, rV_of, zI_of, zV_of, nz_and, br_T, br_F, br_T2, br_F2, st_eq, st9_0, st_k, st_i, true_and, and_true, Classical.not_not, mp_isO, mp_gI4, mp_gI5, mp_gI7, mp_gI8, mp_gI9, mp_gI10, mp_gI11, mp_gI12, mp_gI13, mp_gI14, mp_gI15, mp_gI19, mp_gI20, mp_gI21, mp_gI23, mp_pI4, mp_pI5, mp_pI7, mp_pI8, mp_pI9, mp_pI10, mp_pI11, mp_pI12, mp_pI13, mp_pI14, mp_pI15, mp_pI19, mp_pI20, mp_pI21, mp_pI23, mp_gR0, mp_gR1, mp_gR2, mp_gR3, mp_gR6, mp_gR16, mp_gR17, mp_gR18, mp_gR22, mp_aI0, mp_aI1, mp_aI2, mp_aI3, mp_aI4, mp_aI5, mp_aI6, mp_aZ7, mp_aI8, mp_sI0, mp_sI1, mp_sI2, mp_sI3, mp_sI4, mp_sI5, mp_sI6, mp_sI8, mp_sZ0, mp_sZ1]
    have am := c_X6_isMissing (S := sr S r) (X := X) (o := o) (B := B) hl (p := gF r k + j) (by omega) (by omega) (by rw [sr_0]; omega)
    rw [sr_0] at am
    refine am.cl0 (by decide) ?_
    simp (disch := omega) only [sr_0, sr_sr, sr_st, true_implies, false_implies, not_true_eq_false, not_false_eq_true, I_n, I_neg, I_add, I_sub, I_mul, I_le4, I_lt4, I_eq4, I_div4, I_bi0, I_bi01, I_bi1, nor_em, rI_of, rV_of, zI_of, zV_of, nz_and, br_T, br_F, br_T2, br_F2, st_eq, st9_0, st_k, st_i, true_and, and_true, Classical.not_not, mp_isO, mp_gI4, mp_gI5, mp_gI7, mp_gI8, mp_gI9, mp_gI10, mp_gI11, mp_gI12, mp_gI13, mp_gI14, mp_gI15, mp_gI19, mp_gI20, mp_gI21, mp_gI23, mp_pI4, mp_pI5, mp_pI7, mp_pI8, mp_pI9, mp_pI10, mp_pI11, mp_pI12, mp_pI13, mp_pI14, mp_pI15, mp_pI19, mp_pI20, mp_pI21, mp_pI23, mp_gR0, mp_gR1, mp_gR2, mp_gR3, mp_gR6, mp_gR16, mp_gR17, mp_gR18, mp_gR22, mp_aI0, mp_aI1, mp_aI2, mp_aI3, mp_aI4, mp_aI5, mp_aI6, mp_aZ7, mp_aI8, mp_sI0, mp_sI1, mp_sI2, mp_sI3, mp_sI4, mp_sI5, mp_sI6, mp_sI8, mp_sZ0, mp_sZ1]
    rw [← hf]
    refine ⟨fun h => ?_, fun h => ⟨fun h2 => ?_, fun h2 => ?_⟩⟩
    · have e1 : rFe s f (m + 1) j r = rFe s f m (j + 1) r := if_neg fun q => h q.1
      rw [e1]
      exact ih (j + 1) r n e w (by omega) (by omega) hk hk1 (by omega) hf
    · have e1 : rFe s f (m + 1) j r = ((rFe s f m (j + 1) (rArr r s (f + j))).1, (rFe s f m (j + 1) (rArr r s (f + j))).2 + 1) := if_pos ⟨h, h2⟩
      obtain ⟨w2, o2⟩ := rArr_w w (by omega) hs (p := f + j) (by omega) (by omega)
      have hc := geo_c (o2 0 (by omega)) (o2 2 (by omega)) (o2 3 (by omega))
      have a := c_X6_arrives (S := sr S r) (X := X) (o := o) (B := B) hl w (by omega) hs (p := f + j) (by omega) (by rw [sr_0]; omega)
      rw [sr_sr, sr_0] at a
      refine a.cl0 (by decide) ?_
      simp (disch := omega) only [sr_0, sr_sr, sr_st, true_implies, false_implies, not_true_eq_false, not_false_eq_true, I_n, I_neg, I_add, I_sub, I_mul, I_le4, I_lt4, I_eq4, I_div4, I_bi0, I_bi01, I_bi1, nor_em, rI_of, rV_of, zI_of, zV_of, nz_and, br_T, br_F, br_T2, br_F2, st_eq, st9_0, st_k, st_i, true_and, and_true, Classical.not_not, mp_isO, mp_gI4, mp_gI5, mp_gI7, mp_gI8, mp_gI9, mp_gI10, mp_gI11, mp_gI12, mp_gI13, mp_gI14, mp_gI15, mp_gI19, mp_gI20, mp_gI21, mp_gI23, mp_pI4, mp_pI5, mp_pI7, mp_pI8, mp_pI9, mp_pI10, mp_pI11, mp_pI12, mp_pI13, mp_pI14, mp_pI15, mp_pI19, mp_pI20, mp_pI21, mp_pI23, mp_gR0, mp_gR1, mp_gR2, mp_gR3, mp_gR6, mp_gR16, mp_gR17, mp_gR18, mp_gR22, mp_aI0, mp_aI1, mp_aI2, mp_aI3, mp_aI4, mp_aI5, mp_aI6, mp_aZ7, mp_aI8, mp_sI0, mp_sI1, mp_sI2, mp_sI3, mp_sI4, mp_sI5, mp_sI6, mp_sI8, mp_sZ0, mp_sZ1]
      have i2 := ih (j + 1) (rArr r s (f + j)) (n + 1) (e + 4) w2 (by omega) (by omega) hk (by rw [hc.1]; exact hk1) (by rw [hc.2.2.2.1]; omega) (by rw [hc.2.2.2.2.1]; exact hf)
      rw [e1]
      rw [show n + 1 + (rFe s f m (j + 1) (rArr r s (f + j))).2 = n + ((rFe s f m (j + 1) (rArr r s (f + j))).2 + 1) by omega] at i2
      exact i2
    · have e1 : rFe s f (m + 1) j r = rFe s f m (j + 1) r := if_neg fun q => q.2 h2
      rw [e1]
      exact ih (j + 1) r n e w (by omega) (by omega) hk hk1 (by omega) hf
end MS2
