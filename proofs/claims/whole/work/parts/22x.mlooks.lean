/-! the reference: looks, whole -/
def lk0 (r : Int → Int) (k : Int) : List Int × Int := look r (gF r k) 6 0 (gPo r k)
section MX
variable {l : Launch} {X : XT} {o : Nat} {B A : AH} {S : Nat → Int → Int} {e : Int}
theorem c_X6_looks (hl : l.stackTraces = false) (w : RW (S 0) e) {k : Int} (h0 : 0 ≤ k) (h1 : k < gN (S 0)) : Ct l X 5 M_X6_looks [.ref o, .int (I k)] (mp X o B S) 0 0 (fun r A1 => r = Rv ∧ ∃ F M : Int → Int, A1 = mp X o B (lkS S F M (mark (zer (S 7) 48) (lk0 (S 0) k).1) (lk0 (S 0) k).2 (lk0 (S 0) k).1.length)) := by
  obtain ⟨p1, p2, -⟩ := gPo_b w.1 h0 h1
  obtain ⟨q1, q2, -⟩ := gE_b w.1
  refine Ct.of hl rfl rfl (Nat.le_of_ble_eq_true rfl) (k_X6_looks_0 ⟨mp_isO, (c_X6_firstPart hl w.1).cl0 (by decide) ?_⟩)
  simp (disch := omega) only [I_n, I_neg, I_add, I_sub, I_mul, I_le4, I_lt4, I_eq4, I_div4, I_bi0, I_bi01, I_bi1, nor_em, rI_of, rV_of, zI_of, zV_of, nz_and, br_T, br_F, br_T2, br_F2, st_eq, st9_0, st_k, st_i, true_and, and_true, Classical.not_not, mp_isO, mp_gI4, mp_gI5, mp_gI7, mp_gI8, mp_gI9, mp_gI10, mp_gI11, mp_gI12, mp_gI13, mp_gI14, mp_gI15, mp_gI19, mp_gI20, mp_gI21, mp_gI23, mp_pI4, mp_pI5, mp_pI7, mp_pI8, mp_pI9, mp_pI10, mp_pI11, mp_pI12, mp_pI13, mp_pI14, mp_pI15, mp_pI19, mp_pI20, mp_pI21, mp_pI23, mp_gR0, mp_gR1, mp_gR2, mp_gR3, mp_gR6, mp_gR16, mp_gR17, mp_gR18, mp_gR22, mp_aI0, mp_aI1, mp_aI2, mp_aI3, mp_aI4, mp_aI5, mp_aI6, mp_aZ7, mp_aI8, mp_sI0, mp_sI1, mp_sI2, mp_sI3, mp_sI4, mp_sI5, mp_sI6, mp_sI8, mp_sZ0, mp_sZ1]
  have e0 : st (st S 9 19 0) 9 20 0 = lkS S (S 5) (S 6) (zer (S 7) ((0 : Nat) : Int)) 0 0 := by
    unfold lkS
    rw [show ((0 : Nat) : Int) = 0 from rfl, zer_z, sw_self, sw_self, sw_self]
  rw [e0]
  refine up_to (n := 48) (P := fun j => G l X M_X6_looks 5 (fun r A1 => r = Rv ∧ ∃ F M : Int → Int, A1 = mp X o B (lkS S F M (mark (zer (S 7) 48) (lk0 (S 0) k).1) (lk0 (S 0) k).2 (lk0 (S 0) k).1.length)) 18 [(0, .ref o), (1, .int (I k)), (2, .int (I (gF (S 0) k))), (3, .int (I j))] [] (mp X o B (lkS S (S 5) (S 6) (zer (S 7) j) 0 0)) 0 0) ?_ ?_
  · refine k_X6_looks_18 ?_
    simp (disch := omega) only [lk_0, lk_5, lk_6, lk_7, lk_19, lk_20, lk_s5, lk_s6, lk_s7, lk_s19, lk_s20, true_implies, false_implies, not_true_eq_false, not_false_eq_true, I_n, I_neg, I_add, I_sub, I_mul, I_le4, I_lt4, I_eq4, I_div4, I_bi0, I_bi01, I_bi1, nor_em, rI_of, rV_of, zI_of, zV_of, nz_and, br_T, br_F, br_T2, br_F2, st_eq, st9_0, st_k, st_i, true_and, and_true, Classical.not_not, mp_isO, mp_gI4, mp_gI5, mp_gI7, mp_gI8, mp_gI9, mp_gI10, mp_gI11, mp_gI12, mp_gI13, mp_gI14, mp_gI15, mp_gI19, mp_gI20, mp_gI21, mp_gI23, mp_pI4, mp_pI5, mp_pI7, mp_pI8, mp_pI9, mp_pI10, mp_pI11, mp_pI12, mp_pI13, mp_pI14, mp_pI15, mp_pI19, mp_pI20, mp_pI21, mp_pI23, mp_gR0, mp_gR1, mp_gR2, mp_gR3, mp_gR6, mp_gR16, mp_gR17, mp_gR18, mp_gR22, mp_aI0, mp_aI1, mp_aI2, mp_aI3, mp_aI4, mp_aI5, mp_aI6, mp_aZ7, mp_aI8, mp_sI0, mp_sI1, mp_sI2, mp_sI3, mp_sI4, mp_sI5, mp_sI6, mp_sI8, mp_sZ0, mp_sZ1]
    have ap := c_X6_partsOf (X := X) (o := o) (B := B) (S := lkS S (rs (S 5) 0 0) (S 6) (zer (S 7) ((48 : Nat) : Int)) 0 0) hl (by rw [lk_0]; exact w.1) h0 (by rw [lk_0]; exact h1)
    rw [lk_0] at ap
    refine ap.cl0 (by decide) ?_
    simp (disch := omega) only [lk_0, lk_5, lk_6, lk_7, lk_19, lk_20, lk_s5, lk_s6, lk_s7, lk_s19, lk_s20, true_implies, false_implies, not_true_eq_false, not_false_eq_true, I_n, I_neg, I_add, I_sub, I_mul, I_le4, I_lt4, I_eq4, I_div4, I_bi0, I_bi01, I_bi1, nor_em, rI_of, rV_of, zI_of, zV_of, nz_and, br_T, br_F, br_T2, br_F2, st_eq, st9_0, st_k, st_i, true_and, and_true, Classical.not_not, mp_isO, mp_gI4, mp_gI5, mp_gI7, mp_gI8, mp_gI9, mp_gI10, mp_gI11, mp_gI12, mp_gI13, mp_gI14, mp_gI15, mp_gI19, mp_gI20, mp_gI21, mp_gI23, mp_pI4, mp_pI5, mp_pI7, mp_pI8, mp_pI9, mp_pI10, mp_pI11, mp_pI12, mp_pI13, mp_pI14, mp_pI15, mp_pI19, mp_pI20, mp_pI21, mp_pI23, mp_gR0, mp_gR1, mp_gR2, mp_gR3, mp_gR6, mp_gR16, mp_gR17, mp_gR18, mp_gR22, mp_aI0, mp_aI1, mp_aI2, mp_aI3, mp_aI4, mp_aI5, mp_aI6, mp_aZ7, mp_aI8, mp_sI0, mp_sI1, mp_sI2, mp_sI3, mp_sI4, mp_sI5, mp_sI6, mp_sI8, mp_sZ0, mp_sZ1]
    refine k_X6_looks_60 ?_
    simp (disch := omega) only [lk_0, lk_5, lk_6, lk_7, lk_19, lk_20, lk_s5, lk_s6, lk_s7, lk_s19, lk_s20, true_implies, false_implies, not_true_eq_false, not_false_eq_true, I_n, I_neg, I_add, I_sub, I_mul, I_le4, I_lt4, I_eq4, I_div4, I_bi0, I_bi01, I_bi1, nor_em, rI_of, rV_of, zI_of, zV_of, nz_and, br_T, br_F, br_T2, br_F2, st_eq, st9_0, st_k, st_i, true_and, and_true, Classical.not_not, mp_isO, mp_gI4, mp_gI5, mp_gI7, mp_gI8, mp_gI9, mp_gI10, mp_gI11, mp_gI12, mp_gI13, mp_gI14, mp_gI15, mp_gI19, mp_gI20, mp_gI21, mp_gI23, mp_pI4, mp_pI5, mp_pI7, mp_pI8, mp_pI9, mp_pI10, mp_pI11, mp_pI12, mp_pI13, mp_pI14, mp_pI15, mp_pI19, mp_pI20, mp_pI21, mp_pI23, mp_gR0, mp_gR1, mp_gR2, mp_gR3, mp_gR6, mp_gR16, mp_gR17, mp_gR18, mp_gR22, mp_aI0, mp_aI1, mp_aI2, mp_aI3, mp_aI4, mp_aI5, mp_aI6, mp_aZ7, mp_aI8, mp_sI0, mp_sI1, mp_sI2, mp_sI3, mp_sI4, mp_sI5, mp_sI6, mp_sI8, mp_sZ0, mp_sZ1]
    rw [show (1 : Int) + -1 = 0 by decide, rs_eq, rs_eq]
    refine L_look hl w h0 h1 6 0 (gPo (S 0) k) 0 _ _ _ 0 0 (by omega) p1 (by have : (2 : Int) ^ 6 = 64 := rfl; omega) (by omega) (by omega) (by decide) ?_
    intro F' M' _
    refine k_X6_looks_60 ?_
    simp (disch := omega) only [lk_0, lk_5, lk_6, lk_7, lk_19, lk_20, lk_s5, lk_s6, lk_s7, lk_s19, lk_s20, true_implies, false_implies, not_true_eq_false, not_false_eq_true, I_n, I_neg, I_add, I_sub, I_mul, I_le4, I_lt4, I_eq4, I_div4, I_bi0, I_bi01, I_bi1, nor_em, rI_of, rV_of, zI_of, zV_of, nz_and, br_T, br_F, br_T2, br_F2, st_eq, st9_0, st_k, st_i, true_and, and_true, Classical.not_not, mp_isO, mp_gI4, mp_gI5, mp_gI7, mp_gI8, mp_gI9, mp_gI10, mp_gI11, mp_gI12, mp_gI13, mp_gI14, mp_gI15, mp_gI19, mp_gI20, mp_gI21, mp_gI23, mp_pI4, mp_pI5, mp_pI7, mp_pI8, mp_pI9, mp_pI10, mp_pI11, mp_pI12, mp_pI13, mp_pI14, mp_pI15, mp_pI19, mp_pI20, mp_pI21, mp_pI23, mp_gR0, mp_gR1, mp_gR2, mp_gR3, mp_gR6, mp_gR16, mp_gR17, mp_gR18, mp_gR22, mp_aI0, mp_aI1, mp_aI2, mp_aI3, mp_aI4, mp_aI5, mp_aI6, mp_aZ7, mp_aI8, mp_sI0, mp_sI1, mp_sI2, mp_sI3, mp_sI4, mp_sI5, mp_sI6, mp_sI8, mp_sZ0, mp_sZ1]
    refine ⟨F', M', ?_⟩
    unfold lk0
    rw [Int.zero_add, Int.zero_add]
    rfl
  · intro j hj ih
    have c := zer_s (r := S 7) (n := j) (by omega)
    have e1 : ((j + 1 : Nat) : Int) = (j : Int) + 1 := rfl
    rw [e1, ← c] at ih
    refine k_X6_looks_18 ?_
    simp (disch := omega) only [lk_0, lk_5, lk_6, lk_7, lk_19, lk_20, lk_s5, lk_s6, lk_s7, lk_s19, lk_s20, true_implies, false_implies, not_true_eq_false, not_false_eq_true, I_n, I_neg, I_add, I_sub, I_mul, I_le4, I_lt4, I_eq4, I_div4, I_bi0, I_bi01, I_bi1, nor_em, rI_of, rV_of, zI_of, zV_of, nz_and, br_T, br_F, br_T2, br_F2, st_eq, st9_0, st_k, st_i, true_and, and_true, Classical.not_not, mp_isO, mp_gI4, mp_gI5, mp_gI7, mp_gI8, mp_gI9, mp_gI10, mp_gI11, mp_gI12, mp_gI13, mp_gI14, mp_gI15, mp_gI19, mp_gI20, mp_gI21, mp_gI23, mp_pI4, mp_pI5, mp_pI7, mp_pI8, mp_pI9, mp_pI10, mp_pI11, mp_pI12, mp_pI13, mp_pI14, mp_pI15, mp_pI19, mp_pI20, mp_pI21, mp_pI23, mp_gR0, mp_gR1, mp_gR2, mp_gR3, mp_gR6, mp_gR16, mp_gR17, mp_gR18, mp_gR22, mp_aI0, mp_aI1, mp_aI2, mp_aI3, mp_aI4, mp_aI5, mp_aI6, mp_aZ7, mp_aI8, mp_sI0, mp_sI1, mp_sI2, mp_sI3, mp_sI4, mp_sI5, mp_sI6, mp_sI8, mp_sZ0, mp_sZ1]
    exact ih
end MX
