/-! the reference: drops, connect, drop -/
def rD2 (r : Int → Int) (p : Int) : Int → Int := rs (rs r (96 + p) 0) 8 (rs r (96 + p) 0 8 + 1)
def rD3 (r : Int → Int) (p : Int) : Int → Int := if 2 ≤ r (96 + p) - 1 then rD2 r p else rs (rD2 r p) (18 + (r (96 + p) - 1)) (rD2 r p (18 + (r (96 + p) - 1)) + 1)
def rDr (r : Int → Int) (p k : Int) : Int → Int := if k = 3 then rTell (rD3 r p) 3 p (r (96 + p) - 1) else rD2 r p
theorem rD2_w {r : Int → Int} {e p : Int} (w : RW r e) (he : e + 10 ≤ 2000000000) (h0 : 0 ≤ p) (h1 : p < 240) : RW (rD2 r p) (e + 1) := by
  have c5 := w.2.2.2.2.2.1
  have hg := RW_gl w
  have w1 := RW_e w (e' := e + 1) (by omega) (by omega)
  have e1 : rs r (96 + p) 0 8 = r 8 := rs_ne (by omega)
  unfold rD2
  rw [e1]
  refine RW_set ?_ (by omega) (by omega) (by omega) (by omega) (by omega) (by omega) (by omega) (by omega) (by omega) (by omega) (by omega) (by omega)
  exact RW_set w1 (by omega) (by omega) (by omega) (by omega) (by omega) (by omega) (by omega) (by omega) (by omega) (by omega) (by omega) (by omega)
theorem rD2_o {r : Int → Int} {p j : Int} (hj : j ≠ 96 + p) (h8 : j ≠ 8) : rD2 r p j = r j := by
  unfold rD2
  rw [rs_ne h8, rs_ne hj]
theorem rD3_w {r : Int → Int} {e p : Int} (w : RW r e) (he : e + 10 ≤ 2000000000) (h0 : 0 ≤ p) (h1 : p < 240) (hp : r (96 + p) ≠ 0) : RW (rD3 r p) (e + 1) ∧ ∀ j, j ≠ 96 + p → j ≠ 8 → j ≠ 18 → j ≠ 19 → rD3 r p j = r j := by
  have w2 := rD2_w w he h0 h1
  have ho := w.2.2.2.2.2.2.2.2.2.1 p h0 h1
  have hg := RW_gl w
  unfold rD3
  split
  · exact ⟨w2, fun j a b _ _ => rD2_o a b⟩
  · rename_i h
    have hs : 0 ≤ r (96 + p) - 1 ∧ r (96 + p) - 1 ≤ 1 := by omega
    have e1 : rD2 r p (18 + (r (96 + p) - 1)) = r (18 + (r (96 + p) - 1)) := rD2_o (by omega) (by omega)
    have e2 := RW_18 w hs
    rw [e1]
    exact ⟨RW_set w2 (by omega) (by omega) (by omega) (by omega) (by omega) (by omega) (by omega) (by omega) (by omega) (by omega) (by omega) (by omega), fun j a b c d => (rs_ne (by omega)).trans (rD2_o a b)⟩
theorem rDr_w {r : Int → Int} {e p k : Int} (w : RW r e) (he : e + 10 ≤ 2000000000) (h0 : 0 ≤ p) (h1 : p < 240) (hp : r (96 + p) ≠ 0) : RW (rDr r p k) (e + 2) ∧ ∀ j, j ≠ 96 + p → j ≠ 7 → j ≠ 8 → j ≠ 18 → j ≠ 19 → j < 576 ∨ 696 ≤ j → rDr r p k j = r j := by
  have w2 := rD2_w w he h0 h1
  obtain ⟨w3, o3⟩ := rD3_w w he h0 h1 hp
  have ho := w.2.2.2.2.2.2.2.2.2.1 p h0 h1
  have hg := RW_gl w
  unfold rDr
  split
  · have w4 := RW_tell w3 (k := 3) (a := p) (b := r (96 + p) - 1) (by omega) (by omega) (by omega) (by omega)
    exact ⟨RW_e w4 (by omega) (by omega), fun j a b c d f g => (rTell_g (RW_gl w3).1 (by omega)).trans (o3 j a c d f)⟩
  · exact ⟨RW_e w2 (by omega) (by omega), fun j a b c d f g => rD2_o a c⟩
section MP2
variable {l : Launch} {X : XT} {o : Nat} {B A : AH} {S : Nat → Int → Int} {e : Int}
theorem c_X6_drops (hl : l.stackTraces = false) (w : RW (S 0) e) (he : e + 10 ≤ 2000000000) {p k : Int} (h0 : 0 ≤ p) (h1 : p < 240) (hp : S 0 (96 + p) ≠ 0) (hk : sm k) : Fn l X 1 M_X6_drops [.ref o, .int (I p), .int (I k)] (mp X o B S) 0 0 Rv (mp X o B (sr S (rDr (S 0) p k))) := by
  obtain ⟨k1, k2⟩ := hk
  have ho := w.2.2.2.2.2.2.2.2.2.1 p h0 h1
  obtain ⟨w3, o3⟩ := rD3_w w he h0 h1 hp
  have hg := RW_gl w
  have hg3 := RW_gl w3
  refine Fn.of hl rfl rfl (Nat.le_of_ble_eq_true rfl) (k_X6_drops_0 ?_)
  simp (disch := omega) only [sr_0, sr_sr, sr_st, true_implies, false_implies, not_true_eq_false, not_false_eq_true, I_n, I_neg, I_add, I_sub, I_mul, I_le4, I_lt4, I_eq4, I_div4, I_bi0, I_bi01, I_bi1, nor_em, rI_of, rV_of, zI_of, zV_of, nz_and, br_T, br_F, br_T2, br_F2, st_eq, st9_0, st_k, st_i, true_and, and_true, Classical.not_not, mp_isO, mp_gI4, mp_gI5, mp_gI7, mp_gI8, mp_gI9, mp_gI10, mp_gI11, mp_gI12, mp_gI13, mp_gI14, mp_gI15, mp_gI19, mp_gI20, mp_gI21, mp_gI23, mp_pI4, mp_pI5, mp_pI7, mp_pI8, mp_pI9, mp_pI10, mp_pI11, mp_pI12, mp_pI13, mp_pI14, mp_pI15, mp_pI19, mp_pI20, mp_pI21, mp_pI23, mp_gR0, mp_gR1, mp_gR2, mp_gR3, mp_gR6, mp_gR16, mp_gR17, mp_gR18, mp_gR22, mp_aI0, mp_aI1, mp_aI2, mp_aI3, mp_aI4, mp_aI5, mp_aI6, mp_aZ7, mp_aI8, mp_sI0, mp_sI1, mp_sI2, mp_sI3, mp_sI4, mp_sI5, mp_sI6, mp_sI8, mp_sZ0, mp_sZ1]
  refine ⟨fun h => ⟨fun h2 => ?_, fun h2 => ?_⟩, fun h => ?_⟩
  · refine k_X6_drops_57 ?_
    simp (disch := omega) only [sr_0, sr_sr, sr_st, true_implies, false_implies, not_true_eq_false, not_false_eq_true, I_n, I_neg, I_add, I_sub, I_mul, I_le4, I_lt4, I_eq4, I_div4, I_bi0, I_bi01, I_bi1, nor_em, rI_of, rV_of, zI_of, zV_of, nz_and, br_T, br_F, br_T2, br_F2, st_eq, st9_0, st_k, st_i, true_and, and_true, Classical.not_not, mp_isO, mp_gI4, mp_gI5, mp_gI7, mp_gI8, mp_gI9, mp_gI10, mp_gI11, mp_gI12, mp_gI13, mp_gI14, mp_gI15, mp_gI19, mp_gI20, mp_gI21, mp_gI23, mp_pI4, mp_pI5, mp_pI7, mp_pI8, mp_pI9, mp_pI10, mp_pI11, mp_pI12, mp_pI13, mp_pI14, mp_pI15, mp_pI19, mp_pI20, mp_pI21, mp_pI23, mp_gR0, mp_gR1, mp_gR2, mp_gR3, mp_gR6, mp_gR16, mp_gR17, mp_gR18, mp_gR22, mp_aI0, mp_aI1, mp_aI2, mp_aI3, mp_aI4, mp_aI5, mp_aI6, mp_aZ7, mp_aI8, mp_sI0, mp_sI1, mp_sI2, mp_sI3, mp_sI4, mp_sI5, mp_sI6, mp_sI8, mp_sZ0, mp_sZ1]
    have e3 : rD3 (S 0) p = rD2 (S 0) p := if_pos h2
    rw [e3] at hg3
    refine (c_X6_tells (S := sr S (rD2 (S 0) p)) hl hg3.1 (by rw [sr_0]; omega)).cl0 (by decide) ?_
    simp (disch := omega) only [sr_0, sr_sr, sr_st, true_implies, false_implies, not_true_eq_false, not_false_eq_true, I_n, I_neg, I_add, I_sub, I_mul, I_le4, I_lt4, I_eq4, I_div4, I_bi0, I_bi01, I_bi1, nor_em, rI_of, rV_of, zI_of, zV_of, nz_and, br_T, br_F, br_T2, br_F2, st_eq, st9_0, st_k, st_i, true_and, and_true, Classical.not_not, mp_isO, mp_gI4, mp_gI5, mp_gI7, mp_gI8, mp_gI9, mp_gI10, mp_gI11, mp_gI12, mp_gI13, mp_gI14, mp_gI15, mp_gI19, mp_gI20, mp_gI21, mp_gI23, mp_pI4, mp_pI5, mp_pI7, mp_pI8, mp_pI9, mp_pI10, mp_pI11, mp_pI12, mp_pI13, mp_pI14, mp_pI15, mp_pI19, mp_pI20, mp_pI21, mp_pI23, mp_gR0, mp_gR1, mp_gR2, mp_gR3, mp_gR6, mp_gR16, mp_gR17, mp_gR18, mp_gR22, mp_aI0, mp_aI1, mp_aI2, mp_aI3, mp_aI4, mp_aI5, mp_aI6, mp_aZ7, mp_aI8, mp_sI0, mp_sI1, mp_sI2, mp_sI3, mp_sI4, mp_sI5, mp_sI6, mp_sI8, mp_sZ0, mp_sZ1]
    unfold rDr
    rw [if_pos h, e3]
    all_goals first | rfl | exact ⟨rfl, rfl⟩
  · refine k_X6_drops_57 ?_
    simp (disch := omega) only [sr_0, sr_sr, sr_st, true_implies, false_implies, not_true_eq_false, not_false_eq_true, I_n, I_neg, I_add, I_sub, I_mul, I_le4, I_lt4, I_eq4, I_div4, I_bi0, I_bi01, I_bi1, nor_em, rI_of, rV_of, zI_of, zV_of, nz_and, br_T, br_F, br_T2, br_F2, st_eq, st9_0, st_k, st_i, true_and, and_true, Classical.not_not, mp_isO, mp_gI4, mp_gI5, mp_gI7, mp_gI8, mp_gI9, mp_gI10, mp_gI11, mp_gI12, mp_gI13, mp_gI14, mp_gI15, mp_gI19, mp_gI20, mp_gI21, mp_gI23, mp_pI4, mp_pI5, mp_pI7, mp_pI8, mp_pI9, mp_pI10, mp_pI11, mp_pI12, mp_pI13, mp_pI14, mp_pI15, mp_pI19, mp_pI20, mp_pI21, mp_pI23, mp_gR0, mp_gR1, mp_gR2, mp_gR3, mp_gR6, mp_gR16, mp_gR17, mp_gR18, mp_gR22, mp_aI0, mp_aI1, mp_aI2, mp_aI3, mp_aI4, mp_aI5, mp_aI6, mp_aZ7, mp_aI8, mp_sI0, mp_sI1, mp_sI2, mp_sI3, mp_sI4, mp_sI5, mp_sI6, mp_sI8, mp_sZ0, mp_sZ1]
    have e3 : rD3 (S 0) p = rs (rD2 (S 0) p) (18 + (S 0 (96 + p) - 1)) (rD2 (S 0) p (18 + (S 0 (96 + p) - 1)) + 1) := if_neg h2
    rw [e3] at hg3
    refine (c_X6_tells (S := sr S (rs (rD2 (S 0) p) (18 + (S 0 (96 + p) - 1)) (rD2 (S 0) p (18 + (S 0 (96 + p) - 1)) + 1))) hl hg3.1 (by rw [sr_0]; omega)).cl0 (by decide) ?_
    simp (disch := omega) only [sr_0, sr_sr, sr_st, true_implies, false_implies, not_true_eq_false, not_false_eq_true, I_n, I_neg, I_add, I_sub, I_mul, I_le4, I_lt4, I_eq4, I_div4, I_bi0, I_bi01, I_bi1, nor_em, rI_of, rV_of, zI_of, zV_of, nz_and, br_T, br_F, br_T2, br_F2, st_eq, st9_0, st_k, st_i, true_and, and_true, Classical.not_not, mp_isO, mp_gI4, mp_gI5, mp_gI7, mp_gI8, mp_gI9, mp_gI10, mp_gI11, mp_gI12, mp_gI13, mp_gI14, mp_gI15, mp_gI19, mp_gI20, mp_gI21, mp_gI23, mp_pI4, mp_pI5, mp_pI7, mp_pI8, mp_pI9, mp_pI10, mp_pI11, mp_pI12, mp_pI13, mp_pI14, mp_pI15, mp_pI19, mp_pI20, mp_pI21, mp_pI23, mp_gR0, mp_gR1, mp_gR2, mp_gR3, mp_gR6, mp_gR16, mp_gR17, mp_gR18, mp_gR22, mp_aI0, mp_aI1, mp_aI2, mp_aI3, mp_aI4, mp_aI5, mp_aI6, mp_aZ7, mp_aI8, mp_sI0, mp_sI1, mp_sI2, mp_sI3, mp_sI4, mp_sI5, mp_sI6, mp_sI8, mp_sZ0, mp_sZ1]
    unfold rDr
    rw [if_pos h, e3]
    all_goals first | rfl | exact ⟨rfl, rfl⟩
  · unfold rDr
    rw [if_neg h]
    all_goals first | rfl | exact ⟨rfl, rfl⟩
end MP2
