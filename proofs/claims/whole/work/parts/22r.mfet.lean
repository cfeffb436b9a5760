/-! the reference: drop, fetch -/
theorem tr2_1 {a b : Prop} [Decidable a] [Decidable b] (h : ¬ a) : tr2 a b = 1 := if_neg h
theorem tr2_2 {a b : Prop} [Decidable a] [Decidable b] (h : a) (k : ¬ b) : tr2 a b = 2 := by unfold tr2; rw [if_pos h, if_neg k]
theorem tr2_0 {a b : Prop} [Decidable a] [Decidable b] (h : a) (k : b) : tr2 a b = 0 := by unfold tr2; rw [if_pos h, if_pos k]
/-- the missing parts of a piece, fetched from its part j on: the row, and how many -/
def rFe (s f : Int) : Nat → Int → (Int → Int) → (Int → Int) × Int
  | 0, _, r => (r, 0)
  | m + 1, j, r => if r (96 + (f + j)) = 0 ∧ ¬ r (14 + s) = 0 then ((rFe s f m (j + 1) (rArr r s (f + j))).1, (rFe s f m (j + 1) (rArr r s (f + j))).2 + 1) else rFe s f m (j + 1) r
section MR
variable {l : Launch} {X : XT} {o : Nat} {B A : AH} {S : Nat → Int → Int} {e : Int}
theorem c_X6_drop (hl : l.stackTraces = false) (w : RW (S 0) e) (hm : 0 ≤ S 9 4 ∧ S 9 4 ≤ 8) {p : Int} (hp : sm p) : Fn l X 4 M_X6_drop [.ref o, .int (I p)] (mp X o B S) 0 0 (Ri (I (if tr2 (0 ≤ p ∧ p ≤ gT (S 0) - 1) (¬ S 0 (96 + p) = 0) = 0 then S 0 (96 + p) - 1 else 0))) (mp X o B (if tr2 (0 ≤ p ∧ p ≤ gT (S 0) - 1) (¬ S 0 (96 + p) = 0) = 0 then sr (kS (st S 9 5 0)) (rs (S 0) (96 + p) 0) else st S 9 5 (tr2 (0 ≤ p ∧ p ≤ gT (S 0) - 1) (¬ S 0 (96 + p) = 0)))) := by
  have g := w.1
  obtain ⟨n1, n2⟩ := gT_b g
  have lg := g.2.1
  have ho := w.2.2.2.2.2.2.2.2.2.1
  refine Fn.of hl rfl rfl (Nat.le_of_ble_eq_true rfl) (k_X6_drop_0 ?_)
  simp only [I_n]
  refine ⟨mp_isO, (c_X6_isPart hl g hp).cl0 (by decide) ?_⟩
  simp (disch := omega) only [I_n, I_neg, I_add, I_sub, I_mul, I_le4, I_lt4, I_eq4, I_div4, I_bi0, I_bi01, I_bi1, nor_em, rI_of, rV_of, zI_of, zV_of, nz_and, br_T, br_F, br_T2, br_F2, st_eq, st9_0, st_k, st_i, true_and, and_true, Classical.not_not, mp_isO, mp_gI4, mp_gI5, mp_gI7, mp_gI8, mp_gI9, mp_gI10, mp_gI11, mp_gI12, mp_gI13, mp_gI14, mp_gI15, mp_gI19, mp_gI20, mp_gI21, mp_gI23, mp_pI4, mp_pI5, mp_pI7, mp_pI8, mp_pI9, mp_pI10, mp_pI11, mp_pI12, mp_pI13, mp_pI14, mp_pI15, mp_pI19, mp_pI20, mp_pI21, mp_pI23, mp_gR0, mp_gR1, mp_gR2, mp_gR3, mp_gR6, mp_gR16, mp_gR17, mp_gR18, mp_gR22, mp_aI0, mp_aI1, mp_aI2, mp_aI3, mp_aI4, mp_aI5, mp_aI6, mp_aZ7, mp_aI8, mp_sI0, mp_sI1, mp_sI2, mp_sI3, mp_sI4, mp_sI5, mp_sI6, mp_sI8, mp_sZ0, mp_sZ1]
  refine ⟨fun h => ?_, fun h => k_X6_drop_26 ?_⟩
  · have ho1 := ho p h.1 (by omega)
    refine (c_X6_isMissing hl h.1 (by omega) (by omega)).cl0 (by decide) ?_
    simp (disch := omega) only [I_n, I_neg, I_add, I_sub, I_mul, I_le4, I_lt4, I_eq4, I_div4, I_bi0, I_bi01, I_bi1, nor_em, rI_of, rV_of, zI_of, zV_of, nz_and, br_T, br_F, br_T2, br_F2, st_eq, st9_0, st_k, st_i, true_and, and_true, Classical.not_not, mp_isO, mp_gI4, mp_gI5, mp_gI7, mp_gI8, mp_gI9, mp_gI10, mp_gI11, mp_gI12, mp_gI13, mp_gI14, mp_gI15, mp_gI19, mp_gI20, mp_gI21, mp_gI23, mp_pI4, mp_pI5, mp_pI7, mp_pI8, mp_pI9, mp_pI10, mp_pI11, mp_pI12, mp_pI13, mp_pI14, mp_pI15, mp_pI19, mp_pI20, mp_pI21, mp_pI23, mp_gR0, mp_gR1, mp_gR2, mp_gR3, mp_gR6, mp_gR16, mp_gR17, mp_gR18, mp_gR22, mp_aI0, mp_aI1, mp_aI2, mp_aI3, mp_aI4, mp_aI5, mp_aI6, mp_aZ7, mp_aI8, mp_sI0, mp_sI1, mp_sI2, mp_sI3, mp_sI4, mp_sI5, mp_sI6, mp_sI8, mp_sZ0, mp_sZ1]
    refine ⟨fun h2 => k_X6_drop_26 ?_, fun h2 => k_X6_drop_26 ?_⟩
    · rw [tr2_0 h h2, if_pos rfl, if_pos rfl]
      simp (disch := omega) only [I_n, I_neg, I_add, I_sub, I_mul, I_le4, I_lt4, I_eq4, I_div4, I_bi0, I_bi01, I_bi1, nor_em, rI_of, rV_of, zI_of, zV_of, nz_and, br_T, br_F, br_T2, br_F2, st_eq, st9_0, st_k, st_i, true_and, and_true, Classical.not_not, mp_isO, mp_gI4, mp_gI5, mp_gI7, mp_gI8, mp_gI9, mp_gI10, mp_gI11, mp_gI12, mp_gI13, mp_gI14, mp_gI15, mp_gI19, mp_gI20, mp_gI21, mp_gI23, mp_pI4, mp_pI5, mp_pI7, mp_pI8, mp_pI9, mp_pI10, mp_pI11, mp_pI12, mp_pI13, mp_pI14, mp_pI15, mp_pI19, mp_pI20, mp_pI21, mp_pI23, mp_gR0, mp_gR1, mp_gR2, mp_gR3, mp_gR6, mp_gR16, mp_gR17, mp_gR18, mp_gR22, mp_aI0, mp_aI1, mp_aI2, mp_aI3, mp_aI4, mp_aI5, mp_aI6, mp_aZ7, mp_aI8, mp_sI0, mp_sI1, mp_sI2, mp_sI3, mp_sI4, mp_sI5, mp_sI6, mp_sI8, mp_sZ0, mp_sZ1]
      refine (c_X6_keeps (S := st S 9 5 0) hl (by rw [st_k (by decide)]; exact hm)).cl0 (by decide) ?_
      simp (disch := omega) only [I_n, I_neg, I_add, I_sub, I_mul, I_le4, I_lt4, I_eq4, I_div4, I_bi0, I_bi01, I_bi1, nor_em, rI_of, rV_of, zI_of, zV_of, nz_and, br_T, br_F, br_T2, br_F2, st_eq, st9_0, st_k, st_i, true_and, and_true, Classical.not_not, mp_isO, mp_gI4, mp_gI5, mp_gI7, mp_gI8, mp_gI9, mp_gI10, mp_gI11, mp_gI12, mp_gI13, mp_gI14, mp_gI15, mp_gI19, mp_gI20, mp_gI21, mp_gI23, mp_pI4, mp_pI5, mp_pI7, mp_pI8, mp_pI9, mp_pI10, mp_pI11, mp_pI12, mp_pI13, mp_pI14, mp_pI15, mp_pI19, mp_pI20, mp_pI21, mp_pI23, mp_gR0, mp_gR1, mp_gR2, mp_gR3, mp_gR6, mp_gR16, mp_gR17, mp_gR18, mp_gR22, mp_aI0, mp_aI1, mp_aI2, mp_aI3, mp_aI4, mp_aI5, mp_aI6, mp_aZ7, mp_aI8, mp_sI0, mp_sI1, mp_sI2, mp_sI3, mp_sI4, mp_sI5, mp_sI6, mp_sI8, mp_sZ0, mp_sZ1]
      rw [sr_st, kS_st]
      all_goals first | rfl | exact ⟨rfl, rfl⟩
    · rw [tr2_2 h (fun q => q h2), if_neg (by decide), if_neg (by decide)]
      simp (disch := omega) only [I_n, I_neg, I_add, I_sub, I_mul, I_le4, I_lt4, I_eq4, I_div4, I_bi0, I_bi01, I_bi1, nor_em, rI_of, rV_of, zI_of, zV_of, nz_and, br_T, br_F, br_T2, br_F2, st_eq, st9_0, st_k, st_i, true_and, and_true, Classical.not_not, mp_isO, mp_gI4, mp_gI5, mp_gI7, mp_gI8, mp_gI9, mp_gI10, mp_gI11, mp_gI12, mp_gI13, mp_gI14, mp_gI15, mp_gI19, mp_gI20, mp_gI21, mp_gI23, mp_pI4, mp_pI5, mp_pI7, mp_pI8, mp_pI9, mp_pI10, mp_pI11, mp_pI12, mp_pI13, mp_pI14, mp_pI15, mp_pI19, mp_pI20, mp_pI21, mp_pI23, mp_gR0, mp_gR1, mp_gR2, mp_gR3, mp_gR6, mp_gR16, mp_gR17, mp_gR18, mp_gR22, mp_aI0, mp_aI1, mp_aI2, mp_aI3, mp_aI4, mp_aI5, mp_aI6, mp_aZ7, mp_aI8, mp_sI0, mp_sI1, mp_sI2, mp_sI3, mp_sI4, mp_sI5, mp_sI6, mp_sI8, mp_sZ0, mp_sZ1]
      all_goals first | rfl | exact ⟨rfl, rfl⟩
  · rw [tr2_1 h, if_neg (by decide), if_neg (by decide)]
    simp (disch := omega) only [I_n, I_neg, I_add, I_sub, I_mul, I_le4, I_lt4, I_eq4, I_div4, I_bi0, I_bi01, I_bi1, nor_em, rI_of, rV_of, zI_of, zV_of, nz_and, br_T, br_F, br_T2, br_F2, st_eq, st9_0, st_k, st_i, true_and, and_true, Classical.not_not, mp_isO, mp_gI4, mp_gI5, mp_gI7, mp_gI8, mp_gI9, mp_gI10, mp_gI11, mp_gI12, mp_gI13, mp_gI14, mp_gI15, mp_gI19, mp_gI20, mp_gI21, mp_gI23, mp_pI4, mp_pI5, mp_pI7, mp_pI8, mp_pI9, mp_pI10, mp_pI11, mp_pI12, mp_pI13, mp_pI14, mp_pI15, mp_pI19, mp_pI20, mp_pI21, mp_pI23, mp_gR0, mp_gR1, mp_gR2, mp_gR3, mp_gR6, mp_gR16, mp_gR17, mp_gR18, mp_gR22, mp_aI0, mp_aI1, mp_aI2, mp_aI3, mp_aI4, mp_aI5, mp_aI6, mp_aZ7, mp_aI8, mp_sI0, mp_sI1, mp_sI2, mp_sI3, mp_sI4, mp_sI5, mp_sI6, mp_sI8, mp_sZ0, mp_sZ1]
    all_goals first | rfl | exact ⟨rfl, rfl⟩
end MR
