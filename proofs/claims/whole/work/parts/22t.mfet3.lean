/-! the reference: fetch, whole -/
def tFet (r : Int → Int) (s k : Int) : Int := tr2 ((0 ≤ s ∧ s ≤ 1) ∧ 0 ≤ k ∧ k ≤ gN r - 1) (¬ r (14 + s) = 0 ∧ ¬ gMi r k = 0)
section MT2
variable {l : Launch} {X : XT} {o : Nat} {B A : AH} {S : Nat → Int → Int} {e : Int}
theorem sr_kS {S : Nat → Int → Int} {v : Int} : sr (kS (st S 9 5 v)) (S 0) = kS (st S 9 5 v) := by
  have h := sr_self (S := kS (st S 9 5 v))
  rw [kS_st] at h
  exact h
theorem c_X6_fetch (hl : l.stackTraces = false) (w : RW (S 0) e) (he : e + 1000 ≤ 2000000000) (hm : 0 ≤ S 9 4 ∧ S 9 4 ≤ 8) {s k : Int} (hs : sm s) (hk : sm k) : Fn l X 6 M_X6_fetch [.ref o, .int (I s), .int (I k)] (mp X o B S) 0 0 (Ri (I (if tFet (S 0) s k = 0 then (rFe s (gF (S 0) k) (gPo (S 0) k).toNat 0 (S 0)).2 else 0))) (mp X o B (if tFet (S 0) s k = 0 then sr (kS (st S 9 5 0)) (rFe s (gF (S 0) k) (gPo (S 0) k).toNat 0 (S 0)).1 else st S 9 5 (tFet (S 0) s k))) := by
  have g := w.1
  obtain ⟨n1, n2, -⟩ := gN_b g
  unfold tFet
  refine Fn.of hl rfl rfl (Nat.le_of_ble_eq_true rfl) (k_X6_fetch_0 ?_)
  simp only [I_n]
  refine (c_X6_isSource hl hs).cl0 (by decide) ?_
  simp (disch := omega) only [I_n, I_neg, I_add, I_sub, I_mul, I_le4, I_lt4, I_eq4, I_div4, I_bi0, I_bi01, I_bi1, nor_em, rI_of, rV_of, zI_of, zV_of, nz_and, br_T, br_F, br_T2, br_F2, st_eq, st9_0, st_k, st_i, true_and, and_true, Classical.not_not, mp_isO, mp_gI4, mp_gI5, mp_gI7, mp_gI8, mp_gI9, mp_gI10, mp_gI11, mp_gI12, mp_gI13, mp_gI14, mp_gI15, mp_gI19, mp_gI20, mp_gI21, mp_gI23, mp_pI4, mp_pI5, mp_pI7, mp_pI8, mp_pI9, mp_pI10, mp_pI11, mp_pI12, mp_pI13, mp_pI14, mp_pI15, mp_pI19, mp_pI20, mp_pI21, mp_pI23, mp_gR0, mp_gR1, mp_gR2, mp_gR3, mp_gR6, mp_gR16, mp_gR17, mp_gR18, mp_gR22, mp_aI0, mp_aI1, mp_aI2, mp_aI3, mp_aI4, mp_aI5, mp_aI6, mp_aZ7, mp_aI8, mp_sI0, mp_sI1, mp_sI2, mp_sI3, mp_sI4, mp_sI5, mp_sI6, mp_sI8, mp_sZ0, mp_sZ1]
  refine ⟨fun h => k_X6_fetch_45 ?_, fun h => ?_⟩
  · rw [tr2_1 (fun q => h q.1), if_neg (by decide), if_neg (by decide)]
    simp (disch := omega) only [I_n, I_neg, I_add, I_sub, I_mul, I_le4, I_lt4, I_eq4, I_div4, I_bi0, I_bi01, I_bi1, nor_em, rI_of, rV_of, zI_of, zV_of, nz_and, br_T, br_F, br_T2, br_F2, st_eq, st9_0, st_k, st_i, true_and, and_true, Classical.not_not, mp_isO, mp_gI4, mp_gI5, mp_gI7, mp_gI8, mp_gI9, mp_gI10, mp_gI11, mp_gI12, mp_gI13, mp_gI14, mp_gI15, mp_gI19, mp_gI20, mp_gI21, mp_gI23, mp_pI4, mp_pI5, mp_pI7, mp_pI8, mp_pI9, mp_pI10, mp_pI11, mp_pI12, mp_pI13, mp_pI14, mp_pI15, mp_pI19, mp_pI20, mp_pI21, mp_pI23, mp_gR0, mp_gR1, mp_gR2, mp_gR3, mp_gR6, mp_gR16, mp_gR17, mp_gR18, mp_gR22, mp_aI0, mp_aI1, mp_aI2, mp_aI3, mp_aI4, mp_aI5, mp_aI6, mp_aZ7, mp_aI8, mp_sI0, mp_sI1, mp_sI2, mp_sI3, mp_sI4, mp_sI5, mp_sI6, mp_sI8, mp_sZ0, mp_sZ1]
    all_goals first | rfl | exact ⟨rfl, rfl⟩
  · refine (c_X6_isPiece hl g hk).cl0 (by decide) ?_
    have h14 := RW_14 w h
    simp (disch := omega) only [I_n, I_neg, I_add, I_sub, I_mul, I_le4, I_lt4, I_eq4, I_div4, I_bi0, I_bi01, I_bi1, nor_em, rI_of, rV_of, zI_of, zV_of, nz_and, br_T, br_F, br_T2, br_F2, st_eq, st9_0, st_k, st_i, true_and, and_true, Classical.not_not, mp_isO, mp_gI4, mp_gI5, mp_gI7, mp_gI8, mp_gI9, mp_gI10, mp_gI11, mp_gI12, mp_gI13, mp_gI14, mp_gI15, mp_gI19, mp_gI20, mp_gI21, mp_gI23, mp_pI4, mp_pI5, mp_pI7, mp_pI8, mp_pI9, mp_pI10, mp_pI11, mp_pI12, mp_pI13, mp_pI14, mp_pI15, mp_pI19, mp_pI20, mp_pI21, mp_pI23, mp_gR0, mp_gR1, mp_gR2, mp_gR3, mp_gR6, mp_gR16, mp_gR17, mp_gR18, mp_gR22, mp_aI0, mp_aI1, mp_aI2, mp_aI3, mp_aI4, mp_aI5, mp_aI6, mp_aZ7, mp_aI8, mp_sI0, mp_sI1, mp_sI2, mp_sI3, mp_sI4, mp_sI5, mp_sI6, mp_sI8, mp_sZ0, mp_sZ1]
    refine ⟨fun h2 => ⟨fun h3 => k_X6_fetch_45 ?_, fun h3 => ?_⟩, fun h2 => k_X6_fetch_45 ?_⟩
    · rw [tr2_2 ⟨h, h2⟩ (fun q => q.1 h3), if_neg (by decide), if_neg (by decide)]
      simp (disch := omega) only [I_n, I_neg, I_add, I_sub, I_mul, I_le4, I_lt4, I_eq4, I_div4, I_bi0, I_bi01, I_bi1, nor_em, rI_of, rV_of, zI_of, zV_of, nz_and, br_T, br_F, br_T2, br_F2, st_eq, st9_0, st_k, st_i, true_and, and_true, Classical.not_not, mp_isO, mp_gI4, mp_gI5, mp_gI7, mp_gI8, mp_gI9, mp_gI10, mp_gI11, mp_gI12, mp_gI13, mp_gI14, mp_gI15, mp_gI19, mp_gI20, mp_gI21, mp_gI23, mp_pI4, mp_pI5, mp_pI7, mp_pI8, mp_pI9, mp_pI10, mp_pI11, mp_pI12, mp_pI13, mp_pI14, mp_pI15, mp_pI19, mp_pI20, mp_pI21, mp_pI23, mp_gR0, mp_gR1, mp_gR2, mp_gR3, mp_gR6, mp_gR16, mp_gR17, mp_gR18, mp_gR22, mp_aI0, mp_aI1, mp_aI2, mp_aI3, mp_aI4, mp_aI5, mp_aI6, mp_aZ7, mp_aI8, mp_sI0, mp_sI1, mp_sI2, mp_sI3, mp_sI4, mp_sI5, mp_sI6, mp_sI8, mp_sZ0, mp_sZ1]
      all_goals first | rfl | exact ⟨rfl, rfl⟩
    · obtain ⟨p1, p2, p3, p4, p5⟩ := gPo_b g h2.1 (by omega : k < gN (S 0))
      obtain ⟨q1, q2, -⟩ := gE_b g
      have hmi : 0 ≤ gMi (S 0) k ∧ gMi (S 0) k ≤ (gPo (S 0) k).toNat := sg_bi
      refine (c_X6_missingIn hl w h2.1 (by omega)).cl0 (by decide) ?_
      simp (disch := omega) only [I_n, I_neg, I_add, I_sub, I_mul, I_le4, I_lt4, I_eq4, I_div4, I_bi0, I_bi01, I_bi1, nor_em, rI_of, rV_of, zI_of, zV_of, nz_and, br_T, br_F, br_T2, br_F2, st_eq, st9_0, st_k, st_i, true_and, and_true, Classical.not_not, mp_isO, mp_gI4, mp_gI5, mp_gI7, mp_gI8, mp_gI9, mp_gI10, mp_gI11, mp_gI12, mp_gI13, mp_gI14, mp_gI15, mp_gI19, mp_gI20, mp_gI21, mp_gI23, mp_pI4, mp_pI5, mp_pI7, mp_pI8, mp_pI9, mp_pI10, mp_pI11, mp_pI12, mp_pI13, mp_pI14, mp_pI15, mp_pI19, mp_pI20, mp_pI21, mp_pI23, mp_gR0, mp_gR1, mp_gR2, mp_gR3, mp_gR6, mp_gR16, mp_gR17, mp_gR18, mp_gR22, mp_aI0, mp_aI1, mp_aI2, mp_aI3, mp_aI4, mp_aI5, mp_aI6, mp_aZ7, mp_aI8, mp_sI0, mp_sI1, mp_sI2, mp_sI3, mp_sI4, mp_sI5, mp_sI6, mp_sI8, mp_sZ0, mp_sZ1]
      refine ⟨fun h4 => k_X6_fetch_45 ?_, fun h4 => k_X6_fetch_45 ?_⟩
      · have ha : (0 ≤ s ∧ s ≤ 1) ∧ 0 ≤ k ∧ k ≤ gN (S 0) - 1 := ⟨h, h2⟩
        rw [tr2_0 ha h4, if_pos rfl, if_pos rfl]
        simp (disch := omega) only [I_n, I_neg, I_add, I_sub, I_mul, I_le4, I_lt4, I_eq4, I_div4, I_bi0, I_bi01, I_bi1, nor_em, rI_of, rV_of, zI_of, zV_of, nz_and, br_T, br_F, br_T2, br_F2, st_eq, st9_0, st_k, st_i, true_and, and_true, Classical.not_not, mp_isO, mp_gI4, mp_gI5, mp_gI7, mp_gI8, mp_gI9, mp_gI10, mp_gI11, mp_gI12, mp_gI13, mp_gI14, mp_gI15, mp_gI19, mp_gI20, mp_gI21, mp_gI23, mp_pI4, mp_pI5, mp_pI7, mp_pI8, mp_pI9, mp_pI10, mp_pI11, mp_pI12, mp_pI13, mp_pI14, mp_pI15, mp_pI19, mp_pI20, mp_pI21, mp_pI23, mp_gR0, mp_gR1, mp_gR2, mp_gR3, mp_gR6, mp_gR16, mp_gR17, mp_gR18, mp_gR22, mp_aI0, mp_aI1, mp_aI2, mp_aI3, mp_aI4, mp_aI5, mp_aI6, mp_aZ7, mp_aI8, mp_sI0, mp_sI1, mp_sI2, mp_sI3, mp_sI4, mp_sI5, mp_sI6, mp_sI8, mp_sZ0, mp_sZ1]
        refine (c_X6_keeps (S := st S 9 5 0) hl (by rw [st_k (by decide)]; exact hm)).cl0 (by decide) ?_
        simp (disch := omega) only [I_n, I_neg, I_add, I_sub, I_mul, I_le4, I_lt4, I_eq4, I_div4, I_bi0, I_bi01, I_bi1, nor_em, rI_of, rV_of, zI_of, zV_of, nz_and, br_T, br_F, br_T2, br_F2, st_eq, st9_0, st_k, st_i, true_and, and_true, Classical.not_not, mp_isO, mp_gI4, mp_gI5, mp_gI7, mp_gI8, mp_gI9, mp_gI10, mp_gI11, mp_gI12, mp_gI13, mp_gI14, mp_gI15, mp_gI19, mp_gI20, mp_gI21, mp_gI23, mp_pI4, mp_pI5, mp_pI7, mp_pI8, mp_pI9, mp_pI10, mp_pI11, mp_pI12, mp_pI13, mp_pI14, mp_pI15, mp_pI19, mp_pI20, mp_pI21, mp_pI23, mp_gR0, mp_gR1, mp_gR2, mp_gR3, mp_gR6, mp_gR16, mp_gR17, mp_gR18, mp_gR22, mp_aI0, mp_aI1, mp_aI2, mp_aI3, mp_aI4, mp_aI5, mp_aI6, mp_aZ7, mp_aI8, mp_sI0, mp_sI1, mp_sI2, mp_sI3, mp_sI4, mp_sI5, mp_sI6, mp_sI8, mp_sZ0, mp_sZ1]
        have a := L_X6_fetch (X := X) (o := o) (B := B) (S := kS (st S 9 5 0)) hl h (k := k) (f := gF (S 0) k) (gPo (S 0) k).toNat 0 (S 0) 0 e w (by omega) (by omega) h2.1 (by omega) (by omega) rfl
        rw [sr_kS, Int.zero_add] at a
        exact a
      · have ha : (0 ≤ s ∧ s ≤ 1) ∧ 0 ≤ k ∧ k ≤ gN (S 0) - 1 := ⟨h, h2⟩
        rw [tr2_2 ha (fun q => q h4), if_neg (by decide), if_neg (by decide)]
        simp (disch := omega) only [I_n, I_neg, I_add, I_sub, I_mul, I_le4, I_lt4, I_eq4, I_div4, I_bi0, I_bi01, I_bi1, nor_em, rI_of, rV_of, zI_of, zV_of, nz_and, br_T, br_F, br_T2, br_F2, st_eq, st9_0, st_k, st_i, true_and, and_true, Classical.not_not, mp_isO, mp_gI4, mp_gI5, mp_gI7, mp_gI8, mp_gI9, mp_gI10, mp_gI11, mp_gI12, mp_gI13, mp_gI14, mp_gI15, mp_gI19, mp_gI20, mp_gI21, mp_gI23, mp_pI4, mp_pI5, mp_pI7, mp_pI8, mp_pI9, mp_pI10, mp_pI11, mp_pI12, mp_pI13, mp_pI14, mp_pI15, mp_pI19, mp_pI20, mp_pI21, mp_pI23, mp_gR0, mp_gR1, mp_gR2, mp_gR3, mp_gR6, mp_gR16, mp_gR17, mp_gR18, mp_gR22, mp_aI0, mp_aI1, mp_aI2, mp_aI3, mp_aI4, mp_aI5, mp_aI6, mp_aZ7, mp_aI8, mp_sI0, mp_sI1, mp_sI2, mp_sI3, mp_sI4, mp_sI5, mp_sI6, mp_sI8, mp_sZ0, mp_sZ1]
        all_goals first | rfl | exact ⟨rfl, rfl⟩
    · rw [tr2_1 (fun q => h2 q.2), if_neg (by decide), if_neg (by decide)]
      simp (disch := omega) only [I_n, I_neg, I_add, I_sub, I_mul, I_le4, I_lt4, I_eq4, I_div4, I_bi0, I_bi01, I_bi1, nor_em, rI_of, rV_of, zI_of, zV_of, nz_and, br_T, br_F, br_T2, br_F2, st_eq, st9_0, st_k, st_i, true_and, and_true, Classical.not_not, mp_isO, mp_gI4, mp_gI5, mp_gI7, mp_gI8, mp_gI9, mp_gI10, mp_gI11, mp_gI12, mp_gI13, mp_gI14, mp_gI15, mp_gI19, mp_gI20, mp_gI21, mp_gI23, mp_pI4, mp_pI5, mp_pI7, mp_pI8, mp_pI9, mp_pI10, mp_pI11, mp_pI12, mp_pI13, mp_pI14, mp_pI15, mp_pI19, mp_pI20, mp_pI21, mp_pI23, mp_gR0, mp_gR1, mp_gR2, mp_gR3, mp_gR6, mp_gR16, mp_gR17, mp_gR18, mp_gR22, mp_aI0, mp_aI1, mp_aI2, mp_aI3, mp_aI4, mp_aI5, mp_aI6, mp_aZ7, mp_aI8, mp_sI0, mp_sI1, mp_sI2, mp_sI3, mp_sI4, mp_sI5, mp_sI6, mp_sI8, mp_sZ0, mp_sZ1]
      all_goals first | rfl | exact ⟨rfl, rfl⟩
end MT2
