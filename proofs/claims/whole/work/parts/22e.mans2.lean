/-! the reference's answers, further -/
theorem gAt_in {r : Int → Int} (g : GW r) {x : Int} (h0 : 0 ≤ x) (h1 : x < r 0) : 0 ≤ x / r 2 ∧ x / r 2 < gN r ∧ 0 ≤ (x - r 2 * (x / r 2)) / r 3 ∧ (x - r 2 * (x / r 2)) / r 3 < gPo r (x / r 2) ∧ 0 ≤ x - r 2 * (x / r 2) ∧ x - r 2 * (x / r 2) < gLen r (x / r 2) := by
  obtain ⟨n1, n2, n3, n4⟩ := gN_b g
  obtain ⟨g1, g2, g3, g4, g5, g6⟩ := id g
  have d := dvb (a := x) (b := r 2) (by omega)
  have q0 : 0 ≤ x / r 2 := Int.ediv_nonneg h0 (by omega)
  have q1 : x / r 2 < gN r := Int.ediv_lt_of_lt_mul (by omega) (by rw [Int.mul_comm]; omega)
  have q2 : x - r 2 * (x / r 2) < gLen r (x / r 2) := by
    by_cases h : x / r 2 + 1 < gN r
    · rw [gLen_in g q0 h]
      omega
    · have e : x / r 2 = gN r - 1 := by omega
      have e2 := gLen_last g
      rw [e]
      omega
  obtain ⟨p1, p2, p3, p4, p5⟩ := gPo_b g q0 q1
  exact ⟨q0, q1, Int.ediv_nonneg (by omega) (by omega), Int.ediv_lt_of_lt_mul (by omega) (by have m := Int.mul_comm (gPo r (x / r 2)) (r 3); omega), by omega, q2⟩
theorem gAt_b {r : Int → Int} (g : GW r) {x : Int} (h0 : 0 ≤ x) (h1 : x < r 0) : 0 ≤ gAt r x ∧ gAt r x < gT r := by
  obtain ⟨a1, a2, a3, a4, -⟩ := gAt_in g h0 h1
  obtain ⟨f1, f2⟩ := gF_b g a1 a2
  unfold gAt
  omega
def fSource (r : Int → Int) (s k n : Int) : Int := if k = 0 then r (14 + s) else if k = 1 then (if s = 1 then r 13 else 0) else if k = 2 then r (16 + s) else if k = 3 then r (18 + s) else n
def fPiece (r : Int → Int) (p k : Int) : Int := if k = 0 then r 2 * p else if k = 1 then gLen r p else if k = 2 then gF r p else if k = 3 then gPo r p else if k = 4 then gMi r p else if k = 5 then gS r 0 (r 2 * p) (gLen r p) else gV r p
/-- the bytes of a part that are wrong -/
def gWr (r : Int → Int) (p : Int) : Int := if r (96 + p) = 0 then 0 else sg (fun k => bi (¬ r (336 + (gPl r p + k)) = gB r 0 (gPl r p + k))) (gPt r p).toNat
def fPart (r : Int → Int) (p k : Int) : Int := if k = 0 then gPl r p else if k = 1 then gPt r p else if k = 2 then gPc r p else if k = 3 then r (96 + p) - 1 else gWr r p
def tr2 (a b : Prop) [Decidable a] [Decidable b] : Int := if a then (if b then 0 else 2) else 1
section MB
variable {l : Launch} {X : XT} {o : Nat} {B A : AH} {S : Nat → Int → Int} {e : Int}
theorem c_X6_thrown (hl : l.stackTraces = false) : Fn l X 0 M_X6_thrown [.ref o] (mp X o B S) 0 0 (Ri (I (S 9 5))) (mp X o B S) := by
  refine Fn.of hl rfl rfl (Nat.le_of_ble_eq_true rfl) (k_X6_thrown_0 ?_)
  simp (disch := omega) only [I_n, I_neg, I_add, I_sub, I_mul, I_le4, I_lt4, I_eq4, I_div4, I_bi0, I_bi01, I_bi1, nor_em, rI_of, rV_of, zI_of, zV_of, nz_and, br_T, br_F, br_T2, br_F2, st_eq, st9_0, st_k, st_i, true_and, and_true, Classical.not_not, mp_isO, mp_gI4, mp_gI5, mp_gI7, mp_gI8, mp_gI9, mp_gI10, mp_gI11, mp_gI12, mp_gI13, mp_gI14, mp_gI15, mp_gI19, mp_gI20, mp_gI21, mp_gI23, mp_pI4, mp_pI5, mp_pI7, mp_pI8, mp_pI9, mp_pI10, mp_pI11, mp_pI12, mp_pI13, mp_pI14, mp_pI15, mp_pI19, mp_pI20, mp_pI21, mp_pI23, mp_gR0, mp_gR1, mp_gR2, mp_gR3, mp_gR6, mp_gR16, mp_gR17, mp_gR18, mp_gR22, mp_aI0, mp_aI1, mp_aI2, mp_aI3, mp_aI4, mp_aI5, mp_aI6, mp_aZ7, mp_aI8, mp_sI0, mp_sI1, mp_sI2, mp_sI3, mp_sI4, mp_sI5, mp_sI6, mp_sI8, mp_sZ0, mp_sZ1]
theorem c_X6_source (hl : l.stackTraces = false) (w : RW (S 0) e) {s k : Int} (hs : sm s) (hk : sm k) : Fn l X 4 M_X6_source [.ref o, .int (I s), .int (I k)] (mp X o B S) 0 0 (Ri (I (if 0 ≤ s ∧ s ≤ 1 then if 0 ≤ k ∧ k ≤ 4 then fSource (S 0) s k (gFr (S 0) s) else 0 else 0))) (mp X o B (st S 9 5 (tr2 (0 ≤ s ∧ s ≤ 1) (0 ≤ k ∧ k ≤ 4)))) := by
  have w' : RW ((st S 9 5 0) 0) e := by rw [st9_0]; exact w
  obtain ⟨k1, k2⟩ := id hk
  obtain ⟨s1, s2⟩ := id hs
  refine Fn.of hl rfl rfl (Nat.le_of_ble_eq_true rfl) (k_X6_source_0 ?_)
  simp only [I_n]
  refine (c_X6_isSource hl hs).cl0 (by decide) ?_
  simp (disch := omega) only [I_n, I_neg, I_add, I_sub, I_mul, I_le4, I_lt4, I_eq4, I_div4, I_bi0, I_bi01, I_bi1, nor_em, rI_of, rV_of, zI_of, zV_of, nz_and, br_T, br_F, br_T2, br_F2, st_eq, st9_0, st_k, st_i, true_and, and_true, Classical.not_not, mp_isO, mp_gI4, mp_gI5, mp_gI7, mp_gI8, mp_gI9, mp_gI10, mp_gI11, mp_gI12, mp_gI13, mp_gI14, mp_gI15, mp_gI19, mp_gI20, mp_gI21, mp_gI23, mp_pI4, mp_pI5, mp_pI7, mp_pI8, mp_pI9, mp_pI10, mp_pI11, mp_pI12, mp_pI13, mp_pI14, mp_pI15, mp_pI19, mp_pI20, mp_pI21, mp_pI23, mp_gR0, mp_gR1, mp_gR2, mp_gR3, mp_gR6, mp_gR16, mp_gR17, mp_gR18, mp_gR22, mp_aI0, mp_aI1, mp_aI2, mp_aI3, mp_aI4, mp_aI5, mp_aI6, mp_aZ7, mp_aI8, mp_sI0, mp_sI1, mp_sI2, mp_sI3, mp_sI4, mp_sI5, mp_sI6, mp_sI8, mp_sZ0, mp_sZ1]
  unfold tr2
  refine ⟨fun h => ?_, fun h => ?_⟩
  · refine (c_X6_isIn hl hk ⟨by omega, by omega⟩ ⟨by omega, by omega⟩).cl0 (by decide) ?_
    simp (disch := omega) only [I_n, I_neg, I_add, I_sub, I_mul, I_le4, I_lt4, I_eq4, I_div4, I_bi0, I_bi01, I_bi1, nor_em, rI_of, rV_of, zI_of, zV_of, nz_and, br_T, br_F, br_T2, br_F2, st_eq, st9_0, st_k, st_i, true_and, and_true, Classical.not_not, mp_isO, mp_gI4, mp_gI5, mp_gI7, mp_gI8, mp_gI9, mp_gI10, mp_gI11, mp_gI12, mp_gI13, mp_gI14, mp_gI15, mp_gI19, mp_gI20, mp_gI21, mp_gI23, mp_pI4, mp_pI5, mp_pI7, mp_pI8, mp_pI9, mp_pI10, mp_pI11, mp_pI12, mp_pI13, mp_pI14, mp_pI15, mp_pI19, mp_pI20, mp_pI21, mp_pI23, mp_gR0, mp_gR1, mp_gR2, mp_gR3, mp_gR6, mp_gR16, mp_gR17, mp_gR18, mp_gR22, mp_aI0, mp_aI1, mp_aI2, mp_aI3, mp_aI4, mp_aI5, mp_aI6, mp_aZ7, mp_aI8, mp_sI0, mp_sI1, mp_sI2, mp_sI3, mp_sI4, mp_sI5, mp_sI6, mp_sI8, mp_sZ0, mp_sZ1]
    rw [if_pos h, if_pos h]
    refine ⟨fun h2 => k_X6_source_26 ?_, fun h2 => k_X6_source_26 ?_⟩
    · simp (disch := omega) only [I_n, I_neg, I_add, I_sub, I_mul, I_le4, I_lt4, I_eq4, I_div4, I_bi0, I_bi01, I_bi1, nor_em, rI_of, rV_of, zI_of, zV_of, nz_and, br_T, br_F, br_T2, br_F2, st_eq, st9_0, st_k, st_i, true_and, and_true, Classical.not_not, mp_isO, mp_gI4, mp_gI5, mp_gI7, mp_gI8, mp_gI9, mp_gI10, mp_gI11, mp_gI12, mp_gI13, mp_gI14, mp_gI15, mp_gI19, mp_gI20, mp_gI21, mp_gI23, mp_pI4, mp_pI5, mp_pI7, mp_pI8, mp_pI9, mp_pI10, mp_pI11, mp_pI12, mp_pI13, mp_pI14, mp_pI15, mp_pI19, mp_pI20, mp_pI21, mp_pI23, mp_gR0, mp_gR1, mp_gR2, mp_gR3, mp_gR6, mp_gR16, mp_gR17, mp_gR18, mp_gR22, mp_aI0, mp_aI1, mp_aI2, mp_aI3, mp_aI4, mp_aI5, mp_aI6, mp_aZ7, mp_aI8, mp_sI0, mp_sI1, mp_sI2, mp_sI3, mp_sI4, mp_sI5, mp_sI6, mp_sI8, mp_sZ0, mp_sZ1]
      rw [if_neg h2, if_neg h2]
      all_goals first | rfl | exact ⟨rfl, rfl⟩
    · simp (disch := omega) only [I_n, I_neg, I_add, I_sub, I_mul, I_le4, I_lt4, I_eq4, I_div4, I_bi0, I_bi01, I_bi1, nor_em, rI_of, rV_of, zI_of, zV_of, nz_and, br_T, br_F, br_T2, br_F2, st_eq, st9_0, st_k, st_i, true_and, and_true, Classical.not_not, mp_isO, mp_gI4, mp_gI5, mp_gI7, mp_gI8, mp_gI9, mp_gI10, mp_gI11, mp_gI12, mp_gI13, mp_gI14, mp_gI15, mp_gI19, mp_gI20, mp_gI21, mp_gI23, mp_pI4, mp_pI5, mp_pI7, mp_pI8, mp_pI9, mp_pI10, mp_pI11, mp_pI12, mp_pI13, mp_pI14, mp_pI15, mp_pI19, mp_pI20, mp_pI21, mp_pI23, mp_gR0, mp_gR1, mp_gR2, mp_gR3, mp_gR6, mp_gR16, mp_gR17, mp_gR18, mp_gR22, mp_aI0, mp_aI1, mp_aI2, mp_aI3, mp_aI4, mp_aI5, mp_aI6, mp_aZ7, mp_aI8, mp_sI0, mp_sI1, mp_sI2, mp_sI3, mp_sI4, mp_sI5, mp_sI6, mp_sI8, mp_sZ0, mp_sZ1]
      rw [if_pos h2, if_pos h2]
      refine ⟨fun q => ?_, fun q => ⟨fun q2 => ?_, fun q2 => ?_⟩, fun q => ?_, fun q => ?_, fun q0 q1 q2 q3 => ?_⟩
      · subst q
        all_goals first | rfl | exact ⟨rfl, rfl⟩
      · subst q
        unfold fSource
        rw [if_neg (by decide), if_pos rfl, if_neg q2]
        all_goals first | rfl | exact ⟨rfl, rfl⟩
      · subst q
        unfold fSource
        rw [if_neg (by decide), if_pos rfl, if_pos q2]
        all_goals first | rfl | exact ⟨rfl, rfl⟩
      · subst q
        all_goals first | rfl | exact ⟨rfl, rfl⟩
      · subst q
        all_goals first | rfl | exact ⟨rfl, rfl⟩
      · refine (c_X6_fromSource hl w' h).cl0 (by decide) ?_
        simp (disch := omega) only [I_n, I_neg, I_add, I_sub, I_mul, I_le4, I_lt4, I_eq4, I_div4, I_bi0, I_bi01, I_bi1, nor_em, rI_of, rV_of, zI_of, zV_of, nz_and, br_T, br_F, br_T2, br_F2, st_eq, st9_0, st_k, st_i, true_and, and_true, Classical.not_not, mp_isO, mp_gI4, mp_gI5, mp_gI7, mp_gI8, mp_gI9, mp_gI10, mp_gI11, mp_gI12, mp_gI13, mp_gI14, mp_gI15, mp_gI19, mp_gI20, mp_gI21, mp_gI23, mp_pI4, mp_pI5, mp_pI7, mp_pI8, mp_pI9, mp_pI10, mp_pI11, mp_pI12, mp_pI13, mp_pI14, mp_pI15, mp_pI19, mp_pI20, mp_pI21, mp_pI23, mp_gR0, mp_gR1, mp_gR2, mp_gR3, mp_gR6, mp_gR16, mp_gR17, mp_gR18, mp_gR22, mp_aI0, mp_aI1, mp_aI2, mp_aI3, mp_aI4, mp_aI5, mp_aI6, mp_aZ7, mp_aI8, mp_sI0, mp_sI1, mp_sI2, mp_sI3, mp_sI4, mp_sI5, mp_sI6, mp_sI8, mp_sZ0, mp_sZ1]
        unfold fSource
        rw [if_neg q0, if_neg q1, if_neg q2, if_neg q3]
        all_goals first | rfl | exact ⟨rfl, rfl⟩
  · refine k_X6_source_26 ?_
    simp (disch := omega) only [I_n, I_neg, I_add, I_sub, I_mul, I_le4, I_lt4, I_eq4, I_div4, I_bi0, I_bi01, I_bi1, nor_em, rI_of, rV_of, zI_of, zV_of, nz_and, br_T, br_F, br_T2, br_F2, st_eq, st9_0, st_k, st_i, true_and, and_true, Classical.not_not, mp_isO, mp_gI4, mp_gI5, mp_gI7, mp_gI8, mp_gI9, mp_gI10, mp_gI11, mp_gI12, mp_gI13, mp_gI14, mp_gI15, mp_gI19, mp_gI20, mp_gI21, mp_gI23, mp_pI4, mp_pI5, mp_pI7, mp_pI8, mp_pI9, mp_pI10, mp_pI11, mp_pI12, mp_pI13, mp_pI14, mp_pI15, mp_pI19, mp_pI20, mp_pI21, mp_pI23, mp_gR0, mp_gR1, mp_gR2, mp_gR3, mp_gR6, mp_gR16, mp_gR17, mp_gR18, mp_gR22, mp_aI0, mp_aI1, mp_aI2, mp_aI3, mp_aI4, mp_aI5, mp_aI6, mp_aZ7, mp_aI8, mp_sI0, mp_sI1, mp_sI2, mp_sI3, mp_sI4, mp_sI5, mp_sI6, mp_sI8, mp_sZ0, mp_sZ1]
    rw [if_neg h, if_neg h]
    all_goals first | rfl | exact ⟨rfl, rfl⟩
theorem c_X6_sent (hl : l.stackTraces = false) (w : RW (S 0) e) {s k : Int} (hs : sm s) (hk : sm k) : Fn l X 2 M_X6_sent [.ref o, .int (I s), .int (I k)] (mp X o B S) 0 0 (Ri (I (if (0 ≤ s ∧ s ≤ 1) ∧ 0 ≤ k ∧ k ≤ S 0 0 - 1 then gB (S 0) s k else 0))) (mp X o B (st S 9 5 (bi (¬ ((0 ≤ s ∧ s ≤ 1) ∧ 0 ≤ k ∧ k ≤ S 0 0 - 1))))) := by
  have w' : RW ((st S 9 5 0) 0) e := by rw [st9_0]; exact w
  have g2 := w.1.2.1
  refine Fn.of hl rfl rfl (Nat.le_of_ble_eq_true rfl) (k_X6_sent_0 ?_)
  simp only [I_n]
  refine (c_X6_isSource hl hs).cl0 (by decide) ?_
  simp (disch := omega) only [I_n, I_neg, I_add, I_sub, I_mul, I_le4, I_lt4, I_eq4, I_div4, I_bi0, I_bi01, I_bi1, nor_em, rI_of, rV_of, zI_of, zV_of, nz_and, br_T, br_F, br_T2, br_F2, st_eq, st9_0, st_k, st_i, true_and, and_true, Classical.not_not, mp_isO, mp_gI4, mp_gI5, mp_gI7, mp_gI8, mp_gI9, mp_gI10, mp_gI11, mp_gI12, mp_gI13, mp_gI14, mp_gI15, mp_gI19, mp_gI20, mp_gI21, mp_gI23, mp_pI4, mp_pI5, mp_pI7, mp_pI8, mp_pI9, mp_pI10, mp_pI11, mp_pI12, mp_pI13, mp_pI14, mp_pI15, mp_pI19, mp_pI20, mp_pI21, mp_pI23, mp_gR0, mp_gR1, mp_gR2, mp_gR3, mp_gR6, mp_gR16, mp_gR17, mp_gR18, mp_gR22, mp_aI0, mp_aI1, mp_aI2, mp_aI3, mp_aI4, mp_aI5, mp_aI6, mp_aZ7, mp_aI8, mp_sI0, mp_sI1, mp_sI2, mp_sI3, mp_sI4, mp_sI5, mp_sI6, mp_sI8, mp_sZ0, mp_sZ1]
  refine ⟨fun h => k_X6_sent_21 ?_, fun h => ?_⟩
  · simp (disch := omega) only [I_n, I_neg, I_add, I_sub, I_mul, I_le4, I_lt4, I_eq4, I_div4, I_bi0, I_bi01, I_bi1, nor_em, rI_of, rV_of, zI_of, zV_of, nz_and, br_T, br_F, br_T2, br_F2, st_eq, st9_0, st_k, st_i, true_and, and_true, Classical.not_not, mp_isO, mp_gI4, mp_gI5, mp_gI7, mp_gI8, mp_gI9, mp_gI10, mp_gI11, mp_gI12, mp_gI13, mp_gI14, mp_gI15, mp_gI19, mp_gI20, mp_gI21, mp_gI23, mp_pI4, mp_pI5, mp_pI7, mp_pI8, mp_pI9, mp_pI10, mp_pI11, mp_pI12, mp_pI13, mp_pI14, mp_pI15, mp_pI19, mp_pI20, mp_pI21, mp_pI23, mp_gR0, mp_gR1, mp_gR2, mp_gR3, mp_gR6, mp_gR16, mp_gR17, mp_gR18, mp_gR22, mp_aI0, mp_aI1, mp_aI2, mp_aI3, mp_aI4, mp_aI5, mp_aI6, mp_aZ7, mp_aI8, mp_sI0, mp_sI1, mp_sI2, mp_sI3, mp_sI4, mp_sI5, mp_sI6, mp_sI8, mp_sZ0, mp_sZ1]
    have n : ¬ ((0 ≤ s ∧ s ≤ 1) ∧ 0 ≤ k ∧ k ≤ S 0 0 - 1) := fun q => h q.1
    rw [if_neg n, bi_t n]
    all_goals first | rfl | exact ⟨rfl, rfl⟩
  · refine (c_X6_isPlace hl w.1 hk).cl0 (by decide) ?_
    simp (disch := omega) only [I_n, I_neg, I_add, I_sub, I_mul, I_le4, I_lt4, I_eq4, I_div4, I_bi0, I_bi01, I_bi1, nor_em, rI_of, rV_of, zI_of, zV_of, nz_and, br_T, br_F, br_T2, br_F2, st_eq, st9_0, st_k, st_i, true_and, and_true, Classical.not_not, mp_isO, mp_gI4, mp_gI5, mp_gI7, mp_gI8, mp_gI9, mp_gI10, mp_gI11, mp_gI12, mp_gI13, mp_gI14, mp_gI15, mp_gI19, mp_gI20, mp_gI21, mp_gI23, mp_pI4, mp_pI5, mp_pI7, mp_pI8, mp_pI9, mp_pI10, mp_pI11, mp_pI12, mp_pI13, mp_pI14, mp_pI15, mp_pI19, mp_pI20, mp_pI21, mp_pI23, mp_gR0, mp_gR1, mp_gR2, mp_gR3, mp_gR6, mp_gR16, mp_gR17, mp_gR18, mp_gR22, mp_aI0, mp_aI1, mp_aI2, mp_aI3, mp_aI4, mp_aI5, mp_aI6, mp_aZ7, mp_aI8, mp_sI0, mp_sI1, mp_sI2, mp_sI3, mp_sI4, mp_sI5, mp_sI6, mp_sI8, mp_sZ0, mp_sZ1]
    refine ⟨fun h2 => k_X6_sent_21 ?_, fun h2 => k_X6_sent_21 ?_⟩
    · simp (disch := omega) only [I_n, I_neg, I_add, I_sub, I_mul, I_le4, I_lt4, I_eq4, I_div4, I_bi0, I_bi01, I_bi1, nor_em, rI_of, rV_of, zI_of, zV_of, nz_and, br_T, br_F, br_T2, br_F2, st_eq, st9_0, st_k, st_i, true_and, and_true, Classical.not_not, mp_isO, mp_gI4, mp_gI5, mp_gI7, mp_gI8, mp_gI9, mp_gI10, mp_gI11, mp_gI12, mp_gI13, mp_gI14, mp_gI15, mp_gI19, mp_gI20, mp_gI21, mp_gI23, mp_pI4, mp_pI5, mp_pI7, mp_pI8, mp_pI9, mp_pI10, mp_pI11, mp_pI12, mp_pI13, mp_pI14, mp_pI15, mp_pI19, mp_pI20, mp_pI21, mp_pI23, mp_gR0, mp_gR1, mp_gR2, mp_gR3, mp_gR6, mp_gR16, mp_gR17, mp_gR18, mp_gR22, mp_aI0, mp_aI1, mp_aI2, mp_aI3, mp_aI4, mp_aI5, mp_aI6, mp_aZ7, mp_aI8, mp_sI0, mp_sI1, mp_sI2, mp_sI3, mp_sI4, mp_sI5, mp_sI6, mp_sI8, mp_sZ0, mp_sZ1]
      have n : ¬ ((0 ≤ s ∧ s ≤ 1) ∧ 0 ≤ k ∧ k ≤ S 0 0 - 1) := fun q => h2 q.2
      rw [if_neg n, bi_t n]
      all_goals first | rfl | exact ⟨rfl, rfl⟩
    · simp (disch := omega) only [I_n, I_neg, I_add, I_sub, I_mul, I_le4, I_lt4, I_eq4, I_div4, I_bi0, I_bi01, I_bi1, nor_em, rI_of, rV_of, zI_of, zV_of, nz_and, br_T, br_F, br_T2, br_F2, st_eq, st9_0, st_k, st_i, true_and, and_true, Classical.not_not, mp_isO, mp_gI4, mp_gI5, mp_gI7, mp_gI8, mp_gI9, mp_gI10, mp_gI11, mp_gI12, mp_gI13, mp_gI14, mp_gI15, mp_gI19, mp_gI20, mp_gI21, mp_gI23, mp_pI4, mp_pI5, mp_pI7, mp_pI8, mp_pI9, mp_pI10, mp_pI11, mp_pI12, mp_pI13, mp_pI14, mp_pI15, mp_pI19, mp_pI20, mp_pI21, mp_pI23, mp_gR0, mp_gR1, mp_gR2, mp_gR3, mp_gR6, mp_gR16, mp_gR17, mp_gR18, mp_gR22, mp_aI0, mp_aI1, mp_aI2, mp_aI3, mp_aI4, mp_aI5, mp_aI6, mp_aZ7, mp_aI8, mp_sI0, mp_sI1, mp_sI2, mp_sI3, mp_sI4, mp_sI5, mp_sI6, mp_sI8, mp_sZ0, mp_sZ1]
      refine (c_X6_byteOf hl w' hs (by omega) (by omega)).cl0 (by decide) ?_
      simp (disch := omega) only [I_n, I_neg, I_add, I_sub, I_mul, I_le4, I_lt4, I_eq4, I_div4, I_bi0, I_bi01, I_bi1, nor_em, rI_of, rV_of, zI_of, zV_of, nz_and, br_T, br_F, br_T2, br_F2, st_eq, st9_0, st_k, st_i, true_and, and_true, Classical.not_not, mp_isO, mp_gI4, mp_gI5, mp_gI7, mp_gI8, mp_gI9, mp_gI10, mp_gI11, mp_gI12, mp_gI13, mp_gI14, mp_gI15, mp_gI19, mp_gI20, mp_gI21, mp_gI23, mp_pI4, mp_pI5, mp_pI7, mp_pI8, mp_pI9, mp_pI10, mp_pI11, mp_pI12, mp_pI13, mp_pI14, mp_pI15, mp_pI19, mp_pI20, mp_pI21, mp_pI23, mp_gR0, mp_gR1, mp_gR2, mp_gR3, mp_gR6, mp_gR16, mp_gR17, mp_gR18, mp_gR22, mp_aI0, mp_aI1, mp_aI2, mp_aI3, mp_aI4, mp_aI5, mp_aI6, mp_aZ7, mp_aI8, mp_sI0, mp_sI1, mp_sI2, mp_sI3, mp_sI4, mp_sI5, mp_sI6, mp_sI8, mp_sZ0, mp_sZ1]
      rw [if_pos ⟨h, h2⟩, bi_f (fun q => q ⟨h, h2⟩)]
      all_goals first | rfl | exact ⟨rfl, rfl⟩
theorem c_X6_got (hl : l.stackTraces = false) (w : RW (S 0) e) {k : Int} (hk : sm k) : Fn l X 3 M_X6_got [.ref o, .int (I k)] (mp X o B S) 0 0 (Ri (I (if 0 ≤ k ∧ k ≤ S 0 0 - 1 then if S 0 (96 + gAt (S 0) k) = 0 then -1 else S 0 (336 + k) else 0))) (mp X o B (st S 9 5 (bi (¬ (0 ≤ k ∧ k ≤ S 0 0 - 1))))) := by
  have w' : RW ((st S 9 5 0) 0) e := by rw [st9_0]; exact w
  have g2 := w.1.2.1
  have ho := w'.2.2.2.2.2.2.2.2.2.1
  have t := (gT_b w.1).2
  refine Fn.of hl rfl rfl (Nat.le_of_ble_eq_true rfl) (k_X6_got_0 ⟨mp_isO, (c_X6_isPlace hl w.1 hk).cl0 (by decide) ?_⟩)
  simp (disch := omega) only [I_n, I_neg, I_add, I_sub, I_mul, I_le4, I_lt4, I_eq4, I_div4, I_bi0, I_bi01, I_bi1, nor_em, rI_of, rV_of, zI_of, zV_of, nz_and, br_T, br_F, br_T2, br_F2, st_eq, st9_0, st_k, st_i, true_and, and_true, Classical.not_not, mp_isO, mp_gI4, mp_gI5, mp_gI7, mp_gI8, mp_gI9, mp_gI10, mp_gI11, mp_gI12, mp_gI13, mp_gI14, mp_gI15, mp_gI19, mp_gI20, mp_gI21, mp_gI23, mp_pI4, mp_pI5, mp_pI7, mp_pI8, mp_pI9, mp_pI10, mp_pI11, mp_pI12, mp_pI13, mp_pI14, mp_pI15, mp_pI19, mp_pI20, mp_pI21, mp_pI23, mp_gR0, mp_gR1, mp_gR2, mp_gR3, mp_gR6, mp_gR16, mp_gR17, mp_gR18, mp_gR22, mp_aI0, mp_aI1, mp_aI2, mp_aI3, mp_aI4, mp_aI5, mp_aI6, mp_aZ7, mp_aI8, mp_sI0, mp_sI1, mp_sI2, mp_sI3, mp_sI4, mp_sI5, mp_sI6, mp_sI8, mp_sZ0, mp_sZ1]
  refine ⟨fun h => k_X6_got_14 ?_, fun h => k_X6_got_14 ?_⟩
  · simp (disch := omega) only [I_n, I_neg, I_add, I_sub, I_mul, I_le4, I_lt4, I_eq4, I_div4, I_bi0, I_bi01, I_bi1, nor_em, rI_of, rV_of, zI_of, zV_of, nz_and, br_T, br_F, br_T2, br_F2, st_eq, st9_0, st_k, st_i, true_and, and_true, Classical.not_not, mp_isO, mp_gI4, mp_gI5, mp_gI7, mp_gI8, mp_gI9, mp_gI10, mp_gI11, mp_gI12, mp_gI13, mp_gI14, mp_gI15, mp_gI19, mp_gI20, mp_gI21, mp_gI23, mp_pI4, mp_pI5, mp_pI7, mp_pI8, mp_pI9, mp_pI10, mp_pI11, mp_pI12, mp_pI13, mp_pI14, mp_pI15, mp_pI19, mp_pI20, mp_pI21, mp_pI23, mp_gR0, mp_gR1, mp_gR2, mp_gR3, mp_gR6, mp_gR16, mp_gR17, mp_gR18, mp_gR22, mp_aI0, mp_aI1, mp_aI2, mp_aI3, mp_aI4, mp_aI5, mp_aI6, mp_aZ7, mp_aI8, mp_sI0, mp_sI1, mp_sI2, mp_sI3, mp_sI4, mp_sI5, mp_sI6, mp_sI8, mp_sZ0, mp_sZ1]
    rw [if_neg h, bi_t h]
    all_goals first | rfl | exact ⟨rfl, rfl⟩
  · have hA := gAt_b w.1 h.1 (by omega)
    simp (disch := omega) only [I_n, I_neg, I_add, I_sub, I_mul, I_le4, I_lt4, I_eq4, I_div4, I_bi0, I_bi01, I_bi1, nor_em, rI_of, rV_of, zI_of, zV_of, nz_and, br_T, br_F, br_T2, br_F2, st_eq, st9_0, st_k, st_i, true_and, and_true, Classical.not_not, mp_isO, mp_gI4, mp_gI5, mp_gI7, mp_gI8, mp_gI9, mp_gI10, mp_gI11, mp_gI12, mp_gI13, mp_gI14, mp_gI15, mp_gI19, mp_gI20, mp_gI21, mp_gI23, mp_pI4, mp_pI5, mp_pI7, mp_pI8, mp_pI9, mp_pI10, mp_pI11, mp_pI12, mp_pI13, mp_pI14, mp_pI15, mp_pI19, mp_pI20, mp_pI21, mp_pI23, mp_gR0, mp_gR1, mp_gR2, mp_gR3, mp_gR6, mp_gR16, mp_gR17, mp_gR18, mp_gR22, mp_aI0, mp_aI1, mp_aI2, mp_aI3, mp_aI4, mp_aI5, mp_aI6, mp_aZ7, mp_aI8, mp_sI0, mp_sI1, mp_sI2, mp_sI3, mp_sI4, mp_sI5, mp_sI6, mp_sI8, mp_sZ0, mp_sZ1]
    refine (c_X6_partAt hl w'.1 h.1 (by omega)).cl0 (by decide) ?_
    simp (disch := omega) only [I_n, I_neg, I_add, I_sub, I_mul, I_le4, I_lt4, I_eq4, I_div4, I_bi0, I_bi01, I_bi1, nor_em, rI_of, rV_of, zI_of, zV_of, nz_and, br_T, br_F, br_T2, br_F2, st_eq, st9_0, st_k, st_i, true_and, and_true, Classical.not_not, mp_isO, mp_gI4, mp_gI5, mp_gI7, mp_gI8, mp_gI9, mp_gI10, mp_gI11, mp_gI12, mp_gI13, mp_gI14, mp_gI15, mp_gI19, mp_gI20, mp_gI21, mp_gI23, mp_pI4, mp_pI5, mp_pI7, mp_pI8, mp_pI9, mp_pI10, mp_pI11, mp_pI12, mp_pI13, mp_pI14, mp_pI15, mp_pI19, mp_pI20, mp_pI21, mp_pI23, mp_gR0, mp_gR1, mp_gR2, mp_gR3, mp_gR6, mp_gR16, mp_gR17, mp_gR18, mp_gR22, mp_aI0, mp_aI1, mp_aI2, mp_aI3, mp_aI4, mp_aI5, mp_aI6, mp_aZ7, mp_aI8, mp_sI0, mp_sI1, mp_sI2, mp_sI3, mp_sI4, mp_sI5, mp_sI6, mp_sI8, mp_sZ0, mp_sZ1]
    refine (c_X6_isMissing hl (by omega) (by omega) (by rw [st9_0] at ho; have := ho (gAt (S 0) k) (by omega) (by omega); rw [st9_0]; omega)).cl0 (by decide) ?_
    simp (disch := omega) only [I_n, I_neg, I_add, I_sub, I_mul, I_le4, I_lt4, I_eq4, I_div4, I_bi0, I_bi01, I_bi1, nor_em, rI_of, rV_of, zI_of, zV_of, nz_and, br_T, br_F, br_T2, br_F2, st_eq, st9_0, st_k, st_i, true_and, and_true, Classical.not_not, mp_isO, mp_gI4, mp_gI5, mp_gI7, mp_gI8, mp_gI9, mp_gI10, mp_gI11, mp_gI12, mp_gI13, mp_gI14, mp_gI15, mp_gI19, mp_gI20, mp_gI21, mp_gI23, mp_pI4, mp_pI5, mp_pI7, mp_pI8, mp_pI9, mp_pI10, mp_pI11, mp_pI12, mp_pI13, mp_pI14, mp_pI15, mp_pI19, mp_pI20, mp_pI21, mp_pI23, mp_gR0, mp_gR1, mp_gR2, mp_gR3, mp_gR6, mp_gR16, mp_gR17, mp_gR18, mp_gR22, mp_aI0, mp_aI1, mp_aI2, mp_aI3, mp_aI4, mp_aI5, mp_aI6, mp_aZ7, mp_aI8, mp_sI0, mp_sI1, mp_sI2, mp_sI3, mp_sI4, mp_sI5, mp_sI6, mp_sI8, mp_sZ0, mp_sZ1]
    rw [if_pos h, bi_f (fun q => q h)]
    refine ⟨fun q => ?_, fun q => ?_⟩
    · rw [if_neg q]
      all_goals first | rfl | exact ⟨rfl, rfl⟩
    · rw [if_pos q]
      all_goals first | rfl | exact ⟨rfl, rfl⟩
end MB
