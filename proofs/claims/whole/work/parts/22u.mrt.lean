/-! the reference: isRight -/
def gLn (r : Int → Int) (a n : Int) : Int := gPl r (a + n - 1) + gPt r (a + n - 1) - gPl r a
def gRt (r : Int → Int) (a n : Int) : Int := bi (gR' r (336 + gPl r a) (gLn r a n) = gS r 0 (gPl r a) (gLn r a n))
theorem gLn_b {r : Int → Int} (g : GW r) {k i n : Int} (h0 : 0 ≤ k) (h1 : k < gN r) (hi : 0 ≤ i) (hn : 1 ≤ n) (hin : i + n ≤ gPo r k) : 0 ≤ gF r k + i ∧ gF r k + i + n - 1 < gT r ∧ 0 ≤ gPl r (gF r k + i) ∧ 1 ≤ gLn r (gF r k + i) n ∧ gPl r (gF r k + i) + gLn r (gF r k + i) n ≤ r 0 := by
  obtain ⟨f1, f2⟩ := gF_b g h0 h1
  obtain ⟨a1, a2, a3, a4, a5, a6⟩ := gPl_b g (p := gF r k + (i + n - 1)) (by omega) (by omega)
  obtain ⟨b1, b2, b3, b4, b5, b6⟩ := gPl_b g (p := gF r k + i) (by omega) (by omega)
  have e1 := gPl_of g h0 h1 (j := i + n - 1) (by omega) (by omega)
  have e2 := gPl_of g h0 h1 (j := i) (by omega) (by omega)
  have m : r 3 * i ≤ r 3 * (i + n - 1) := Int.mul_le_mul_of_nonneg_left (by omega) (by have := g.2.2.2.2.1; omega)
  have e3 : gF r k + i + n - 1 = gF r k + (i + n - 1) := by omega
  have e4 : gLn r (gF r k + i) n = gPl r (gF r k + (i + n - 1)) + gPt r (gF r k + (i + n - 1)) - gPl r (gF r k + i) := by unfold gLn; rw [e3]
  rw [e4]
  exact ⟨by omega, by omega, by omega, by omega, by omega⟩
section MU
variable {l : Launch} {X : XT} {o : Nat} {B A : AH} {S : Nat → Int → Int} {e : Int}
theorem c_X6_isRight (hl : l.stackTraces = false) (w : RW (S 0) e) {k i n : Int} (h0 : 0 ≤ k) (h1 : k < gN (S 0)) (hi : 0 ≤ i) (hn : 1 ≤ n) (hin : i + n ≤ gPo (S 0) k) : Fn l X 4 M_X6_isRight [.ref o, .int (I (gF (S 0) k + i)), .int (I n)] (mp X o B S) 0 0 (Ri (I (gRt (S 0) (gF (S 0) k + i) n))) (mp X o B (st S 9 19 (S 9 19 + 1))) := by
  have g := w.1
  have lg := g.2.1
  obtain ⟨t1, t2⟩ := gT_b g
  obtain ⟨b1, b2, b3, b4, b5⟩ := gLn_b g h0 h1 hi hn hin
  obtain ⟨a, ha⟩ : ∃ a, a = gF (S 0) k + i := ⟨_, rfl⟩
  rw [← ha] at b1 b2 b3 b4 b5 ⊢
  have w' : RW ((st S 9 19 (S 9 19 + 1)) 0) e := by rw [st9_0]; exact w
  have hg := w.2.2.2.2.2.2.2.2.2.2.1
  refine Fn.of hl rfl rfl (Nat.le_of_ble_eq_true rfl) (k_X6_isRight_0 ⟨mp_isO, (c_X6_placeOf hl g b1 (by omega)).cl0 (by decide) ?_⟩)
  simp (disch := omega) only [I_n, I_neg, I_add, I_sub, I_mul, I_le4, I_lt4, I_eq4, I_div4, I_bi0, I_bi01, I_bi1, nor_em, rI_of, rV_of, zI_of, zV_of, nz_and, br_T, br_F, br_T2, br_F2, st_eq, st9_0, st_k, st_i, true_and, and_true, Classical.not_not, mp_isO, mp_gI4, mp_gI5, mp_gI7, mp_gI8, mp_gI9, mp_gI10, mp_gI11, mp_gI12, mp_gI13, mp_gI14, mp_gI15, mp_gI19, mp_gI20, mp_gI21, mp_gI23, mp_pI4, mp_pI5, mp_pI7, mp_pI8, mp_pI9, mp_pI10, mp_pI11, mp_pI12, mp_pI13, mp_pI14, mp_pI15, mp_pI19, mp_pI20, mp_pI21, mp_pI23, mp_gR0, mp_gR1, mp_gR2, mp_gR3, mp_gR6, mp_gR16, mp_gR17, mp_gR18, mp_gR22, mp_aI0, mp_aI1, mp_aI2, mp_aI3, mp_aI4, mp_aI5, mp_aI6, mp_aZ7, mp_aI8, mp_sI0, mp_sI1, mp_sI2, mp_sI3, mp_sI4, mp_sI5, mp_sI6, mp_sI8, mp_sZ0, mp_sZ1]
  refine (c_X6_placeOf hl g (by omega) (by omega)).cl0 (by decide) ?_
  simp (disch := omega) only [I_n, I_neg, I_add, I_sub, I_mul, I_le4, I_lt4, I_eq4, I_div4, I_bi0, I_bi01, I_bi1, nor_em, rI_of, rV_of, zI_of, zV_of, nz_and, br_T, br_F, br_T2, br_F2, st_eq, st9_0, st_k, st_i, true_and, and_true, Classical.not_not, mp_isO, mp_gI4, mp_gI5, mp_gI7, mp_gI8, mp_gI9, mp_gI10, mp_gI11, mp_gI12, mp_gI13, mp_gI14, mp_gI15, mp_gI19, mp_gI20, mp_gI21, mp_gI23, mp_pI4, mp_pI5, mp_pI7, mp_pI8, mp_pI9, mp_pI10, mp_pI11, mp_pI12, mp_pI13, mp_pI14, mp_pI15, mp_pI19, mp_pI20, mp_pI21, mp_pI23, mp_gR0, mp_gR1, mp_gR2, mp_gR3, mp_gR6, mp_gR16, mp_gR17, mp_gR18, mp_gR22, mp_aI0, mp_aI1, mp_aI2, mp_aI3, mp_aI4, mp_aI5, mp_aI6, mp_aZ7, mp_aI8, mp_sI0, mp_sI1, mp_sI2, mp_sI3, mp_sI4, mp_sI5, mp_sI6, mp_sI8, mp_sZ0, mp_sZ1]
  refine (c_X6_partLength hl g (by omega) b2).cl0 (by decide) ?_
  simp (disch := omega) only [I_n, I_neg, I_add, I_sub, I_mul, I_le4, I_lt4, I_eq4, I_div4, I_bi0, I_bi01, I_bi1, nor_em, rI_of, rV_of, zI_of, zV_of, nz_and, br_T, br_F, br_T2, br_F2, st_eq, st9_0, st_k, st_i, true_and, and_true, Classical.not_not, mp_isO, mp_gI4, mp_gI5, mp_gI7, mp_gI8, mp_gI9, mp_gI10, mp_gI11, mp_gI12, mp_gI13, mp_gI14, mp_gI15, mp_gI19, mp_gI20, mp_gI21, mp_gI23, mp_pI4, mp_pI5, mp_pI7, mp_pI8, mp_pI9, mp_pI10, mp_pI11, mp_pI12, mp_pI13, mp_pI14, mp_pI15, mp_pI19, mp_pI20, mp_pI21, mp_pI23, mp_gR0, mp_gR1, mp_gR2, mp_gR3, mp_gR6, mp_gR16, mp_gR17, mp_gR18, mp_gR22, mp_aI0, mp_aI1, mp_aI2, mp_aI3, mp_aI4, mp_aI5, mp_aI6, mp_aZ7, mp_aI8, mp_sI0, mp_sI1, mp_sI2, mp_sI3, mp_sI4, mp_sI5, mp_sI6, mp_sI8, mp_sZ0, mp_sZ1]
  have ar := c_X6_rowSum (X := X) (o := o) (B := B) (S := st S 9 19 (S 9 19 + 1)) hl (x := 336 + gPl (S 0) a) (n := gLn (S 0) a n) (by omega) (by omega) (by omega) (by omega) (by
    rw [st9_0]
    intro q q1 q2
    have := hg (q - 336) (by omega) (by omega)
    rwa [show 336 + (q - 336) = q by omega] at this)
  have as := c_X6_sumOf (X := X) (o := o) (B := B) (S := st S 9 19 (S 9 19 + 1)) hl w' (s := 0) (x := gPl (S 0) a) (n := gLn (S 0) a n) ⟨by omega, by omega⟩ (by omega) (by omega) (by omega) (by omega)
  rw [st9_0] at ar as
  have hR : 0 ≤ gR' (S 0) (336 + gPl (S 0) a) (gLn (S 0) a n) ∧ gR' (S 0) (336 + gPl (S 0) a) (gLn (S 0) a n) < 9973 := by unfold gR'; omega
  have hS : 0 ≤ gS (S 0) 0 (gPl (S 0) a) (gLn (S 0) a n) ∧ gS (S 0) 0 (gPl (S 0) a) (gLn (S 0) a n) < 9973 := by unfold gS; omega
  refine ar.cl0 (by decide) ?_
  simp (disch := omega) only [I_n, I_neg, I_add, I_sub, I_mul, I_le4, I_lt4, I_eq4, I_div4, I_bi0, I_bi01, I_bi1, nor_em, rI_of, rV_of, zI_of, zV_of, nz_and, br_T, br_F, br_T2, br_F2, st_eq, st9_0, st_k, st_i, true_and, and_true, Classical.not_not, mp_isO, mp_gI4, mp_gI5, mp_gI7, mp_gI8, mp_gI9, mp_gI10, mp_gI11, mp_gI12, mp_gI13, mp_gI14, mp_gI15, mp_gI19, mp_gI20, mp_gI21, mp_gI23, mp_pI4, mp_pI5, mp_pI7, mp_pI8, mp_pI9, mp_pI10, mp_pI11, mp_pI12, mp_pI13, mp_pI14, mp_pI15, mp_pI19, mp_pI20, mp_pI21, mp_pI23, mp_gR0, mp_gR1, mp_gR2, mp_gR3, mp_gR6, mp_gR16, mp_gR17, mp_gR18, mp_gR22, mp_aI0, mp_aI1, mp_aI2, mp_aI3, mp_aI4, mp_aI5, mp_aI6, mp_aZ7, mp_aI8, mp_sI0, mp_sI1, mp_sI2, mp_sI3, mp_sI4, mp_sI5, mp_sI6, mp_sI8, mp_sZ0, mp_sZ1]
  refine as.cl0 (by decide) ?_
  simp (disch := omega) only [I_n, I_neg, I_add, I_sub, I_mul, I_le4, I_lt4, I_eq4, I_div4, I_bi0, I_bi01, I_bi1, nor_em, rI_of, rV_of, zI_of, zV_of, nz_and, br_T, br_F, br_T2, br_F2, st_eq, st9_0, st_k, st_i, true_and, and_true, Classical.not_not, mp_isO, mp_gI4, mp_gI5, mp_gI7, mp_gI8, mp_gI9, mp_gI10, mp_gI11, mp_gI12, mp_gI13, mp_gI14, mp_gI15, mp_gI19, mp_gI20, mp_gI21, mp_gI23, mp_pI4, mp_pI5, mp_pI7, mp_pI8, mp_pI9, mp_pI10, mp_pI11, mp_pI12, mp_pI13, mp_pI14, mp_pI15, mp_pI19, mp_pI20, mp_pI21, mp_pI23, mp_gR0, mp_gR1, mp_gR2, mp_gR3, mp_gR6, mp_gR16, mp_gR17, mp_gR18, mp_gR22, mp_aI0, mp_aI1, mp_aI2, mp_aI3, mp_aI4, mp_aI5, mp_aI6, mp_aZ7, mp_aI8, mp_sI0, mp_sI1, mp_sI2, mp_sI3, mp_sI4, mp_sI5, mp_sI6, mp_sI8, mp_sZ0, mp_sZ1]
  unfold gRt
  refine ⟨fun q => ?_, fun q => ?_⟩
  · rw [bi_f q]
  · rw [bi_t q]
end MU
