/-! the reference: runs, run, ticksLeft -/
def rRun : Nat → (Int → Int) → Int → (Int → Int) × Int
  | 0, r, n => (r, n)
  | m + 1, r, n => if gFi r = 1 then (r, n) else if (rTk r).2 = 0 then ((rTk r).1, n) else rRun m (rTk r).1 (n + 1)
theorem rRun_w : ∀ (m : Nat) (r : Int → Int) (n e : Int), RW r e → e + 11648 * m + 30000 ≤ 2000000000 → RW (rRun m r n).1 (e + 11648 * m) ∧ (∀ y, kp y → (rRun m r n).1 y = r y) ∧ n ≤ (rRun m r n).2 ∧ (rRun m r n).2 ≤ n + m := by
  intro m
  induction m with
  | zero => intro r n e w he; exact ⟨RW_e w (by omega) (by omega), fun _ _ => rfl, Int.le_refl _, by show n ≤ _; omega⟩
  | succ m ih =>
    intro r n e w he
    by_cases h : gFi r = 1
    · have e1 : rRun (m + 1) r n = (r, n) := if_pos h
      rw [e1]
      exact ⟨RW_e w (by omega) (by omega), fun _ _ => rfl, Int.le_refl _, by show n ≤ _; omega⟩
    · obtain ⟨t1, t2, t3⟩ := rTk_w w (by omega)
      by_cases h2 : (rTk r).2 = 0
      · have e1 : rRun (m + 1) r n = ((rTk r).1, n) := by
          show (if gFi r = 1 then _ else _) = _
          rw [if_neg h, if_pos h2]
        rw [e1]
        exact ⟨RW_e t1 (by omega) (by omega), t2, Int.le_refl _, by show n ≤ _; omega⟩
      · have e1 : rRun (m + 1) r n = rRun m (rTk r).1 (n + 1) := by
          show (if gFi r = 1 then _ else _) = _
          rw [if_neg h, if_neg h2]
        obtain ⟨i1, i2, i3, i4⟩ := ih (rTk r).1 (n + 1) (e + 11648) t1 (by omega)
        rw [e1]
        exact ⟨RW_e i1 (by omega) (by omega), fun y hy => (i2 y hy).trans (t2 y hy), by omega, by omega⟩
def EQ (r q : Int → Int) : Prop := ∀ k, 0 ≤ k → k < 1664 → q k = r k
/-- the same but for what ticksLeft writes -/
def SF (S S' : Nat → Int → Int) : Prop := (∀ i : Nat, i = 1 ∨ i = 3 ∨ i = 4 ∨ i = 8 → S' i = S i) ∧ ∀ j : Int, j ≠ 19 → j ≠ 20 → j ≠ 21 → S' 9 j = S 9 j
section MZC
variable {l : Launch} {X : XT} {o : Nat} {B A : AH} {S : Nat → Int → Int}
theorem L_runs (hl : l.stackTraces = false) {most : Int} (hmo : most ≤ 600) : ∀ (m : Nat) (n : Int) (T : Nat → Int → Int) (e : Int), RW (T 0) e → e + 11648 * m + 40000 ≤ 2000000000 → 0 ≤ n → n + m = most → SE S T →
    G l X M_X6_runs 8 (fun ot A1 => ot = Ri (I (rRun m (T 0) n).2) ∧ ∃ S', A1 = mp X o B S' ∧ S' 0 = (rRun m (T 0) n).1 ∧ SE S S') 2 [(0, .ref o), (1, .int (I most)), (2, .int (I n))] [] (mp X o B T) 0 0 := by
  intro m
  induction m with
  | zero =>
    intro n T e w he h0 h1 hS
    refine k_X6_runs_2 ?_
    simp (disch := omega) only [I_n, I_neg, I_add, I_sub, I_mul, I_le4, I_lt4, I_eq4, I_div4, I_bi0, I_bi01, I_bi1, nor_em, rI_of, rV_of, zI_of, zV_of, nz_and, br_T, br_F, br_T2, br_F2, st_eq, st9_0, st_k, st_i, true_and, and_true, Classical.not_not, mp_isO, mp_gI4, mp_gI5, mp_gI7, mp_gI8, mp_gI9, mp_gI10, mp_gI11, mp_gI12, mp_gI13, mp_gI14, mp_gI15, mp_gI19, mp_gI20, mp_gI21, mp_gI23, mp_pI4, mp_pI5, mp_pI7, mp_pI8, mp_pI9, mp_pI10, mp_pI11, mp_pI12, mp_pI13, mp_pI14, mp_pI15, mp_pI19, mp_pI20, mp_pI21, mp_pI23, mp_gR0, mp_gR1, mp_gR2, mp_gR3, mp_gR6, mp_gR16, mp_gR17, mp_gR18, mp_gR22, mp_aI0, mp_aI1, mp_aI2, mp_aI3, mp_aI4, mp_aI5, mp_aI6, mp_aZ7, mp_aI8, mp_sI0, mp_sI1, mp_sI2, mp_sI3, mp_sI4, mp_sI5, mp_sI6, mp_sI8, mp_sZ0, mp_sZ1]
    exact ⟨rfl, T, rfl, rfl, hS⟩
  | succ m ih =>
    intro n T e w he h0 h1 hS
    have hf := gFi_b (r := T 0)
    refine k_X6_runs_2 ?_
    simp (disch := omega) only [I_n, I_neg, I_add, I_sub, I_mul, I_le4, I_lt4, I_eq4, I_div4, I_bi0, I_bi01, I_bi1, nor_em, rI_of, rV_of, zI_of, zV_of, nz_and, br_T, br_F, br_T2, br_F2, st_eq, st9_0, st_k, st_i, true_and, and_true, Classical.not_not, mp_isO, mp_gI4, mp_gI5, mp_gI7, mp_gI8, mp_gI9, mp_gI10, mp_gI11, mp_gI12, mp_gI13, mp_gI14, mp_gI15, mp_gI19, mp_gI20, mp_gI21, mp_gI23, mp_pI4, mp_pI5, mp_pI7, mp_pI8, mp_pI9, mp_pI10, mp_pI11, mp_pI12, mp_pI13, mp_pI14, mp_pI15, mp_pI19, mp_pI20, mp_pI21, mp_pI23, mp_gR0, mp_gR1, mp_gR2, mp_gR3, mp_gR6, mp_gR16, mp_gR17, mp_gR18, mp_gR22, mp_aI0, mp_aI1, mp_aI2, mp_aI3, mp_aI4, mp_aI5, mp_aI6, mp_aZ7, mp_aI8, mp_sI0, mp_sI1, mp_sI2, mp_sI3, mp_sI4, mp_sI5, mp_sI6, mp_sI8, mp_sZ0, mp_sZ1]
    refine (c_X6_isFinished hl w).cl0 (by decide) ?_
    simp (disch := omega) only [I_n, I_neg, I_add, I_sub, I_mul, I_le4, I_lt4, I_eq4, I_div4, I_bi0, I_bi01, I_bi1, nor_em, rI_of, rV_of, zI_of, zV_of, nz_and, br_T, br_F, br_T2, br_F2, st_eq, st9_0, st_k, st_i, true_and, and_true, Classical.not_not, mp_isO, mp_gI4, mp_gI5, mp_gI7, mp_gI8, mp_gI9, mp_gI10, mp_gI11, mp_gI12, mp_gI13, mp_gI14, mp_gI15, mp_gI19, mp_gI20, mp_gI21, mp_gI23, mp_pI4, mp_pI5, mp_pI7, mp_pI8, mp_pI9, mp_pI10, mp_pI11, mp_pI12, mp_pI13, mp_pI14, mp_pI15, mp_pI19, mp_pI20, mp_pI21, mp_pI23, mp_gR0, mp_gR1, mp_gR2, mp_gR3, mp_gR6, mp_gR16, mp_gR17, mp_gR18, mp_gR22, mp_aI0, mp_aI1, mp_aI2, mp_aI3, mp_aI4, mp_aI5, mp_aI6, mp_aZ7, mp_aI8, mp_sI0, mp_sI1, mp_sI2, mp_sI3, mp_sI4, mp_sI5, mp_sI6, mp_sI8, mp_sZ0, mp_sZ1]
    obtain ⟨t1, t2, t3⟩ := rTk_w w (by omega)
    refine ⟨fun h => ?_, fun h => ?_⟩
    · have e1 : rRun (m + 1) (T 0) n = (T 0, n) := if_pos (by omega)
      rw [e1]
      exact ⟨rfl, T, rfl, rfl, hS⟩
    · refine (c_X6_ticks hl w (by omega)).cl0 (by decide) ?_
      rintro o1 A1 ⟨rfl, S', rfl, q1, q2⟩
      simp (disch := omega) only [I_n, I_neg, I_add, I_sub, I_mul, I_le4, I_lt4, I_eq4, I_div4, I_bi0, I_bi01, I_bi1, nor_em, rI_of, rV_of, zI_of, zV_of, nz_and, br_T, br_F, br_T2, br_F2, st_eq, st9_0, st_k, st_i, true_and, and_true, Classical.not_not, mp_isO, mp_gI4, mp_gI5, mp_gI7, mp_gI8, mp_gI9, mp_gI10, mp_gI11, mp_gI12, mp_gI13, mp_gI14, mp_gI15, mp_gI19, mp_gI20, mp_gI21, mp_gI23, mp_pI4, mp_pI5, mp_pI7, mp_pI8, mp_pI9, mp_pI10, mp_pI11, mp_pI12, mp_pI13, mp_pI14, mp_pI15, mp_pI19, mp_pI20, mp_pI21, mp_pI23, mp_gR0, mp_gR1, mp_gR2, mp_gR3, mp_gR6, mp_gR16, mp_gR17, mp_gR18, mp_gR22, mp_aI0, mp_aI1, mp_aI2, mp_aI3, mp_aI4, mp_aI5, mp_aI6, mp_aZ7, mp_aI8, mp_sI0, mp_sI1, mp_sI2, mp_sI3, mp_sI4, mp_sI5, mp_sI6, mp_sI8, mp_sZ0, mp_sZ1]
      refine ⟨fun h2 => ?_, fun h2 => ?_⟩
      · have e1 : rRun (m + 1) (T 0) n = rRun m (rTk (T 0)).1 (n + 1) := by
          show (if gFi (T 0) = 1 then _ else _) = _
          rw [if_neg (by omega), if_neg h2]
        rw [e1]
        have i := ih (n + 1) S' (e + 11648) (by rw [q1]; exact t1) (by omega) (by omega) (by omega) (hS.tr q2)
        rw [q1] at i
        exact i
      · have e1 : rRun (m + 1) (T 0) n = ((rTk (T 0)).1, n) := by
          show (if gFi (T 0) = 1 then _ else _) = _
          rw [if_neg (by omega), if_pos h2]
        rw [e1]
        exact ⟨rfl, S', rfl, q1, hS.tr q2⟩
theorem c_X6_runs (hl : l.stackTraces = false) {e : Int} (w : RW (S 0) e) {m : Nat} (hm : m ≤ 600) (he : e + 11648 * m + 40000 ≤ 2000000000) : Ct l X 8 M_X6_runs [.ref o, .int (I m)] (mp X o B S) 0 0 (fun ot A1 => ot = Ri (I (rRun m (S 0) 0).2) ∧ ∃ S', A1 = mp X o B S' ∧ S' 0 = (rRun m (S 0) 0).1 ∧ SE S S') := by
  refine Ct.of hl rfl rfl (Nat.le_of_ble_eq_true rfl) (k_X6_runs_0 ?_)
  simp only [I_n]
  exact L_runs hl (by omega) m 0 S e w he (by omega) (by omega) SE.rf
theorem c_X6_run (hl : l.stackTraces = false) {e : Int} (w : RW (S 0) e) (he : e + 4000000 ≤ 2000000000) (hm : 0 ≤ S 9 4 ∧ S 9 4 ≤ 8) {k : Int} (hk : sm k) : Ct l X 9 M_X6_run [.ref o, .int (I k)] (mp X o B S) 0 0 (fun ot A1 => ot = Ri (I (if 1 ≤ k ∧ k ≤ 300 then (rRun k.toNat (S 0) 0).2 else 0)) ∧ ∃ S', A1 = mp X o B S' ∧ S' 0 = (if 1 ≤ k ∧ k ≤ 300 then (rRun k.toNat (S 0) 0).1 else S 0) ∧ SE (if 1 ≤ k ∧ k ≤ 300 then kS (st S 9 5 0) else st S 9 5 1) S') := by
  refine Ct.of hl rfl rfl (Nat.le_of_ble_eq_true rfl) (k_X6_run_0 ?_)
  simp only [I_n]
  refine (c_X6_isIn hl hk ⟨by omega, by omega⟩ ⟨by omega, by omega⟩).cl0 (by decide) ?_
  simp (disch := omega) only [I_n, I_neg, I_add, I_sub, I_mul, I_le4, I_lt4, I_eq4, I_div4, I_bi0, I_bi01, I_bi1, nor_em, rI_of, rV_of, zI_of, zV_of, nz_and, br_T, br_F, br_T2, br_F2, st_eq, st9_0, st_k, st_i, true_and, and_true, Classical.not_not, mp_isO, mp_gI4, mp_gI5, mp_gI7, mp_gI8, mp_gI9, mp_gI10, mp_gI11, mp_gI12, mp_gI13, mp_gI14, mp_gI15, mp_gI19, mp_gI20, mp_gI21, mp_gI23, mp_pI4, mp_pI5, mp_pI7, mp_pI8, mp_pI9, mp_pI10, mp_pI11, mp_pI12, mp_pI13, mp_pI14, mp_pI15, mp_pI19, mp_pI20, mp_pI21, mp_pI23, mp_gR0, mp_gR1, mp_gR2, mp_gR3, mp_gR6, mp_gR16, mp_gR17, mp_gR18, mp_gR22, mp_aI0, mp_aI1, mp_aI2, mp_aI3, mp_aI4, mp_aI5, mp_aI6, mp_aZ7, mp_aI8, mp_sI0, mp_sI1, mp_sI2, mp_sI3, mp_sI4, mp_sI5, mp_sI6, mp_sI8, mp_sZ0, mp_sZ1]
  refine ⟨fun h => k_X6_run_17 ?_, fun h => k_X6_run_17 ?_⟩
  · simp (disch := omega) only [I_n, I_neg, I_add, I_sub, I_mul, I_le4, I_lt4, I_eq4, I_div4, I_bi0, I_bi01, I_bi1, nor_em, rI_of, rV_of, zI_of, zV_of, nz_and, br_T, br_F, br_T2, br_F2, st_eq, st9_0, st_k, st_i, true_and, and_true, Classical.not_not, mp_isO, mp_gI4, mp_gI5, mp_gI7, mp_gI8, mp_gI9, mp_gI10, mp_gI11, mp_gI12, mp_gI13, mp_gI14, mp_gI15, mp_gI19, mp_gI20, mp_gI21, mp_gI23, mp_pI4, mp_pI5, mp_pI7, mp_pI8, mp_pI9, mp_pI10, mp_pI11, mp_pI12, mp_pI13, mp_pI14, mp_pI15, mp_pI19, mp_pI20, mp_pI21, mp_pI23, mp_gR0, mp_gR1, mp_gR2, mp_gR3, mp_gR6, mp_gR16, mp_gR17, mp_gR18, mp_gR22, mp_aI0, mp_aI1, mp_aI2, mp_aI3, mp_aI4, mp_aI5, mp_aI6, mp_aZ7, mp_aI8, mp_sI0, mp_sI1, mp_sI2, mp_sI3, mp_sI4, mp_sI5, mp_sI6, mp_sI8, mp_sZ0, mp_sZ1]
    rw [if_neg h, if_neg h, if_neg h]
    exact ⟨rfl, _, rfl, st9_0, SE.rf⟩
  · rw [if_pos h, if_pos h, if_pos h]
    simp (disch := omega) only [I_n, I_neg, I_add, I_sub, I_mul, I_le4, I_lt4, I_eq4, I_div4, I_bi0, I_bi01, I_bi1, nor_em, rI_of, rV_of, zI_of, zV_of, nz_and, br_T, br_F, br_T2, br_F2, st_eq, st9_0, st_k, st_i, true_and, and_true, Classical.not_not, mp_isO, mp_gI4, mp_gI5, mp_gI7, mp_gI8, mp_gI9, mp_gI10, mp_gI11, mp_gI12, mp_gI13, mp_gI14, mp_gI15, mp_gI19, mp_gI20, mp_gI21, mp_gI23, mp_pI4, mp_pI5, mp_pI7, mp_pI8, mp_pI9, mp_pI10, mp_pI11, mp_pI12, mp_pI13, mp_pI14, mp_pI15, mp_pI19, mp_pI20, mp_pI21, mp_pI23, mp_gR0, mp_gR1, mp_gR2, mp_gR3, mp_gR6, mp_gR16, mp_gR17, mp_gR18, mp_gR22, mp_aI0, mp_aI1, mp_aI2, mp_aI3, mp_aI4, mp_aI5, mp_aI6, mp_aZ7, mp_aI8, mp_sI0, mp_sI1, mp_sI2, mp_sI3, mp_sI4, mp_sI5, mp_sI6, mp_sI8, mp_sZ0, mp_sZ1]
    refine (c_X6_keeps (S := st S 9 5 0) hl (by rw [st_k (by decide)]; exact hm)).cl0 (by decide) ?_
    simp (disch := omega) only [I_n, I_neg, I_add, I_sub, I_mul, I_le4, I_lt4, I_eq4, I_div4, I_bi0, I_bi01, I_bi1, nor_em, rI_of, rV_of, zI_of, zV_of, nz_and, br_T, br_F, br_T2, br_F2, st_eq, st9_0, st_k, st_i, true_and, and_true, Classical.not_not, mp_isO, mp_gI4, mp_gI5, mp_gI7, mp_gI8, mp_gI9, mp_gI10, mp_gI11, mp_gI12, mp_gI13, mp_gI14, mp_gI15, mp_gI19, mp_gI20, mp_gI21, mp_gI23, mp_pI4, mp_pI5, mp_pI7, mp_pI8, mp_pI9, mp_pI10, mp_pI11, mp_pI12, mp_pI13, mp_pI14, mp_pI15, mp_pI19, mp_pI20, mp_pI21, mp_pI23, mp_gR0, mp_gR1, mp_gR2, mp_gR3, mp_gR6, mp_gR16, mp_gR17, mp_gR18, mp_gR22, mp_aI0, mp_aI1, mp_aI2, mp_aI3, mp_aI4, mp_aI5, mp_aI6, mp_aZ7, mp_aI8, mp_sI0, mp_sI1, mp_sI2, mp_sI3, mp_sI4, mp_sI5, mp_sI6, mp_sI8, mp_sZ0, mp_sZ1]
    have as := c_X6_runs (X := X) (o := o) (B := B) (S := kS (st S 9 5 0)) (e := e) (m := k.toNat) hl (by rw [kS_st]; exact w) (by omega) (by omega)
    rw [kS_st, show ((k.toNat : Nat) : Int) = k by omega] at as
    refine as.cl0 (by decide) ?_
    rintro o1 A1 ⟨rfl, S', rfl, q1, q2⟩
    simp (disch := omega) only [I_n, I_neg, I_add, I_sub, I_mul, I_le4, I_lt4, I_eq4, I_div4, I_bi0, I_bi01, I_bi1, nor_em, rI_of, rV_of, zI_of, zV_of, nz_and, br_T, br_F, br_T2, br_F2, st_eq, st9_0, st_k, st_i, true_and, and_true, Classical.not_not, mp_isO, mp_gI4, mp_gI5, mp_gI7, mp_gI8, mp_gI9, mp_gI10, mp_gI11, mp_gI12, mp_gI13, mp_gI14, mp_gI15, mp_gI19, mp_gI20, mp_gI21, mp_gI23, mp_pI4, mp_pI5, mp_pI7, mp_pI8, mp_pI9, mp_pI10, mp_pI11, mp_pI12, mp_pI13, mp_pI14, mp_pI15, mp_pI19, mp_pI20, mp_pI21, mp_pI23, mp_gR0, mp_gR1, mp_gR2, mp_gR3, mp_gR6, mp_gR16, mp_gR17, mp_gR18, mp_gR22, mp_aI0, mp_aI1, mp_aI2, mp_aI3, mp_aI4, mp_aI5, mp_aI6, mp_aZ7, mp_aI8, mp_sI0, mp_sI1, mp_sI2, mp_sI3, mp_sI4, mp_sI5, mp_sI6, mp_sI8, mp_sZ0, mp_sZ1]
    exact ⟨S', rfl, q1, q2⟩
theorem c_X6_ticksLeft (hl : l.stackTraces = false) {e : Int} (w : RW (S 0) e) (he : e + 8000000 ≤ 2000000000) : Ct l X 9 M_X6_ticksLeft [.ref o] (mp X o B S) 0 0 (fun ot A1 => ot = Ri (I (if gFi (rRun 600 (S 0) 0).1 = 1 then (rRun 600 (S 0) 0).2 else -1)) ∧ ∃ S', A1 = mp X o B S' ∧ EQ (S 0) (S' 0) ∧ SF (st S 9 5 0) S') := by
  obtain ⟨t1, t2, t3, t4⟩ := rRun_w 600 (S 0) 0 e w (by omega)
  have hf := gFi_b (r := (rRun 600 (S 0) 0).1)
  refine Ct.of hl rfl rfl (Nat.le_of_ble_eq_true rfl) (k_X6_ticksLeft_0 ?_)
  simp (disch := omega) only [I_n, I_neg, I_add, I_sub, I_mul, I_le4, I_lt4, I_eq4, I_div4, I_bi0, I_bi01, I_bi1, nor_em, rI_of, rV_of, zI_of, zV_of, nz_and, br_T, br_F, br_T2, br_F2, st_eq, st9_0, st_k, st_i, true_and, and_true, Classical.not_not, mp_isO, mp_gI4, mp_gI5, mp_gI7, mp_gI8, mp_gI9, mp_gI10, mp_gI11, mp_gI12, mp_gI13, mp_gI14, mp_gI15, mp_gI19, mp_gI20, mp_gI21, mp_gI23, mp_pI4, mp_pI5, mp_pI7, mp_pI8, mp_pI9, mp_pI10, mp_pI11, mp_pI12, mp_pI13, mp_pI14, mp_pI15, mp_pI19, mp_pI20, mp_pI21, mp_pI23, mp_gR0, mp_gR1, mp_gR2, mp_gR3, mp_gR6, mp_gR16, mp_gR17, mp_gR18, mp_gR22, mp_aI0, mp_aI1, mp_aI2, mp_aI3, mp_aI4, mp_aI5, mp_aI6, mp_aZ7, mp_aI8, mp_sI0, mp_sI1, mp_sI2, mp_sI3, mp_sI4, mp_sI5, mp_sI6, mp_sI8, mp_sZ0, mp_sZ1]
  refine (c_X6_putsAside (S := st S 9 5 0) hl).cl0 (by decide) ?_
  simp (disch := omega) only [I_n, I_neg, I_add, I_sub, I_mul, I_le4, I_lt4, I_eq4, I_div4, I_bi0, I_bi01, I_bi1, nor_em, rI_of, rV_of, zI_of, zV_of, nz_and, br_T, br_F, br_T2, br_F2, st_eq, st9_0, st_k, st_i, true_and, and_true, Classical.not_not, mp_isO, mp_gI4, mp_gI5, mp_gI7, mp_gI8, mp_gI9, mp_gI10, mp_gI11, mp_gI12, mp_gI13, mp_gI14, mp_gI15, mp_gI19, mp_gI20, mp_gI21, mp_gI23, mp_pI4, mp_pI5, mp_pI7, mp_pI8, mp_pI9, mp_pI10, mp_pI11, mp_pI12, mp_pI13, mp_pI14, mp_pI15, mp_pI19, mp_pI20, mp_pI21, mp_pI23, mp_gR0, mp_gR1, mp_gR2, mp_gR3, mp_gR6, mp_gR16, mp_gR17, mp_gR18, mp_gR22, mp_aI0, mp_aI1, mp_aI2, mp_aI3, mp_aI4, mp_aI5, mp_aI6, mp_aZ7, mp_aI8, mp_sI0, mp_sI1, mp_sI2, mp_sI3, mp_sI4, mp_sI5, mp_sI6, mp_sI8, mp_sZ0, mp_sZ1]
  obtain ⟨T, hT⟩ : ∃ T, T = sw (st S 9 5 0) 2 (cpy (st S 9 5 0 2) (S 0) 0 0 1664) := ⟨_, rfl⟩
  rw [← hT]
  have T0 : T 0 = S 0 := by rw [hT, sw_j (by decide), st9_0]
  have T2 : T 2 = cpy (S 2) (S 0) 0 0 1664 := by rw [hT, sw_i, st9_j (by decide)]
  have TF : SF (st S 9 5 0) T := by
    rw [hT]
    exact ⟨fun i hi => sw_j (by omega), fun j _ _ _ => by rw [sw_j (by decide)]⟩
  have ar := c_X6_runs (X := X) (o := o) (B := B) (S := T) (e := e) (m := 600) hl (by rw [T0]; exact w) (by decide) (by omega)
  rw [T0] at ar
  refine ar.cl0 (by decide) ?_
  rintro o1 A1 ⟨rfl, S', rfl, q1, q2⟩
  simp (disch := omega) only [I_n, I_neg, I_add, I_sub, I_mul, I_le4, I_lt4, I_eq4, I_div4, I_bi0, I_bi01, I_bi1, nor_em, rI_of, rV_of, zI_of, zV_of, nz_and, br_T, br_F, br_T2, br_F2, st_eq, st9_0, st_k, st_i, true_and, and_true, Classical.not_not, mp_isO, mp_gI4, mp_gI5, mp_gI7, mp_gI8, mp_gI9, mp_gI10, mp_gI11, mp_gI12, mp_gI13, mp_gI14, mp_gI15, mp_gI19, mp_gI20, mp_gI21, mp_gI23, mp_pI4, mp_pI5, mp_pI7, mp_pI8, mp_pI9, mp_pI10, mp_pI11, mp_pI12, mp_pI13, mp_pI14, mp_pI15, mp_pI19, mp_pI20, mp_pI21, mp_pI23, mp_gR0, mp_gR1, mp_gR2, mp_gR3, mp_gR6, mp_gR16, mp_gR17, mp_gR18, mp_gR22, mp_aI0, mp_aI1, mp_aI2, mp_aI3, mp_aI4, mp_aI5, mp_aI6, mp_aZ7, mp_aI8, mp_sI0, mp_sI1, mp_sI2, mp_sI3, mp_sI4, mp_sI5, mp_sI6, mp_sI8, mp_sZ0, mp_sZ1]
  refine (c_X6_isFinished (S := S') (e := e + 11648 * (600 : Nat)) hl (by rw [q1]; exact t1)).cl0 (by decide) ?_
  rw [q1]
  simp (disch := omega) only [I_n, I_neg, I_add, I_sub, I_mul, I_le4, I_lt4, I_eq4, I_div4, I_bi0, I_bi01, I_bi1, nor_em, rI_of, rV_of, zI_of, zV_of, nz_and, br_T, br_F, br_T2, br_F2, st_eq, st9_0, st_k, st_i, true_and, and_true, Classical.not_not, mp_isO, mp_gI4, mp_gI5, mp_gI7, mp_gI8, mp_gI9, mp_gI10, mp_gI11, mp_gI12, mp_gI13, mp_gI14, mp_gI15, mp_gI19, mp_gI20, mp_gI21, mp_gI23, mp_pI4, mp_pI5, mp_pI7, mp_pI8, mp_pI9, mp_pI10, mp_pI11, mp_pI12, mp_pI13, mp_pI14, mp_pI15, mp_pI19, mp_pI20, mp_pI21, mp_pI23, mp_gR0, mp_gR1, mp_gR2, mp_gR3, mp_gR6, mp_gR16, mp_gR17, mp_gR18, mp_gR22, mp_aI0, mp_aI1, mp_aI2, mp_aI3, mp_aI4, mp_aI5, mp_aI6, mp_aZ7, mp_aI8, mp_sI0, mp_sI1, mp_sI2, mp_sI3, mp_sI4, mp_sI5, mp_sI6, mp_sI8, mp_sZ0, mp_sZ1]
  refine (c_X6_becomes2 (S := S') hl (f := 0) (by omega) (by omega)).cl0 (by decide) ?_
  have S2 : S' 2 = cpy (S 2) (S 0) 0 0 1664 := by rw [q2.1 2 (by omega), T2]
  have fin : ∃ S'', mp X o B (sr S' (cpy (S' 0) (S' 2) 0 0 1664)) = mp X o B S'' ∧ EQ (S 0) (S'' 0) ∧ SF (st S 9 5 0) S'' := by
    refine ⟨_, rfl, fun k k0 k1 => ?_, ?_⟩
    · rw [sr_0, S2]
      unfold cpy
      rw [if_pos (by omega), if_pos (by omega)]
      congr 1
      omega
    · have a := SE_sr (r := cpy (S' 0) (S' 2) 0 0 1664) q2
      exact ⟨fun i hi => (a.1 i (by omega)).trans (TF.1 i hi), fun j h1 h2 h3 => (a.2 j h1 h2 h3).trans (TF.2 j h1 h2 h3)⟩
  simp (disch := omega) only [I_n, I_neg, I_add, I_sub, I_mul, I_le4, I_lt4, I_eq4, I_div4, I_bi0, I_bi01, I_bi1, nor_em, rI_of, rV_of, zI_of, zV_of, nz_and, br_T, br_F, br_T2, br_F2, st_eq, st9_0, st_k, st_i, true_and, and_true, Classical.not_not, mp_isO, mp_gI4, mp_gI5, mp_gI7, mp_gI8, mp_gI9, mp_gI10, mp_gI11, mp_gI12, mp_gI13, mp_gI14, mp_gI15, mp_gI19, mp_gI20, mp_gI21, mp_gI23, mp_pI4, mp_pI5, mp_pI7, mp_pI8, mp_pI9, mp_pI10, mp_pI11, mp_pI12, mp_pI13, mp_pI14, mp_pI15, mp_pI19, mp_pI20, mp_pI21, mp_pI23, mp_gR0, mp_gR1, mp_gR2, mp_gR3, mp_gR6, mp_gR16, mp_gR17, mp_gR18, mp_gR22, mp_aI0, mp_aI1, mp_aI2, mp_aI3, mp_aI4, mp_aI5, mp_aI6, mp_aZ7, mp_aI8, mp_sI0, mp_sI1, mp_sI2, mp_sI3, mp_sI4, mp_sI5, mp_sI6, mp_sI8, mp_sZ0, mp_sZ1]
  refine ⟨fun h => ?_, fun h => ?_⟩
  · rw [if_neg (by omega)]
    exact ⟨rfl, fin⟩
  · rw [if_pos (by omega)]
    exact ⟨rfl, fin⟩
end MZC
