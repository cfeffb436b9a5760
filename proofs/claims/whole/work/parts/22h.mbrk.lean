/-! the reference: events, breaks, cuts -/
theorem gEv_b {r : Int → Int} {e : Int} (w : RW r e) {j : Int} (h0 : 0 ≤ j) (h1 : j < r 7) : 0 ≤ gEv r j 0 ∧ gEv r j 0 ≤ 8 := by
  have f6 := w.2.2.2.2.2.2.2.2.2.2.2.1 (r 7 - 1 - j - (r 7 - 1 - j) / 40 * 40) (by omega) (by omega)
  unfold gEv
  rw [Int.add_zero]
  exact ⟨f6.1, f6.2.1⟩
def gEvs (r : Int → Int) (k : Int) : Int := sg (fun j => bi (gEv r j 0 = k)) (gK r).toNat
def rBr1 (q : Int → Int) (x n b : Int) : Int → Int := if q (44 + 3 * b) = q 5 ∧ q (44 + 3 * b + 1) < n then rs q (336 + x + q (44 + 3 * b + 1)) (q (336 + x + q (44 + 3 * b + 1)) + q (44 + 3 * b + 2) - (q (336 + x + q (44 + 3 * b + 1)) + q (44 + 3 * b + 2)) / 256 * 256) else q
def rBrs (q : Int → Int) (x n : Int) : Nat → Int → Int
  | 0 => q
  | m + 1 => rBr1 (rBrs q x n m) x n m
theorem rBr1_w {q : Int → Int} {e x n b : Int} (w : RW q e) (hx : 0 ≤ x) (hn : x + n ≤ 240) (h0 : 0 ≤ b) (h1 : b < q 11) : RW (rBr1 q x n b) e := by
  have c3 := w.2.2.2.1
  have f2 := w.2.2.2.2.2.2.2.1 b h0 h1
  unfold rBr1
  split
  · rename_i h
    refine RW_set w (by omega) (by omega) (by omega) (by omega) (by omega) (by omega) (by omega) (by omega) (by omega) (by omega) (by omega) (by omega)
  · exact w
theorem rBr1_o {q : Int → Int} {e x n b j : Int} (w : RW q e) (hx : 0 ≤ x) (hn : x + n ≤ 240) (h0 : 0 ≤ b) (h1 : b < q 11) (hj : j < 336 ∨ 576 ≤ j) : rBr1 q x n b j = q j := by
  have f2 := w.2.2.2.2.2.2.2.1 b h0 h1
  unfold rBr1
  split
  · rw [rs_ne (by omega)]
  · rfl
theorem rBrs_w {q : Int → Int} {e x n : Int} (w : RW q e) (hx : 0 ≤ x) (hn : x + n ≤ 240) {m : Nat} (hm : m ≤ (q 11).toNat) : RW (rBrs q x n m) e ∧ ∀ j, j < 336 ∨ 576 ≤ j → rBrs q x n m j = q j := by
  induction m with
  | zero => exact ⟨w, fun _ _ => rfl⟩
  | succ m ih =>
    obtain ⟨i1, i2⟩ := ih (by omega)
    have c3 := w.2.2.2.1
    have e11 := i2 11 (by omega)
    refine ⟨rBr1_w i1 hx hn (by omega) (by omega), fun j hj => ?_⟩
    exact (rBr1_o i1 hx hn (by omega) (by omega) hj).trans (i2 j hj)
def gCf (r : Int → Int) (s c : Int) : Int := bi (r (80 + 2 * c) = s ∧ r (80 + 2 * c + 1) = r (16 + s))
def cz (x : Int) : Int := if 0 < x then 1 else 0
def gCut (r : Int → Int) (s : Int) : Int := cz (sg (gCf r s) (r 12).toNat)
section MH
variable {l : Launch} {X : XT} {o : Nat} {B A : AH} {S : Nat → Int → Int} {e : Int}
theorem c_X6_events (hl : l.stackTraces = false) (w : RW (S 0) e) {k : Int} (hk : sm k) : Fn l X 1 M_X6_events [.ref o, .int (I k)] (mp X o B S) 0 0 (Ri (I (if 0 ≤ k ∧ k ≤ 8 then gEvs (S 0) k else 0))) (mp X o B (st S 9 5 (bi (¬ (0 ≤ k ∧ k ≤ 8))))) := by
  have c5 := w.2.2.2.2.2.1
  have f9 := w.2.2.2.2.2.2.2.2.2.2.2.2.2.2.1
  have w' : RW ((st S 9 5 0) 0) e := by rw [st9_0]; exact w
  have hK : 0 ≤ gK (S 0) ∧ gK (S 0) ≤ S 0 7 ∧ gK (S 0) ≤ 40 := by
    unfold gK
    split
    · omega
    · omega
  refine Fn.of hl rfl rfl (Nat.le_of_ble_eq_true rfl) (k_X6_events_0 ?_)
  simp only [I_n]
  refine (c_X6_isIn hl hk ⟨by omega, by omega⟩ ⟨by omega, by omega⟩).cl0 (by decide) ?_
  simp (disch := omega) only [I_n, I_neg, I_add, I_sub, I_mul, I_le4, I_lt4, I_eq4, I_div4, I_bi0, I_bi01, I_bi1, nor_em, rI_of, rV_of, zI_of, zV_of, nz_and, br_T, br_F, br_T2, br_F2, st_eq, st9_0, st_k, st_i, true_and, and_true, Classical.not_not, mp_isO, mp_gI4, mp_gI5, mp_gI7, mp_gI8, mp_gI9, mp_gI10, mp_gI11, mp_gI12, mp_gI13, mp_gI14, mp_gI15, mp_gI19, mp_gI20, mp_gI21, mp_gI23, mp_pI4, mp_pI5, mp_pI7, mp_pI8, mp_pI9, mp_pI10, mp_pI11, mp_pI12, mp_pI13, mp_pI14, mp_pI15, mp_pI19, mp_pI20, mp_pI21, mp_pI23, mp_gR0, mp_gR1, mp_gR2, mp_gR3, mp_gR6, mp_gR16, mp_gR17, mp_gR18, mp_gR22, mp_aI0, mp_aI1, mp_aI2, mp_aI3, mp_aI4, mp_aI5, mp_aI6, mp_aZ7, mp_aI8, mp_sI0, mp_sI1, mp_sI2, mp_sI3, mp_sI4, mp_sI5, mp_sI6, mp_sI8, mp_sZ0, mp_sZ1]
  refine ⟨fun h => k_X6_events_16 ?_, fun h => k_X6_events_16 ?_⟩
  · simp (disch := omega) only [I_n, I_neg, I_add, I_sub, I_mul, I_le4, I_lt4, I_eq4, I_div4, I_bi0, I_bi01, I_bi1, nor_em, rI_of, rV_of, zI_of, zV_of, nz_and, br_T, br_F, br_T2, br_F2, st_eq, st9_0, st_k, st_i, true_and, and_true, Classical.not_not, mp_isO, mp_gI4, mp_gI5, mp_gI7, mp_gI8, mp_gI9, mp_gI10, mp_gI11, mp_gI12, mp_gI13, mp_gI14, mp_gI15, mp_gI19, mp_gI20, mp_gI21, mp_gI23, mp_pI4, mp_pI5, mp_pI7, mp_pI8, mp_pI9, mp_pI10, mp_pI11, mp_pI12, mp_pI13, mp_pI14, mp_pI15, mp_pI19, mp_pI20, mp_pI21, mp_pI23, mp_gR0, mp_gR1, mp_gR2, mp_gR3, mp_gR6, mp_gR16, mp_gR17, mp_gR18, mp_gR22, mp_aI0, mp_aI1, mp_aI2, mp_aI3, mp_aI4, mp_aI5, mp_aI6, mp_aZ7, mp_aI8, mp_sI0, mp_sI1, mp_sI2, mp_sI3, mp_sI4, mp_sI5, mp_sI6, mp_sI8, mp_sZ0, mp_sZ1]
    rw [if_neg h, bi_t h]
    all_goals first | rfl | exact ⟨rfl, rfl⟩
  · simp (disch := omega) only [I_n, I_neg, I_add, I_sub, I_mul, I_le4, I_lt4, I_eq4, I_div4, I_bi0, I_bi01, I_bi1, nor_em, rI_of, rV_of, zI_of, zV_of, nz_and, br_T, br_F, br_T2, br_F2, st_eq, st9_0, st_k, st_i, true_and, and_true, Classical.not_not, mp_isO, mp_gI4, mp_gI5, mp_gI7, mp_gI8, mp_gI9, mp_gI10, mp_gI11, mp_gI12, mp_gI13, mp_gI14, mp_gI15, mp_gI19, mp_gI20, mp_gI21, mp_gI23, mp_pI4, mp_pI5, mp_pI7, mp_pI8, mp_pI9, mp_pI10, mp_pI11, mp_pI12, mp_pI13, mp_pI14, mp_pI15, mp_pI19, mp_pI20, mp_pI21, mp_pI23, mp_gR0, mp_gR1, mp_gR2, mp_gR3, mp_gR6, mp_gR16, mp_gR17, mp_gR18, mp_gR22, mp_aI0, mp_aI1, mp_aI2, mp_aI3, mp_aI4, mp_aI5, mp_aI6, mp_aZ7, mp_aI8, mp_sI0, mp_sI1, mp_sI2, mp_sI3, mp_sI4, mp_sI5, mp_sI6, mp_sI8, mp_sZ0, mp_sZ1]
    rw [if_pos h, bi_f fun q => q h]
    refine up_to (n := (gK (S 0)).toNat) (P := fun j => G l X M_X6_events 1 (fun o' A1 => o' = Ri (I (gEvs (S 0) k)) ∧ A1 = mp X o B (st S 9 5 0)) 32 [(0, .ref o), (1, .int (I k)), (2, .int (I (sg (fun j => bi (gEv (S 0) j 0 = k)) j))), (3, .int (I j))] [] (mp X o B (st S 9 5 0)) 0 0) ?_ ?_
    · refine k_X6_events_32 ?_
      simp (disch := omega) only [I_n, I_neg, I_add, I_sub, I_mul, I_le4, I_lt4, I_eq4, I_div4, I_bi0, I_bi01, I_bi1, nor_em, rI_of, rV_of, zI_of, zV_of, nz_and, br_T, br_F, br_T2, br_F2, st_eq, st9_0, st_k, st_i, true_and, and_true, Classical.not_not, mp_isO, mp_gI4, mp_gI5, mp_gI7, mp_gI8, mp_gI9, mp_gI10, mp_gI11, mp_gI12, mp_gI13, mp_gI14, mp_gI15, mp_gI19, mp_gI20, mp_gI21, mp_gI23, mp_pI4, mp_pI5, mp_pI7, mp_pI8, mp_pI9, mp_pI10, mp_pI11, mp_pI12, mp_pI13, mp_pI14, mp_pI15, mp_pI19, mp_pI20, mp_pI21, mp_pI23, mp_gR0, mp_gR1, mp_gR2, mp_gR3, mp_gR6, mp_gR16, mp_gR17, mp_gR18, mp_gR22, mp_aI0, mp_aI1, mp_aI2, mp_aI3, mp_aI4, mp_aI5, mp_aI6, mp_aZ7, mp_aI8, mp_sI0, mp_sI1, mp_sI2, mp_sI3, mp_sI4, mp_sI5, mp_sI6, mp_sI8, mp_sZ0, mp_sZ1]
      refine (c_X6_eventsKept hl (by rw [st9_0]; omega) (by rw [st9_0]; omega)).cl0 (by decide) ?_
      simp (disch := omega) only [I_n, I_neg, I_add, I_sub, I_mul, I_le4, I_lt4, I_eq4, I_div4, I_bi0, I_bi01, I_bi1, nor_em, rI_of, rV_of, zI_of, zV_of, nz_and, br_T, br_F, br_T2, br_F2, st_eq, st9_0, st_k, st_i, true_and, and_true, Classical.not_not, mp_isO, mp_gI4, mp_gI5, mp_gI7, mp_gI8, mp_gI9, mp_gI10, mp_gI11, mp_gI12, mp_gI13, mp_gI14, mp_gI15, mp_gI19, mp_gI20, mp_gI21, mp_gI23, mp_pI4, mp_pI5, mp_pI7, mp_pI8, mp_pI9, mp_pI10, mp_pI11, mp_pI12, mp_pI13, mp_pI14, mp_pI15, mp_pI19, mp_pI20, mp_pI21, mp_pI23, mp_gR0, mp_gR1, mp_gR2, mp_gR3, mp_gR6, mp_gR16, mp_gR17, mp_gR18, mp_gR22, mp_aI0, mp_aI1, mp_aI2, mp_aI3, mp_aI4, mp_aI5, mp_aI6, mp_aZ7, mp_aI8, mp_sI0, mp_sI1, mp_sI2, mp_sI3, mp_sI4, mp_sI5, mp_sI6, mp_sI8, mp_sZ0, mp_sZ1]
      rfl
    · intro j hj ih
      have hb := gEv_b w (j := j) (by omega) (by omega)
      refine k_X6_events_32 ?_
      simp (disch := omega) only [I_n, I_neg, I_add, I_sub, I_mul, I_le4, I_lt4, I_eq4, I_div4, I_bi0, I_bi01, I_bi1, nor_em, rI_of, rV_of, zI_of, zV_of, nz_and, br_T, br_F, br_T2, br_F2, st_eq, st9_0, st_k, st_i, true_and, and_true, Classical.not_not, mp_isO, mp_gI4, mp_gI5, mp_gI7, mp_gI8, mp_gI9, mp_gI10, mp_gI11, mp_gI12, mp_gI13, mp_gI14, mp_gI15, mp_gI19, mp_gI20, mp_gI21, mp_gI23, mp_pI4, mp_pI5, mp_pI7, mp_pI8, mp_pI9, mp_pI10, mp_pI11, mp_pI12, mp_pI13, mp_pI14, mp_pI15, mp_pI19, mp_pI20, mp_pI21, mp_pI23, mp_gR0, mp_gR1, mp_gR2, mp_gR3, mp_gR6, mp_gR16, mp_gR17, mp_gR18, mp_gR22, mp_aI0, mp_aI1, mp_aI2, mp_aI3, mp_aI4, mp_aI5, mp_aI6, mp_aZ7, mp_aI8, mp_sI0, mp_sI1, mp_sI2, mp_sI3, mp_sI4, mp_sI5, mp_sI6, mp_sI8, mp_sZ0, mp_sZ1]
      refine (c_X6_eventsKept hl (by rw [st9_0]; omega) (by rw [st9_0]; omega)).cl0 (by decide) ?_
      simp (disch := omega) only [I_n, I_neg, I_add, I_sub, I_mul, I_le4, I_lt4, I_eq4, I_div4, I_bi0, I_bi01, I_bi1, nor_em, rI_of, rV_of, zI_of, zV_of, nz_and, br_T, br_F, br_T2, br_F2, st_eq, st9_0, st_k, st_i, true_and, and_true, Classical.not_not, mp_isO, mp_gI4, mp_gI5, mp_gI7, mp_gI8, mp_gI9, mp_gI10, mp_gI11, mp_gI12, mp_gI13, mp_gI14, mp_gI15, mp_gI19, mp_gI20, mp_gI21, mp_gI23, mp_pI4, mp_pI5, mp_pI7, mp_pI8, mp_pI9, mp_pI10, mp_pI11, mp_pI12, mp_pI13, mp_pI14, mp_pI15, mp_pI19, mp_pI20, mp_pI21, mp_pI23, mp_gR0, mp_gR1, mp_gR2, mp_gR3, mp_gR6, mp_gR16, mp_gR17, mp_gR18, mp_gR22, mp_aI0, mp_aI1, mp_aI2, mp_aI3, mp_aI4, mp_aI5, mp_aI6, mp_aZ7, mp_aI8, mp_sI0, mp_sI1, mp_sI2, mp_sI3, mp_sI4, mp_sI5, mp_sI6, mp_sI8, mp_sZ0, mp_sZ1]
      refine (c_X6_eventAt hl (by rw [st9_0]; omega) (by omega) (by rw [st9_0]; omega) (by omega) (by omega)).cl0 (by decide) ?_
      simp (disch := omega) only [I_n, I_neg, I_add, I_sub, I_mul, I_le4, I_lt4, I_eq4, I_div4, I_bi0, I_bi01, I_bi1, nor_em, rI_of, rV_of, zI_of, zV_of, nz_and, br_T, br_F, br_T2, br_F2, st_eq, st9_0, st_k, st_i, true_and, and_true, Classical.not_not, mp_isO, mp_gI4, mp_gI5, mp_gI7, mp_gI8, mp_gI9, mp_gI10, mp_gI11, mp_gI12, mp_gI13, mp_gI14, mp_gI15, mp_gI19, mp_gI20, mp_gI21, mp_gI23, mp_pI4, mp_pI5, mp_pI7, mp_pI8, mp_pI9, mp_pI10, mp_pI11, mp_pI12, mp_pI13, mp_pI14, mp_pI15, mp_pI19, mp_pI20, mp_pI21, mp_pI23, mp_gR0, mp_gR1, mp_gR2, mp_gR3, mp_gR6, mp_gR16, mp_gR17, mp_gR18, mp_gR22, mp_aI0, mp_aI1, mp_aI2, mp_aI3, mp_aI4, mp_aI5, mp_aI6, mp_aZ7, mp_aI8, mp_sI0, mp_sI1, mp_sI2, mp_sI3, mp_sI4, mp_sI5, mp_sI6, mp_sI8, mp_sZ0, mp_sZ1]
      refine ⟨fun h => ?_, fun h => ?_⟩
      · have e : sg (fun j => bi (gEv (S 0) j 0 = k)) (j + 1) = sg (fun j => bi (gEv (S 0) j 0 = k)) j + 0 := by rw [sg_s, bi_f h]
        rw [e] at ih
        exact ih
      · have e : sg (fun j => bi (gEv (S 0) j 0 = k)) (j + 1) = sg (fun j => bi (gEv (S 0) j 0 = k)) j + 1 := by rw [sg_s, bi_t h]
        rw [e] at ih
        exact ih
theorem c_X6_breaks (hl : l.stackTraces = false) (w : RW (S 0) e) {x n : Int} (hx : 0 ≤ x) (h0 : 0 ≤ n) (hn : x + n ≤ 240) : Fn l X 0 M_X6_breaks [.ref o, .int (I x), .int (I n)] (mp X o B S) 0 0 Rv (mp X o B (sr S (rBrs (S 0) x n (S 0 11).toNat))) := by
  have c3 := w.2.2.2.1
  refine Fn.of hl rfl rfl (Nat.le_of_ble_eq_true rfl) (k_X6_breaks_0 ?_)
  simp only [I_n]
  have e0 : mp X o B S = mp X o B (sr S (rBrs (S 0) x n 0)) := by rw [show rBrs (S 0) x n 0 = S 0 from rfl, sr_self]
  rw [e0]
  refine up_to (n := (S 0 11).toNat) (P := fun j => G l X M_X6_breaks 0 (fun o' A1 => o' = Rv ∧ A1 = mp X o B (sr S (rBrs (S 0) x n (S 0 11).toNat))) 2 [(0, .ref o), (1, .int (I x)), (2, .int (I n)), (3, .int (I j))] [] (mp X o B (sr S (rBrs (S 0) x n j))) 0 0) ?_ ?_
  · obtain ⟨i1, i2⟩ := rBrs_w w hx hn (Nat.le_refl _)
    have e11 := i2 11 (by omega)
    refine k_X6_breaks_2 ?_
    simp (disch := omega) only [sr_0, sr_sr, sr_st, I_n, I_neg, I_add, I_sub, I_mul, I_le4, I_lt4, I_eq4, I_div4, I_bi0, I_bi01, I_bi1, nor_em, rI_of, rV_of, zI_of, zV_of, nz_and, br_T, br_F, br_T2, br_F2, st_eq, st9_0, st_k, st_i, true_and, and_true, Classical.not_not, mp_isO, mp_gI4, mp_gI5, mp_gI7, mp_gI8, mp_gI9, mp_gI10, mp_gI11, mp_gI12, mp_gI13, mp_gI14, mp_gI15, mp_gI19, mp_gI20, mp_gI21, mp_gI23, mp_pI4, mp_pI5, mp_pI7, mp_pI8, mp_pI9, mp_pI10, mp_pI11, mp_pI12, mp_pI13, mp_pI14, mp_pI15, mp_pI19, mp_pI20, mp_pI21, mp_pI23, mp_gR0, mp_gR1, mp_gR2, mp_gR3, mp_gR6, mp_gR16, mp_gR17, mp_gR18, mp_gR22, mp_aI0, mp_aI1, mp_aI2, mp_aI3, mp_aI4, mp_aI5, mp_aI6, mp_aZ7, mp_aI8, mp_sI0, mp_sI1, mp_sI2, mp_sI3, mp_sI4, mp_sI5, mp_sI6, mp_sI8, mp_sZ0, mp_sZ1]
  · intro j hj ih
    obtain ⟨i1, i2⟩ := rBrs_w w hx hn (m := j) (by omega)
    have e11 := i2 11 (by omega)
    have f2 := i1.2.2.2.2.2.2.2.1 j (by omega) (by omega)
    have c5 := i1.2.2.2.2.2.1
    have f9 := i1.2.2.2.2.2.2.2.2.2.2.2.2.2.2.1
    have f5 := i1.2.2.2.2.2.2.2.2.2.2.1
    obtain ⟨q, hq⟩ : ∃ q, q = rBrs (S 0) x n j := ⟨_, rfl⟩
    have ih2 : G l X M_X6_breaks 0 (fun o' A1 => o' = Rv ∧ A1 = mp X o B (sr S (rBrs (S 0) x n (S 0 11).toNat))) 2 [(0, .ref o), (1, .int (I x)), (2, .int (I n)), (3, .int (I (j + 1)))] [] (mp X o B (sr S (rBr1 q x n j))) 0 0 := by rw [hq]; exact ih
    rw [← hq] at e11 f2 c5 f5 ⊢
    refine k_X6_breaks_2 ?_
    simp (disch := omega) only [sr_0, sr_sr, sr_st, I_n, I_neg, I_add, I_sub, I_mul, I_le4, I_lt4, I_eq4, I_div4, I_bi0, I_bi01, I_bi1, nor_em, rI_of, rV_of, zI_of, zV_of, nz_and, br_T, br_F, br_T2, br_F2, st_eq, st9_0, st_k, st_i, true_and, and_true, Classical.not_not, mp_isO, mp_gI4, mp_gI5, mp_gI7, mp_gI8, mp_gI9, mp_gI10, mp_gI11, mp_gI12, mp_gI13, mp_gI14, mp_gI15, mp_gI19, mp_gI20, mp_gI21, mp_gI23, mp_pI4, mp_pI5, mp_pI7, mp_pI8, mp_pI9, mp_pI10, mp_pI11, mp_pI12, mp_pI13, mp_pI14, mp_pI15, mp_pI19, mp_pI20, mp_pI21, mp_pI23, mp_gR0, mp_gR1, mp_gR2, mp_gR3, mp_gR6, mp_gR16, mp_gR17, mp_gR18, mp_gR22, mp_aI0, mp_aI1, mp_aI2, mp_aI3, mp_aI4, mp_aI5, mp_aI6, mp_aZ7, mp_aI8, mp_sI0, mp_sI1, mp_sI2, mp_sI3, mp_sI4, mp_sI5, mp_sI6, mp_sI8, mp_sZ0, mp_sZ1]
    refine ⟨fun h => ?_, fun h => ?_⟩
    · have e : rBr1 q x n j = q := if_neg fun y => h y.1
      rw [e] at ih2
      exact ih2
    · refine ⟨fun h2 => ?_, fun h2 => ?_⟩
      · have g5 := f5 (x + q (44 + 3 * j + 1)) (by omega) (by omega)
        rw [← Int.add_assoc] at g5
        simp (disch := omega) only [sr_0, sr_sr, sr_st, I_n, I_neg, I_add, I_sub, I_mul, I_le4, I_lt4, I_eq4, I_div4, I_bi0, I_bi01, I_bi1, nor_em, rI_of, rV_of, zI_of, zV_of, nz_and, br_T, br_F, br_T2, br_F2, st_eq, st9_0, st_k, st_i, true_and, and_true, Classical.not_not, mp_isO, mp_gI4, mp_gI5, mp_gI7, mp_gI8, mp_gI9, mp_gI10, mp_gI11, mp_gI12, mp_gI13, mp_gI14, mp_gI15, mp_gI19, mp_gI20, mp_gI21, mp_gI23, mp_pI4, mp_pI5, mp_pI7, mp_pI8, mp_pI9, mp_pI10, mp_pI11, mp_pI12, mp_pI13, mp_pI14, mp_pI15, mp_pI19, mp_pI20, mp_pI21, mp_pI23, mp_gR0, mp_gR1, mp_gR2, mp_gR3, mp_gR6, mp_gR16, mp_gR17, mp_gR18, mp_gR22, mp_aI0, mp_aI1, mp_aI2, mp_aI3, mp_aI4, mp_aI5, mp_aI6, mp_aZ7, mp_aI8, mp_sI0, mp_sI1, mp_sI2, mp_sI3, mp_sI4, mp_sI5, mp_sI6, mp_sI8, mp_sZ0, mp_sZ1]
        have e : rBr1 q x n j = rs q (336 + x + q (44 + 3 * j + 1)) (q (336 + x + q (44 + 3 * j + 1)) + q (44 + 3 * j + 2) - (q (336 + x + q (44 + 3 * j + 1)) + q (44 + 3 * j + 2)) / 256 * 256) := if_pos ⟨h, h2⟩
        rw [e] at ih2
        exact ih2
      · have e : rBr1 q x n j = q := if_neg fun y => h2 y.2
        rw [e] at ih2
        exact ih2
end MH
