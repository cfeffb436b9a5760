/-! the reference: undo, begins -/
def uS (S : Nat → Int → Int) : Nat → Int → Int := if S 9 4 = 0 then st S 9 5 1 else sr (st (st S 9 5 0) 9 4 (S 9 4 - 1)) (cpy (S 0) (S 3) (1664 * (S 9 4 - 1)) 0 1664)
theorem st9_j {S : Nat → Int → Int} {k v : Int} {j : Nat} (h : j ≠ 9) : st S 9 k v j = S j := st_row h
theorem sr_9 {S : Nat → Int → Int} {r : Int → Int} : sr S r 9 = S 9 := rfl
section MO
variable {l : Launch} {X : XT} {o : Nat} {B A : AH} {S : Nat → Int → Int} {e : Int}
theorem c_X6_undo (hl : l.stackTraces = false) (hm : 0 ≤ S 9 4 ∧ S 9 4 ≤ 8) : Fn l X 1 M_X6_undo [.ref o] (mp X o B S) 0 0 (Ri (I (if S 9 4 = 0 then 0 else S 9 4 - 1))) (mp X o B (uS S)) := by
  refine Fn.of hl rfl rfl (Nat.le_of_ble_eq_true rfl) (k_X6_undo_0 ?_)
  simp (disch := omega) only [I_n, I_neg, I_add, I_sub, I_mul, I_le4, I_lt4, I_eq4, I_div4, I_bi0, I_bi01, I_bi1, nor_em, rI_of, rV_of, zI_of, zV_of, nz_and, br_T, br_F, br_T2, br_F2, st_eq, st9_0, st_k, st_i, true_and, and_true, Classical.not_not, mp_isO, mp_gI4, mp_gI5, mp_gI7, mp_gI8, mp_gI9, mp_gI10, mp_gI11, mp_gI12, mp_gI13, mp_gI14, mp_gI15, mp_gI19, mp_gI20, mp_gI21, mp_gI23, mp_pI4, mp_pI5, mp_pI7, mp_pI8, mp_pI9, mp_pI10, mp_pI11, mp_pI12, mp_pI13, mp_pI14, mp_pI15, mp_pI19, mp_pI20, mp_pI21, mp_pI23, mp_gR0, mp_gR1, mp_gR2, mp_gR3, mp_gR6, mp_gR16, mp_gR17, mp_gR18, mp_gR22, mp_aI0, mp_aI1, mp_aI2, mp_aI3, mp_aI4, mp_aI5, mp_aI6, mp_aZ7, mp_aI8, mp_sI0, mp_sI1, mp_sI2, mp_sI3, mp_sI4, mp_sI5, mp_sI6, mp_sI8, mp_sZ0, mp_sZ1]
  unfold uS
  refine ⟨fun h => k_X6_undo_13 ?_, fun h => k_X6_undo_13 ?_⟩
  · rw [if_neg h, if_neg h]
    simp (disch := omega) only [I_n, I_neg, I_add, I_sub, I_mul, I_le4, I_lt4, I_eq4, I_div4, I_bi0, I_bi01, I_bi1, nor_em, rI_of, rV_of, zI_of, zV_of, nz_and, br_T, br_F, br_T2, br_F2, st_eq, st9_0, st_k, st_i, true_and, and_true, Classical.not_not, mp_isO, mp_gI4, mp_gI5, mp_gI7, mp_gI8, mp_gI9, mp_gI10, mp_gI11, mp_gI12, mp_gI13, mp_gI14, mp_gI15, mp_gI19, mp_gI20, mp_gI21, mp_gI23, mp_pI4, mp_pI5, mp_pI7, mp_pI8, mp_pI9, mp_pI10, mp_pI11, mp_pI12, mp_pI13, mp_pI14, mp_pI15, mp_pI19, mp_pI20, mp_pI21, mp_pI23, mp_gR0, mp_gR1, mp_gR2, mp_gR3, mp_gR6, mp_gR16, mp_gR17, mp_gR18, mp_gR22, mp_aI0, mp_aI1, mp_aI2, mp_aI3, mp_aI4, mp_aI5, mp_aI6, mp_aZ7, mp_aI8, mp_sI0, mp_sI1, mp_sI2, mp_sI3, mp_sI4, mp_sI5, mp_sI6, mp_sI8, mp_sZ0, mp_sZ1]
    refine (c_X6_becomes3 (S := st (st S 9 5 0) 9 4 (S 9 4 - 1)) hl (f := 1664 * (S 9 4 - 1)) (by omega) (by omega)).cl0 (by decide) ?_
    have e1 : st (st S 9 5 0) 9 4 (S 9 4 - 1) 0 = S 0 := by rw [st9_0, st9_0]
    have e3 : st (st S 9 5 0) 9 4 (S 9 4 - 1) 3 = S 3 := by rw [st9_j (by decide), st9_j (by decide)]
    rw [e1, e3]
    have e9 : sr (st (st S 9 5 0) 9 4 (S 9 4 - 1)) (cpy (S 0) (S 3) (1664 * (S 9 4 - 1)) 0 1664) 9 4 = S 9 4 - 1 := by rw [sr_9, st_eq]
    simp (disch := omega) only [I_n, I_neg, I_add, I_sub, I_mul, I_le4, I_lt4, I_eq4, I_div4, I_bi0, I_bi01, I_bi1, nor_em, rI_of, rV_of, zI_of, zV_of, nz_and, br_T, br_F, br_T2, br_F2, st_eq, st9_0, st_k, st_i, true_and, and_true, Classical.not_not, mp_isO, mp_gI4, mp_gI5, mp_gI7, mp_gI8, mp_gI9, mp_gI10, mp_gI11, mp_gI12, mp_gI13, mp_gI14, mp_gI15, mp_gI19, mp_gI20, mp_gI21, mp_gI23, mp_pI4, mp_pI5, mp_pI7, mp_pI8, mp_pI9, mp_pI10, mp_pI11, mp_pI12, mp_pI13, mp_pI14, mp_pI15, mp_pI19, mp_pI20, mp_pI21, mp_pI23, mp_gR0, mp_gR1, mp_gR2, mp_gR3, mp_gR6, mp_gR16, mp_gR17, mp_gR18, mp_gR22, mp_aI0, mp_aI1, mp_aI2, mp_aI3, mp_aI4, mp_aI5, mp_aI6, mp_aZ7, mp_aI8, mp_sI0, mp_sI1, mp_sI2, mp_sI3, mp_sI4, mp_sI5, mp_sI6, mp_sI8, mp_sZ0, mp_sZ1]
    rw [e9]
  · rw [if_pos h, if_pos h]
    simp (disch := omega) only [I_n, I_neg, I_add, I_sub, I_mul, I_le4, I_lt4, I_eq4, I_div4, I_bi0, I_bi01, I_bi1, nor_em, rI_of, rV_of, zI_of, zV_of, nz_and, br_T, br_F, br_T2, br_F2, st_eq, st9_0, st_k, st_i, true_and, and_true, Classical.not_not, mp_isO, mp_gI4, mp_gI5, mp_gI7, mp_gI8, mp_gI9, mp_gI10, mp_gI11, mp_gI12, mp_gI13, mp_gI14, mp_gI15, mp_gI19, mp_gI20, mp_gI21, mp_gI23, mp_pI4, mp_pI5, mp_pI7, mp_pI8, mp_pI9, mp_pI10, mp_pI11, mp_pI12, mp_pI13, mp_pI14, mp_pI15, mp_pI19, mp_pI20, mp_pI21, mp_pI23, mp_gR0, mp_gR1, mp_gR2, mp_gR3, mp_gR6, mp_gR16, mp_gR17, mp_gR18, mp_gR22, mp_aI0, mp_aI1, mp_aI2, mp_aI3, mp_aI4, mp_aI5, mp_aI6, mp_aZ7, mp_aI8, mp_sI0, mp_sI1, mp_sI2, mp_sI3, mp_sI4, mp_sI5, mp_sI6, mp_sI8, mp_sZ0, mp_sZ1]
    all_goals first | rfl | exact ⟨rfl, rfl⟩
/-- a fresh row -/
def rBeg (n s : Int) : Int → Int := rs (rs (rs (rs (rs (fun _ => 0) 0 n) 1 s) 4 3) 14 1) 15 1
def zer (r : Int → Int) (n : Int) : Int → Int := fun b => if 0 ≤ b ∧ b < n then 0 else r b
theorem zer_z {r : Int → Int} : zer r 0 = r := by
  funext b
  exact if_neg (by omega)
theorem zer_s {r : Int → Int} {n : Int} (h : 0 ≤ n) : rs (zer r n) n 0 = zer r (n + 1) := by
  funext b
  unfold rs zer
  by_cases h1 : b = n
  · subst h1
    rw [if_pos rfl, if_pos (by omega)]
  · rw [if_neg h1]
    by_cases h2 : 0 ≤ b ∧ b < n
    · rw [if_pos h2, if_pos (by omega)]
    · rw [if_neg h2, if_neg (by omega)]
theorem sw_s1 {S : Nat → Int → Int} {r : Int → Int} {k v : Int} : st (sw S 1 r) 1 k v = sw S 1 (rs r k v) := by rw [sw_st, sw_sw, sw_i]
def rBeg2 (r : Int → Int) (n s : Int) : Int → Int := rs (rs (rs (rs (rs (zer r 1664) 0 n) 1 s) 4 3) 14 1) 15 1
theorem c_X6_begins (hl : l.stackTraces = false) {n s : Int} : Fn l X 0 M_X6_begins [.ref o, .int (I n), .int (I s)] (mp X o B S) 0 0 Rv (mp X o B (sw S 1 (rBeg2 (S 1) n s))) := by
  refine Fn.of hl rfl rfl (Nat.le_of_ble_eq_true rfl) (k_X6_begins_0 ?_)
  simp only [I_n]
  have e0 : mp X o B S = mp X o B (sw S 1 (zer (S 1) ((0 : Nat) : Int))) := by rw [show ((0 : Nat) : Int) = 0 from rfl, zer_z, sw_self]
  rw [e0]
  refine up_to (n := 1664) (P := fun j => G l X M_X6_begins 0 (fun o' A1 => o' = Rv ∧ A1 = mp X o B (sw S 1 (rBeg2 (S 1) n s))) 2 [(0, .ref o), (1, .int (I n)), (2, .int (I s)), (3, .int (I j))] [] (mp X o B (sw S 1 (zer (S 1) j))) 0 0) ?_ ?_
  · refine k_X6_begins_2 ?_
    simp (disch := omega) only [I_n, I_neg, I_add, I_sub, I_mul, I_le4, I_lt4, I_eq4, I_div4, I_bi0, I_bi01, I_bi1, nor_em, rI_of, rV_of, zI_of, zV_of, nz_and, br_T, br_F, br_T2, br_F2, st_eq, st9_0, st_k, st_i, true_and, and_true, Classical.not_not, mp_isO, mp_gI4, mp_gI5, mp_gI7, mp_gI8, mp_gI9, mp_gI10, mp_gI11, mp_gI12, mp_gI13, mp_gI14, mp_gI15, mp_gI19, mp_gI20, mp_gI21, mp_gI23, mp_pI4, mp_pI5, mp_pI7, mp_pI8, mp_pI9, mp_pI10, mp_pI11, mp_pI12, mp_pI13, mp_pI14, mp_pI15, mp_pI19, mp_pI20, mp_pI21, mp_pI23, mp_gR0, mp_gR1, mp_gR2, mp_gR3, mp_gR6, mp_gR16, mp_gR17, mp_gR18, mp_gR22, mp_aI0, mp_aI1, mp_aI2, mp_aI3, mp_aI4, mp_aI5, mp_aI6, mp_aZ7, mp_aI8, mp_sI0, mp_sI1, mp_sI2, mp_sI3, mp_sI4, mp_sI5, mp_sI6, mp_sI8, mp_sZ0, mp_sZ1]
    simp only [sw_s1]
    rfl
  · intro j hj ih
    have c := zer_s (r := S 1) (n := j) (by omega)
    have e1 : ((j + 1 : Nat) : Int) = (j : Int) + 1 := rfl
    rw [e1, ← c] at ih
    refine k_X6_begins_2 ?_
    simp (disch := omega) only [I_n, I_neg, I_add, I_sub, I_mul, I_le4, I_lt4, I_eq4, I_div4, I_bi0, I_bi01, I_bi1, nor_em, rI_of, rV_of, zI_of, zV_of, nz_and, br_T, br_F, br_T2, br_F2, st_eq, st9_0, st_k, st_i, true_and, and_true, Classical.not_not, mp_isO, mp_gI4, mp_gI5, mp_gI7, mp_gI8, mp_gI9, mp_gI10, mp_gI11, mp_gI12, mp_gI13, mp_gI14, mp_gI15, mp_gI19, mp_gI20, mp_gI21, mp_gI23, mp_pI4, mp_pI5, mp_pI7, mp_pI8, mp_pI9, mp_pI10, mp_pI11, mp_pI12, mp_pI13, mp_pI14, mp_pI15, mp_pI19, mp_pI20, mp_pI21, mp_pI23, mp_gR0, mp_gR1, mp_gR2, mp_gR3, mp_gR6, mp_gR16, mp_gR17, mp_gR18, mp_gR22, mp_aI0, mp_aI1, mp_aI2, mp_aI3, mp_aI4, mp_aI5, mp_aI6, mp_aZ7, mp_aI8, mp_sI0, mp_sI1, mp_sI2, mp_sI3, mp_sI4, mp_sI5, mp_sI6, mp_sI8, mp_sZ0, mp_sZ1]
    rw [sw_s1]
    exact ih
end MO
