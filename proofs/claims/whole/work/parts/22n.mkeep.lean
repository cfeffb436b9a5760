/-! the reference: what it keeps for undo -/
theorem sw_39 {S : Nat → Int → Int} {r : Int → Int} : sw S 3 r 9 = S 9 := sw_j (by decide)
theorem sw_30 {S : Nat → Int → Int} {r : Int → Int} : sw S 3 r 0 = S 0 := sw_j (by decide)
theorem sw_33 {S : Nat → Int → Int} {r : Int → Int} : sw S 3 r 3 = r := sw_i
theorem sw_s3 {S : Nat → Int → Int} {r : Int → Int} {k v : Int} : st (sw S 3 r) 3 k v = sw S 3 (rs r k v) := by rw [sw_st, sw_sw, sw_i]
def kM (S : Nat → Int → Int) : Int := if S 9 4 = 8 then 7 else S 9 4
def kT (S : Nat → Int → Int) : Int → Int := if S 9 4 = 8 then cpy (S 3) (S 3) 1664 0 11648 else S 3
def kS (S : Nat → Int → Int) : Nat → Int → Int := st (sw S 3 (cpy (kT S) (S 0) 0 (1664 * kM S) 1664)) 9 4 (kM S + 1)
section MN
variable {l : Launch} {X : XT} {o : Nat} {B A : AH} {S : Nat → Int → Int} {e : Int}
theorem L_X6_keeps (hm : 0 ≤ S 9 4 ∧ S 9 4 ≤ 7) : G l X M_X6_keeps 0 (fun o' A1 => o' = Rv ∧ A1 = mp X o B (st (sw S 3 (cpy (S 3) (S 0) 0 (1664 * S 9 4) 1664)) 9 4 (S 9 4 + 1))) 52 [(0, .ref o), (1, .int (I 0))] [] (mp X o B S) 0 0 := by
  have e0 : mp X o B S = mp X o B (sw S 3 (cpy (S 3) (S 0) 0 (1664 * S 9 4) ((0 : Nat) : Int))) := by rw [show ((0 : Nat) : Int) = 0 from rfl, cpy_z, sw_self]
  rw [e0]
  refine up_to (n := 1664) (P := fun j => G l X M_X6_keeps 0 (fun o' A1 => o' = Rv ∧ A1 = mp X o B (st (sw S 3 (cpy (S 3) (S 0) 0 (1664 * S 9 4) 1664)) 9 4 (S 9 4 + 1))) 52 [(0, .ref o), (1, .int (I j))] [] (mp X o B (sw S 3 (cpy (S 3) (S 0) 0 (1664 * S 9 4) j))) 0 0) ?_ ?_
  · refine k_X6_keeps_52 ?_
    simp (disch := omega) only [sw_39, sw_30, sw_33, sw_s3, I_n, I_neg, I_add, I_sub, I_mul, I_le4, I_lt4, I_eq4, I_div4, I_bi0, I_bi01, I_bi1, nor_em, rI_of, rV_of, zI_of, zV_of, nz_and, br_T, br_F, br_T2, br_F2, st_eq, st9_0, st_k, st_i, true_and, and_true, Classical.not_not, mp_isO, mp_gI4, mp_gI5, mp_gI7, mp_gI8, mp_gI9, mp_gI10, mp_gI11, mp_gI12, mp_gI13, mp_gI14, mp_gI15, mp_gI19, mp_gI20, mp_gI21, mp_gI23, mp_pI4, mp_pI5, mp_pI7, mp_pI8, mp_pI9, mp_pI10, mp_pI11, mp_pI12, mp_pI13, mp_pI14, mp_pI15, mp_pI19, mp_pI20, mp_pI21, mp_pI23, mp_gR0, mp_gR1, mp_gR2, mp_gR3, mp_gR6, mp_gR16, mp_gR17, mp_gR18, mp_gR22, mp_aI0, mp_aI1, mp_aI2, mp_aI3, mp_aI4, mp_aI5, mp_aI6, mp_aZ7, mp_aI8, mp_sI0, mp_sI1, mp_sI2, mp_sI3, mp_sI4, mp_sI5, mp_sI6, mp_sI8, mp_sZ0, mp_sZ1]
    all_goals first | rfl | exact ⟨rfl, rfl⟩
  · intro j hj ih
    have c := cpy_s (r := S 3) (q := S 0) (f := 0) (t := 1664 * S 9 4) (n := j) (by omega)
    rw [Int.zero_add] at c
    have e1 : ((j + 1 : Nat) : Int) = (j : Int) + 1 := rfl
    rw [e1, ← c] at ih
    refine k_X6_keeps_52 ?_
    simp (disch := omega) only [sw_39, sw_30, sw_33, sw_s3, I_n, I_neg, I_add, I_sub, I_mul, I_le4, I_lt4, I_eq4, I_div4, I_bi0, I_bi01, I_bi1, nor_em, rI_of, rV_of, zI_of, zV_of, nz_and, br_T, br_F, br_T2, br_F2, st_eq, st9_0, st_k, st_i, true_and, and_true, Classical.not_not, mp_isO, mp_gI4, mp_gI5, mp_gI7, mp_gI8, mp_gI9, mp_gI10, mp_gI11, mp_gI12, mp_gI13, mp_gI14, mp_gI15, mp_gI19, mp_gI20, mp_gI21, mp_gI23, mp_pI4, mp_pI5, mp_pI7, mp_pI8, mp_pI9, mp_pI10, mp_pI11, mp_pI12, mp_pI13, mp_pI14, mp_pI15, mp_pI19, mp_pI20, mp_pI21, mp_pI23, mp_gR0, mp_gR1, mp_gR2, mp_gR3, mp_gR6, mp_gR16, mp_gR17, mp_gR18, mp_gR22, mp_aI0, mp_aI1, mp_aI2, mp_aI3, mp_aI4, mp_aI5, mp_aI6, mp_aZ7, mp_aI8, mp_sI0, mp_sI1, mp_sI2, mp_sI3, mp_sI4, mp_sI5, mp_sI6, mp_sI8, mp_sZ0, mp_sZ1]
    exact ih
theorem c_X6_keeps (hl : l.stackTraces = false) (hm : 0 ≤ S 9 4 ∧ S 9 4 ≤ 8) : Fn l X 0 M_X6_keeps [.ref o] (mp X o B S) 0 0 Rv (mp X o B (kS S)) := by
  refine Fn.of hl rfl rfl (Nat.le_of_ble_eq_true rfl) (k_X6_keeps_0 ?_)
  simp (disch := omega) only [I_n, I_neg, I_add, I_sub, I_mul, I_le4, I_lt4, I_eq4, I_div4, I_bi0, I_bi01, I_bi1, nor_em, rI_of, rV_of, zI_of, zV_of, nz_and, br_T, br_F, br_T2, br_F2, st_eq, st9_0, st_k, st_i, true_and, and_true, Classical.not_not, mp_isO, mp_gI4, mp_gI5, mp_gI7, mp_gI8, mp_gI9, mp_gI10, mp_gI11, mp_gI12, mp_gI13, mp_gI14, mp_gI15, mp_gI19, mp_gI20, mp_gI21, mp_gI23, mp_pI4, mp_pI5, mp_pI7, mp_pI8, mp_pI9, mp_pI10, mp_pI11, mp_pI12, mp_pI13, mp_pI14, mp_pI15, mp_pI19, mp_pI20, mp_pI21, mp_pI23, mp_gR0, mp_gR1, mp_gR2, mp_gR3, mp_gR6, mp_gR16, mp_gR17, mp_gR18, mp_gR22, mp_aI0, mp_aI1, mp_aI2, mp_aI3, mp_aI4, mp_aI5, mp_aI6, mp_aZ7, mp_aI8, mp_sI0, mp_sI1, mp_sI2, mp_sI3, mp_sI4, mp_sI5, mp_sI6, mp_sI8, mp_sZ0, mp_sZ1]
  unfold kS kT kM
  refine ⟨fun h => ?_, fun h => ?_⟩
  · rw [if_neg h, if_neg h]
    exact L_X6_keeps ⟨by omega, by omega⟩
  · rw [if_pos h, if_pos h]
    have e0 : mp X o B S = mp X o B (sw S 3 (cpy (S 3) (S 3) 1664 0 ((0 : Nat) : Int))) := by rw [show ((0 : Nat) : Int) = 0 from rfl, cpy_z, sw_self]
    rw [e0]
    refine up_to (n := 11648) (P := fun j => G l X M_X6_keeps 0 (fun o' A1 => o' = Rv ∧ A1 = mp X o B (st (sw S 3 (cpy (cpy (S 3) (S 3) 1664 0 11648) (S 0) 0 (1664 * 7) 1664)) 9 4 (7 + 1))) 11 [(0, .ref o), (1, .int (I j))] [] (mp X o B (sw S 3 (cpy (S 3) (S 3) 1664 0 j))) 0 0) ?_ ?_
    · refine k_X6_keeps_11 ?_
      simp (disch := omega) only [sw_39, sw_30, sw_33, sw_s3, I_n, I_neg, I_add, I_sub, I_mul, I_le4, I_lt4, I_eq4, I_div4, I_bi0, I_bi01, I_bi1, nor_em, rI_of, rV_of, zI_of, zV_of, nz_and, br_T, br_F, br_T2, br_F2, st_eq, st9_0, st_k, st_i, true_and, and_true, Classical.not_not, mp_isO, mp_gI4, mp_gI5, mp_gI7, mp_gI8, mp_gI9, mp_gI10, mp_gI11, mp_gI12, mp_gI13, mp_gI14, mp_gI15, mp_gI19, mp_gI20, mp_gI21, mp_gI23, mp_pI4, mp_pI5, mp_pI7, mp_pI8, mp_pI9, mp_pI10, mp_pI11, mp_pI12, mp_pI13, mp_pI14, mp_pI15, mp_pI19, mp_pI20, mp_pI21, mp_pI23, mp_gR0, mp_gR1, mp_gR2, mp_gR3, mp_gR6, mp_gR16, mp_gR17, mp_gR18, mp_gR22, mp_aI0, mp_aI1, mp_aI2, mp_aI3, mp_aI4, mp_aI5, mp_aI6, mp_aZ7, mp_aI8, mp_sI0, mp_sI1, mp_sI2, mp_sI3, mp_sI4, mp_sI5, mp_sI6, mp_sI8, mp_sZ0, mp_sZ1]
      have k := L_X6_keeps (l := l) (X := X) (o := o) (B := B) (S := st (sw S 3 (cpy (S 3) (S 3) 1664 0 11648)) 9 4 7) ⟨by rw [st_eq]; decide, by rw [st_eq]; decide⟩
      have f1 : st (sw S 3 (cpy (S 3) (S 3) 1664 0 11648)) 9 4 7 3 = cpy (S 3) (S 3) 1664 0 11648 := by rw [st_row (by decide), sw_33]
      have f2 : st (sw S 3 (cpy (S 3) (S 3) 1664 0 11648)) 9 4 7 0 = S 0 := by rw [st_row (by decide), sw_30]
      have f3 : st (sw (st (sw S 3 (cpy (S 3) (S 3) 1664 0 11648)) 9 4 7) 3 (cpy (cpy (S 3) (S 3) 1664 0 11648) (S 0) 0 (1664 * 7) 1664)) 9 4 (7 + 1) = st (sw S 3 (cpy (cpy (S 3) (S 3) 1664 0 11648) (S 0) 0 (1664 * 7) 1664)) 9 4 (7 + 1) := by
        funext a b
        unfold st sw
        by_cases ha : a = 3
        · subst ha
          simp
        · simp [ha]
          split
          · rfl
          · rfl
      rw [f1, f2, st_eq, f3] at k
      rw [show S 9 4 - 1 = 7 by omega]
      exact k
    · intro j hj ih
      have c := cpy_s (r := S 3) (q := S 3) (f := 1664) (t := 0) (n := j) (by omega)
      rw [Int.zero_add] at c
      have e1 : ((j + 1 : Nat) : Int) = (j : Int) + 1 := rfl
      rw [e1, ← c] at ih
      have c2 : cpy (S 3) (S 3) 1664 0 j ((j : Int) + 1664) = S 3 (1664 + j) := by
        unfold cpy
        rw [if_neg (by omega), Int.add_comm]
      refine k_X6_keeps_11 ?_
      simp (disch := omega) only [sw_39, sw_30, sw_33, sw_s3, I_n, I_neg, I_add, I_sub, I_mul, I_le4, I_lt4, I_eq4, I_div4, I_bi0, I_bi01, I_bi1, nor_em, rI_of, rV_of, zI_of, zV_of, nz_and, br_T, br_F, br_T2, br_F2, st_eq, st9_0, st_k, st_i, true_and, and_true, Classical.not_not, mp_isO, mp_gI4, mp_gI5, mp_gI7, mp_gI8, mp_gI9, mp_gI10, mp_gI11, mp_gI12, mp_gI13, mp_gI14, mp_gI15, mp_gI19, mp_gI20, mp_gI21, mp_gI23, mp_pI4, mp_pI5, mp_pI7, mp_pI8, mp_pI9, mp_pI10, mp_pI11, mp_pI12, mp_pI13, mp_pI14, mp_pI15, mp_pI19, mp_pI20, mp_pI21, mp_pI23, mp_gR0, mp_gR1, mp_gR2, mp_gR3, mp_gR6, mp_gR16, mp_gR17, mp_gR18, mp_gR22, mp_aI0, mp_aI1, mp_aI2, mp_aI3, mp_aI4, mp_aI5, mp_aI6, mp_aZ7, mp_aI8, mp_sI0, mp_sI1, mp_sI2, mp_sI3, mp_sI4, mp_sI5, mp_sI6, mp_sI8, mp_sZ0, mp_sZ1]
      rw [c2]
      exact ih
end MN
