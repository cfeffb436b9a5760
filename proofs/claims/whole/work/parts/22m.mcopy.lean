/-! the reference: rows copied -/
/-- row i of the rows, another -/
def sw (S : Nat → Int → Int) (i : Nat) (r : Int → Int) : Nat → Int → Int := fun a b => if a = i then r b else S a b
theorem sw_i {S : Nat → Int → Int} {i : Nat} {r : Int → Int} : sw S i r i = r := by
  funext b
  exact if_pos rfl
theorem sw_j {S : Nat → Int → Int} {i j : Nat} {r : Int → Int} (h : j ≠ i) : sw S i r j = S j := by
  funext b
  exact if_neg h
theorem sw_sw {S : Nat → Int → Int} {i : Nat} {r q : Int → Int} : sw (sw S i r) i q = sw S i q := by
  funext a b
  unfold sw
  split
  · rfl
  · rfl
theorem sw_st {S : Nat → Int → Int} {i : Nat} {k v : Int} : st S i k v = sw S i (rs (S i) k v) := by
  funext a b
  unfold st sw rs
  by_cases h : a = i
  · subst h
    by_cases h2 : b = k
    · simp [h2]
    · simp [h2]
  · simp [h]
theorem sw_self {S : Nat → Int → Int} {i : Nat} : sw S i (S i) = S := by
  funext a b
  unfold sw
  split
  · rename_i h
    rw [h]
  · rfl
/-- n numbers of q from f on, copied to r at t -/
def cpy (r q : Int → Int) (f t n : Int) : Int → Int := fun b => if t ≤ b ∧ b < t + n then q (f + (b - t)) else r b
theorem cpy_z {r q : Int → Int} {f t : Int} : cpy r q f t 0 = r := by
  funext b
  exact if_neg (by omega)
theorem cpy_s {r q : Int → Int} {f t n : Int} (h : 0 ≤ n) : rs (cpy r q f t n) (t + n) (q (f + n)) = cpy r q f t (n + 1) := by
  funext b
  unfold rs cpy
  by_cases h1 : b = t + n
  · subst h1
    rw [if_pos rfl, if_pos (by omega)]
    congr 1
    omega
  · rw [if_neg h1]
    by_cases h2 : t ≤ b ∧ b < t + n
    · rw [if_pos h2, if_pos (by omega)]
    · rw [if_neg h2, if_neg (by omega)]
section MM
variable {l : Launch} {X : XT} {o : Nat} {B A : AH} {S : Nat → Int → Int} {e : Int}
theorem c_X6_becomes1 (hl : l.stackTraces = false) {f : Int} (h0 : 0 ≤ f) (h1 : f + 1664 ≤ 1664) : Fn l X 0 M_X6_becomes [.ref o, .ref (o + 2), .int (I f)] (mp X o B S) 0 0 Rv (mp X o B (sr S (cpy (S 0) (S 1) f 0 1664))) := by
  refine Fn.of hl rfl rfl (Nat.le_of_ble_eq_true rfl) (k_X6_becomes_0 ?_)
  simp only [I_n]
  have e0 : mp X o B S = mp X o B (sr S (cpy (S 0) (S 1) f 0 ((0 : Nat) : Int))) := by rw [show ((0 : Nat) : Int) = 0 from rfl, cpy_z, sr_self]
  rw [e0]
  refine up_to (n := 1664) (P := fun j => G l X M_X6_becomes 0 (fun o' A1 => o' = Rv ∧ A1 = mp X o B (sr S (cpy (S 0) (S 1) f 0 1664))) 2 [(0, .ref o), (1, .ref (o + 2)), (2, .int (I f)), (3, .int (I j))] [] (mp X o B (sr S (cpy (S 0) (S 1) f 0 j))) 0 0) ?_ ?_
  · refine k_X6_becomes_2 ?_
    simp (disch := omega) only [sr_0, sr_sr, sr_st, true_implies, false_implies, not_true_eq_false, not_false_eq_true, I_n, I_neg, I_add, I_sub, I_mul, I_le4, I_lt4, I_eq4, I_div4, I_bi0, I_bi01, I_bi1, nor_em, rI_of, rV_of, zI_of, zV_of, nz_and, br_T, br_F, br_T2, br_F2, st_eq, st9_0, st_k, st_i, true_and, and_true, Classical.not_not, mp_isO, mp_gI4, mp_gI5, mp_gI7, mp_gI8, mp_gI9, mp_gI10, mp_gI11, mp_gI12, mp_gI13, mp_gI14, mp_gI15, mp_gI19, mp_gI20, mp_gI21, mp_gI23, mp_pI4, mp_pI5, mp_pI7, mp_pI8, mp_pI9, mp_pI10, mp_pI11, mp_pI12, mp_pI13, mp_pI14, mp_pI15, mp_pI19, mp_pI20, mp_pI21, mp_pI23, mp_gR0, mp_gR1, mp_gR2, mp_gR3, mp_gR6, mp_gR16, mp_gR17, mp_gR18, mp_gR22, mp_aI0, mp_aI1, mp_aI2, mp_aI3, mp_aI4, mp_aI5, mp_aI6, mp_aZ7, mp_aI8, mp_sI0, mp_sI1, mp_sI2, mp_sI3, mp_sI4, mp_sI5, mp_sI6, mp_sI8, mp_sZ0, mp_sZ1]
    rfl
  · intro j hj ih
    have c := cpy_s (r := S 0) (q := S 1) (f := f) (t := 0) (n := j) (by omega)
    rw [Int.zero_add] at c
    have e1 : ((j + 1 : Nat) : Int) = (j : Int) + 1 := rfl
    rw [e1, ← c] at ih
    refine k_X6_becomes_2 ?_
    simp (disch := omega) only [sr_0, sr_sr, sr_st, true_implies, false_implies, not_true_eq_false, not_false_eq_true, I_n, I_neg, I_add, I_sub, I_mul, I_le4, I_lt4, I_eq4, I_div4, I_bi0, I_bi01, I_bi1, nor_em, rI_of, rV_of, zI_of, zV_of, nz_and, br_T, br_F, br_T2, br_F2, st_eq, st9_0, st_k, st_i, true_and, and_true, Classical.not_not, mp_isO, mp_gI4, mp_gI5, mp_gI7, mp_gI8, mp_gI9, mp_gI10, mp_gI11, mp_gI12, mp_gI13, mp_gI14, mp_gI15, mp_gI19, mp_gI20, mp_gI21, mp_gI23, mp_pI4, mp_pI5, mp_pI7, mp_pI8, mp_pI9, mp_pI10, mp_pI11, mp_pI12, mp_pI13, mp_pI14, mp_pI15, mp_pI19, mp_pI20, mp_pI21, mp_pI23, mp_gR0, mp_gR1, mp_gR2, mp_gR3, mp_gR6, mp_gR16, mp_gR17, mp_gR18, mp_gR22, mp_aI0, mp_aI1, mp_aI2, mp_aI3, mp_aI4, mp_aI5, mp_aI6, mp_aZ7, mp_aI8, mp_sI0, mp_sI1, mp_sI2, mp_sI3, mp_sI4, mp_sI5, mp_sI6, mp_sI8, mp_sZ0, mp_sZ1]
    exact ih
theorem c_X6_becomes2 (hl : l.stackTraces = false) {f : Int} (h0 : 0 ≤ f) (h1 : f + 1664 ≤ 1664) : Fn l X 0 M_X6_becomes [.ref o, .ref (o + 3), .int (I f)] (mp X o B S) 0 0 Rv (mp X o B (sr S (cpy (S 0) (S 2) f 0 1664))) := by
  refine Fn.of hl rfl rfl (Nat.le_of_ble_eq_true rfl) (k_X6_becomes_0 ?_)
  simp only [I_n]
  have e0 : mp X o B S = mp X o B (sr S (cpy (S 0) (S 2) f 0 ((0 : Nat) : Int))) := by rw [show ((0 : Nat) : Int) = 0 from rfl, cpy_z, sr_self]
  rw [e0]
  refine up_to (n := 1664) (P := fun j => G l X M_X6_becomes 0 (fun o' A1 => o' = Rv ∧ A1 = mp X o B (sr S (cpy (S 0) (S 2) f 0 1664))) 2 [(0, .ref o), (1, .ref (o + 3)), (2, .int (I f)), (3, .int (I j))] [] (mp X o B (sr S (cpy (S 0) (S 2) f 0 j))) 0 0) ?_ ?_
  · refine k_X6_becomes_2 ?_
    simp (disch := omega) only [sr_0, sr_sr, sr_st, true_implies, false_implies, not_true_eq_false, not_false_eq_true, I_n, I_neg, I_add, I_sub, I_mul, I_le4, I_lt4, I_eq4, I_div4, I_bi0, I_bi01, I_bi1, nor_em, rI_of, rV_of, zI_of, zV_of, nz_and, br_T, br_F, br_T2, br_F2, st_eq, st9_0, st_k, st_i, true_and, and_true, Classical.not_not, mp_isO, mp_gI4, mp_gI5, mp_gI7, mp_gI8, mp_gI9, mp_gI10, mp_gI11, mp_gI12, mp_gI13, mp_gI14, mp_gI15, mp_gI19, mp_gI20, mp_gI21, mp_gI23, mp_pI4, mp_pI5, mp_pI7, mp_pI8, mp_pI9, mp_pI10, mp_pI11, mp_pI12, mp_pI13, mp_pI14, mp_pI15, mp_pI19, mp_pI20, mp_pI21, mp_pI23, mp_gR0, mp_gR1, mp_gR2, mp_gR3, mp_gR6, mp_gR16, mp_gR17, mp_gR18, mp_gR22, mp_aI0, mp_aI1, mp_aI2, mp_aI3, mp_aI4, mp_aI5, mp_aI6, mp_aZ7, mp_aI8, mp_sI0, mp_sI1, mp_sI2, mp_sI3, mp_sI4, mp_sI5, mp_sI6, mp_sI8, mp_sZ0, mp_sZ1]
    rfl
  · intro j hj ih
    have c := cpy_s (r := S 0) (q := S 2) (f := f) (t := 0) (n := j) (by omega)
    rw [Int.zero_add] at c
    have e1 : ((j + 1 : Nat) : Int) = (j : Int) + 1 := rfl
    rw [e1, ← c] at ih
    refine k_X6_becomes_2 ?_
    simp (disch := omega) only [sr_0, sr_sr, sr_st, true_implies, false_implies, not_true_eq_false, not_false_eq_true, I_n, I_neg, I_add, I_sub, I_mul, I_le4, I_lt4, I_eq4, I_div4, I_bi0, I_bi01, I_bi1, nor_em, rI_of, rV_of, zI_of, zV_of, nz_and, br_T, br_F, br_T2, br_F2, st_eq, st9_0, st_k, st_i, true_and, and_true, Classical.not_not, mp_isO, mp_gI4, mp_gI5, mp_gI7, mp_gI8, mp_gI9, mp_gI10, mp_gI11, mp_gI12, mp_gI13, mp_gI14, mp_gI15, mp_gI19, mp_gI20, mp_gI21, mp_gI23, mp_pI4, mp_pI5, mp_pI7, mp_pI8, mp_pI9, mp_pI10, mp_pI11, mp_pI12, mp_pI13, mp_pI14, mp_pI15, mp_pI19, mp_pI20, mp_pI21, mp_pI23, mp_gR0, mp_gR1, mp_gR2, mp_gR3, mp_gR6, mp_gR16, mp_gR17, mp_gR18, mp_gR22, mp_aI0, mp_aI1, mp_aI2, mp_aI3, mp_aI4, mp_aI5, mp_aI6, mp_aZ7, mp_aI8, mp_sI0, mp_sI1, mp_sI2, mp_sI3, mp_sI4, mp_sI5, mp_sI6, mp_sI8, mp_sZ0, mp_sZ1]
    exact ih
theorem c_X6_becomes3 (hl : l.stackTraces = false) {f : Int} (h0 : 0 ≤ f) (h1 : f + 1664 ≤ 13312) : Fn l X 0 M_X6_becomes [.ref o, .ref (o + 4), .int (I f)] (mp X o B S) 0 0 Rv (mp X o B (sr S (cpy (S 0) (S 3) f 0 1664))) := by
  refine Fn.of hl rfl rfl (Nat.le_of_ble_eq_true rfl) (k_X6_becomes_0 ?_)
  simp only [I_n]
  have e0 : mp X o B S = mp X o B (sr S (cpy (S 0) (S 3) f 0 ((0 : Nat) : Int))) := by rw [show ((0 : Nat) : Int) = 0 from rfl, cpy_z, sr_self]
  rw [e0]
  refine up_to (n := 1664) (P := fun j => G l X M_X6_becomes 0 (fun o' A1 => o' = Rv ∧ A1 = mp X o B (sr S (cpy (S 0) (S 3) f 0 1664))) 2 [(0, .ref o), (1, .ref (o + 4)), (2, .int (I f)), (3, .int (I j))] [] (mp X o B (sr S (cpy (S 0) (S 3) f 0 j))) 0 0) ?_ ?_
  · refine k_X6_becomes_2 ?_
    simp (disch := omega) only [sr_0, sr_sr, sr_st, true_implies, false_implies, not_true_eq_false, not_false_eq_true, I_n, I_neg, I_add, I_sub, I_mul, I_le4, I_lt4, I_eq4, I_div4, I_bi0, I_bi01, I_bi1, nor_em, rI_of, rV_of, zI_of, zV_of, nz_and, br_T, br_F, br_T2, br_F2, st_eq, st9_0, st_k, st_i, true_and, and_true, Classical.not_not, mp_isO, mp_gI4, mp_gI5, mp_gI7, mp_gI8, mp_gI9, mp_gI10, mp_gI11, mp_gI12, mp_gI13, mp_gI14, mp_gI15, mp_gI19, mp_gI20, mp_gI21, mp_gI23, mp_pI4, mp_pI5, mp_pI7, mp_pI8, mp_pI9, mp_pI10, mp_pI11, mp_pI12, mp_pI13, mp_pI14, mp_pI15, mp_pI19, mp_pI20, mp_pI21, mp_pI23, mp_gR0, mp_gR1, mp_gR2, mp_gR3, mp_gR6, mp_gR16, mp_gR17, mp_gR18, mp_gR22, mp_aI0, mp_aI1, mp_aI2, mp_aI3, mp_aI4, mp_aI5, mp_aI6, mp_aZ7, mp_aI8, mp_sI0, mp_sI1, mp_sI2, mp_sI3, mp_sI4, mp_sI5, mp_sI6, mp_sI8, mp_sZ0, mp_sZ1]
    rfl
  · intro j hj ih
    have c := cpy_s (r := S 0) (q := S 3) (f := f) (t := 0) (n := j) (by omega)
    rw [Int.zero_add] at c
    have e1 : ((j + 1 : Nat) : Int) = (j : Int) + 1 := rfl
    rw [e1, ← c] at ih
    refine k_X6_becomes_2 ?_
    simp (disch := omega) only [sr_0, sr_sr, sr_st, true_implies, false_implies, not_true_eq_false, not_false_eq_true, I_n, I_neg, I_add, I_sub, I_mul, I_le4, I_lt4, I_eq4, I_div4, I_bi0, I_bi01, I_bi1, nor_em, rI_of, rV_of, zI_of, zV_of, nz_and, br_T, br_F, br_T2, br_F2, st_eq, st9_0, st_k, st_i, true_and, and_true, Classical.not_not, mp_isO, mp_gI4, mp_gI5, mp_gI7, mp_gI8, mp_gI9, mp_gI10, mp_gI11, mp_gI12, mp_gI13, mp_gI14, mp_gI15, mp_gI19, mp_gI20, mp_gI21, mp_gI23, mp_pI4, mp_pI5, mp_pI7, mp_pI8, mp_pI9, mp_pI10, mp_pI11, mp_pI12, mp_pI13, mp_pI14, mp_pI15, mp_pI19, mp_pI20, mp_pI21, mp_pI23, mp_gR0, mp_gR1, mp_gR2, mp_gR3, mp_gR6, mp_gR16, mp_gR17, mp_gR18, mp_gR22, mp_aI0, mp_aI1, mp_aI2, mp_aI3, mp_aI4, mp_aI5, mp_aI6, mp_aZ7, mp_aI8, mp_sI0, mp_sI1, mp_sI2, mp_sI3, mp_sI4, mp_sI5, mp_sI6, mp_sI8, mp_sZ0, mp_sZ1]
    exact ih
theorem c_X6_putsAside (hl : l.stackTraces = false) : Fn l X 0 M_X6_putsAside [.ref o] (mp X o B S) 0 0 Rv (mp X o B (sw S 2 (cpy (S 2) (S 0) 0 0 1664))) := by
  refine Fn.of hl rfl rfl (Nat.le_of_ble_eq_true rfl) (k_X6_putsAside_0 ?_)
  simp only [I_n]
  have e0 : mp X o B S = mp X o B (sw S 2 (cpy (S 2) (S 0) 0 0 ((0 : Nat) : Int))) := by rw [show ((0 : Nat) : Int) = 0 from rfl, cpy_z, sw_self]
  rw [e0]
  refine up_to (n := 1664) (P := fun j => G l X M_X6_putsAside 0 (fun o' A1 => o' = Rv ∧ A1 = mp X o B (sw S 2 (cpy (S 2) (S 0) 0 0 1664))) 2 [(0, .ref o), (1, .int (I j))] [] (mp X o B (sw S 2 (cpy (S 2) (S 0) 0 0 j))) 0 0) ?_ ?_
  · refine k_X6_putsAside_2 ?_
    simp (disch := omega) only [I_n, I_neg, I_add, I_sub, I_mul, I_le4, I_lt4, I_eq4, I_div4, I_bi0, I_bi01, I_bi1, nor_em, rI_of, rV_of, zI_of, zV_of, nz_and, br_T, br_F, br_T2, br_F2, st_eq, st9_0, st_k, st_i, true_and, and_true, Classical.not_not, mp_isO, mp_gI4, mp_gI5, mp_gI7, mp_gI8, mp_gI9, mp_gI10, mp_gI11, mp_gI12, mp_gI13, mp_gI14, mp_gI15, mp_gI19, mp_gI20, mp_gI21, mp_gI23, mp_pI4, mp_pI5, mp_pI7, mp_pI8, mp_pI9, mp_pI10, mp_pI11, mp_pI12, mp_pI13, mp_pI14, mp_pI15, mp_pI19, mp_pI20, mp_pI21, mp_pI23, mp_gR0, mp_gR1, mp_gR2, mp_gR3, mp_gR6, mp_gR16, mp_gR17, mp_gR18, mp_gR22, mp_aI0, mp_aI1, mp_aI2, mp_aI3, mp_aI4, mp_aI5, mp_aI6, mp_aZ7, mp_aI8, mp_sI0, mp_sI1, mp_sI2, mp_sI3, mp_sI4, mp_sI5, mp_sI6, mp_sI8, mp_sZ0, mp_sZ1]
    rfl
  · intro j hj ih
    have c := cpy_s (r := S 2) (q := S 0) (f := 0) (t := 0) (n := j) (by omega)
    rw [Int.zero_add] at c
    have e1 : ((j + 1 : Nat) : Int) = (j : Int) + 1 := rfl
    rw [e1, ← c] at ih
    refine k_X6_putsAside_2 ?_
    simp (disch := omega) only [I_n, I_neg, I_add, I_sub, I_mul, I_le4, I_lt4, I_eq4, I_div4, I_bi0, I_bi01, I_bi1, nor_em, rI_of, rV_of, zI_of, zV_of, nz_and, br_T, br_F, br_T2, br_F2, st_eq, st9_0, st_k, st_i, true_and, and_true, Classical.not_not, mp_isO, mp_gI4, mp_gI5, mp_gI7, mp_gI8, mp_gI9, mp_gI10, mp_gI11, mp_gI12, mp_gI13, mp_gI14, mp_gI15, mp_gI19, mp_gI20, mp_gI21, mp_gI23, mp_pI4, mp_pI5, mp_pI7, mp_pI8, mp_pI9, mp_pI10, mp_pI11, mp_pI12, mp_pI13, mp_pI14, mp_pI15, mp_pI19, mp_pI20, mp_pI21, mp_pI23, mp_gR0, mp_gR1, mp_gR2, mp_gR3, mp_gR6, mp_gR16, mp_gR17, mp_gR18, mp_gR22, mp_aI0, mp_aI1, mp_aI2, mp_aI3, mp_aI4, mp_aI5, mp_aI6, mp_aZ7, mp_aI8, mp_sI0, mp_sI1, mp_sI2, mp_sI3, mp_sI4, mp_sI5, mp_sI6, mp_sI8, mp_sZ0, mp_sZ1]
    rw [sw_st, sw_sw, sw_i, sw_j (by decide)]
    exact ih
end MM
