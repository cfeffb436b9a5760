/-! the reference's row, written: row functions -/
def rs (r : Int → Int) (k v : Int) : Int → Int := fun b => if b = k then v else r b
theorem rs_eq {r : Int → Int} {k v : Int} : rs r k v k = v := if_pos rfl
theorem rs_ne {r : Int → Int} {k v b : Int} (h : b ≠ k) : rs r k v b = r b := if_neg h
/-- the rows with another first one -/
def sr (S : Nat → Int → Int) (r : Int → Int) : Nat → Int → Int := fun a b => if a = 0 then r b else S a b
theorem sr_0 {S : Nat → Int → Int} {r : Int → Int} : sr S r 0 = r := rfl
theorem sr_i {S : Nat → Int → Int} {r : Int → Int} {i : Nat} : sr S r (i + 1) = S (i + 1) := rfl
theorem sr_sr {S : Nat → Int → Int} {r q : Int → Int} : sr (sr S r) q = sr S q := by
  funext a b
  unfold sr
  split
  · rfl
  · rfl
theorem sr_st {S : Nat → Int → Int} {k v : Int} : st S 0 k v = sr S (rs (S 0) k v) := by
  funext a b
  unfold st sr rs
  by_cases h : a = 0
  · subst h
    by_cases h2 : b = k
    · simp [h2]
    · simp [h2]
  · simp [h]
theorem sr_self {S : Nat → Int → Int} : sr S (S 0) = S := by
  funext a b
  unfold sr
  split
  · rename_i h
    rw [h]
  · rfl
theorem st_sr {S : Nat → Int → Int} {r : Int → Int} {i : Nat} {k v : Int} : st (sr S r) (i + 1) k v = sr (st S (i + 1) k v) r := by
  funext a b
  unfold st sr
  by_cases h : a = 0
  · subst h
    simp
  · simp [h]
theorem st_0 {S : Nat → Int → Int} {i : Nat} {k v : Int} : st S (i + 1) k v 0 = S 0 := by
  funext b
  exact st_i (by omega)
/-- an event, told -/
def rTell (r : Int → Int) (k a b : Int) : Int → Int := rs (rs (rs (rs r (576 + 3 * (r 7 - r 7 / 40 * 40)) k) (576 + 3 * (r 7 - r 7 / 40 * 40) + 1) a) (576 + 3 * (r 7 - r 7 / 40 * 40) + 2) b) 7 (r 7 + 1)
def gK (r : Int → Int) : Int := if 40 ≤ r 7 then 40 else r 7
def gEv (r : Int → Int) (back what : Int) : Int := r (576 + 3 * (r 7 - 1 - back - (r 7 - 1 - back) / 40 * 40) + what)
section MC
variable {l : Launch} {X : XT} {o : Nat} {B A : AH} {S : Nat → Int → Int} {e : Int}
theorem c_X6_tells (hl : l.stackTraces = false) (h0 : 0 ≤ S 0 7) (h1 : S 0 7 < 2147483000) {k a b : Int} : Fn l X 0 M_X6_tells [.ref o, .int (I k), .int (I a), .int (I b)] (mp X o B S) 0 0 Rv (mp X o B (sr S (rTell (S 0) k a b))) := by
  refine Fn.of hl rfl rfl (Nat.le_of_ble_eq_true rfl) (k_X6_tells_0 ?_)
  simp (disch := omega) only [I_n, I_neg, I_add, I_sub, I_mul, I_le4, I_lt4, I_eq4, I_div4, I_bi0, I_bi01, I_bi1, nor_em, rI_of, rV_of, zI_of, zV_of, nz_and, br_T, br_F, br_T2, br_F2, st_eq, st9_0, st_k, st_i, true_and, and_true, Classical.not_not, mp_isO, mp_gI4, mp_gI5, mp_gI7, mp_gI8, mp_gI9, mp_gI10, mp_gI11, mp_gI12, mp_gI13, mp_gI14, mp_gI15, mp_gI19, mp_gI20, mp_gI21, mp_gI23, mp_pI4, mp_pI5, mp_pI7, mp_pI8, mp_pI9, mp_pI10, mp_pI11, mp_pI12, mp_pI13, mp_pI14, mp_pI15, mp_pI19, mp_pI20, mp_pI21, mp_pI23, mp_gR0, mp_gR1, mp_gR2, mp_gR3, mp_gR6, mp_gR16, mp_gR17, mp_gR18, mp_gR22, mp_aI0, mp_aI1, mp_aI2, mp_aI3, mp_aI4, mp_aI5, mp_aI6, mp_aZ7, mp_aI8, mp_sI0, mp_sI1, mp_sI2, mp_sI3, mp_sI4, mp_sI5, mp_sI6, mp_sI8, mp_sZ0, mp_sZ1]
  have e1 : rs (rs (rs (S 0) (576 + 3 * (S 0 7 - S 0 7 / 40 * 40)) k) (576 + 3 * (S 0 7 - S 0 7 / 40 * 40) + 1) a) (576 + 3 * (S 0 7 - S 0 7 / 40 * 40) + 2) b 7 = S 0 7 := by
    rw [rs_ne (by omega), rs_ne (by omega), rs_ne (by omega)]
  simp only [sr_st, sr_0, sr_sr, e1]
  rfl
theorem c_X6_eventsKept (hl : l.stackTraces = false) (h0 : 0 ≤ S 0 7) (h1 : S 0 7 < 2147483000) : Fn l X 0 M_X6_eventsKept [.ref o] (mp X o B S) 0 0 (Ri (I (gK (S 0)))) (mp X o B S) := by
  refine Fn.of hl rfl rfl (Nat.le_of_ble_eq_true rfl) (k_X6_eventsKept_0 ?_)
  simp (disch := omega) only [I_n, I_neg, I_add, I_sub, I_mul, I_le4, I_lt4, I_eq4, I_div4, I_bi0, I_bi01, I_bi1, nor_em, rI_of, rV_of, zI_of, zV_of, nz_and, br_T, br_F, br_T2, br_F2, st_eq, st9_0, st_k, st_i, true_and, and_true, Classical.not_not, mp_isO, mp_gI4, mp_gI5, mp_gI7, mp_gI8, mp_gI9, mp_gI10, mp_gI11, mp_gI12, mp_gI13, mp_gI14, mp_gI15, mp_gI19, mp_gI20, mp_gI21, mp_gI23, mp_pI4, mp_pI5, mp_pI7, mp_pI8, mp_pI9, mp_pI10, mp_pI11, mp_pI12, mp_pI13, mp_pI14, mp_pI15, mp_pI19, mp_pI20, mp_pI21, mp_pI23, mp_gR0, mp_gR1, mp_gR2, mp_gR3, mp_gR6, mp_gR16, mp_gR17, mp_gR18, mp_gR22, mp_aI0, mp_aI1, mp_aI2, mp_aI3, mp_aI4, mp_aI5, mp_aI6, mp_aZ7, mp_aI8, mp_sI0, mp_sI1, mp_sI2, mp_sI3, mp_sI4, mp_sI5, mp_sI6, mp_sI8, mp_sZ0, mp_sZ1]
  refine ⟨fun h => ?_, fun h => ?_⟩
  · unfold gK
    rw [if_pos h]
  · unfold gK
    rw [if_neg h]
theorem c_X6_eventAt (hl : l.stackTraces = false) (h1 : S 0 7 < 2147483000) {k x : Int} (hk : 0 ≤ k) (hk1 : k < S 0 7) (hx : 0 ≤ x) (hx1 : x ≤ 2) : Fn l X 0 M_X6_eventAt [.ref o, .int (I k), .int (I x)] (mp X o B S) 0 0 (Ri (I (gEv (S 0) k x))) (mp X o B S) := by
  refine Fn.of hl rfl rfl (Nat.le_of_ble_eq_true rfl) (k_X6_eventAt_0 ?_)
  simp (disch := omega) only [I_n, I_neg, I_add, I_sub, I_mul, I_le4, I_lt4, I_eq4, I_div4, I_bi0, I_bi01, I_bi1, nor_em, rI_of, rV_of, zI_of, zV_of, nz_and, br_T, br_F, br_T2, br_F2, st_eq, st9_0, st_k, st_i, true_and, and_true, Classical.not_not, mp_isO, mp_gI4, mp_gI5, mp_gI7, mp_gI8, mp_gI9, mp_gI10, mp_gI11, mp_gI12, mp_gI13, mp_gI14, mp_gI15, mp_gI19, mp_gI20, mp_gI21, mp_gI23, mp_pI4, mp_pI5, mp_pI7, mp_pI8, mp_pI9, mp_pI10, mp_pI11, mp_pI12, mp_pI13, mp_pI14, mp_pI15, mp_pI19, mp_pI20, mp_pI21, mp_pI23, mp_gR0, mp_gR1, mp_gR2, mp_gR3, mp_gR6, mp_gR16, mp_gR17, mp_gR18, mp_gR22, mp_aI0, mp_aI1, mp_aI2, mp_aI3, mp_aI4, mp_aI5, mp_aI6, mp_aZ7, mp_aI8, mp_sI0, mp_sI1, mp_sI2, mp_sI3, mp_sI4, mp_sI5, mp_sI6, mp_sI8, mp_sZ0, mp_sZ1]
  rfl
theorem c_X6_judges (hl : l.stackTraces = false) (w : RW (S 0) e) {k : Int} (h0 : 0 ≤ k) (h1 : k < gN (S 0)) : Fn l X 4 M_X6_judges [.ref o, .int (I k)] (mp X o B S) 0 0 Rv (mp X o B (sr S (if gV (S 0) k ≤ 0 then S 0 else rTell (S 0) (gV (S 0) k) k 0))) := by
  have hv : 0 ≤ gV (S 0) k ∧ gV (S 0) k ≤ 2 := by
    unfold gV
    split
    · omega
    · split
      · omega
      · omega
  have h7 : 0 ≤ S 0 7 ∧ S 0 7 < 2147483000 := by
    have q1 := w.2.2.2.2.2.1
    have q2 := w.2.2.2.2.2.2.2.2.2.2.2.2.2.2.1
    omega
  refine Fn.of hl rfl rfl (Nat.le_of_ble_eq_true rfl) (k_X6_judges_0 ⟨mp_isO, (c_X6_stateOf hl w h0 h1).cl0 (by decide) ?_⟩)
  simp (disch := omega) only [I_n, I_neg, I_add, I_sub, I_mul, I_le4, I_lt4, I_eq4, I_div4, I_bi0, I_bi01, I_bi1, nor_em, rI_of, rV_of, zI_of, zV_of, nz_and, br_T, br_F, br_T2, br_F2, st_eq, st9_0, st_k, st_i, true_and, and_true, Classical.not_not, mp_isO, mp_gI4, mp_gI5, mp_gI7, mp_gI8, mp_gI9, mp_gI10, mp_gI11, mp_gI12, mp_gI13, mp_gI14, mp_gI15, mp_gI19, mp_gI20, mp_gI21, mp_gI23, mp_pI4, mp_pI5, mp_pI7, mp_pI8, mp_pI9, mp_pI10, mp_pI11, mp_pI12, mp_pI13, mp_pI14, mp_pI15, mp_pI19, mp_pI20, mp_pI21, mp_pI23, mp_gR0, mp_gR1, mp_gR2, mp_gR3, mp_gR6, mp_gR16, mp_gR17, mp_gR18, mp_gR22, mp_aI0, mp_aI1, mp_aI2, mp_aI3, mp_aI4, mp_aI5, mp_aI6, mp_aZ7, mp_aI8, mp_sI0, mp_sI1, mp_sI2, mp_sI3, mp_sI4, mp_sI5, mp_sI6, mp_sI8, mp_sZ0, mp_sZ1]
  refine ⟨fun h => ?_, fun h => ?_⟩
  · rw [if_pos h, sr_self]
  · refine (c_X6_tells hl h7.1 h7.2).cl0 (by decide) ?_
    simp (disch := omega) only [I_n, I_neg, I_add, I_sub, I_mul, I_le4, I_lt4, I_eq4, I_div4, I_bi0, I_bi01, I_bi1, nor_em, rI_of, rV_of, zI_of, zV_of, nz_and, br_T, br_F, br_T2, br_F2, st_eq, st9_0, st_k, st_i, true_and, and_true, Classical.not_not, mp_isO, mp_gI4, mp_gI5, mp_gI7, mp_gI8, mp_gI9, mp_gI10, mp_gI11, mp_gI12, mp_gI13, mp_gI14, mp_gI15, mp_gI19, mp_gI20, mp_gI21, mp_gI23, mp_pI4, mp_pI5, mp_pI7, mp_pI8, mp_pI9, mp_pI10, mp_pI11, mp_pI12, mp_pI13, mp_pI14, mp_pI15, mp_pI19, mp_pI20, mp_pI21, mp_pI23, mp_gR0, mp_gR1, mp_gR2, mp_gR3, mp_gR6, mp_gR16, mp_gR17, mp_gR18, mp_gR22, mp_aI0, mp_aI1, mp_aI2, mp_aI3, mp_aI4, mp_aI5, mp_aI6, mp_aZ7, mp_aI8, mp_sI0, mp_sI1, mp_sI2, mp_sI3, mp_sI4, mp_sI5, mp_sI6, mp_sI8, mp_sZ0, mp_sZ1]
    rw [if_neg h]
end MC
