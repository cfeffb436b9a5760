/-! the reference: a cut, an arrival -/
theorem cz_p {x : Int} (h : 0 < x) : cz x = 1 := if_pos h
theorem cz_z {x : Int} (h : ¬ 0 < x) : cz x = 0 := if_neg h
theorem cz_b {x : Int} : 0 ≤ cz x ∧ cz x ≤ 1 := by
  unfold cz
  split
  · omega
  · omega
theorem at2 {r : Int → Int} {b s lo hi : Int} (hs : 0 ≤ s ∧ s ≤ 1) (h0 : lo ≤ r b ∧ r b ≤ hi) (h1 : lo ≤ r (b + 1) ∧ r (b + 1) ≤ hi) : lo ≤ r (b + s) ∧ r (b + s) ≤ hi := by
  have h : s = 0 ∨ s = 1 := by omega
  rcases h with rfl | rfl
  · rw [Int.add_zero]
    exact h0
  · exact h1
theorem RW_16 {r : Int → Int} {e s : Int} (w : RW r e) (hs : 0 ≤ s ∧ s ≤ 1) : 0 ≤ r (16 + s) ∧ r (16 + s) ≤ e := by
  obtain ⟨a1, a2, a3, a4, a5, a6, a7, a8, a9, a10, a11, a12, a13, a14, a15, a16⟩ := w.2.2.2.2.2.1
  exact at2 hs ⟨a9, a10⟩ ⟨a11, a12⟩
theorem RW_18 {r : Int → Int} {e s : Int} (w : RW r e) (hs : 0 ≤ s ∧ s ≤ 1) : 0 ≤ r (18 + s) ∧ r (18 + s) ≤ e := by
  obtain ⟨a1, a2, a3, a4, a5, a6, a7, a8, a9, a10, a11, a12, a13, a14, a15, a16⟩ := w.2.2.2.2.2.1
  exact at2 hs ⟨a13, a14⟩ ⟨a15, a16⟩
theorem RW_14 {r : Int → Int} {e s : Int} (w : RW r e) (hs : 0 ≤ s ∧ s ≤ 1) : 0 ≤ r (14 + s) ∧ r (14 + s) ≤ 1 := by
  obtain ⟨a1, a2, a3, a4, a5, a6⟩ := w.2.2.2.2.1
  exact at2 hs ⟨a3, a4⟩ ⟨a5, a6⟩
def rArr0 (r : Int → Int) (s : Int) : Int → Int := rs (rs r 5 (r 5 + 1)) (16 + s) (rs r 5 (r 5 + 1) (16 + s) + 1)
def rGot (q : Int → Int) (s x : Int) : Nat → Int → Int
  | 0 => q
  | j + 1 => rs (rGot q s x j) (336 + (x + j)) (gB (rGot q s x j) s (x + j))
theorem rArr0_w {r : Int → Int} {e s : Int} (w : RW r e) (he : e < 2000000000) (hs : 0 ≤ s ∧ s ≤ 1) : RW (rArr0 r s) (e + 1) := by
  have c5 := w.2.2.2.2.2.1
  have w1 := RW_e w (e' := e + 1) (by omega) (by omega)
  have e1 : rs r 5 (r 5 + 1) (16 + s) = r (16 + s) := rs_ne (by omega)
  have e2 := RW_16 w hs
  unfold rArr0
  rw [e1]
  refine RW_set ?_ (by omega) (by omega) (by omega) (by omega) (by omega) (by omega) (by omega) (by omega) (by omega) (by omega) (by omega) (by omega)
  exact RW_set w1 (by omega) (by omega) (by omega) (by omega) (by omega) (by omega) (by omega) (by omega) (by omega) (by omega) (by omega) (by omega)
theorem rArr0_o {r : Int → Int} {s j : Int} (hs : 0 ≤ s ∧ s ≤ 1) (h : j < 5 ∨ 5 < j ∧ j < 16 ∨ 17 < j) : rArr0 r s j = r j := by
  unfold rArr0
  rw [rs_ne (by omega), rs_ne (by omega)]
theorem rGot_w {q : Int → Int} {e s x : Int} (w : RW q e) (hx : 0 ≤ x) {m : Nat} (hm : x + m ≤ 240) : RW (rGot q s x m) e ∧ ∀ j, j < 336 ∨ 576 ≤ j → rGot q s x m j = q j := by
  induction m with
  | zero => exact ⟨w, fun _ _ => rfl⟩
  | succ m ih =>
    obtain ⟨i1, i2⟩ := ih (by omega)
    have hb := gB_b (r := rGot q s x m) (s := s) (x := x + m)
    refine ⟨RW_set i1 (by omega) (by omega) (by omega) (by omega) (by omega) (by omega) (by omega) (by omega) (by omega) (by omega) (by omega) (by omega), fun j hj => ?_⟩
    exact (rs_ne (by omega)).trans (i2 j hj)
section MI
variable {l : Launch} {X : XT} {o : Nat} {B A : AH} {S : Nat → Int → Int} {e : Int}
theorem c_X6_isCutNow (hl : l.stackTraces = false) (w : RW (S 0) e) {s : Int} (hs : 0 ≤ s ∧ s ≤ 1) : Fn l X 0 M_X6_isCutNow [.ref o, .int (I s)] (mp X o B S) 0 0 (Ri (I (gCut (S 0) s))) (mp X o B S) := by
  have c3 := w.2.2.2.1
  have c5 := w.2.2.2.2.2.1
  have f9 := w.2.2.2.2.2.2.2.2.2.2.2.2.2.2.1
  have f3 := w.2.2.2.2.2.2.2.2.1
  have e2 := RW_16 w hs
  have hb : ∀ m, 0 ≤ sg (gCf (S 0) s) m := fun m => sg_nn fun k _ => bi_b.1
  refine Fn.of hl rfl rfl (Nat.le_of_ble_eq_true rfl) (k_X6_isCutNow_0 ?_)
  simp only [I_n]
  refine up_to (n := (S 0 12).toNat) (P := fun j => G l X M_X6_isCutNow 0 (fun o' A1 => o' = Ri (I (gCut (S 0) s)) ∧ A1 = mp X o B S) 4 [(0, .ref o), (1, .int (I s)), (2, .int (I (cz (sg (gCf (S 0) s) j)))), (3, .int (I j))] [] (mp X o B S) 0 0) ?_ ?_
  · have hc := cz_b (x := sg (gCf (S 0) s) (S 0 12).toNat)
    refine k_X6_isCutNow_4 ?_
    simp (disch := omega) only [I_n, I_neg, I_add, I_sub, I_mul, I_le4, I_lt4, I_eq4, I_div4, I_bi0, I_bi01, I_bi1, nor_em, rI_of, rV_of, zI_of, zV_of, nz_and, br_T, br_F, br_T2, br_F2, st_eq, st9_0, st_k, st_i, true_and, and_true, Classical.not_not, mp_isO, mp_gI4, mp_gI5, mp_gI7, mp_gI8, mp_gI9, mp_gI10, mp_gI11, mp_gI12, mp_gI13, mp_gI14, mp_gI15, mp_gI19, mp_gI20, mp_gI21, mp_gI23, mp_pI4, mp_pI5, mp_pI7, mp_pI8, mp_pI9, mp_pI10, mp_pI11, mp_pI12, mp_pI13, mp_pI14, mp_pI15, mp_pI19, mp_pI20, mp_pI21, mp_pI23, mp_gR0, mp_gR1, mp_gR2, mp_gR3, mp_gR6, mp_gR16, mp_gR17, mp_gR18, mp_gR22, mp_aI0, mp_aI1, mp_aI2, mp_aI3, mp_aI4, mp_aI5, mp_aI6, mp_aZ7, mp_aI8, mp_sI0, mp_sI1, mp_sI2, mp_sI3, mp_sI4, mp_sI5, mp_sI6, mp_sI8, mp_sZ0, mp_sZ1]
    exact ⟨by omega, rfl⟩
  · intro j hj ih
    have f3j := f3 j (by omega) (by omega)
    have hbj := hb j
    have es : sg (gCf (S 0) s) (j + 1) = sg (gCf (S 0) s) j + gCf (S 0) s j := rfl
    have hbi : 0 ≤ gCf (S 0) s j := bi_b.1
    refine k_X6_isCutNow_4 ?_
    by_cases hp : 0 < sg (gCf (S 0) s) j
    · rw [cz_p (by omega : 0 < sg (gCf (S 0) s) (j + 1))] at ih
      rw [cz_p hp]
      simp (disch := omega) only [I_n, I_neg, I_add, I_sub, I_mul, I_le4, I_lt4, I_eq4, I_div4, I_bi0, I_bi01, I_bi1, nor_em, rI_of, rV_of, zI_of, zV_of, nz_and, br_T, br_F, br_T2, br_F2, st_eq, st9_0, st_k, st_i, true_and, and_true, Classical.not_not, mp_isO, mp_gI4, mp_gI5, mp_gI7, mp_gI8, mp_gI9, mp_gI10, mp_gI11, mp_gI12, mp_gI13, mp_gI14, mp_gI15, mp_gI19, mp_gI20, mp_gI21, mp_gI23, mp_pI4, mp_pI5, mp_pI7, mp_pI8, mp_pI9, mp_pI10, mp_pI11, mp_pI12, mp_pI13, mp_pI14, mp_pI15, mp_pI19, mp_pI20, mp_pI21, mp_pI23, mp_gR0, mp_gR1, mp_gR2, mp_gR3, mp_gR6, mp_gR16, mp_gR17, mp_gR18, mp_gR22, mp_aI0, mp_aI1, mp_aI2, mp_aI3, mp_aI4, mp_aI5, mp_aI6, mp_aZ7, mp_aI8, mp_sI0, mp_sI1, mp_sI2, mp_sI3, mp_sI4, mp_sI5, mp_sI6, mp_sI8, mp_sZ0, mp_sZ1]
      exact ih
    · have hz : sg (gCf (S 0) s) j = 0 := by omega
      rw [cz_z hp]
      simp (disch := omega) only [sr_0, sr_sr, sr_st, true_implies, false_implies, not_true_eq_false, not_false_eq_true, I_n, I_neg, I_add, I_sub, I_mul, I_le4, I_lt4, I_eq4, I_div4, I_bi0, I_bi01, I_bi1, nor_em, rI_of, rV_of, zI_of, zV_of, nz_and, br_T, br_F, br_T2, br_F2, st_eq, st9_0, st_k, st_i, true_and, and_true, Classical.not_not, mp_isO, mp_gI4, mp_gI5, mp_gI7, mp_gI8, mp_gI9, mp_gI10, mp_gI11, mp_gI12, mp_gI13, mp_gI14, mp_gI15, mp_gI19, mp_gI20, mp_gI21, mp_gI23, mp_pI4, mp_pI5, mp_pI7, mp_pI8, mp_pI9, mp_pI10, mp_pI11, mp_pI12, mp_pI13, mp_pI14, mp_pI15, mp_pI19, mp_pI20, mp_pI21, mp_pI23, mp_gR0, mp_gR1, mp_gR2, mp_gR3, mp_gR6, mp_gR16, mp_gR17, mp_gR18, mp_gR22, mp_aI0, mp_aI1, mp_aI2, mp_aI3, mp_aI4, mp_aI5, mp_aI6, mp_aZ7, mp_aI8, mp_sI0, mp_sI1, mp_sI2, mp_sI3, mp_sI4, mp_sI5, mp_sI6, mp_sI8, mp_sZ0, mp_sZ1]
      refine ⟨fun h => ?_, fun h => ⟨fun h2 => ?_, fun h2 => ?_⟩⟩
      · have e : gCf (S 0) s j = 0 := bi_f fun q => h q.1
        rw [cz_z (by omega : ¬ 0 < sg (gCf (S 0) s) (j + 1))] at ih
        exact ih
      · have e : gCf (S 0) s j = 0 := bi_f fun q => h2 q.2
        rw [cz_z (by omega : ¬ 0 < sg (gCf (S 0) s) (j + 1))] at ih
        exact ih
      · have e : gCf (S 0) s j = 1 := bi_t ⟨h, h2⟩
        rw [cz_p (by omega : 0 < sg (gCf (S 0) s) (j + 1))] at ih
        exact ih
end MI
