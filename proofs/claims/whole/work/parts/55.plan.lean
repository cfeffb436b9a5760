/-! the class's Reader: takeStatement, readPlan -/
def cS0 (t : Int → Int) (n : Int) (z : RZ) (P : Nat → Int → Int) : RZ × (Nat → Int → Int) :=
  if cIs t n 2 z.1 = 1 then cFl t n (cTk t n 2 z) P z.1 else if cIs t n 3 z.1 = 1 then cBr t n (cTk t n 3 z) P z.1 else if cIs t n 4 z.1 = 1 then cCu t n (cTk t n 4 z) P z.1 else if cIs t n 5 z.1 = 1 then ((cNum t n (cTk t n 5 z) 1 99).1, st P 10 1 (cNum t n (cTk t n 5 z) 1 99).2) else (zFail z (-2) z.1, P)
def cSt (t : Int → Int) (n : Int) (z : RZ) (P : Nat → Int → Int) : RZ × (Nat → Int → Int) := (cSe t n (cS0 t n z P).1, (cS0 t n z P).2)
def cLp (t : Int → Int) (n : Int) : Nat → RZ × (Nat → Int → Int) → RZ × (Nat → Int → Int)
  | 0, s => s
  | m + 1, s => if s.1.2.2.1 = 0 ∧ sk t n s.1.1 < n then cLp t n m (cSt t n (sk t n s.1.1, s.1.2) s.2) else ((sk t n s.1.1, s.1.2), s.2)
theorem cTk_n {t : Int → Int} {n : Int} {z : RZ} {i : Nat} (h : ¬ cIs t n i z.1 = 1) : cTk t n i z = z := if_neg h
theorem SP_AF {P : Nat → Int → Int} {m x v : Int} (h : SP P m) : SP (kAF P x v) m := by
  obtain ⟨h0, h1, h2, h3, h4⟩ := h
  unfold kAF SP
  rw [st_row (show (10 : Nat) ≠ 1 by decide)]
  refine ⟨h0, h1, h2, h3, fun y y0 y1 => ?_⟩
  rw [st_if]
  split
  · omega
  · exact h4 y y0 y1
theorem SP_AB {P : Nat → Int → Int} {m a b c : Int} (h : SP P m) (hc : P 10 13 < 12) : SP (kAB P a b c) m := by
  obtain ⟨h0, h1, h2, h3, h4⟩ := h
  have e10 : ∀ y, kAB P a b c 10 y = if y = 13 then P 10 13 + 1 else P 10 y := fun y => by
    unfold kAB
    rw [st_if, st_row (by decide), st_row (by decide), st_row (by decide)]
  have e1 : kAB P a b c 1 = P 1 := by
    unfold kAB
    rw [st_row (by decide), st_row (by decide), st_row (by decide), st_row (by decide)]
  unfold SP
  rw [e10, e10, e10, e1, if_neg (by decide), if_pos rfl, if_neg (by decide)]
  exact ⟨h0, by omega, h2, h3, h4⟩
theorem SP_AC {P : Nat → Int → Int} {m a b : Int} (h : SP P m) (hc : P 10 15 < 8) : SP (kAC P a b) m := by
  obtain ⟨h0, h1, h2, h3, h4⟩ := h
  have e10 : ∀ y, kAC P a b 10 y = if y = 15 then P 10 15 + 1 else P 10 y := fun y => by
    unfold kAC
    rw [st_if, st_row (by decide), st_row (by decide)]
  have e1 : kAC P a b 1 = P 1 := by
    unfold kAC
    rw [st_row (by decide), st_row (by decide), st_row (by decide)]
  unfold SP
  rw [e10, e10, e10, e1, if_neg (by decide), if_neg (by decide), if_pos rfl]
  exact ⟨h0, h1, by omega, h3, h4⟩
theorem SP_1 {P : Nat → Int → Int} {m v : Int} (h : SP P m) : SP (st P 10 1 v) m := by
  obtain ⟨h0, h1, h2, h3, h4⟩ := h
  unfold SP
  rw [st_k (by decide), st_k (by decide), st_k (by decide), st_row (by decide)]
  exact ⟨h0, h1, h2, h3, h4⟩
theorem cFl_b {t : Int → Int} {n m s : Int} {z : RZ} {P : Nat → Int → Int} (hz : ZI n z) (h : SP P m) : ZI n (cFl t n z P s).1 ∧ SP (cFl t n z P s).2 m := by
  obtain ⟨h0, h1, h2, h3, h4⟩ := h
  have hf := hz.2.1
  obtain ⟨z1, z2, z3⟩ := cNum_b (t := t) (lo := 0) (hi := P 10 0 - 1) hz (by omega)
  obtain ⟨y1, y2, y3⟩ := cNum_b (t := t) (lo := 1) (hi := 255) z1 (by omega)
  unfold cFl
  split
  · exact ⟨⟨y1.1, by show 0 ≤ z.2.1 + 1 ∧ z.2.1 + 1 ≤ 12; omega, y1.2.2⟩, SP_AF ⟨h0, h1, h2, h3, h4⟩⟩
  · exact ⟨(ZI_fail hz (by omega)).1, h0, h1, h2, h3, h4⟩
theorem cBr_b {t : Int → Int} {n m s : Int} {z : RZ} {P : Nat → Int → Int} (hz : ZI n z) (h : SP P m) : ZI n (cBr t n z P s).1 ∧ SP (cBr t n z P s).2 m := by
  obtain ⟨h0, h1, h2, h3, h4⟩ := h
  obtain ⟨z1, z2, z3⟩ := cNum_b (t := t) (lo := 1) (hi := 999) hz (by omega)
  obtain ⟨y1, y2, y3⟩ := cNum_b (t := t) (lo := 0) (hi := 47) z1 (by omega)
  obtain ⟨x1, x2, x3⟩ := cNum_b (t := t) (lo := 1) (hi := 255) y1 (by omega)
  unfold cBr
  split
  · rename_i hc
    exact ⟨x1, SP_AB ⟨h0, h1, h2, h3, h4⟩ hc⟩
  · exact ⟨(ZI_fail hz (by omega)).1, h0, h1, h2, h3, h4⟩
theorem cCu_b {t : Int → Int} {n m s : Int} {z : RZ} {P : Nat → Int → Int} (hz : ZI n z) (h : SP P m) : ZI n (cCu t n z P s).1 ∧ SP (cCu t n z P s).2 m := by
  obtain ⟨h0, h1, h2, h3, h4⟩ := h
  obtain ⟨z1, z2, z3⟩ := cNum_b (t := t) (lo := 0) (hi := 1) hz (by omega)
  obtain ⟨y1, y2, y3⟩ := cNum_b (t := t) (lo := 1) (hi := 999) z1 (by omega)
  unfold cCu
  split
  · rename_i hc
    exact ⟨y1, SP_AC ⟨h0, h1, h2, h3, h4⟩ hc⟩
  · exact ⟨(ZI_fail hz (by omega)).1, h0, h1, h2, h3, h4⟩
theorem cS0_b {t : Int → Int} {n m : Int} {z : RZ} {P : Nat → Int → Int} (hz : ZI n z) (h : SP P m) : ZI n (cS0 t n z P).1 ∧ SP (cS0 t n z P).2 m := by
  unfold cS0
  split
  · exact cFl_b (cTk_b (by decide) hz).1 h
  · split
    · exact cBr_b (cTk_b (by decide) hz).1 h
    · split
      · exact cCu_b (cTk_b (by decide) hz).1 h
      · split
        · obtain ⟨z1, z2, z3⟩ := cNum_b (t := t) (lo := 1) (hi := 99) (cTk_b (t := t) (i := 5) (by decide) hz).1 (by omega)
          exact ⟨z1, SP_1 h⟩
        · exact ⟨(ZI_fail hz (by omega)).1, h⟩
theorem cSt_b {t : Int → Int} {n m : Int} {z : RZ} {P : Nat → Int → Int} (hz : ZI n z) (h : SP P m) : ZI n (cSt t n z P).1 ∧ SP (cSt t n z P).2 m := by
  obtain ⟨a, b⟩ := cS0_b (t := t) hz h
  exact ⟨(cSe_b a).1, b⟩
section CY
variable {l : Launch} {X : XT} {A B : AH} {p d tx : Nat} {n m : Int} {z : RZ} {t : Int → Int} {P : Nat → Int → Int}
theorem c_X4_takeStatement (hl : l.stackTraces = false) (ht : B.2 tx = some (ia X 400 (fun k => I (t k)))) (hd : tx ≠ d) (htp : tx < p ∨ p + 10 < tx) (hdp : d < p ∨ p + 10 < d) (hn : 0 ≤ n ∧ n ≤ 400) (hB : ∀ k, 0 ≤ k → k < 400 → 0 ≤ t k ∧ t k ≤ 255) (hz : ZI n z) (h : SP P m) : Fn l X 5 M_X4_takeStatement [.ref d, .ref p] (rp (pp X p B P) d tx n z) 0 0 Rv (rp (pp X p B (cSt t n z P).2) d tx n (cSt t n z P).1) := by
  have ht2 : ∀ P, (pp X p B P).2 tx = some (ia X 400 (fun k => I (t k))) := fun P => (pp_out htp).trans ht
  have last : ∀ (z' : RZ) (P' : Nat → Int → Int), cS0 t n z P = (z', P') → ZI n z' → G l X M_X4_takeStatement 5 (fun o' A1 => o' = Rv ∧ A1 = rp (pp X p B (cSt t n z P).2) d tx n (cSt t n z P).1) 89 [(0, .ref d)] [] (rp (pp X p B P') d tx n z') 0 0 := by
    intro z' P' e hz'
    unfold cSt
    rw [e]
    refine k_X4_takeStatement_89 ?_
    simp (disch := omega) only [true_implies, false_implies, not_true_eq_false, not_false_eq_true, rR_of, I_n, I_neg, I_add, I_sub, I_mul, I_le4, I_lt4, I_eq4, I_div4, I_bi0, I_bi01, I_bi1, nor_em, rI_of, rV_of, zI_of, zV_of, nz_and, br_T, br_F, br_T2, br_F2, st_eq, st9_0, st_k, st_i, true_and, and_true, Classical.not_not, rp_g1, rp_g2, rp_g3, rp_g4, rp_g5, rp_r0, rp_p2, rp_p3, rp_p4, rp_p5, rp_o]
    refine (c_X4_takeSemicolon hl (ht2 _) hd hn hB hz'.1 (ZI_sm hz')).cl0 (by decide) ?_
    simp (disch := omega) only [true_implies, false_implies, not_true_eq_false, not_false_eq_true, rR_of, I_n, I_neg, I_add, I_sub, I_mul, I_le4, I_lt4, I_eq4, I_div4, I_bi0, I_bi01, I_bi1, nor_em, rI_of, rV_of, zI_of, zV_of, nz_and, br_T, br_F, br_T2, br_F2, st_eq, st9_0, st_k, st_i, true_and, and_true, Classical.not_not, rp_g1, rp_g2, rp_g3, rp_g4, rp_g5, rp_r0, rp_p2, rp_p3, rp_p4, rp_p5, rp_o]
    all_goals first | rfl | exact ⟨rfl, rfl⟩
  refine Fn.of hl rfl rfl (Nat.le_of_ble_eq_true rfl) (k_X4_takeStatement_0 ?_)
  simp (disch := omega) only [true_implies, false_implies, not_true_eq_false, not_false_eq_true, rR_of, I_n, I_neg, I_add, I_sub, I_mul, I_le4, I_lt4, I_eq4, I_div4, I_bi0, I_bi01, I_bi1, nor_em, rI_of, rV_of, zI_of, zV_of, nz_and, br_T, br_F, br_T2, br_F2, st_eq, st9_0, st_k, st_i, true_and, and_true, Classical.not_not, rp_g1, rp_g2, rp_g3, rp_g4, rp_g5, rp_r0, rp_p2, rp_p3, rp_p4, rp_p5, rp_o]
  have hz0 : ZI n (z.1, z.2) := hz
  refine (c_X4_isTaken hl (ht2 _) hd hn hB (i := 2) (by decide) hz.1).cl0 (by decide) ?_
  obtain ⟨i2, -⟩ := cIs_b (t := t) (n := n) (p := z.1) (i := 2) (by decide)
  obtain ⟨i3, -⟩ := cIs_b (t := t) (n := n) (p := z.1) (i := 3) (by decide)
  obtain ⟨i4, -⟩ := cIs_b (t := t) (n := n) (p := z.1) (i := 4) (by decide)
  obtain ⟨i5, -⟩ := cIs_b (t := t) (n := n) (p := z.1) (i := 5) (by decide)
  by_cases h2 : cIs t n 2 z.1 = 1
  · rw [h2]
    simp (disch := omega) only [true_implies, false_implies, not_true_eq_false, not_false_eq_true, rR_of, I_n, I_neg, I_add, I_sub, I_mul, I_le4, I_lt4, I_eq4, I_div4, I_bi0, I_bi01, I_bi1, nor_em, rI_of, rV_of, zI_of, zV_of, nz_and, br_T, br_F, br_T2, br_F2, st_eq, st9_0, st_k, st_i, true_and, and_true, Classical.not_not, rp_g1, rp_g2, rp_g3, rp_g4, rp_g5, rp_r0, rp_p2, rp_p3, rp_p4, rp_p5, rp_o]
    have hz2 := (cTk_b (t := t) (i := 2) (by decide) hz).1
    refine (c_X4_takeFlaw hl ht hd htp hdp hn hB hz2 h).cl0 (by decide) ?_
    simp (disch := omega) only [true_implies, false_implies, not_true_eq_false, not_false_eq_true, rR_of, I_n, I_neg, I_add, I_sub, I_mul, I_le4, I_lt4, I_eq4, I_div4, I_bi0, I_bi01, I_bi1, nor_em, rI_of, rV_of, zI_of, zV_of, nz_and, br_T, br_F, br_T2, br_F2, st_eq, st9_0, st_k, st_i, true_and, and_true, Classical.not_not, rp_g1, rp_g2, rp_g3, rp_g4, rp_g5, rp_r0, rp_p2, rp_p3, rp_p4, rp_p5, rp_o]
    exact last _ _ (if_pos h2) (cFl_b hz2 h).1
  rw [show cIs t n 2 z.1 = 0 by omega, cTk_n h2]
  simp (disch := omega) only [true_implies, false_implies, not_true_eq_false, not_false_eq_true, rR_of, I_n, I_neg, I_add, I_sub, I_mul, I_le4, I_lt4, I_eq4, I_div4, I_bi0, I_bi01, I_bi1, nor_em, rI_of, rV_of, zI_of, zV_of, nz_and, br_T, br_F, br_T2, br_F2, st_eq, st9_0, st_k, st_i, true_and, and_true, Classical.not_not, rp_g1, rp_g2, rp_g3, rp_g4, rp_g5, rp_r0, rp_p2, rp_p3, rp_p4, rp_p5, rp_o]
  refine (c_X4_isTaken hl (ht2 _) hd hn hB (i := 3) (by decide) hz.1).cl0 (by decide) ?_
  by_cases h3 : cIs t n 3 z.1 = 1
  · rw [h3]
    simp (disch := omega) only [true_implies, false_implies, not_true_eq_false, not_false_eq_true, rR_of, I_n, I_neg, I_add, I_sub, I_mul, I_le4, I_lt4, I_eq4, I_div4, I_bi0, I_bi01, I_bi1, nor_em, rI_of, rV_of, zI_of, zV_of, nz_and, br_T, br_F, br_T2, br_F2, st_eq, st9_0, st_k, st_i, true_and, and_true, Classical.not_not, rp_g1, rp_g2, rp_g3, rp_g4, rp_g5, rp_r0, rp_p2, rp_p3, rp_p4, rp_p5, rp_o]
    have hz2 := (cTk_b (t := t) (i := 3) (by decide) hz).1
    refine (c_X4_takeBreak hl ht hd htp hdp hn hB hz2 h).cl0 (by decide) ?_
    simp (disch := omega) only [true_implies, false_implies, not_true_eq_false, not_false_eq_true, rR_of, I_n, I_neg, I_add, I_sub, I_mul, I_le4, I_lt4, I_eq4, I_div4, I_bi0, I_bi01, I_bi1, nor_em, rI_of, rV_of, zI_of, zV_of, nz_and, br_T, br_F, br_T2, br_F2, st_eq, st9_0, st_k, st_i, true_and, and_true, Classical.not_not, rp_g1, rp_g2, rp_g3, rp_g4, rp_g5, rp_r0, rp_p2, rp_p3, rp_p4, rp_p5, rp_o]
    exact last _ _ ((if_neg h2).trans (if_pos h3)) (cBr_b hz2 h).1
  rw [show cIs t n 3 z.1 = 0 by omega, cTk_n h3]
  simp (disch := omega) only [true_implies, false_implies, not_true_eq_false, not_false_eq_true, rR_of, I_n, I_neg, I_add, I_sub, I_mul, I_le4, I_lt4, I_eq4, I_div4, I_bi0, I_bi01, I_bi1, nor_em, rI_of, rV_of, zI_of, zV_of, nz_and, br_T, br_F, br_T2, br_F2, st_eq, st9_0, st_k, st_i, true_and, and_true, Classical.not_not, rp_g1, rp_g2, rp_g3, rp_g4, rp_g5, rp_r0, rp_p2, rp_p3, rp_p4, rp_p5, rp_o]
  refine (c_X4_isTaken hl (ht2 _) hd hn hB (i := 4) (by decide) hz.1).cl0 (by decide) ?_
  by_cases h4 : cIs t n 4 z.1 = 1
  · rw [h4]
    simp (disch := omega) only [true_implies, false_implies, not_true_eq_false, not_false_eq_true, rR_of, I_n, I_neg, I_add, I_sub, I_mul, I_le4, I_lt4, I_eq4, I_div4, I_bi0, I_bi01, I_bi1, nor_em, rI_of, rV_of, zI_of, zV_of, nz_and, br_T, br_F, br_T2, br_F2, st_eq, st9_0, st_k, st_i, true_and, and_true, Classical.not_not, rp_g1, rp_g2, rp_g3, rp_g4, rp_g5, rp_r0, rp_p2, rp_p3, rp_p4, rp_p5, rp_o]
    have hz2 := (cTk_b (t := t) (i := 4) (by decide) hz).1
    refine (c_X4_takeCut hl ht hd htp hdp hn hB hz2 h).cl0 (by decide) ?_
    simp (disch := omega) only [true_implies, false_implies, not_true_eq_false, not_false_eq_true, rR_of, I_n, I_neg, I_add, I_sub, I_mul, I_le4, I_lt4, I_eq4, I_div4, I_bi0, I_bi01, I_bi1, nor_em, rI_of, rV_of, zI_of, zV_of, nz_and, br_T, br_F, br_T2, br_F2, st_eq, st9_0, st_k, st_i, true_and, and_true, Classical.not_not, rp_g1, rp_g2, rp_g3, rp_g4, rp_g5, rp_r0, rp_p2, rp_p3, rp_p4, rp_p5, rp_o]
    exact last _ _ ((if_neg h2).trans ((if_neg h3).trans (if_pos h4))) (cCu_b hz2 h).1
  rw [show cIs t n 4 z.1 = 0 by omega, cTk_n h4]
  simp (disch := omega) only [true_implies, false_implies, not_true_eq_false, not_false_eq_true, rR_of, I_n, I_neg, I_add, I_sub, I_mul, I_le4, I_lt4, I_eq4, I_div4, I_bi0, I_bi01, I_bi1, nor_em, rI_of, rV_of, zI_of, zV_of, nz_and, br_T, br_F, br_T2, br_F2, st_eq, st9_0, st_k, st_i, true_and, and_true, Classical.not_not, rp_g1, rp_g2, rp_g3, rp_g4, rp_g5, rp_r0, rp_p2, rp_p3, rp_p4, rp_p5, rp_o]
  refine (c_X4_isTaken hl (ht2 _) hd hn hB (i := 5) (by decide) hz.1).cl0 (by decide) ?_
  by_cases h5 : cIs t n 5 z.1 = 1
  · rw [h5]
    simp (disch := omega) only [true_implies, false_implies, not_true_eq_false, not_false_eq_true, rR_of, I_n, I_neg, I_add, I_sub, I_mul, I_le4, I_lt4, I_eq4, I_div4, I_bi0, I_bi01, I_bi1, nor_em, rI_of, rV_of, zI_of, zV_of, nz_and, br_T, br_F, br_T2, br_F2, st_eq, st9_0, st_k, st_i, true_and, and_true, Classical.not_not, rp_g1, rp_g2, rp_g3, rp_g4, rp_g5, rp_r0, rp_p2, rp_p3, rp_p4, rp_p5, rp_o]
    have hz2 := (cTk_b (t := t) (i := 5) (by decide) hz).1
    obtain ⟨y1, y2, y3⟩ := cNum_b (t := t) (lo := 1) (hi := 99) hz2 (by omega)
    refine (c_X4_takeNumber hl (ht2 _) hd hn hB hz2.1 (ZI_sm hz2) (by omega) (by omega)).cl0 (by decide) ?_
    rw [rI_of, rp_pp hdp, pp_pI1, ← rp_pp hdp]
    exact last _ _ ((if_neg h2).trans ((if_neg h3).trans ((if_neg h4).trans (if_pos h5)))) y1
  rw [show cIs t n 5 z.1 = 0 by omega, cTk_n h5]
  simp (disch := omega) only [true_implies, false_implies, not_true_eq_false, not_false_eq_true, rR_of, I_n, I_neg, I_add, I_sub, I_mul, I_le4, I_lt4, I_eq4, I_div4, I_bi0, I_bi01, I_bi1, nor_em, rI_of, rV_of, zI_of, zV_of, nz_and, br_T, br_F, br_T2, br_F2, st_eq, st9_0, st_k, st_i, true_and, and_true, Classical.not_not, rp_g1, rp_g2, rp_g3, rp_g4, rp_g5, rp_r0, rp_p2, rp_p3, rp_p4, rp_p5, rp_o]
  refine (c_X4_fail hl (ZI_sm hz)).cl0 (by decide) ?_
  simp (disch := omega) only [true_implies, false_implies, not_true_eq_false, not_false_eq_true, rR_of, I_n, I_neg, I_add, I_sub, I_mul, I_le4, I_lt4, I_eq4, I_div4, I_bi0, I_bi01, I_bi1, nor_em, rI_of, rV_of, zI_of, zV_of, nz_and, br_T, br_F, br_T2, br_F2, st_eq, st9_0, st_k, st_i, true_and, and_true, Classical.not_not, rp_g1, rp_g2, rp_g3, rp_g4, rp_g5, rp_r0, rp_p2, rp_p3, rp_p4, rp_p5, rp_o]
  exact last _ _ ((if_neg h2).trans ((if_neg h3).trans ((if_neg h4).trans (if_neg h5)))) (ZI_fail hz (by omega)).1
theorem c_X4_hasMore (hl : l.stackTraces = false) (ht : A.2 tx = some (ia X 400 (fun k => I (t k)))) (hd : tx ≠ d) (hn : 0 ≤ n ∧ n ≤ 400) (hB : ∀ k, 0 ≤ k → k < 400 → 0 ≤ t k ∧ t k ≤ 255) (hz : ZI n z) : Fn l X 3 M_X4_hasMore [.ref d] (rp A d tx n z) 0 0 (Ri (I (if z.2.2.1 = 0 ∧ sk t n z.1 < n then 1 else 0))) (rp A d tx n (sk t n z.1, z.2)) := by
  obtain ⟨b1, b2, b3⟩ := sk_b (t := t) (n := n) (p := z.1) hz.1.2
  have hz1 := hz.1
  have hz2 := hz.2.2
  refine Fn.of hl rfl rfl (Nat.le_of_ble_eq_true rfl) (k_X4_hasMore_0 ?_)
  simp (disch := omega) only [true_implies, false_implies, not_true_eq_false, not_false_eq_true, rR_of, I_n, I_neg, I_add, I_sub, I_mul, I_le4, I_lt4, I_eq4, I_div4, I_bi0, I_bi01, I_bi1, nor_em, rI_of, rV_of, zI_of, zV_of, nz_and, br_T, br_F, br_T2, br_F2, st_eq, st9_0, st_k, st_i, true_and, and_true, Classical.not_not, rp_g1, rp_g2, rp_g3, rp_g4, rp_g5, rp_r0, rp_p2, rp_p3, rp_p4, rp_p5, rp_o]
  refine (c_X4_skip hl ht hd hn hB hz.1).cl0 (by decide) ?_
  simp (disch := omega) only [true_implies, false_implies, not_true_eq_false, not_false_eq_true, rR_of, I_n, I_neg, I_add, I_sub, I_mul, I_le4, I_lt4, I_eq4, I_div4, I_bi0, I_bi01, I_bi1, nor_em, rI_of, rV_of, zI_of, zV_of, nz_and, br_T, br_F, br_T2, br_F2, st_eq, st9_0, st_k, st_i, true_and, and_true, Classical.not_not, rp_g1, rp_g2, rp_g3, rp_g4, rp_g5, rp_r0, rp_p2, rp_p3, rp_p4, rp_p5, rp_o]
  refine ⟨fun h => ?_, fun h => ⟨fun h2 => ?_, fun h2 => ?_⟩⟩
  · rw [if_neg fun q => h q.1]
    all_goals first | rfl | exact ⟨rfl, rfl⟩
  · rw [if_neg fun q => by omega]
    all_goals first | rfl | exact ⟨rfl, rfl⟩
  · rw [if_pos ⟨h, by omega⟩]
    all_goals first | rfl | exact ⟨rfl, rfl⟩
theorem L_plan (hl : l.stackTraces = false) (ht : B.2 tx = some (ia X 400 (fun k => I (t k)))) (hd : tx ≠ d) (htp : tx < p ∨ p + 10 < tx) (hdp : d < p ∨ p + 10 < d) (hn : 0 ≤ n ∧ n ≤ 400) (hB : ∀ k, 0 ≤ k → k < 400 → 0 ≤ t k ∧ t k ≤ 255) {Q : Ot → AH → Prop} {bc bs : Nat} : ∀ (j : Nat) (k : Int) (z : RZ) (P : Nat → Int → Int), 0 ≤ k → k + j = n → ZI n z → SP P m →
    (∀ z' P', cLp t n j (z, P) = (z', P') → ZI n z' → G l X M_X4_readPlan 6 Q 104 [(0, .ref d), (5, .ref p)] [] (rp (pp X p B P') d tx n z') bc bs) →
    G l X M_X4_readPlan 6 Q 76 [(0, .ref d), (5, .ref p), (6, .int (I k))] [] (rp (pp X p B P) d tx n z) bc bs := by
  have ht2 : ∀ P, (pp X p B P).2 tx = some (ia X 400 (fun k => I (t k))) := fun P => (pp_out htp).trans ht
  intro j
  induction j with
  | zero =>
    intro k z P k0 kj hz hP K
    refine k_X4_readPlan_76 ?_
    simp (disch := omega) only [true_implies, false_implies, not_true_eq_false, not_false_eq_true, rR_of, I_n, I_neg, I_add, I_sub, I_mul, I_le4, I_lt4, I_eq4, I_div4, I_bi0, I_bi01, I_bi1, nor_em, rI_of, rV_of, zI_of, zV_of, nz_and, br_T, br_F, br_T2, br_F2, st_eq, st9_0, st_k, st_i, true_and, and_true, Classical.not_not, rp_g1, rp_g2, rp_g3, rp_g4, rp_g5, rp_r0, rp_p2, rp_p3, rp_p4, rp_p5, rp_o]
    exact K z P rfl hz
  | succ j ih =>
    intro k z P k0 kj hz hP K
    obtain ⟨b1, b2, b3⟩ := sk_b (t := t) (n := n) (p := z.1) hz.1.2
    have hz1 := hz.1
    have hz' : ZI n (sk t n z.1, z.2) := ⟨⟨by show 0 ≤ sk t n z.1; omega, b2⟩, hz.2⟩
    refine k_X4_readPlan_76 ?_
    simp (disch := omega) only [true_implies, false_implies, not_true_eq_false, not_false_eq_true, rR_of, I_n, I_neg, I_add, I_sub, I_mul, I_le4, I_lt4, I_eq4, I_div4, I_bi0, I_bi01, I_bi1, nor_em, rI_of, rV_of, zI_of, zV_of, nz_and, br_T, br_F, br_T2, br_F2, st_eq, st9_0, st_k, st_i, true_and, and_true, Classical.not_not, rp_g1, rp_g2, rp_g3, rp_g4, rp_g5, rp_r0, rp_p2, rp_p3, rp_p4, rp_p5, rp_o]
    refine (c_X4_hasMore hl (ht2 _) hd hn hB hz).cl0 (by decide) ?_
    by_cases hm : z.2.2.1 = 0 ∧ sk t n z.1 < n
    · rw [if_pos hm]
      simp (disch := omega) only [true_implies, false_implies, not_true_eq_false, not_false_eq_true, rR_of, I_n, I_neg, I_add, I_sub, I_mul, I_le4, I_lt4, I_eq4, I_div4, I_bi0, I_bi01, I_bi1, nor_em, rI_of, rV_of, zI_of, zV_of, nz_and, br_T, br_F, br_T2, br_F2, st_eq, st9_0, st_k, st_i, true_and, and_true, Classical.not_not, rp_g1, rp_g2, rp_g3, rp_g4, rp_g5, rp_r0, rp_p2, rp_p3, rp_p4, rp_p5, rp_o]
      refine (c_X4_takeStatement hl ht hd htp hdp hn hB hz' hP).cl0 (by decide) ?_
      simp (disch := omega) only [true_implies, false_implies, not_true_eq_false, not_false_eq_true, rR_of, I_n, I_neg, I_add, I_sub, I_mul, I_le4, I_lt4, I_eq4, I_div4, I_bi0, I_bi01, I_bi1, nor_em, rI_of, rV_of, zI_of, zV_of, nz_and, br_T, br_F, br_T2, br_F2, st_eq, st9_0, st_k, st_i, true_and, and_true, Classical.not_not, rp_g1, rp_g2, rp_g3, rp_g4, rp_g5, rp_r0, rp_p2, rp_p3, rp_p4, rp_p5, rp_o]
      obtain ⟨s1, s2⟩ := cSt_b (t := t) hz' hP
      refine ih (k + 1) _ _ (by omega) (by omega) s1 s2 fun z3 P3 e3 => K z3 P3 ?_
      exact (if_pos hm).trans e3
    · rw [if_neg hm]
      simp (disch := omega) only [true_implies, false_implies, not_true_eq_false, not_false_eq_true, rR_of, I_n, I_neg, I_add, I_sub, I_mul, I_le4, I_lt4, I_eq4, I_div4, I_bi0, I_bi01, I_bi1, nor_em, rI_of, rV_of, zI_of, zV_of, nz_and, br_T, br_F, br_T2, br_F2, st_eq, st9_0, st_k, st_i, true_and, and_true, Classical.not_not, rp_g1, rp_g2, rp_g3, rp_g4, rp_g5, rp_r0, rp_p2, rp_p3, rp_p4, rp_p5, rp_o]
      exact K _ _ (if_neg hm) hz'
end CY
