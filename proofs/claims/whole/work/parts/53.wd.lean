/-! the class's Reader: words, semicolons -/
def wdS (t : Int → Int) (n p : Int) (i : Nat) : Nat → Int → Int
  | 0, _ => 1
  | m + 1, j => if gSee t n (p + j) = tC i j then wdS t n p i m (j + 1) else 0
def cIsR (t : Int → Int) (n p : Int) (i : Nat) (m : Nat) (j : Int) : Int := if wdS t n p i m j = 1 then (if 97 ≤ gSee t n (p + tL i) ∧ gSee t n (p + tL i) ≤ 122 then 0 else 1) else 0
def cIs (t : Int → Int) (n : Int) (i : Nat) (p : Int) : Int := cIsR t n p i (tL i).toNat 0
def cTk (t : Int → Int) (n : Int) (i : Nat) (z : RZ) : RZ := if cIs t n i z.1 = 1 then (z.1 + tL i, z.2) else z
def cWd (t : Int → Int) (n : Int) (i : Nat) (z : RZ) : RZ := if cIs t n i (sk t n z.1) = 1 then (sk t n z.1 + tL i, z.2) else zFail (sk t n z.1, z.2) (-2) (sk t n z.1)
def cSe (t : Int → Int) (n : Int) (z : RZ) : RZ := if gSee t n (sk t n z.1) = 59 then (sk t n z.1 + 1, z.2) else zFail (sk t n z.1, z.2) (-2) (sk t n z.1)
section CW
variable {l : Launch} {X : XT} {A : AH} {d tx : Nat} {n : Int} {z : RZ} {t : Int → Int}
theorem L_isT (hl : l.stackTraces = false) (ht : A.2 tx = some (ia X 400 (fun k => I (t k)))) (hd : tx ≠ d) (hn : 0 ≤ n ∧ n ≤ 400) (hB : ∀ k, 0 ≤ k → k < 400 → 0 ≤ t k ∧ t k ≤ 255) {y : Int × Int × Int} {Q : Ot → AH → Prop} {i : Nat} (hi : i < 12) {p : Int} (p0 : 0 ≤ p ∧ p ≤ 500) : ∀ (m : Nat) (j : Int), 0 ≤ j → j + m = tL i → Q (Ri (I (cIsR t n p i m j))) (rp A d tx n (if cIsR t n p i m j = 1 then (p + tL i, y) else (p, y))) →
    G l X M_X4_isTaken 4 Q 7 [(0, .ref d), (1, .ref (xK X i)), (2, .int (I (tL i))), (3, .int (I j))] [] (rp A d tx n (p, y)) 0 0 := by
  have hL := tL_b i hi
  intro m
  induction m with
  | zero =>
    intro j j0 hj K
    have hb := gSee_b (t := t) (n := n) (k := p + tL i) hn.2 (by omega) hB
    have yes : ¬ (97 ≤ gSee t n (p + tL i) ∧ gSee t n (p + tL i) ≤ 122) → G l X M_X4_isTaken 4 Q 63 [(0, .ref d), (2, .int (I (tL i)))] [] (rp A d tx n (p, y)) 0 0 := by
      intro hno
      have e : cIsR t n p i 0 j = 1 := (if_pos rfl).trans (if_neg hno)
      rw [e, if_pos rfl] at K
      refine k_X4_isTaken_63 ?_
      simp (disch := omega) only [true_implies, false_implies, not_true_eq_false, not_false_eq_true, rR_of, I_n, I_neg, I_add, I_sub, I_mul, I_le4, I_lt4, I_eq4, I_div4, I_bi0, I_bi01, I_bi1, nor_em, rI_of, rV_of, zI_of, zV_of, nz_and, br_T, br_F, br_T2, br_F2, st_eq, st9_0, st_k, st_i, true_and, and_true, Classical.not_not, rp_g1, rp_g2, rp_g3, rp_g4, rp_g5, rp_r0, rp_p2, rp_p3, rp_p4, rp_p5, rp_o]
      exact K
    refine k_X4_isTaken_7 ?_
    simp (disch := omega) only [true_implies, false_implies, not_true_eq_false, not_false_eq_true, rR_of, I_n, I_neg, I_add, I_sub, I_mul, I_le4, I_lt4, I_eq4, I_div4, I_bi0, I_bi01, I_bi1, nor_em, rI_of, rV_of, zI_of, zV_of, nz_and, br_T, br_F, br_T2, br_F2, st_eq, st9_0, st_k, st_i, true_and, and_true, Classical.not_not, rp_g1, rp_g2, rp_g3, rp_g4, rp_g5, rp_r0, rp_p2, rp_p3, rp_p4, rp_p5, rp_o]
    refine (c_X4_byteAt (k := p + tL i) hl ht hd hn (by omega) (by omega)).cl0 (by decide) ?_
    simp (disch := omega) only [true_implies, false_implies, not_true_eq_false, not_false_eq_true, rR_of, I_n, I_neg, I_add, I_sub, I_mul, I_le4, I_lt4, I_eq4, I_div4, I_bi0, I_bi01, I_bi1, nor_em, rI_of, rV_of, zI_of, zV_of, nz_and, br_T, br_F, br_T2, br_F2, st_eq, st9_0, st_k, st_i, true_and, and_true, Classical.not_not, rp_g1, rp_g2, rp_g3, rp_g4, rp_g5, rp_r0, rp_p2, rp_p3, rp_p4, rp_p5, rp_o]
    refine ⟨fun h => yes (by omega), fun h => ⟨fun h2 => yes (by omega), fun h2 => ?_⟩⟩
    have e : cIsR t n p i 0 j = 0 := (if_pos rfl).trans (if_pos (by omega))
    rw [e, if_neg (by decide)] at K
    exact K
  | succ m ih =>
    intro j j0 hj K
    have hb := gSee_b (t := t) (n := n) (k := p + j) hn.2 (by omega) hB
    have hn2 := tL_n i hi
    have hc := tC_b i hi j.toNat (by omega)
    rw [show ((j.toNat : Nat) : Int) = j by omega] at hc
    refine k_X4_isTaken_7 ?_
    simp (disch := omega) only [true_implies, false_implies, not_true_eq_false, not_false_eq_true, rR_of, I_n, I_neg, I_add, I_sub, I_mul, I_le4, I_lt4, I_eq4, I_div4, I_bi0, I_bi01, I_bi1, nor_em, rI_of, rV_of, zI_of, zV_of, nz_and, br_T, br_F, br_T2, br_F2, st_eq, st9_0, st_k, st_i, true_and, and_true, Classical.not_not, rp_g1, rp_g2, rp_g3, rp_g4, rp_g5, rp_r0, rp_p2, rp_p3, rp_p4, rp_p5, rp_o]
    refine (c_X4_byteAt (k := p + j) hl ht hd hn (by omega) (by omega)).cl0 (by decide) ?_
    simp (disch := omega) only [true_implies, false_implies, not_true_eq_false, not_false_eq_true, rR_of, I_n, I_neg, I_add, I_sub, I_mul, I_le4, I_lt4, I_eq4, I_div4, I_bi0, I_bi01, I_bi1, nor_em, rI_of, rV_of, zI_of, zV_of, nz_and, br_T, br_F, br_T2, br_F2, st_eq, st9_0, st_k, st_i, true_and, and_true, Classical.not_not, rp_g1, rp_g2, rp_g3, rp_g4, rp_g5, rp_r0, rp_p2, rp_p3, rp_p4, rp_p5, rp_o]
    refine ⟨i, rfl, hi, (c_J0_charAt hl hi j0 (by omega)).cl0 (by decide) ?_⟩
    simp (disch := omega) only [true_implies, false_implies, not_true_eq_false, not_false_eq_true, rR_of, I_n, I_neg, I_add, I_sub, I_mul, I_le4, I_lt4, I_eq4, I_div4, I_bi0, I_bi01, I_bi1, nor_em, rI_of, rV_of, zI_of, zV_of, nz_and, br_T, br_F, br_T2, br_F2, st_eq, st9_0, st_k, st_i, true_and, and_true, Classical.not_not, rp_g1, rp_g2, rp_g3, rp_g4, rp_g5, rp_r0, rp_p2, rp_p3, rp_p4, rp_p5, rp_o]
    refine ⟨fun h => ?_, fun h => ?_⟩
    · have e : cIsR t n p i (m + 1) j = cIsR t n p i m (j + 1) := by
        unfold cIsR
        rw [show wdS t n p i (m + 1) j = wdS t n p i m (j + 1) from if_pos h]
      rw [e] at K
      exact ih (j + 1) (by omega) (by omega) K
    · have e : cIsR t n p i (m + 1) j = 0 := by
        unfold cIsR
        rw [show wdS t n p i (m + 1) j = 0 from if_neg h]
        rfl
      rw [e, if_neg (by decide)] at K
      exact K
theorem c_X4_isTaken (hl : l.stackTraces = false) (ht : A.2 tx = some (ia X 400 (fun k => I (t k)))) (hd : tx ≠ d) (hn : 0 ≤ n ∧ n ≤ 400) (hB : ∀ k, 0 ≤ k → k < 400 → 0 ≤ t k ∧ t k ≤ 255) {i : Nat} (hi : i < 12) (hz : 0 ≤ z.1 ∧ z.1 ≤ n) : Fn l X 4 M_X4_isTaken [.ref d, .ref (xK X i)] (rp A d tx n z) 0 0 (Ri (I (cIs t n i z.1))) (rp A d tx n (cTk t n i z)) := by
  have hL := tL_b i hi
  refine Fn.of hl rfl rfl (Nat.le_of_ble_eq_true rfl) (k_X4_isTaken_0 ?_)
  refine ⟨i, rfl, hi, (c_J0_length hl hi).cl0 (by decide) ?_⟩
  simp (disch := omega) only [true_implies, false_implies, not_true_eq_false, not_false_eq_true, rR_of, I_n, I_neg, I_add, I_sub, I_mul, I_le4, I_lt4, I_eq4, I_div4, I_bi0, I_bi01, I_bi1, nor_em, rI_of, rV_of, zI_of, zV_of, nz_and, br_T, br_F, br_T2, br_F2, st_eq, st9_0, st_k, st_i, true_and, and_true, Classical.not_not, rp_g1, rp_g2, rp_g3, rp_g4, rp_g5, rp_r0, rp_p2, rp_p3, rp_p4, rp_p5, rp_o]
  exact L_isT (y := z.2) hl ht hd hn hB hi (by omega) (tL i).toNat 0 (by omega) (by omega) ⟨rfl, rfl⟩
theorem c_X4_takeWord (hl : l.stackTraces = false) (ht : A.2 tx = some (ia X 400 (fun k => I (t k)))) (hd : tx ≠ d) (hn : 0 ≤ n ∧ n ≤ 400) (hB : ∀ k, 0 ≤ k → k < 400 → 0 ≤ t k ∧ t k ≤ 255) {i : Nat} (hi : i < 12) (hz : 0 ≤ z.1 ∧ z.1 ≤ n) (he : sm z.2.2.1) : Fn l X 5 M_X4_takeWord [.ref d, .ref (xK X i)] (rp A d tx n z) 0 0 Rv (rp A d tx n (cWd t n i z)) := by
  obtain ⟨b1, b2, b3⟩ := sk_b (t := t) (n := n) (p := z.1) hz.2
  refine Fn.of hl rfl rfl (Nat.le_of_ble_eq_true rfl) (k_X4_takeWord_0 ?_)
  simp (disch := omega) only [true_implies, false_implies, not_true_eq_false, not_false_eq_true, rR_of, I_n, I_neg, I_add, I_sub, I_mul, I_le4, I_lt4, I_eq4, I_div4, I_bi0, I_bi01, I_bi1, nor_em, rI_of, rV_of, zI_of, zV_of, nz_and, br_T, br_F, br_T2, br_F2, st_eq, st9_0, st_k, st_i, true_and, and_true, Classical.not_not, rp_g1, rp_g2, rp_g3, rp_g4, rp_g5, rp_r0, rp_p2, rp_p3, rp_p4, rp_p5, rp_o]
  refine (c_X4_skip hl ht hd hn hB hz).cl0 (by decide) ?_
  simp (disch := omega) only [true_implies, false_implies, not_true_eq_false, not_false_eq_true, rR_of, I_n, I_neg, I_add, I_sub, I_mul, I_le4, I_lt4, I_eq4, I_div4, I_bi0, I_bi01, I_bi1, nor_em, rI_of, rV_of, zI_of, zV_of, nz_and, br_T, br_F, br_T2, br_F2, st_eq, st9_0, st_k, st_i, true_and, and_true, Classical.not_not, rp_g1, rp_g2, rp_g3, rp_g4, rp_g5, rp_r0, rp_p2, rp_p3, rp_p4, rp_p5, rp_o]
  refine (c_X4_isTaken (z := (sk t n z.1, z.2)) hl ht hd hn hB hi ⟨by show 0 ≤ sk t n z.1; omega, b2⟩).cl0 (by decide) ?_
  unfold cTk cWd
  have h01 : cIs t n i (sk t n z.1) = 0 ∨ cIs t n i (sk t n z.1) = 1 := by
    unfold cIs cIsR
    split
    · split
      · exact Or.inl rfl
      · exact Or.inr rfl
    · exact Or.inl rfl
  show rI (Ri (I (cIs t n i (sk t n z.1)))) _ _
  rcases h01 with h | h
  · rw [h]
    simp only [show ¬ (0 : Int) = 1 by decide, if_false]
    simp (disch := omega) only [true_implies, false_implies, not_true_eq_false, not_false_eq_true, rR_of, I_n, I_neg, I_add, I_sub, I_mul, I_le4, I_lt4, I_eq4, I_div4, I_bi0, I_bi01, I_bi1, nor_em, rI_of, rV_of, zI_of, zV_of, nz_and, br_T, br_F, br_T2, br_F2, st_eq, st9_0, st_k, st_i, true_and, and_true, Classical.not_not, rp_g1, rp_g2, rp_g3, rp_g4, rp_g5, rp_r0, rp_p2, rp_p3, rp_p4, rp_p5, rp_o]
    refine (c_X4_fail (z := (sk t n z.1, z.2)) hl he).cl0 (by decide) ?_
    simp (disch := omega) only [true_implies, false_implies, not_true_eq_false, not_false_eq_true, rR_of, I_n, I_neg, I_add, I_sub, I_mul, I_le4, I_lt4, I_eq4, I_div4, I_bi0, I_bi01, I_bi1, nor_em, rI_of, rV_of, zI_of, zV_of, nz_and, br_T, br_F, br_T2, br_F2, st_eq, st9_0, st_k, st_i, true_and, and_true, Classical.not_not, rp_g1, rp_g2, rp_g3, rp_g4, rp_g5, rp_r0, rp_p2, rp_p3, rp_p4, rp_p5, rp_o]
    all_goals first | rfl | exact ⟨rfl, rfl⟩
  · rw [h]
    simp only [if_true]
    simp (disch := omega) only [true_implies, false_implies, not_true_eq_false, not_false_eq_true, rR_of, I_n, I_neg, I_add, I_sub, I_mul, I_le4, I_lt4, I_eq4, I_div4, I_bi0, I_bi01, I_bi1, nor_em, rI_of, rV_of, zI_of, zV_of, nz_and, br_T, br_F, br_T2, br_F2, st_eq, st9_0, st_k, st_i, true_and, and_true, Classical.not_not, rp_g1, rp_g2, rp_g3, rp_g4, rp_g5, rp_r0, rp_p2, rp_p3, rp_p4, rp_p5, rp_o]
    all_goals first | rfl | exact ⟨rfl, rfl⟩
theorem c_X4_takeSemicolon (hl : l.stackTraces = false) (ht : A.2 tx = some (ia X 400 (fun k => I (t k)))) (hd : tx ≠ d) (hn : 0 ≤ n ∧ n ≤ 400) (hB : ∀ k, 0 ≤ k → k < 400 → 0 ≤ t k ∧ t k ≤ 255) (hz : 0 ≤ z.1 ∧ z.1 ≤ n) (he : sm z.2.2.1) : Fn l X 3 M_X4_takeSemicolon [.ref d] (rp A d tx n z) 0 0 Rv (rp A d tx n (cSe t n z)) := by
  obtain ⟨b1, b2, b3⟩ := sk_b (t := t) (n := n) (p := z.1) hz.2
  have hb := gSee_b (t := t) (n := n) (k := sk t n z.1) hn.2 (by omega) hB
  refine Fn.of hl rfl rfl (Nat.le_of_ble_eq_true rfl) (k_X4_takeSemicolon_0 ?_)
  simp (disch := omega) only [true_implies, false_implies, not_true_eq_false, not_false_eq_true, rR_of, I_n, I_neg, I_add, I_sub, I_mul, I_le4, I_lt4, I_eq4, I_div4, I_bi0, I_bi01, I_bi1, nor_em, rI_of, rV_of, zI_of, zV_of, nz_and, br_T, br_F, br_T2, br_F2, st_eq, st9_0, st_k, st_i, true_and, and_true, Classical.not_not, rp_g1, rp_g2, rp_g3, rp_g4, rp_g5, rp_r0, rp_p2, rp_p3, rp_p4, rp_p5, rp_o]
  refine (c_X4_skip hl ht hd hn hB hz).cl0 (by decide) ?_
  simp (disch := omega) only [true_implies, false_implies, not_true_eq_false, not_false_eq_true, rR_of, I_n, I_neg, I_add, I_sub, I_mul, I_le4, I_lt4, I_eq4, I_div4, I_bi0, I_bi01, I_bi1, nor_em, rI_of, rV_of, zI_of, zV_of, nz_and, br_T, br_F, br_T2, br_F2, st_eq, st9_0, st_k, st_i, true_and, and_true, Classical.not_not, rp_g1, rp_g2, rp_g3, rp_g4, rp_g5, rp_r0, rp_p2, rp_p3, rp_p4, rp_p5, rp_o]
  refine (c_X4_byteAt hl ht hd hn (by omega) (by omega)).cl0 (by decide) ?_
  unfold cSe
  simp (disch := omega) only [true_implies, false_implies, not_true_eq_false, not_false_eq_true, rR_of, I_n, I_neg, I_add, I_sub, I_mul, I_le4, I_lt4, I_eq4, I_div4, I_bi0, I_bi01, I_bi1, nor_em, rI_of, rV_of, zI_of, zV_of, nz_and, br_T, br_F, br_T2, br_F2, st_eq, st9_0, st_k, st_i, true_and, and_true, Classical.not_not, rp_g1, rp_g2, rp_g3, rp_g4, rp_g5, rp_r0, rp_p2, rp_p3, rp_p4, rp_p5, rp_o]
  refine ⟨fun h => ?_, fun h => ?_⟩
  · rw [if_neg h]
    refine (c_X4_fail (z := (sk t n z.1, z.2)) hl he).cl0 (by decide) ?_
    simp (disch := omega) only [true_implies, false_implies, not_true_eq_false, not_false_eq_true, rR_of, I_n, I_neg, I_add, I_sub, I_mul, I_le4, I_lt4, I_eq4, I_div4, I_bi0, I_bi01, I_bi1, nor_em, rI_of, rV_of, zI_of, zV_of, nz_and, br_T, br_F, br_T2, br_F2, st_eq, st9_0, st_k, st_i, true_and, and_true, Classical.not_not, rp_g1, rp_g2, rp_g3, rp_g4, rp_g5, rp_r0, rp_p2, rp_p3, rp_p4, rp_p5, rp_o]
    all_goals first | rfl | exact ⟨rfl, rfl⟩
  · rw [if_pos h]
    all_goals first | rfl | exact ⟨rfl, rfl⟩
end CW
