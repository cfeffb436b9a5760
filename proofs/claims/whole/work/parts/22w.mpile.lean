/-! the reference: the pile of looks -/
section MW
variable {l : Launch} {X : XT} {o : Nat} {B A : AH} {S : Nat → Int → Int} {e : Int}
theorem L_look (hl : l.stackTraces = false) (w : RW (S 0) e) {k : Int} (h0 : 0 ≤ k) (h1 : k < gN (S 0)) {Q : Ot → AH → Prop} : ∀ (d : Nat) (i n c : Int) (F M fd : Int → Int) (a fo : Int), 0 ≤ i → 1 ≤ n → n ≤ 2 ^ d → i + n ≤ gPo (S 0) k → 0 ≤ c → c + d ≤ 50 →
    (∀ F' M' : Int → Int, (∀ q, q < c → F' q = F q ∧ M' q = M q) → G l X M_X6_looks 5 Q 60 [(0, .ref o), (2, .int (I (gF (S 0) k))), (3, .int (I c)), (4, .int (I 0))] [] (mp X o B (lkS S F' M' (mark fd (look (S 0) (gF (S 0) k) d i n).1) (a + (look (S 0) (gF (S 0) k) d i n).2) (fo + (look (S 0) (gF (S 0) k) d i n).1.length))) 0 0) →
    G l X M_X6_looks 5 Q 106 [(0, .ref o), (2, .int (I (gF (S 0) k))), (3, .int (I c)), (5, .int (I i)), (6, .int (I n))] [.int (I 0)] (mp X o B (lkS S F M fd a fo)) 0 0 := by
  obtain ⟨p1, p2, -⟩ := gPo_b w.1 h0 h1
  obtain ⟨q1, q2, -⟩ := gE_b w.1
  have ask : ∀ (d : Nat) (i n c : Int) (F M fd : Int → Int) (a fo : Int), 0 ≤ i → 1 ≤ n → i + n ≤ gPo (S 0) k → 0 ≤ c → c ≤ 50 → F c = i → M c = n →
      (∀ F' M' : Int → Int, (∀ q, q < c → F' q = F q ∧ M' q = M q) → G l X M_X6_looks 5 Q 60 [(0, .ref o), (2, .int (I (gF (S 0) k))), (3, .int (I c)), (4, .int (I 0))] [] (mp X o B (lkS S F' M' (mark fd (if gRt (S 0) (gF (S 0) k + i) n = 1 then ([], 0) else look (S 0) (gF (S 0) k) d i n).1) (a + ((if gRt (S 0) (gF (S 0) k + i) n = 1 then ([], 0) else look (S 0) (gF (S 0) k) d i n).2 + 1)) (fo + (if gRt (S 0) (gF (S 0) k + i) n = 1 then ([], 0) else look (S 0) (gF (S 0) k) d i n).1.length))) 0 0) →
      (∀ (a' : Int), a' = a + 1 → ¬ gRt (S 0) (gF (S 0) k + i) n = 1 → G l X M_X6_looks 5 Q 106 [(0, .ref o), (2, .int (I (gF (S 0) k))), (3, .int (I c)), (5, .int (I i)), (6, .int (I n))] [.int (I 0)] (mp X o B (lkS S F M fd a' fo)) 0 0) →
      G l X M_X6_looks 5 Q 60 [(0, .ref o), (2, .int (I (gF (S 0) k))), (3, .int (I (c + 1))), (4, .int (I 0))] [] (mp X o B (lkS S F M fd a fo)) 0 0 := by
    intro d i n c F M fd a fo hi hn hin hc hc2 hF hM K N
    have ar := c_X6_isRight (X := X) (o := o) (B := B) (S := lkS S F M fd a fo) hl (by rw [lk_0]; exact w) (k := k) (i := i) (n := n) h0 (by rw [lk_0]; exact h1) hi hn (by rw [lk_0]; exact hin)
    rw [lk_0, lk_19, lk_s19] at ar
    have hb : 0 ≤ gRt (S 0) (gF (S 0) k + i) n ∧ gRt (S 0) (gF (S 0) k + i) n ≤ 1 := bi_b
    refine k_X6_looks_60 ?_
    simp (disch := omega) only [lk_0, lk_5, lk_6, lk_7, lk_19, lk_20, lk_s5, lk_s6, lk_s7, lk_s19, lk_s20, true_implies, false_implies, not_true_eq_false, not_false_eq_true, I_n, I_neg, I_add, I_sub, I_mul, I_le4, I_lt4, I_eq4, I_div4, I_bi0, I_bi01, I_bi1, nor_em, rI_of, rV_of, zI_of, zV_of, nz_and, br_T, br_F, br_T2, br_F2, st_eq, st9_0, st_k, st_i, true_and, and_true, Classical.not_not, mp_isO, mp_gI4, mp_gI5, mp_gI7, mp_gI8, mp_gI9, mp_gI10, mp_gI11, mp_gI12, mp_gI13, mp_gI14, mp_gI15, mp_gI19, mp_gI20, mp_gI21, mp_gI23, mp_pI4, mp_pI5, mp_pI7, mp_pI8, mp_pI9, mp_pI10, mp_pI11, mp_pI12, mp_pI13, mp_pI14, mp_pI15, mp_pI19, mp_pI20, mp_pI21, mp_pI23, mp_gR0, mp_gR1, mp_gR2, mp_gR3, mp_gR6, mp_gR16, mp_gR17, mp_gR18, mp_gR22, mp_aI0, mp_aI1, mp_aI2, mp_aI3, mp_aI4, mp_aI5, mp_aI6, mp_aZ7, mp_aI8, mp_sI0, mp_sI1, mp_sI2, mp_sI3, mp_sI4, mp_sI5, mp_sI6, mp_sI8, mp_sZ0, mp_sZ1]
    rw [show c + 1 + -1 = c by omega, hF, hM]
    refine ar.cl0 (by decide) ?_
    simp (disch := omega) only [lk_0, lk_5, lk_6, lk_7, lk_19, lk_20, lk_s5, lk_s6, lk_s7, lk_s19, lk_s20, true_implies, false_implies, not_true_eq_false, not_false_eq_true, I_n, I_neg, I_add, I_sub, I_mul, I_le4, I_lt4, I_eq4, I_div4, I_bi0, I_bi01, I_bi1, nor_em, rI_of, rV_of, zI_of, zV_of, nz_and, br_T, br_F, br_T2, br_F2, st_eq, st9_0, st_k, st_i, true_and, and_true, Classical.not_not, mp_isO, mp_gI4, mp_gI5, mp_gI7, mp_gI8, mp_gI9, mp_gI10, mp_gI11, mp_gI12, mp_gI13, mp_gI14, mp_gI15, mp_gI19, mp_gI20, mp_gI21, mp_gI23, mp_pI4, mp_pI5, mp_pI7, mp_pI8, mp_pI9, mp_pI10, mp_pI11, mp_pI12, mp_pI13, mp_pI14, mp_pI15, mp_pI19, mp_pI20, mp_pI21, mp_pI23, mp_gR0, mp_gR1, mp_gR2, mp_gR3, mp_gR6, mp_gR16, mp_gR17, mp_gR18, mp_gR22, mp_aI0, mp_aI1, mp_aI2, mp_aI3, mp_aI4, mp_aI5, mp_aI6, mp_aZ7, mp_aI8, mp_sI0, mp_sI1, mp_sI2, mp_sI3, mp_sI4, mp_sI5, mp_sI6, mp_sI8, mp_sZ0, mp_sZ1]
    refine ⟨fun h => ?_, fun h => ?_⟩
    · exact N (a + 1) rfl (by omega)
    · have e : gRt (S 0) (gF (S 0) k + i) n = 1 := by omega
      have k1 := K F M fun q _ => ⟨rfl, rfl⟩
      rw [if_pos e] at k1
      refine k_X6_looks_106 ?_
      simp (disch := omega) only [lk_0, lk_5, lk_6, lk_7, lk_19, lk_20, lk_s5, lk_s6, lk_s7, lk_s19, lk_s20, true_implies, false_implies, not_true_eq_false, not_false_eq_true, I_n, I_neg, I_add, I_sub, I_mul, I_le4, I_lt4, I_eq4, I_div4, I_bi0, I_bi01, I_bi1, nor_em, rI_of, rV_of, zI_of, zV_of, nz_and, br_T, br_F, br_T2, br_F2, st_eq, st9_0, st_k, st_i, true_and, and_true, Classical.not_not, mp_isO, mp_gI4, mp_gI5, mp_gI7, mp_gI8, mp_gI9, mp_gI10, mp_gI11, mp_gI12, mp_gI13, mp_gI14, mp_gI15, mp_gI19, mp_gI20, mp_gI21, mp_gI23, mp_pI4, mp_pI5, mp_pI7, mp_pI8, mp_pI9, mp_pI10, mp_pI11, mp_pI12, mp_pI13, mp_pI14, mp_pI15, mp_pI19, mp_pI20, mp_pI21, mp_pI23, mp_gR0, mp_gR1, mp_gR2, mp_gR3, mp_gR6, mp_gR16, mp_gR17, mp_gR18, mp_gR22, mp_aI0, mp_aI1, mp_aI2, mp_aI3, mp_aI4, mp_aI5, mp_aI6, mp_aZ7, mp_aI8, mp_sI0, mp_sI1, mp_sI2, mp_sI3, mp_sI4, mp_sI5, mp_sI6, mp_sI8, mp_sZ0, mp_sZ1]
      rw [show fo + (([] : List Int).length : Int) = fo from Int.add_zero fo, Int.zero_add] at k1
      exact k1
  intro d
  induction d with
  | zero =>
    intro i n c F M fd a fo hi hn hnd hin hc hcd K
    have e1 : n = 1 := by
      have : (2 : Int) ^ 0 = 1 := rfl
      omega
    subst e1
    have k1 := K F M fun q _ => ⟨rfl, rfl⟩
    have e2 : look (S 0) (gF (S 0) k) 0 i 1 = ([i], 0) := rfl
    rw [e2] at k1
    refine k_X6_looks_106 ?_
    simp (disch := omega) only [lk_0, lk_5, lk_6, lk_7, lk_19, lk_20, lk_s5, lk_s6, lk_s7, lk_s19, lk_s20, true_implies, false_implies, not_true_eq_false, not_false_eq_true, I_n, I_neg, I_add, I_sub, I_mul, I_le4, I_lt4, I_eq4, I_div4, I_bi0, I_bi01, I_bi1, nor_em, rI_of, rV_of, zI_of, zV_of, nz_and, br_T, br_F, br_T2, br_F2, st_eq, st9_0, st_k, st_i, true_and, and_true, Classical.not_not, mp_isO, mp_gI4, mp_gI5, mp_gI7, mp_gI8, mp_gI9, mp_gI10, mp_gI11, mp_gI12, mp_gI13, mp_gI14, mp_gI15, mp_gI19, mp_gI20, mp_gI21, mp_gI23, mp_pI4, mp_pI5, mp_pI7, mp_pI8, mp_pI9, mp_pI10, mp_pI11, mp_pI12, mp_pI13, mp_pI14, mp_pI15, mp_pI19, mp_pI20, mp_pI21, mp_pI23, mp_gR0, mp_gR1, mp_gR2, mp_gR3, mp_gR6, mp_gR16, mp_gR17, mp_gR18, mp_gR22, mp_aI0, mp_aI1, mp_aI2, mp_aI3, mp_aI4, mp_aI5, mp_aI6, mp_aZ7, mp_aI8, mp_sI0, mp_sI1, mp_sI2, mp_sI3, mp_sI4, mp_sI5, mp_sI6, mp_sI8, mp_sZ0, mp_sZ1]
    rw [Int.add_zero] at k1
    exact k1
  | succ d ih =>
    intro i n c F M fd a fo hi hn hnd hin hc hcd K
    by_cases e1 : n = 1
    · subst e1
      have k1 := K F M fun q _ => ⟨rfl, rfl⟩
      have e2 : look (S 0) (gF (S 0) k) (d + 1) i 1 = ([i], 0) := rfl
      rw [e2] at k1
      refine k_X6_looks_106 ?_
      simp (disch := omega) only [lk_0, lk_5, lk_6, lk_7, lk_19, lk_20, lk_s5, lk_s6, lk_s7, lk_s19, lk_s20, true_implies, false_implies, not_true_eq_false, not_false_eq_true, I_n, I_neg, I_add, I_sub, I_mul, I_le4, I_lt4, I_eq4, I_div4, I_bi0, I_bi01, I_bi1, nor_em, rI_of, rV_of, zI_of, zV_of, nz_and, br_T, br_F, br_T2, br_F2, st_eq, st9_0, st_k, st_i, true_and, and_true, Classical.not_not, mp_isO, mp_gI4, mp_gI5, mp_gI7, mp_gI8, mp_gI9, mp_gI10, mp_gI11, mp_gI12, mp_gI13, mp_gI14, mp_gI15, mp_gI19, mp_gI20, mp_gI21, mp_gI23, mp_pI4, mp_pI5, mp_pI7, mp_pI8, mp_pI9, mp_pI10, mp_pI11, mp_pI12, mp_pI13, mp_pI14, mp_pI15, mp_pI19, mp_pI20, mp_pI21, mp_pI23, mp_gR0, mp_gR1, mp_gR2, mp_gR3, mp_gR6, mp_gR16, mp_gR17, mp_gR18, mp_gR22, mp_aI0, mp_aI1, mp_aI2, mp_aI3, mp_aI4, mp_aI5, mp_aI6, mp_aZ7, mp_aI8, mp_sI0, mp_sI1, mp_sI2, mp_sI3, mp_sI4, mp_sI5, mp_sI6, mp_sI8, mp_sZ0, mp_sZ1]
      rw [Int.add_zero] at k1
      exact k1
    · have hp : (2 : Int) ^ (d + 1) = 2 ^ d * 2 := Int.pow_succ 2 d
      obtain ⟨L, hL⟩ : ∃ L, L = (if gRt (S 0) (gF (S 0) k + i) ((n + 1) / 2) = 1 then ([], 0) else look (S 0) (gF (S 0) k) d i ((n + 1) / 2)) := ⟨_, rfl⟩
      obtain ⟨R, hR⟩ : ∃ R, R = (if gRt (S 0) (gF (S 0) k + (i + (n + 1) / 2)) (n - (n + 1) / 2) = 1 then ([], 0) else look (S 0) (gF (S 0) k) d (i + (n + 1) / 2) (n - (n + 1) / 2)) := ⟨_, rfl⟩
      have e2 : look (S 0) (gF (S 0) k) (d + 1) i n = (L.1 ++ R.1, L.2 + 1 + (R.2 + 1)) := by
        rw [hL, hR]
        exact if_neg (by omega)
      obtain ⟨F1, hF1⟩ : ∃ F1, F1 = rs (rs F c (i + (n + 1) / 2)) (c + 1) i := ⟨_, rfl⟩
      obtain ⟨M1, hM1⟩ : ∃ M1, M1 = rs (rs M c (n - (n + 1) / 2)) (c + 1) ((n + 1) / 2) := ⟨_, rfl⟩
      have fin : ∀ F' M' : Int → Int, (∀ q, q < c + 1 → F' q = F1 q ∧ M' q = M1 q) → ∀ F'' M'' : Int → Int, (∀ q, q < c → F'' q = F' q ∧ M'' q = M' q) → G l X M_X6_looks 5 Q 60 [(0, .ref o), (2, .int (I (gF (S 0) k))), (3, .int (I c)), (4, .int (I 0))] [] (mp X o B (lkS S F'' M'' (mark (mark fd L.1) R.1) (a + (L.2 + 1) + (R.2 + 1)) (fo + L.1.length + R.1.length))) 0 0 := by
        intro F' M' g1 F'' M'' g2
        have k1 := K F'' M'' fun q hq => by
          obtain ⟨x1, x2⟩ := g1 q (by omega)
          obtain ⟨y1, y2⟩ := g2 q hq
          rw [y1, y2, x1, x2, hF1, hM1, rs_ne (by omega), rs_ne (by omega), rs_ne (by omega), rs_ne (by omega)]
          exact ⟨rfl, rfl⟩
        rw [e2] at k1
        simp only [mark_app, List.length_append, Int.natCast_add] at k1
        rw [Int.add_assoc a, Int.add_assoc fo]
        exact k1
      have right : ∀ F' M' : Int → Int, (∀ q, q < c + 1 → F' q = F1 q ∧ M' q = M1 q) → G l X M_X6_looks 5 Q 60 [(0, .ref o), (2, .int (I (gF (S 0) k))), (3, .int (I (c + 1))), (4, .int (I 0))] [] (mp X o B (lkS S F' M' (mark fd L.1) (a + (L.2 + 1)) (fo + L.1.length))) 0 0 := by
        intro F' M' g1
        obtain ⟨x1, x2⟩ := g1 c (by omega)
        rw [hF1, rs_ne (by omega), rs_eq] at x1
        rw [hM1, rs_ne (by omega), rs_eq] at x2
        refine ask d (i + (n + 1) / 2) (n - (n + 1) / 2) c F' M' (mark fd L.1) (a + (L.2 + 1)) (fo + L.1.length) (by omega) (by omega) (by omega) hc (by omega) x1 x2 ?_ ?_
        · intro F'' M'' g2
          rw [← hR]
          exact fin F' M' g1 F'' M'' g2
        · intro a' ha hr
          subst ha
          rw [if_neg hr] at hR
          refine ih (i + (n + 1) / 2) (n - (n + 1) / 2) c F' M' (mark fd L.1) (a + (L.2 + 1) + 1) (fo + L.1.length) (by omega) (by omega) (by omega) (by omega) hc (by omega) ?_
          intro F'' M'' g2
          rw [← hR, Int.add_assoc (a + (L.2 + 1)) 1, Int.add_comm 1]
          exact fin F' M' g1 F'' M'' g2
      refine k_X6_looks_106 ?_
      simp (disch := omega) only [lk_0, lk_5, lk_6, lk_7, lk_19, lk_20, lk_s5, lk_s6, lk_s7, lk_s19, lk_s20, true_implies, false_implies, not_true_eq_false, not_false_eq_true, I_n, I_neg, I_add, I_sub, I_mul, I_le4, I_lt4, I_eq4, I_div4, I_bi0, I_bi01, I_bi1, nor_em, rI_of, rV_of, zI_of, zV_of, nz_and, br_T, br_F, br_T2, br_F2, st_eq, st9_0, st_k, st_i, true_and, and_true, Classical.not_not, mp_isO, mp_gI4, mp_gI5, mp_gI7, mp_gI8, mp_gI9, mp_gI10, mp_gI11, mp_gI12, mp_gI13, mp_gI14, mp_gI15, mp_gI19, mp_gI20, mp_gI21, mp_gI23, mp_pI4, mp_pI5, mp_pI7, mp_pI8, mp_pI9, mp_pI10, mp_pI11, mp_pI12, mp_pI13, mp_pI14, mp_pI15, mp_pI19, mp_pI20, mp_pI21, mp_pI23, mp_gR0, mp_gR1, mp_gR2, mp_gR3, mp_gR6, mp_gR16, mp_gR17, mp_gR18, mp_gR22, mp_aI0, mp_aI1, mp_aI2, mp_aI3, mp_aI4, mp_aI5, mp_aI6, mp_aZ7, mp_aI8, mp_sI0, mp_sI1, mp_sI2, mp_sI3, mp_sI4, mp_sI5, mp_sI6, mp_sI8, mp_sZ0, mp_sZ1]
      rw [← hF1, ← hM1, show c + 2 = c + 1 + 1 by omega]
      refine ask d i ((n + 1) / 2) (c + 1) F1 M1 fd a fo hi (by omega) (by omega) (by omega) (by omega) (by rw [hF1, rs_eq]) (by rw [hM1, rs_eq]) ?_ ?_
      · intro F' M' g1
        rw [← hL]
        exact right F' M' g1
      · intro a' ha hr
        subst ha
        rw [if_neg hr] at hL
        refine ih i ((n + 1) / 2) (c + 1) F1 M1 fd (a + 1) fo hi (by omega) (by omega) (by omega) (by omega) (by omega) ?_
        intro F' M' g1
        rw [← hL, Int.add_assoc a 1, Int.add_comm 1]
        exact right F' M' g1
end MW
