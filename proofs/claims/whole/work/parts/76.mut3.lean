/-! the class: writeMap, undo, append -/
section MX5
variable {l : Launch} {X : XT} {A A' : AH} {w w' : Nat → Nat} {t a p : Nat} {V : Nat → Int → Int} {f : Nat → Option Nat} {c : Option Nat} {S T : Nat → Int → Int} {e : Int} {D D' P : Nat → Int → Int} {la : Nat} {g : Nat → Option Nat} {m : Int32} {q r : Int → Int}
theorem sw_sti {i : Nat} {k v : Int} : st (sw S i q) i k v = sw S i (rs q k v) := by rw [sw_st, sw_sw, sw_i]
theorem m_writeMap (hl : l.stackTraces = false) {o : Nat} {fs : List Value} (h : TAt X A w t V a f c S) (ri : RI S e) (ho : A.2 o = some (ob 7 fs)) (hto : t ≠ o) (hol : o < A.1) : Ct l X 30 M_X5_writeMap [.ref t] A 24 850 (MP X A w o t S 0 "" "" (Ri (I (gN (S 0)))) (sw (st S 9 23 (gN (S 0))) 8 (wRow (S 8) (S 0) (gN (S 0))))) := by
  have w0 := ri.1
  obtain ⟨n1, n2, -⟩ := gN_b w0.1
  obtain ⟨Q, hQ⟩ : ∃ Q, Q = (MP X A w o t S 0 "" "" (Ri (I (gN (S 0)))) (sw (st S 9 23 (gN (S 0))) 8 (wRow (S 8) (S 0) (gN (S 0))))) := ⟨_, rfl⟩
  rw [← hQ]
  obtain ⟨B, hB⟩ : ∃ B, B = A := ⟨_, rfl⟩
  have hDB : ∀ V', DAt X (tp X t B V' a f c) w a (S 0) := fun V' => by
    rw [hB]
    exact h.2.2.1.1.chg (TlA.chg h.2.1) (by omega) (by have := h.2.2.1.2; omega)
  have e0 : A = tp X t B (sw V 1 (wRow (V 1) (S 0) ((0 : Nat) : Int))) a f c := by
    rw [show ((0 : Nat) : Int) = 0 from rfl, wRow_z, sw_self, hB]
    exact (tp_of h.1).symm
  have fin : Q (Ri (I (gN (S 0)))) (tp X t B (st (sw V 1 (wRow (V 1) (S 0) (gN (S 0)))) 2 4 (gN (S 0))) a f c) := by
    obtain ⟨hT, hO, ⟨hN, hat⟩, ⟨⟨g0, g1, g2, g3⟩, hn⟩, hc, h15, h4, h23, h8⟩ := id h
    have hOB : t + 3 < B.1 ∧ ∀ y, t ≤ y → y ≤ t + 3 → w y = t + 1 := by rw [hB]; exact h.2.1
    have cg : Chg w w (t + 1) A (tp X t B (st (sw V 1 (wRow (V 1) (S 0) (gN (S 0)))) 2 4 (gN (S 0))) a f c) := by
      rw [hB]
      exact TlA.chg hO
    have v2 : ∀ y, y ≠ 4 → st (sw V 1 (wRow (V 1) (S 0) (gN (S 0)))) 2 4 (gN (S 0)) 2 y = V 2 y := fun y hy => by rw [st_k hy, sw_j (by decide)]
    have v0 : st (sw V 1 (wRow (V 1) (S 0) (gN (S 0)))) 2 4 (gN (S 0)) 0 = V 0 := by rw [st_row (by decide), sw_j (by decide)]
    have v1 : st (sw V 1 (wRow (V 1) (S 0) (gN (S 0)))) 2 4 (gN (S 0)) 1 = wRow (V 1) (S 0) (gN (S 0)) := by rw [st_row (by decide), sw_i]
    have s9 : ∀ y, y ≠ 23 → (sw (st S 9 23 (gN (S 0))) 8 (wRow (S 8) (S 0) (gN (S 0)))) 9 y = S 9 y := fun y hy => by rw [sw_j (by decide), st_k hy]
    have s23 : (sw (st S 9 23 (gN (S 0))) 8 (wRow (S 8) (S 0) (gN (S 0)))) 9 23 = gN (S 0) := by rw [sw_j (by decide), st_eq]
    have sj : ∀ j : Nat, j ≠ 8 → j ≠ 9 → (sw (st S 9 23 (gN (S 0))) 8 (wRow (S 8) (S 0) (gN (S 0)))) j = S j := fun j h8 h9 => by rw [sw_j h8, st_row h9]
    rw [hQ]
    refine MP_ok (w' := w) (a' := a) (f' := f) (c' := c) rfl rfl ⟨tp_tl, hOB, ⟨?_, hat⟩, ⟨⟨by rw [v2 7 (by decide), v2 8 (by decide)]; exact g0, fun i i0 i1 => ?_, fun k k0 d hd => ?_, g3⟩, by rw [v2 8 (by decide), s9 4 (by decide)]; exact hn⟩, fun d hd => ?_, ?_, ?_, ?_, ?_⟩ (cg.fr (by omega) (by omega))
    · rw [sj 0 (by decide) (by decide)]
      exact hN.chg cg (by omega) (by omega)
    · rw [v2 8 (by decide)] at i1
      rw [v2 7 (by decide), v2 8 (by decide), sj 3 (by decide) (by decide)]
      obtain ⟨d, d1, d2⟩ := g1 i i0 i1
      obtain ⟨x1, x2, x3⟩ := g2 _ (by omega) d d1
      exact ⟨d, d1, d2.chg cg (by omega) (by omega)⟩
    · obtain ⟨x1, x2, x3⟩ := g2 k k0 d hd
      exact ⟨x1.chg cg (by omega) (by omega), x2, x3⟩
    · obtain ⟨x1, x2, x3, x4⟩ := hc d hd
      exact ⟨x1.chg cg (by omega) (by omega), x2, x3, x4⟩
    · rw [v2 2 (by decide), s9 15 (by decide)]
      exact h15
    · unfold TY
      rw [v2 1 (by decide), v0, s9 7 (by decide), sj 4 (by decide) (by decide)]
      exact h4
    · rw [s23]
      exact st_eq
    · rw [s23, v1, sw_i]
      intro k k0 k1
      unfold wRow
      rw [if_pos ⟨k0, k1⟩, if_pos ⟨k0, k1⟩]
  refine Ct.of hl rfl rfl (Nat.le_of_ble_eq_true rfl) (k_X5_writeMap_0 ?_)
  rw [e0]
  simp only [I_n]
  refine up_to (n := (gN (S 0)).toNat) (P := fun j => G l X M_X5_writeMap 30 Q 2 [(0, .ref t), (1, .int (I j))] [] (tp X t B (sw V 1 (wRow (V 1) (S 0) j)) a f c) 24 850) ?_ ?_
  · obtain ⟨p, D, P, la, g, m, hD, hP, hR, hDR, hL, hPT, hO, hOP, hd⟩ := (hDB (sw V 1 (wRow (V 1) (S 0) ((gN (S 0)).toNat : Nat)))).parts
    have hT := tp_tl (X := X) (t := t) (B := B) (V := sw V 1 (wRow (V 1) (S 0) ((gN (S 0)).toNat : Nat))) (a := a) (f := f) (c := c)
    have p2 := hR.1.2.2.1
    refine k_X5_writeMap_2 ?_
    simp (disch := omega) only [true_implies, false_implies, not_true_eq_false, not_false_eq_true, rR_of, I_n, I_neg, I_add, I_sub, I_mul, I_le4, I_lt4, I_eq4, I_div4, I_bi0, I_bi01, I_bi1, nor_em, rI_of, rV_of, zI_of, zV_of, nz_and, br_T, br_F, br_T2, br_F2, st_eq, st9_0, st_k, st_i, true_and, and_true, Classical.not_not, TlA.g1 hT, TlA.g2 hT, TlA.g4 hT, TlA.g7 hT, TlA.g8 hT, TlA.r0 hT, TlA.r3 hT, TlA.r6 hT, TlA.r5 hT, TlA.o hT, DlA.g5 hD, DlA.g6 hD, DlA.g7 hD, DlA.g8 hD, DlA.g9 hD, DlA.g10 hD, DlA.g14 hD, DlA.r0 hD, DlA.r1 hD, DlA.r2 hD, DlA.r3 hD, DlA.r4 hD, DlA.r11 hD, DlA.r12 hD, DlA.r13 hD, DlA.r15 hD, DlA.r16 hD, DlA.gA3 hD, DlA.rA0 hD, DlA.rA1 hD, DlA.rA2 hD, DlA.o hD, DlA.oA hD, PlanAt.g0 hP, PlanAt.g1 hP, PlanAt.g2 hP, PlanAt.g3 hP, PlanAt.g13 hP, PlanAt.g15 hP, PlanAt.r4 hP, PlanAt.r5 hP, PlanAt.r6 hP, PlanAt.r7 hP, PlanAt.r8 hP, PlanAt.r9 hP, PlanAt.r10 hP, PlanAt.r11 hP, PlanAt.r12 hP, PlanAt.r14 hP, PlanAt.isO hP]
    rw [p2, tp_pI4, tp_gI4, st_eq, show (((gN (S 0)).toNat : Nat) : Int) = gN (S 0) by omega]
    exact fin
  · intro j hj ih
    obtain ⟨p, D, P, la, g, m, hD, hP, hR, hDR, hL, hPT, hO, hOP, hd⟩ := (hDB (sw V 1 (wRow (V 1) (S 0) j))).parts
    have hT := tp_tl (X := X) (t := t) (B := B) (V := sw V 1 (wRow (V 1) (S 0) j)) (a := a) (f := f) (c := c)
    have p2 := hR.1.2.2.1
    have cw := wRow_s (q := V 1) (r := S 0) (n := j) (by omega)
    have e1 : ((j + 1 : Nat) : Int) = (j : Int) + 1 := rfl
    rw [e1, ← cw] at ih
    refine k_X5_writeMap_2 ?_
    simp (disch := omega) only [true_implies, false_implies, not_true_eq_false, not_false_eq_true, rR_of, I_n, I_neg, I_add, I_sub, I_mul, I_le4, I_lt4, I_eq4, I_div4, I_bi0, I_bi01, I_bi1, nor_em, rI_of, rV_of, zI_of, zV_of, nz_and, br_T, br_F, br_T2, br_F2, st_eq, st9_0, st_k, st_i, true_and, and_true, Classical.not_not, TlA.g1 hT, TlA.g2 hT, TlA.g4 hT, TlA.g7 hT, TlA.g8 hT, TlA.r0 hT, TlA.r3 hT, TlA.r6 hT, TlA.r5 hT, TlA.o hT, DlA.g5 hD, DlA.g6 hD, DlA.g7 hD, DlA.g8 hD, DlA.g9 hD, DlA.g10 hD, DlA.g14 hD, DlA.r0 hD, DlA.r1 hD, DlA.r2 hD, DlA.r3 hD, DlA.r4 hD, DlA.r11 hD, DlA.r12 hD, DlA.r13 hD, DlA.r15 hD, DlA.r16 hD, DlA.gA3 hD, DlA.rA0 hD, DlA.rA1 hD, DlA.rA2 hD, DlA.o hD, DlA.oA hD, PlanAt.g0 hP, PlanAt.g1 hP, PlanAt.g2 hP, PlanAt.g3 hP, PlanAt.g13 hP, PlanAt.g15 hP, PlanAt.r4 hP, PlanAt.r5 hP, PlanAt.r6 hP, PlanAt.r7 hP, PlanAt.r8 hP, PlanAt.r9 hP, PlanAt.r10 hP, PlanAt.r11 hP, PlanAt.r12 hP, PlanAt.r14 hP, PlanAt.isO hP]
    refine (c_signOf hl hT hD hP hR hDR w0 hd (by omega) (by omega)).cl0 (by decide) ?_
    simp (disch := omega) only [true_implies, false_implies, not_true_eq_false, not_false_eq_true, rR_of, I_n, I_neg, I_add, I_sub, I_mul, I_le4, I_lt4, I_eq4, I_div4, I_bi0, I_bi01, I_bi1, nor_em, rI_of, rV_of, zI_of, zV_of, nz_and, br_T, br_F, br_T2, br_F2, st_eq, st9_0, st_k, st_i, true_and, and_true, Classical.not_not, TlA.g1 hT, TlA.g2 hT, TlA.g4 hT, TlA.g7 hT, TlA.g8 hT, TlA.r0 hT, TlA.r3 hT, TlA.r6 hT, TlA.r5 hT, TlA.o hT, DlA.g5 hD, DlA.g6 hD, DlA.g7 hD, DlA.g8 hD, DlA.g9 hD, DlA.g10 hD, DlA.g14 hD, DlA.r0 hD, DlA.r1 hD, DlA.r2 hD, DlA.r3 hD, DlA.r4 hD, DlA.r11 hD, DlA.r12 hD, DlA.r13 hD, DlA.r15 hD, DlA.r16 hD, DlA.gA3 hD, DlA.rA0 hD, DlA.rA1 hD, DlA.rA2 hD, DlA.o hD, DlA.oA hD, PlanAt.g0 hP, PlanAt.g1 hP, PlanAt.g2 hP, PlanAt.g3 hP, PlanAt.g13 hP, PlanAt.g15 hP, PlanAt.r4 hP, PlanAt.r5 hP, PlanAt.r6 hP, PlanAt.r7 hP, PlanAt.r8 hP, PlanAt.r9 hP, PlanAt.r10 hP, PlanAt.r11 hP, PlanAt.r12 hP, PlanAt.r14 hP, PlanAt.isO hP]
    refine (put_t1 hl (by omega) (by omega)).cl0 (by decide) ?_
    simp (disch := omega) only [true_implies, false_implies, not_true_eq_false, not_false_eq_true, rR_of, I_n, I_neg, I_add, I_sub, I_mul, I_le4, I_lt4, I_eq4, I_div4, I_bi0, I_bi01, I_bi1, nor_em, rI_of, rV_of, zI_of, zV_of, nz_and, br_T, br_F, br_T2, br_F2, st_eq, st9_0, st_k, st_i, true_and, and_true, Classical.not_not, TlA.g1 hT, TlA.g2 hT, TlA.g4 hT, TlA.g7 hT, TlA.g8 hT, TlA.r0 hT, TlA.r3 hT, TlA.r6 hT, TlA.r5 hT, TlA.o hT, DlA.g5 hD, DlA.g6 hD, DlA.g7 hD, DlA.g8 hD, DlA.g9 hD, DlA.g10 hD, DlA.g14 hD, DlA.r0 hD, DlA.r1 hD, DlA.r2 hD, DlA.r3 hD, DlA.r4 hD, DlA.r11 hD, DlA.r12 hD, DlA.r13 hD, DlA.r15 hD, DlA.r16 hD, DlA.gA3 hD, DlA.rA0 hD, DlA.rA1 hD, DlA.rA2 hD, DlA.o hD, DlA.oA hD, PlanAt.g0 hP, PlanAt.g1 hP, PlanAt.g2 hP, PlanAt.g3 hP, PlanAt.g13 hP, PlanAt.g15 hP, PlanAt.r4 hP, PlanAt.r5 hP, PlanAt.r6 hP, PlanAt.r7 hP, PlanAt.r8 hP, PlanAt.r9 hP, PlanAt.r10 hP, PlanAt.r11 hP, PlanAt.r12 hP, PlanAt.r14 hP, PlanAt.isO hP]
    rw [sw_sti]
    exact ih
def uC (S : Nat → Int → Int) : Nat → Int → Int := sr (st S 9 4 (S 9 4 - 1)) (krow (S 3) (S 9 4 - 1))
theorem m_undo (hl : l.stackTraces = false) {o : Nat} {fs : List Value} (h : TAt X A w t V a f c S) (ri : RI S e) (ho : A.2 o = some (ob 7 fs)) (hto : t ≠ o) (hol : o < A.1) : Ct l X 30 M_X5_undo [.ref t] A 24 850 (MP X A w o t S (if S 9 4 = 0 then 1 else 0) "java/lang/IllegalStateException" "" (Ri (I (S 9 4 - 1))) (uC S)) := by
  obtain ⟨Q, hQ⟩ : ∃ Q, Q = (MP X A w o t S (if S 9 4 = 0 then 1 else 0) "java/lang/IllegalStateException" "" (Ri (I (S 9 4 - 1))) (uC S)) := ⟨_, rfl⟩
  rw [← hQ]
  obtain ⟨hT, hO, ⟨hN, hat⟩, ⟨⟨⟨g01, g02, g03, g04⟩, g1, g2, g3⟩, hn⟩, hc, h15, h4, h23, h8⟩ := id h
  obtain ⟨B, hB⟩ : ∃ B, B = A := ⟨_, rfl⟩
  have eA : A = tp X t B V a f c := by rw [hB]; exact (tp_of hT).symm
  obtain ⟨z, hz⟩ : ∃ z, z = V 2 7 + 8 - 1 - (V 2 7 + 8 - 1) / 8 * 8 := ⟨_, rfl⟩
  have z0 : 0 ≤ z ∧ z < 8 := by omega
  have zm : z = (V 2 7 + 7) % 8 := by omega
  have bad : S 9 4 = 0 → G l X M_X5_undo 30 Q 30 [] [] A 24 850 := fun hz => k_X5_undo_30 ⟨by decide, by decide, fun n hn => by
    rw [hQ]
    exact MP_1 h (if_pos hz) hn rfl⟩
  refine Ct.of hl rfl rfl (Nat.le_of_ble_eq_true rfl) (k_X5_undo_0 ?_)
  rw [eA]
  simp (disch := omega) only [true_implies, false_implies, not_true_eq_false, not_false_eq_true, rR_of, I_n, I_neg, I_add, I_sub, I_mul, I_le4, I_lt4, I_eq4, I_div4, I_bi0, I_bi01, I_bi1, nor_em, rI_of, rV_of, zI_of, zV_of, nz_and, br_T, br_F, br_T2, br_F2, st_eq, st9_0, st_k, st_i, true_and, and_true, Classical.not_not, tp_gI1, tp_gI2, tp_gI4, tp_gI7, tp_gI8, tp_pI1, tp_pI2, tp_pI4, tp_pI7, tp_pI8, tp_gR0, tp_gR3, tp_gR6, tp_gR5, tp_pR5, tp_pR9, tp_o]
  rw [← hz]
  refine (c_X5_pastAt hl z0.1 z0.2).cl0 (by decide) (rQ_of ?_)
  simp (disch := omega) only [true_implies, false_implies, not_true_eq_false, not_false_eq_true, rR_of, I_n, I_neg, I_add, I_sub, I_mul, I_le4, I_lt4, I_eq4, I_div4, I_bi0, I_bi01, I_bi1, nor_em, rI_of, rV_of, zI_of, zV_of, nz_and, br_T, br_F, br_T2, br_F2, st_eq, st9_0, st_k, st_i, true_and, and_true, Classical.not_not, tp_gI1, tp_gI2, tp_gI4, tp_gI7, tp_gI8, tp_pI1, tp_pI2, tp_pI4, tp_pI7, tp_pI8, tp_gR0, tp_gR3, tp_gR6, tp_gR5, tp_pR5, tp_pR9, tp_o]
  refine ⟨fun q => ?_, fun q => ⟨fun b hb => ?_, fun hb => ?_⟩⟩
  · rw [← eA]
    exact bad (by omega)
  · have hnz : S 9 4 ≠ 0 := by omega
    obtain ⟨d, d1, d2⟩ := g1 (S 9 4 - 1) (by omega) (by omega)
    rw [show ((V 2 7 - V 2 8 + (S 9 4 - 1)) % 8).toNat = z.toNat by omega, hb] at d1
    injection d1 with d1
    subst d1
    obtain ⟨b1, b2, b3⟩ := g2 _ (by omega) b hb
    obtain ⟨p, D, P, la, g, m, hD, -⟩ := id hN
    refine (c_X5_putPast hl (vs := dfs a p (D 10)) (by rw [← eA]; exact hD.1) z0.1 z0.2).cl0 (by decide) ?_
    simp (disch := omega) only [true_implies, false_implies, not_true_eq_false, not_false_eq_true, rR_of, I_n, I_neg, I_add, I_sub, I_mul, I_le4, I_lt4, I_eq4, I_div4, I_bi0, I_bi01, I_bi1, nor_em, rI_of, rV_of, zI_of, zV_of, nz_and, br_T, br_F, br_T2, br_F2, st_eq, st9_0, st_k, st_i, true_and, and_true, Classical.not_not, tp_gI1, tp_gI2, tp_gI4, tp_gI7, tp_gI8, tp_pI1, tp_pI2, tp_pI4, tp_pI7, tp_pI8, tp_gR0, tp_gR3, tp_gR6, tp_gR5, tp_pR5, tp_pR9, tp_o]
    have hOB : t + 3 < B.1 ∧ ∀ y, t ≤ y → y ≤ t + 3 → w y = t + 1 := by rw [hB]; exact h.2.1
    have cg : Chg w w (t + 1) A (tp X t B (st (st V 2 7 z) 2 8 (V 2 8 - 1)) b (va_up f z.toNat (some a)) c) := by
      rw [hB]
      exact TlA.chg hO
    have upe : va_up f z.toNat (some a) z.toNat = some a := if_pos rfl
    have upn : ∀ k, k ≠ z.toNat → va_up f z.toNat (some a) k = f k := fun k hk => if_neg hk
    have v2 : ∀ y, y ≠ 7 → y ≠ 8 → st (st V 2 7 z) 2 8 (V 2 8 - 1) 2 y = V 2 y := fun y h7 h8 => by rw [st_k h8, st_k h7]
    have v7 : st (st V 2 7 z) 2 8 (V 2 8 - 1) 2 7 = z := by rw [st_k (by decide), st_eq]
    have v8 : st (st V 2 7 z) 2 8 (V 2 8 - 1) 2 8 = V 2 8 - 1 := st_eq
    have vj : ∀ j : Nat, j ≠ 2 → st (st V 2 7 z) 2 8 (V 2 8 - 1) j = V j := fun j hj => by rw [st_row hj, st_row hj]
    have s9 : ∀ y, y ≠ 4 → uC S 9 y = S 9 y := fun y hy => by
      unfold uC
      exact st_k hy
    have s94 : uC S 9 4 = S 9 4 - 1 := by
      show st S 9 4 (S 9 4 - 1) 9 4 = _
      exact st_eq
    have e8 : V 2 8 - 1 = S 9 4 - 1 := by omega
    rw [hQ]
    refine MP_ok (w' := w) (V' := st (st V 2 7 z) 2 8 (V 2 8 - 1)) (a' := b) (f' := va_up f z.toNat (some a)) (c' := c) (if_neg hnz) (by rw [e8]) ⟨tp_tl, hOB, ⟨?_, b3⟩, ⟨⟨by rw [v7, v8]; omega, fun i i0 i1 => ?_, fun k k0 d hd => ?_, fun j k j0 k0 d hj hk => ?_⟩, by rw [v8, s94]; omega⟩, fun d hd => ?_, ?_, ?_, ?_, ?_⟩ (cg.fr (by omega) (by omega))
    · exact d2.chg cg (by omega) (by omega)
    · rw [v8] at i1
      rw [v7, v8]
      obtain ⟨d, d1, d2'⟩ := g1 i i0 (by omega)
      obtain ⟨x1, x2, x3⟩ := g2 _ (by omega) d d1
      have es : ((z - (V 2 8 - 1) + i) % 8).toNat = ((V 2 7 - V 2 8 + i) % 8).toNat := by omega
      rw [es]
      exact ⟨d, (upn _ (by omega)).trans d1, d2'.chg cg (by omega) (by omega)⟩
    · by_cases hk : k = z.toNat
      · rw [hk, upe] at hd
        injection hd with hd
        subst hd
        exact ⟨hN.sh.chg cg (by omega) (by omega), fun q => b2 q.symm, hat⟩
      · rw [upn k hk] at hd
        obtain ⟨x1, x2, x3⟩ := g2 k k0 d hd
        refine ⟨x1.chg cg (by omega) (by omega), fun q => ?_, x3⟩
        subst q
        exact hk (g3 k z.toNat k0 (by omega) d hd hb)
    · by_cases e1 : j = z.toNat
      · by_cases e2 : k = z.toNat
        · omega
        · rw [e1, upe] at hj
          injection hj with hj
          subst hj
          rw [upn k e2] at hk
          exact absurd rfl (g2 k k0 a hk).2.1
      · by_cases e2 : k = z.toNat
        · rw [e2, upe] at hk
          injection hk with hk
          subst hk
          rw [upn j e1] at hj
          exact absurd rfl (g2 j j0 a hj).2.1
        · rw [upn j e1] at hj
          rw [upn k e2] at hk
          exact g3 j k j0 k0 d hj hk
    · obtain ⟨x1, x2, x3, x4⟩ := hc d hd
      refine ⟨x1.chg cg (by omega) (by omega), fun q => ?_, x3, fun k k0 hk => ?_⟩
      · subst q
        exact x4 _ (by omega) hb
      · by_cases e2 : k = z.toNat
        · rw [e2, upe] at hk
          injection hk with hk
          exact x2 hk.symm
        · rw [upn k e2] at hk
          exact x4 k k0 hk
    · rw [v2 2 (by decide) (by decide), s9 15 (by decide)]
      exact h15
    · unfold TY
      rw [v2 1 (by decide) (by decide), vj 0 (by decide), s9 7 (by decide)]
      exact h4
    · rw [v2 4 (by decide) (by decide), s9 23 (by decide)]
      exact h23
    · rw [vj 1 (by decide), s9 23 (by decide)]
      exact h8
  · obtain ⟨d, d1, d2⟩ := g1 (S 9 4 - 1) (by omega) (by omega)
    rw [show ((V 2 7 - V 2 8 + (S 9 4 - 1)) % 8).toNat = z.toNat by omega, hb] at d1
    cases d1
def apC (S : Nat → Int → Int) (q : Int → Int) : Nat → Int → Int := st (sw S 4 (cpy (S 4) q 0 (S 9 7) 20)) 9 7 (S 9 7 + 20)
theorem m_append (hl : l.stackTraces = false) {o : Nat} {fs : List Value} (h : TAt X A w t V a f c S) (ri : RI S e) (ho : A.2 o = some (ob 7 fs)) (hto : t ≠ o) (hol : o < A.1) {v1 v2 v3 v4 v5 : Int32} : Ct l X 2 M_X5_append [.ref t, .int v1, .int v2, .int v3, .int v4, .int v5] A 1 6 (MP X A w o t S (if S 9 7 + 20 ≤ 400 then 0 else 1) "java/lang/IllegalStateException" "" (Ri (I (S 9 7 + 20))) (apC S (apB v1 v2 v3 v4 v5))) := by
  have c7 := ri.2.2.2.1
  obtain ⟨hT, hO, ⟨hN, hat⟩, ⟨⟨g0, g1, g2, g3⟩, hn⟩, hc, h15, h4, h23, h8⟩ := id h
  obtain ⟨B, hB⟩ : ∃ B, B = A := ⟨_, rfl⟩
  have eA : A = tp X t B V a f c := by rw [hB]; exact (tp_of hT).symm
  have h1 := h4.1
  have hh := c_X5_append (X := X) (t := t) (B := B) (a := a) (f := f) (c := c) (V := V) hl (by omega) (v1 := v1) (v2 := v2) (v3 := v3) (v4 := v4) (v5 := v5)
  rw [← eA] at hh
  obtain ⟨T, hT'⟩ : ∃ T, T = cpy (S 4) (apB v1 v2 v3 v4 v5) 0 (S 9 7) 20 := ⟨_, rfl⟩
  have hTk : ∀ k, 0 ≤ k → k < 20 → T (S 9 7 + k) = apB v1 v2 v3 v4 v5 k := fun k k0 k1 => by
    rw [hT']
    unfold cpy
    rw [if_pos (by omega)]
    exact congrArg _ (by omega)
  have tx0 : TX V T (S 9 7) := ⟨h1, fun k k0 k1 => by
    rw [hT']
    unfold cpy
    rw [if_neg (by omega)]
    exact h4.2 k k0⟩
  have ev : ∀ (i : Int) (vi : Int32), (i = 0 ∧ vi = v1 ∨ i = 4 ∧ vi = v2 ∨ i = 8 ∧ vi = v3 ∨ i = 12 ∧ vi = v4 ∨ i = 16 ∧ vi = v5) → ∀ j, 0 ≤ j → j < 4 → T (S 9 7 + i + j) = gBy vi (24 - 8 * j) := fun i vi hi j j0 j1 => by
    rw [Int.add_assoc, hTk (i + j) (by omega) (by omega)]
    have e2 : 24 - 8 * (i + j - (i + j) / 4 * 4) = 24 - 8 * j := by omega
    unfold apB
    rw [e2]
    refine congrArg (fun x => gBy x (24 - 8 * j)) ?_
    unfold apV
    rcases hi with ⟨hi, rfl⟩ | ⟨hi, rfl⟩ | ⟨hi, rfl⟩ | ⟨hi, rfl⟩ | ⟨hi, rfl⟩
    · rw [if_neg (by omega)]
    · rw [if_pos (by omega), if_neg (by omega)]
    · rw [if_pos (by omega), if_pos (by omega), if_neg (by omega)]
    · rw [if_pos (by omega), if_pos (by omega), if_pos (by omega), if_neg (by omega)]
    · rw [if_pos (by omega), if_pos (by omega), if_pos (by omega), if_pos (by omega)]
  have step : ∀ (i : Int) (vi : Int32) (W : Nat → Int → Int), (i = 0 ∧ vi = v1 ∨ i = 4 ∧ vi = v2 ∨ i = 8 ∧ vi = v3 ∨ i = 12 ∧ vi = v4 ∨ i = 16 ∧ vi = v5) → TX W T (S 9 7 + i) → TX (kAp W vi) T (S 9 7 + i + 4) := fun i vi W hi hw => by
    refine TX_4 hw ?_ ?_ ?_ ?_
    · have := ev i vi hi 0 (by decide) (by decide)
      rwa [Int.add_zero] at this
    · exact ev i vi hi 1 (by decide) (by decide)
    · exact ev i vi hi 2 (by decide) (by decide)
    · exact ev i vi hi 3 (by decide) (by decide)
  have t1 := step 0 v1 V (by simp) (by rw [Int.add_zero]; exact tx0)
  have t2 := step 4 v2 _ (by simp) (by rw [Int.add_zero] at t1; exact t1)
  have t3 := step 8 v3 _ (by simp) (by rw [Int.add_assoc] at t2; exact t2)
  have t4 := step 12 v4 _ (by simp) (by rw [Int.add_assoc] at t3; exact t3)
  have t5 := step 16 v5 _ (by simp) (by rw [Int.add_assoc] at t4; exact t4)
  rw [Int.add_assoc] at t5
  refine hh.mono ?_
  rintro o1 A1 (⟨h2, rfl, rfl⟩ | ⟨h2, rfl, h3, h5⟩)
  · obtain ⟨W, hW⟩ : ∃ W, W = kAp (kAp (kAp (kAp (kAp V v1) v2) v3) v4) v5 := ⟨_, rfl⟩
    rw [← hW] at t5
    rw [← hW]
    have w2 : ∀ y, y ≠ 1 → W 2 y = V 2 y := fun y hy => by
      rw [hW, kAp_o.1 y hy, kAp_o.1 y hy, kAp_o.1 y hy, kAp_o.1 y hy, kAp_o.1 y hy]
    have w1 : W 1 = V 1 := by
      rw [hW, kAp_o.2.1 1 (by decide) (by decide), kAp_o.2.1 1 (by decide) (by decide), kAp_o.2.1 1 (by decide) (by decide), kAp_o.2.1 1 (by decide) (by decide), kAp_o.2.1 1 (by decide) (by decide)]
    have hOB : t + 3 < B.1 ∧ ∀ y, t ≤ y → y ≤ t + 3 → w y = t + 1 := by rw [hB]; exact h.2.1
    have cg : Chg w w (t + 1) A (tp X t B W a f c) := by
      rw [hB]
      exact TlA.chg hO
    have s9 : ∀ y, y ≠ 7 → apC S (apB v1 v2 v3 v4 v5) 9 y = S 9 y := fun y hy => by
      unfold apC
      rw [st_k hy, sw_j (by decide)]
    have sj : ∀ j : Nat, j ≠ 4 → j ≠ 9 → apC S (apB v1 v2 v3 v4 v5) j = S j := fun j h4 h9 => by
      unfold apC
      rw [st_row h9, sw_j h4]
    have s97 : apC S (apB v1 v2 v3 v4 v5) 9 7 = S 9 7 + 20 := by
      unfold apC
      exact st_eq
    have s4 : apC S (apB v1 v2 v3 v4 v5) 4 = T := by
      unfold apC
      rw [st_row (by decide), sw_i, hT']
    refine MP_ok (w' := w) (a' := a) (f' := f) (c' := c) (if_pos (by omega)) (by rw [h1]) ⟨tp_tl, hOB, ⟨?_, hat⟩, ⟨⟨by rw [w2 7 (by decide), w2 8 (by decide)]; exact g0, fun i i0 i1 => ?_, fun k k0 d hd => ?_, g3⟩, by rw [w2 8 (by decide), s9 4 (by decide)]; exact hn⟩, fun d hd => ?_, ?_, ?_, ?_, ?_⟩ (cg.fr (by omega) (by omega))
    · rw [sj 0 (by decide) (by decide)]
      exact hN.chg cg (by omega) (by omega)
    · rw [w2 8 (by decide)] at i1
      rw [w2 7 (by decide), w2 8 (by decide), sj 3 (by decide) (by decide)]
      obtain ⟨d, d1, d2⟩ := g1 i i0 i1
      obtain ⟨x1, x2, x3⟩ := g2 _ (by omega) d d1
      exact ⟨d, d1, d2.chg cg (by omega) (by omega)⟩
    · obtain ⟨x1, x2, x3⟩ := g2 k k0 d hd
      exact ⟨x1.chg cg (by omega) (by omega), x2, x3⟩
    · obtain ⟨x1, x2, x3, x4⟩ := hc d hd
      exact ⟨x1.chg cg (by omega) (by omega), x2, x3, x4⟩
    · rw [w2 2 (by decide), s9 15 (by decide)]
      exact h15
    · rw [s97, s4]
      refine ⟨t5.1, fun k k0 => ?_⟩
      by_cases hk : k < S 9 7 + 20
      · exact t5.2 k k0 hk
      · have e1 := (kAp_o (V := V) (v := v1)).2.2
        have e2 := (kAp_o (V := kAp V v1) (v := v2)).2.2
        have e3 := (kAp_o (V := kAp (kAp V v1) v2) (v := v3)).2.2
        have e4 := (kAp_o (V := kAp (kAp (kAp V v1) v2) v3) (v := v4)).2.2
        rw [hW, kAp_hi (by omega), kAp_hi (by omega), kAp_hi (by omega), kAp_hi (by omega), kAp_hi (by omega), h4.2 k k0, hT']
        unfold cpy
        rw [if_neg (by omega)]
    · rw [w2 4 (by decide), s9 23 (by decide)]
      exact h23
    · rw [w1, s9 23 (by decide), sj 8 (by decide) (by decide)]
      exact h8
  · exact MP_1 h (if_neg (by omega)) (by rw [hB] at h3; exact h3) h5
end MX5
