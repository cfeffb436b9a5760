/-! the class: putPart, breakBytes -/
def kPut (r : Int → Int) (D : Nat → Int → Int) (p s : Int) (q : Int → Int) : Nat → Int → Int := st (st (st (sw D 0 (cpy (D 0) q (gPl r p) (gPl r p) (gPt r p))) 1 p s) 2 (gPc r p) (D 2 (gPc r p) - 1)) 10 5 (D 10 5 - 1)
def kB1 (r : Int → Int) (t x n : Int) (g : Int → Int) (b : Int) : Int → Int := if r (44 + 3 * b) = t ∧ r (44 + 3 * b + 1) < n then rs g (x + r (44 + 3 * b + 1)) ((g (x + r (44 + 3 * b + 1)) + r (44 + 3 * b + 2)) % 256) else g
def kBs (r : Int → Int) (t x n : Int) (g : Int → Int) : Nat → Int → Int
  | 0 => g
  | m + 1 => kB1 r t x n (kBs r t x n g m) m
theorem kBs_b {r : Int → Int} {e t x n : Int} {g : Int → Int} (w : RW r e) (hx : 0 ≤ x) (hn : x + n ≤ 240) (hg : ∀ k, 0 ≤ k → k < 240 → 0 ≤ g k ∧ g k ≤ 255) : ∀ m : Nat, m ≤ (r 11).toNat → (∀ k, 0 ≤ k → k < 240 → 0 ≤ kBs r t x n g m k ∧ kBs r t x n g m k ≤ 255) ∧ ∀ y, y < x ∨ x + n ≤ y → kBs r t x n g m y = g y := by
  intro m
  induction m with
  | zero => intro _; exact ⟨hg, fun _ _ => rfl⟩
  | succ m ih =>
    intro hm
    obtain ⟨i1, i2⟩ := ih (by omega)
    have c3 := w.2.2.2.1
    have f2 := w.2.2.2.2.2.2.2.1 m (by omega) (by omega)
    show (∀ k, 0 ≤ k → k < 240 → 0 ≤ kB1 r t x n (kBs r t x n g m) m k ∧ kB1 r t x n (kBs r t x n g m) m k ≤ 255) ∧ ∀ y, y < x ∨ x + n ≤ y → kB1 r t x n (kBs r t x n g m) m y = g y
    unfold kB1
    split
    · rename_i h
      refine ⟨fun k k0 k1 => rs_rng (i1 k k0 k1) fun _ => by omega, fun y hy => ?_⟩
      rw [rs_ne (by omega)]
      exact i2 y hy
    · exact ⟨i1, i2⟩
section CB
variable {l : Launch} {X : XT} {a p : Nat} {B : AH} {D P : Nat → Int → Int} {r : Int → Int} {e lo hi : Int}
theorem c_X5_addTo0 (hl : l.stackTraces = false) (hg : ∀ k, 0 ≤ k → k < 240 → 0 ≤ D 0 k ∧ D 0 k ≤ 255) {k v : Int} (h0 : 0 ≤ k) (h1 : k < 240) (hv : 0 ≤ v) : Fn l X 1 M_X5_addTo [.ref (a + 1), .int (I k), .int (I v)] (dp X a p B D) 0 0 Rv (dp X a p B (st D 0 k ((D 0 k + v) % 256))) := by
  have g := hg k h0 h1
  refine Fn.of hl rfl rfl (Nat.le_of_ble_eq_true rfl) (k_X5_addTo_0 ?_)
  refine (at_d0 hl (by omega) (by omega)).cl0 (by decide) ?_
  simp (disch := omega) only [true_implies, false_implies, not_true_eq_false, not_false_eq_true, I_n, I_neg, I_add, I_sub, I_mul, I_le4, I_lt4, I_eq4, I_div4, I_bi0, I_bi01, I_bi1, nor_em, rI_of, rV_of, zI_of, zV_of, nz_and, br_T, br_F, br_T2, br_F2, st_eq, st9_0, st_k, st_i, true_and, and_true, Classical.not_not, rR_of, dp_gI5, dp_gI6, dp_gI7, dp_gI8, dp_gI9, dp_gI10, dp_gI14, dp_pI5, dp_pI6, dp_pI7, dp_pI8, dp_pI9, dp_pI10, dp_pI14, dp_gR0, dp_gR1, dp_gR2, dp_gR3, dp_gR4, dp_gR11, dp_gR12, dp_gR13, dp_gR15, dp_gR16, dp_gA3, dp_pA3, dp_gAR0, dp_gAR1, dp_gAR2, dp_isO, dp_isA]
  rw [I_and255 (by omega)]
  refine (put_d0 hl (by omega) (by omega)).cl0 (by decide) ?_
  simp (disch := omega) only [true_implies, false_implies, not_true_eq_false, not_false_eq_true, I_n, I_neg, I_add, I_sub, I_mul, I_le4, I_lt4, I_eq4, I_div4, I_bi0, I_bi01, I_bi1, nor_em, rI_of, rV_of, zI_of, zV_of, nz_and, br_T, br_F, br_T2, br_F2, st_eq, st9_0, st_k, st_i, true_and, and_true, Classical.not_not, rR_of, dp_gI5, dp_gI6, dp_gI7, dp_gI8, dp_gI9, dp_gI10, dp_gI14, dp_pI5, dp_pI6, dp_pI7, dp_pI8, dp_pI9, dp_pI10, dp_pI14, dp_gR0, dp_gR1, dp_gR2, dp_gR3, dp_gR4, dp_gR11, dp_gR12, dp_gR13, dp_gR15, dp_gR16, dp_gA3, dp_pA3, dp_gAR0, dp_gAR1, dp_gAR2, dp_isO, dp_isA]
theorem c_X1_putPart (hl : l.stackTraces = false) (hd : p + 10 < a ∨ a + 12 < p) (hP : PlanAt X B p P) (hR : PR P r) (g : GW r) {k s : Int} (k0 : 0 ≤ k) (k1 : k < gT r) {b n : Nat} {q : Int → Int} (hb : B.2 b = some (ia X n (fun k => I (q k)))) (hbd : b < a ∨ a + 12 < b) (hn : n ≤ 240) (hkn : gPl r k + gPt r k ≤ n) : Fn l X 2 M_X1_putPart [.ref a, .int (I k), .ref b, .int (I s)] (dp X a p B D) 0 0 Rv (dp X a p B (kPut r D k s q)) := by
  obtain ⟨t1, t2⟩ := gT_b g
  have lg := g.2.1
  obtain ⟨b1, b2, b3, b4, b5, b6⟩ := gPl_b g k0 k1
  obtain ⟨c1, c2, c3, c4⟩ := gPc_b g k0 k1
  obtain ⟨n1, n2, -⟩ := gN_b g
  have hp := fun D => dp_pl (D := D) hd hP
  have el : gLs r k = gPl r k := if_pos k1
  have g3 := g.2.2.2
  have e6 := hR.2.2.2.2.2.1 k k0 k1
  refine Fn.of hl rfl rfl (Nat.le_of_ble_eq_true rfl) (k_X1_putPart_0 ?_)
  simp (disch := omega) only [true_implies, false_implies, not_true_eq_false, not_false_eq_true, I_n, I_neg, I_add, I_sub, I_mul, I_le4, I_lt4, I_eq4, I_div4, I_bi0, I_bi01, I_bi1, nor_em, rI_of, rV_of, zI_of, zV_of, nz_and, br_T, br_F, br_T2, br_F2, st_eq, st9_0, st_k, st_i, true_and, and_true, Classical.not_not, rR_of, dp_gI5, dp_gI6, dp_gI7, dp_gI8, dp_gI9, dp_gI10, dp_gI14, dp_pI5, dp_pI6, dp_pI7, dp_pI8, dp_pI9, dp_pI10, dp_pI14, dp_gR0, dp_gR1, dp_gR2, dp_gR3, dp_gR4, dp_gR11, dp_gR12, dp_gR13, dp_gR15, dp_gR16, dp_gA3, dp_pA3, dp_gAR0, dp_gAR1, dp_gAR2, dp_isO, dp_isA]
  refine ⟨(hp _).isO, (c_X3_partStart hl (hp _) hR g k0 (by omega)).cl0 (by decide) ?_⟩
  rw [el]
  simp (disch := omega) only [true_implies, false_implies, not_true_eq_false, not_false_eq_true, I_n, I_neg, I_add, I_sub, I_mul, I_le4, I_lt4, I_eq4, I_div4, I_bi0, I_bi01, I_bi1, nor_em, rI_of, rV_of, zI_of, zV_of, nz_and, br_T, br_F, br_T2, br_F2, st_eq, st9_0, st_k, st_i, true_and, and_true, Classical.not_not, rR_of, dp_gI5, dp_gI6, dp_gI7, dp_gI8, dp_gI9, dp_gI10, dp_gI14, dp_pI5, dp_pI6, dp_pI7, dp_pI8, dp_pI9, dp_pI10, dp_pI14, dp_gR0, dp_gR1, dp_gR2, dp_gR3, dp_gR4, dp_gR11, dp_gR12, dp_gR13, dp_gR15, dp_gR16, dp_gA3, dp_pA3, dp_gAR0, dp_gAR1, dp_gAR2, dp_isO, dp_isA]
  refine ⟨(hp _).isO, (c_X3_partLength hl (hp _) hR g k0 k1).cl0 (by decide) ?_⟩
  simp (disch := omega) only [true_implies, false_implies, not_true_eq_false, not_false_eq_true, I_n, I_neg, I_add, I_sub, I_mul, I_le4, I_lt4, I_eq4, I_div4, I_bi0, I_bi01, I_bi1, nor_em, rI_of, rV_of, zI_of, zV_of, nz_and, br_T, br_F, br_T2, br_F2, st_eq, st9_0, st_k, st_i, true_and, and_true, Classical.not_not, rR_of, dp_gI5, dp_gI6, dp_gI7, dp_gI8, dp_gI9, dp_gI10, dp_gI14, dp_pI5, dp_pI6, dp_pI7, dp_pI8, dp_pI9, dp_pI10, dp_pI14, dp_gR0, dp_gR1, dp_gR2, dp_gR3, dp_gR4, dp_gR11, dp_gR12, dp_gR13, dp_gR15, dp_gR16, dp_gA3, dp_pA3, dp_gAR0, dp_gAR1, dp_gAR2, dp_isO, dp_isA]
  have e0 : dp X a p B D = dp X a p B (sw D 0 (cpy (D 0) q (gPl r k) (gPl r k) ((0 : Nat) : Int))) := by rw [show ((0 : Nat) : Int) = 0 from rfl, cpy_z, sw_self]
  rw [e0]
  rw [show ((6 : Nat), Value.int (I (gPl r k))) = (6, Value.int (I (gPl r k + ((0 : Nat) : Int)))) from congrArg (fun z => ((6 : Nat), Value.int (I z))) (Int.add_zero _).symm]
  refine up_to (n := (gPt r k).toNat) (P := fun j => G l X M_X1_putPart 2 (fun o' A1 => o' = Rv ∧ A1 = dp X a p B (kPut r D k s q)) 27 [(0, .ref a), (1, .int (I k)), (2, .ref b), (3, .int (I s)), (5, .int (I (gPl r k + gPt r k))), (6, .int (I (gPl r k + j)))] [] (dp X a p B (sw D 0 (cpy (D 0) q (gPl r k) (gPl r k) j))) 0 0) ?_ ?_
  · obtain ⟨E, hE⟩ : ∃ E, E = sw D 0 (cpy (D 0) q (gPl r k) (gPl r k) ((gPt r k).toNat : Nat)) := ⟨_, rfl⟩
    have hE2 : E = sw D 0 (cpy (D 0) q (gPl r k) (gPl r k) (gPt r k)) := by rw [hE, show (((gPt r k).toNat : Nat) : Int) = gPt r k by omega]
    rw [← hE]
    refine k_X1_putPart_27 ?_
    simp (disch := omega) only [true_implies, false_implies, not_true_eq_false, not_false_eq_true, I_n, I_neg, I_add, I_sub, I_mul, I_le4, I_lt4, I_eq4, I_div4, I_bi0, I_bi01, I_bi1, nor_em, rI_of, rV_of, zI_of, zV_of, nz_and, br_T, br_F, br_T2, br_F2, st_eq, st9_0, st_k, st_i, true_and, and_true, Classical.not_not, rR_of, dp_gI5, dp_gI6, dp_gI7, dp_gI8, dp_gI9, dp_gI10, dp_gI14, dp_pI5, dp_pI6, dp_pI7, dp_pI8, dp_pI9, dp_pI10, dp_pI14, dp_gR0, dp_gR1, dp_gR2, dp_gR3, dp_gR4, dp_gR11, dp_gR12, dp_gR13, dp_gR15, dp_gR16, dp_gA3, dp_pA3, dp_gAR0, dp_gAR1, dp_gAR2, dp_isO, dp_isA]
    rw [(hp _).r10]
    refine (at_p6 hl (hp _) k0 (by omega)).cl0 (by decide) ?_
    rw [e6]
    simp (disch := omega) only [true_implies, false_implies, not_true_eq_false, not_false_eq_true, I_n, I_neg, I_add, I_sub, I_mul, I_le4, I_lt4, I_eq4, I_div4, I_bi0, I_bi01, I_bi1, nor_em, rI_of, rV_of, zI_of, zV_of, nz_and, br_T, br_F, br_T2, br_F2, st_eq, st9_0, st_k, st_i, true_and, and_true, Classical.not_not, rR_of, dp_gI5, dp_gI6, dp_gI7, dp_gI8, dp_gI9, dp_gI10, dp_gI14, dp_pI5, dp_pI6, dp_pI7, dp_pI8, dp_pI9, dp_pI10, dp_pI14, dp_gR0, dp_gR1, dp_gR2, dp_gR3, dp_gR4, dp_gR11, dp_gR12, dp_gR13, dp_gR15, dp_gR16, dp_gA3, dp_pA3, dp_gAR0, dp_gAR1, dp_gAR2, dp_isO, dp_isA]
    refine (put_d1 hl (by omega) (by omega)).cl0 (by decide) ?_
    simp (disch := omega) only [true_implies, false_implies, not_true_eq_false, not_false_eq_true, I_n, I_neg, I_add, I_sub, I_mul, I_le4, I_lt4, I_eq4, I_div4, I_bi0, I_bi01, I_bi1, nor_em, rI_of, rV_of, zI_of, zV_of, nz_and, br_T, br_F, br_T2, br_F2, st_eq, st9_0, st_k, st_i, true_and, and_true, Classical.not_not, rR_of, dp_gI5, dp_gI6, dp_gI7, dp_gI8, dp_gI9, dp_gI10, dp_gI14, dp_pI5, dp_pI6, dp_pI7, dp_pI8, dp_pI9, dp_pI10, dp_pI14, dp_gR0, dp_gR1, dp_gR2, dp_gR3, dp_gR4, dp_gR11, dp_gR12, dp_gR13, dp_gR15, dp_gR16, dp_gA3, dp_pA3, dp_gAR0, dp_gAR1, dp_gAR2, dp_isO, dp_isA]
    refine (at_d2 hl (by omega) (by omega)).cl0 (by decide) ?_
    simp (disch := omega) only [true_implies, false_implies, not_true_eq_false, not_false_eq_true, I_n, I_neg, I_add, I_sub, I_mul, I_le4, I_lt4, I_eq4, I_div4, I_bi0, I_bi01, I_bi1, nor_em, rI_of, rV_of, zI_of, zV_of, nz_and, br_T, br_F, br_T2, br_F2, st_eq, st9_0, st_k, st_i, true_and, and_true, Classical.not_not, rR_of, dp_gI5, dp_gI6, dp_gI7, dp_gI8, dp_gI9, dp_gI10, dp_gI14, dp_pI5, dp_pI6, dp_pI7, dp_pI8, dp_pI9, dp_pI10, dp_pI14, dp_gR0, dp_gR1, dp_gR2, dp_gR3, dp_gR4, dp_gR11, dp_gR12, dp_gR13, dp_gR15, dp_gR16, dp_gA3, dp_pA3, dp_gAR0, dp_gAR1, dp_gAR2, dp_isO, dp_isA]
    refine (put_d2 hl (by omega) (by omega)).cl0 (by decide) ?_
    simp (disch := omega) only [true_implies, false_implies, not_true_eq_false, not_false_eq_true, I_n, I_neg, I_add, I_sub, I_mul, I_le4, I_lt4, I_eq4, I_div4, I_bi0, I_bi01, I_bi1, nor_em, rI_of, rV_of, zI_of, zV_of, nz_and, br_T, br_F, br_T2, br_F2, st_eq, st9_0, st_k, st_i, true_and, and_true, Classical.not_not, rR_of, dp_gI5, dp_gI6, dp_gI7, dp_gI8, dp_gI9, dp_gI10, dp_gI14, dp_pI5, dp_pI6, dp_pI7, dp_pI8, dp_pI9, dp_pI10, dp_pI14, dp_gR0, dp_gR1, dp_gR2, dp_gR3, dp_gR4, dp_gR11, dp_gR12, dp_gR13, dp_gR15, dp_gR16, dp_gA3, dp_pA3, dp_gAR0, dp_gAR1, dp_gAR2, dp_isO, dp_isA]
    unfold kPut
    rw [← hE2, show E 2 (gPc r k) = D 2 (gPc r k) by rw [hE, sw_j (by decide)], show E 10 5 = D 10 5 by rw [hE, sw_j (by decide)]]
    all_goals first | rfl | exact ⟨rfl, rfl⟩
  · intro j hj ih
    have c := cpy_s (r := D 0) (q := q) (f := gPl r k) (t := gPl r k) (n := j) (by omega)
    have e1 : ((j + 1 : Nat) : Int) = (j : Int) + 1 := rfl
    rw [e1, ← c] at ih
    refine k_X1_putPart_27 ?_
    simp (disch := omega) only [true_implies, false_implies, not_true_eq_false, not_false_eq_true, I_n, I_neg, I_add, I_sub, I_mul, I_le4, I_lt4, I_eq4, I_div4, I_bi0, I_bi01, I_bi1, nor_em, rI_of, rV_of, zI_of, zV_of, nz_and, br_T, br_F, br_T2, br_F2, st_eq, st9_0, st_k, st_i, true_and, and_true, Classical.not_not, rR_of, dp_gI5, dp_gI6, dp_gI7, dp_gI8, dp_gI9, dp_gI10, dp_gI14, dp_pI5, dp_pI6, dp_pI7, dp_pI8, dp_pI9, dp_pI10, dp_pI14, dp_gR0, dp_gR1, dp_gR2, dp_gR3, dp_gR4, dp_gR11, dp_gR12, dp_gR13, dp_gR15, dp_gR16, dp_gA3, dp_pA3, dp_gAR0, dp_gAR1, dp_gAR2, dp_isO, dp_isA]
    refine (c_at hl (g := q) (by rw [dp_out hbd]; exact hb) (by omega) (by omega) (by omega)).cl0 (by decide) ?_
    simp (disch := omega) only [true_implies, false_implies, not_true_eq_false, not_false_eq_true, I_n, I_neg, I_add, I_sub, I_mul, I_le4, I_lt4, I_eq4, I_div4, I_bi0, I_bi01, I_bi1, nor_em, rI_of, rV_of, zI_of, zV_of, nz_and, br_T, br_F, br_T2, br_F2, st_eq, st9_0, st_k, st_i, true_and, and_true, Classical.not_not, rR_of, dp_gI5, dp_gI6, dp_gI7, dp_gI8, dp_gI9, dp_gI10, dp_gI14, dp_pI5, dp_pI6, dp_pI7, dp_pI8, dp_pI9, dp_pI10, dp_pI14, dp_gR0, dp_gR1, dp_gR2, dp_gR3, dp_gR4, dp_gR11, dp_gR12, dp_gR13, dp_gR15, dp_gR16, dp_gA3, dp_pA3, dp_gAR0, dp_gAR1, dp_gAR2, dp_isO, dp_isA]
    refine (put_d0 hl (by omega) (by omega)).cl0 (by decide) ?_
    simp (disch := omega) only [true_implies, false_implies, not_true_eq_false, not_false_eq_true, I_n, I_neg, I_add, I_sub, I_mul, I_le4, I_lt4, I_eq4, I_div4, I_bi0, I_bi01, I_bi1, nor_em, rI_of, rV_of, zI_of, zV_of, nz_and, br_T, br_F, br_T2, br_F2, st_eq, st9_0, st_k, st_i, true_and, and_true, Classical.not_not, rR_of, dp_gI5, dp_gI6, dp_gI7, dp_gI8, dp_gI9, dp_gI10, dp_gI14, dp_pI5, dp_pI6, dp_pI7, dp_pI8, dp_pI9, dp_pI10, dp_pI14, dp_gR0, dp_gR1, dp_gR2, dp_gR3, dp_gR4, dp_gR11, dp_gR12, dp_gR13, dp_gR15, dp_gR16, dp_gA3, dp_pA3, dp_gAR0, dp_gAR1, dp_gAR2, dp_isO, dp_isA]
    rw [sw_st, sw_sw, sw_i, Int.add_assoc (gPl r k)]
    exact ih
theorem c_X1_breakBytes (hl : l.stackTraces = false) (hd : p + 10 < a ∨ a + 12 < p) (hP : PlanAt X B p P) (hR : PR P r) (w : RW r e) (hg : ∀ k, 0 ≤ k → k < 240 → 0 ≤ D 0 k ∧ D 0 k ≤ 255) (h8 : 0 ≤ D 10 8 ∧ D 10 8 ≤ 2100000000) {x n : Int} (hx : 0 ≤ x) (h0 : 0 ≤ n) (hn : x + n ≤ 240) : Fn l X 2 M_X1_breakBytes [.ref a, .int (I x), .int (I n)] (dp X a p B D) 0 0 Rv (dp X a p B (sw D 0 (kBs r (D 10 8) x n (D 0) (r 11).toNat))) := by
  have c3 := w.2.2.2.1
  have hp := fun D => dp_pl (D := D) hd hP
  have e13 := hR.1.2.2.2.2.1
  refine Fn.of hl rfl rfl (Nat.le_of_ble_eq_true rfl) (k_X1_breakBytes_0 ?_)
  simp only [I_n]
  have e0 : dp X a p B D = dp X a p B (sw D 0 (kBs r (D 10 8) x n (D 0) 0)) := by rw [show kBs r (D 10 8) x n (D 0) 0 = D 0 from rfl, sw_self]
  rw [e0]
  refine up_to (n := (r 11).toNat) (P := fun j => G l X M_X1_breakBytes 2 (fun o' A1 => o' = Rv ∧ A1 = dp X a p B (sw D 0 (kBs r (D 10 8) x n (D 0) (r 11).toNat))) 2 [(0, .ref a), (1, .int (I x)), (2, .int (I n)), (3, .int (I j))] [] (dp X a p B (sw D 0 (kBs r (D 10 8) x n (D 0) j))) 0 0) ?_ ?_
  · refine k_X1_breakBytes_2 ?_
    simp (disch := omega) only [true_implies, false_implies, not_true_eq_false, not_false_eq_true, I_n, I_neg, I_add, I_sub, I_mul, I_le4, I_lt4, I_eq4, I_div4, I_bi0, I_bi01, I_bi1, nor_em, rI_of, rV_of, zI_of, zV_of, nz_and, br_T, br_F, br_T2, br_F2, st_eq, st9_0, st_k, st_i, true_and, and_true, Classical.not_not, rR_of, dp_gI5, dp_gI6, dp_gI7, dp_gI8, dp_gI9, dp_gI10, dp_gI14, dp_pI5, dp_pI6, dp_pI7, dp_pI8, dp_pI9, dp_pI10, dp_pI14, dp_gR0, dp_gR1, dp_gR2, dp_gR3, dp_gR4, dp_gR11, dp_gR12, dp_gR13, dp_gR15, dp_gR16, dp_gA3, dp_pA3, dp_gAR0, dp_gAR1, dp_gAR2, dp_isO, dp_isA]
    rw [(hp _).g13, e13]
    simp (disch := omega) only [true_implies, false_implies, not_true_eq_false, not_false_eq_true, I_n, I_neg, I_add, I_sub, I_mul, I_le4, I_lt4, I_eq4, I_div4, I_bi0, I_bi01, I_bi1, nor_em, rI_of, rV_of, zI_of, zV_of, nz_and, br_T, br_F, br_T2, br_F2, st_eq, st9_0, st_k, st_i, true_and, and_true, Classical.not_not, rR_of, dp_gI5, dp_gI6, dp_gI7, dp_gI8, dp_gI9, dp_gI10, dp_gI14, dp_pI5, dp_pI6, dp_pI7, dp_pI8, dp_pI9, dp_pI10, dp_pI14, dp_gR0, dp_gR1, dp_gR2, dp_gR3, dp_gR4, dp_gR11, dp_gR12, dp_gR13, dp_gR15, dp_gR16, dp_gA3, dp_pA3, dp_gAR0, dp_gAR1, dp_gAR2, dp_isO, dp_isA]
  · intro j hj ih
    obtain ⟨i1, i2⟩ := kBs_b (t := D 10 8) w hx hn hg j (by omega)
    have f2 := w.2.2.2.2.2.2.2.1 j (by omega) (by omega)
    obtain ⟨p1, p2, p3⟩ := hR.2.2.2.2.2.2.2.1 j (by omega) (by omega)
    obtain ⟨q, hq⟩ : ∃ q, q = kBs r (D 10 8) x n (D 0) j := ⟨_, rfl⟩
    have ih2 : G l X M_X1_breakBytes 2 (fun o' A1 => o' = Rv ∧ A1 = dp X a p B (sw D 0 (kBs r (D 10 8) x n (D 0) (r 11).toNat))) 2 [(0, .ref a), (1, .int (I x)), (2, .int (I n)), (3, .int (I (j + 1)))] [] (dp X a p B (sw D 0 (kB1 r (D 10 8) x n q j))) 0 0 := by rw [hq]; exact ih
    rw [← hq] at i1 i2 ⊢
    have s8 : sw D 0 q 10 8 = D 10 8 := by rw [sw_j (by decide)]
    refine k_X1_breakBytes_2 ?_
    simp (disch := omega) only [true_implies, false_implies, not_true_eq_false, not_false_eq_true, I_n, I_neg, I_add, I_sub, I_mul, I_le4, I_lt4, I_eq4, I_div4, I_bi0, I_bi01, I_bi1, nor_em, rI_of, rV_of, zI_of, zV_of, nz_and, br_T, br_F, br_T2, br_F2, st_eq, st9_0, st_k, st_i, true_and, and_true, Classical.not_not, rR_of, dp_gI5, dp_gI6, dp_gI7, dp_gI8, dp_gI9, dp_gI10, dp_gI14, dp_pI5, dp_pI6, dp_pI7, dp_pI8, dp_pI9, dp_pI10, dp_pI14, dp_gR0, dp_gR1, dp_gR2, dp_gR3, dp_gR4, dp_gR11, dp_gR12, dp_gR13, dp_gR15, dp_gR16, dp_gA3, dp_pA3, dp_gAR0, dp_gAR1, dp_gAR2, dp_isO, dp_isA]
    rw [(hp _).g13, e13]
    simp (disch := omega) only [true_implies, false_implies, not_true_eq_false, not_false_eq_true, I_n, I_neg, I_add, I_sub, I_mul, I_le4, I_lt4, I_eq4, I_div4, I_bi0, I_bi01, I_bi1, nor_em, rI_of, rV_of, zI_of, zV_of, nz_and, br_T, br_F, br_T2, br_F2, st_eq, st9_0, st_k, st_i, true_and, and_true, Classical.not_not, rR_of, dp_gI5, dp_gI6, dp_gI7, dp_gI8, dp_gI9, dp_gI10, dp_gI14, dp_pI5, dp_pI6, dp_pI7, dp_pI8, dp_pI9, dp_pI10, dp_pI14, dp_gR0, dp_gR1, dp_gR2, dp_gR3, dp_gR4, dp_gR11, dp_gR12, dp_gR13, dp_gR15, dp_gR16, dp_gA3, dp_pA3, dp_gAR0, dp_gAR1, dp_gAR2, dp_isO, dp_isA]
    rw [(hp _).r12]
    refine (at_p8 hl (hp _) (by omega) (by omega)).cl0 (by decide) ?_
    rw [p2]
    simp (disch := omega) only [true_implies, false_implies, not_true_eq_false, not_false_eq_true, I_n, I_neg, I_add, I_sub, I_mul, I_le4, I_lt4, I_eq4, I_div4, I_bi0, I_bi01, I_bi1, nor_em, rI_of, rV_of, zI_of, zV_of, nz_and, br_T, br_F, br_T2, br_F2, st_eq, st9_0, st_k, st_i, true_and, and_true, Classical.not_not, rR_of, dp_gI5, dp_gI6, dp_gI7, dp_gI8, dp_gI9, dp_gI10, dp_gI14, dp_pI5, dp_pI6, dp_pI7, dp_pI8, dp_pI9, dp_pI10, dp_pI14, dp_gR0, dp_gR1, dp_gR2, dp_gR3, dp_gR4, dp_gR11, dp_gR12, dp_gR13, dp_gR15, dp_gR16, dp_gA3, dp_pA3, dp_gAR0, dp_gAR1, dp_gAR2, dp_isO, dp_isA]
    rw [(hp _).r12]
    refine (at_p8 hl (hp _) (by omega) (by omega)).cl0 (by decide) ?_
    rw [p1]
    simp (disch := omega) only [true_implies, false_implies, not_true_eq_false, not_false_eq_true, I_n, I_neg, I_add, I_sub, I_mul, I_le4, I_lt4, I_eq4, I_div4, I_bi0, I_bi01, I_bi1, nor_em, rI_of, rV_of, zI_of, zV_of, nz_and, br_T, br_F, br_T2, br_F2, st_eq, st9_0, st_k, st_i, true_and, and_true, Classical.not_not, rR_of, dp_gI5, dp_gI6, dp_gI7, dp_gI8, dp_gI9, dp_gI10, dp_gI14, dp_pI5, dp_pI6, dp_pI7, dp_pI8, dp_pI9, dp_pI10, dp_pI14, dp_gR0, dp_gR1, dp_gR2, dp_gR3, dp_gR4, dp_gR11, dp_gR12, dp_gR13, dp_gR15, dp_gR16, dp_gA3, dp_pA3, dp_gAR0, dp_gAR1, dp_gAR2, dp_isO, dp_isA]
    rw [s8]
    refine ⟨fun h => ?_, fun h => ⟨fun h2 => ?_, fun h2 => ?_⟩⟩
    · have e : kB1 r (D 10 8) x n q j = q := if_neg fun y => h y.1
      rw [e] at ih2
      exact ih2
    · have e : kB1 r (D 10 8) x n q j = q := if_neg fun y => by omega
      rw [e] at ih2
      exact ih2
    · have e : kB1 r (D 10 8) x n q j = rs q (x + r (44 + 3 * j + 1)) ((q (x + r (44 + 3 * j + 1)) + r (44 + 3 * j + 2)) % 256) := if_pos ⟨h, by omega⟩
      rw [e] at ih2
      rw [(hp _).r12]
      refine (at_p8 hl (hp _) (by omega) (by omega)).cl0 (by decide) ?_
      rw [p3]
      simp (disch := omega) only [true_implies, false_implies, not_true_eq_false, not_false_eq_true, I_n, I_neg, I_add, I_sub, I_mul, I_le4, I_lt4, I_eq4, I_div4, I_bi0, I_bi01, I_bi1, nor_em, rI_of, rV_of, zI_of, zV_of, nz_and, br_T, br_F, br_T2, br_F2, st_eq, st9_0, st_k, st_i, true_and, and_true, Classical.not_not, rR_of, dp_gI5, dp_gI6, dp_gI7, dp_gI8, dp_gI9, dp_gI10, dp_gI14, dp_pI5, dp_pI6, dp_pI7, dp_pI8, dp_pI9, dp_pI10, dp_pI14, dp_gR0, dp_gR1, dp_gR2, dp_gR3, dp_gR4, dp_gR11, dp_gR12, dp_gR13, dp_gR15, dp_gR16, dp_gA3, dp_pA3, dp_gAR0, dp_gAR1, dp_gAR2, dp_isO, dp_isA]
      refine (c_X5_addTo0 (D := sw D 0 q) hl (by rw [sw_i]; exact i1) (by omega) (by omega) (by omega)).cl0 (by decide) ?_
      simp (disch := omega) only [true_implies, false_implies, not_true_eq_false, not_false_eq_true, I_n, I_neg, I_add, I_sub, I_mul, I_le4, I_lt4, I_eq4, I_div4, I_bi0, I_bi01, I_bi1, nor_em, rI_of, rV_of, zI_of, zV_of, nz_and, br_T, br_F, br_T2, br_F2, st_eq, st9_0, st_k, st_i, true_and, and_true, Classical.not_not, rR_of, dp_gI5, dp_gI6, dp_gI7, dp_gI8, dp_gI9, dp_gI10, dp_gI14, dp_pI5, dp_pI6, dp_pI7, dp_pI8, dp_pI9, dp_pI10, dp_pI14, dp_gR0, dp_gR1, dp_gR2, dp_gR3, dp_gR4, dp_gR11, dp_gR12, dp_gR13, dp_gR15, dp_gR16, dp_gA3, dp_pA3, dp_gAR0, dp_gAR1, dp_gAR2, dp_isO, dp_isA]
      rw [sw_st, sw_sw, sw_i]
      exact ih2
end CB
