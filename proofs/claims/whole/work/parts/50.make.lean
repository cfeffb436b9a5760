/-! the class: a Plan's making: parts, pieces -/
theorem pp_of {X : XT} {A : AH} {p : Nat} {P : Nat → Int → Int} (h : PlanAt X A p P) : pp X p A P = A := by
  refine Prod.ext rfl (funext fun b => ?_)
  obtain ⟨h0, h1, h2, h3, h4, h5, h6, h7, h8, h9, h10⟩ := h
  by_cases e0 : b = p
  · rw [e0]; exact pp_k0.trans h0.symm
  by_cases e1 : b = p + 1
  · rw [e1]; exact pp_k1.trans h1.symm
  by_cases e2 : b = p + 2
  · rw [e2]; exact pp_k2.trans h2.symm
  by_cases e3 : b = p + 3
  · rw [e3]; exact pp_k3.trans h3.symm
  by_cases e4 : b = p + 4
  · rw [e4]; exact pp_k4.trans h4.symm
  by_cases e5 : b = p + 5
  · rw [e5]; exact pp_k5.trans h5.symm
  by_cases e6 : b = p + 6
  · rw [e6]; exact pp_k6.trans h6.symm
  by_cases e7 : b = p + 7
  · rw [e7]; exact pp_k7.trans h7.symm
  by_cases e8 : b = p + 8
  · rw [e8]; exact pp_k8.trans h8.symm
  by_cases e9 : b = p + 9
  · rw [e9]; exact pp_k9.trans h9.symm
  by_cases e10 : b = p + 10
  · rw [e10]; exact pp_k10.trans h10.symm
  exact pp_out (by omega)
def kPa1 (P : Nat → Int → Int) (start : Int) : Nat → Int → Int := st (st P 5 (P 10 3) start) 6 (P 10 3) (P 10 2)
def kPa (P : Nat → Int → Int) (start size : Int) : Nat → Int → Int := st (sw (kPa1 P start) 7 (cpy (P 7) (fun _ => P 10 3) 0 start size)) 10 3 (P 10 3 + 1)
section CP
variable {l : Launch} {X : XT} {p : Nat} {B : AH} {P : Nat → Int → Int} {r : Int → Int}
theorem c_X3_addPart (hl : l.stackTraces = false) {start size : Int} (hs0 : 0 ≤ start) (hs1 : 0 ≤ size) (hs2 : start + size ≤ 240) (hc : 0 ≤ P 10 3 ∧ P 10 3 < 240) : Fn l X 1 M_X3_addPart [.ref p, .int (I start), .int (I size)] (pp X p B P) 0 0 Rv (pp X p B (kPa P start size)) := by
  refine Fn.of hl rfl rfl (Nat.le_of_ble_eq_true rfl) (k_X3_addPart_0 ?_)
  simp (disch := omega) only [true_implies, false_implies, not_true_eq_false, not_false_eq_true, I_n, I_neg, I_add, I_sub, I_mul, I_le4, I_lt4, I_eq4, I_div4, I_bi0, I_bi01, I_bi1, nor_em, rI_of, rV_of, zI_of, zV_of, nz_and, br_T, br_F, br_T2, br_F2, st_eq, st9_0, st_k, st_i, true_and, and_true, Classical.not_not, pp_gI0, pp_gI1, pp_gI2, pp_gI3, pp_gI13, pp_gI15, pp_pI0, pp_pI1, pp_pI2, pp_pI3, pp_pI13, pp_pI15, pp_gR4, pp_gR5, pp_gR6, pp_gR7, pp_gR8, pp_gR9, pp_gR10, pp_gR11, pp_gR12, pp_gR14, pp_isO]
  refine (put_p5 hl (by omega) (by omega)).cl0 (by decide) ?_
  simp (disch := omega) only [true_implies, false_implies, not_true_eq_false, not_false_eq_true, I_n, I_neg, I_add, I_sub, I_mul, I_le4, I_lt4, I_eq4, I_div4, I_bi0, I_bi01, I_bi1, nor_em, rI_of, rV_of, zI_of, zV_of, nz_and, br_T, br_F, br_T2, br_F2, st_eq, st9_0, st_k, st_i, true_and, and_true, Classical.not_not, pp_gI0, pp_gI1, pp_gI2, pp_gI3, pp_gI13, pp_gI15, pp_pI0, pp_pI1, pp_pI2, pp_pI3, pp_pI13, pp_pI15, pp_gR4, pp_gR5, pp_gR6, pp_gR7, pp_gR8, pp_gR9, pp_gR10, pp_gR11, pp_gR12, pp_gR14, pp_isO]
  refine (put_p6 hl (by omega) (by omega)).cl0 (by decide) ?_
  simp (disch := omega) only [true_implies, false_implies, not_true_eq_false, not_false_eq_true, I_n, I_neg, I_add, I_sub, I_mul, I_le4, I_lt4, I_eq4, I_div4, I_bi0, I_bi01, I_bi1, nor_em, rI_of, rV_of, zI_of, zV_of, nz_and, br_T, br_F, br_T2, br_F2, st_eq, st9_0, st_k, st_i, true_and, and_true, Classical.not_not, pp_gI0, pp_gI1, pp_gI2, pp_gI3, pp_gI13, pp_gI15, pp_pI0, pp_pI1, pp_pI2, pp_pI3, pp_pI13, pp_pI15, pp_gR4, pp_gR5, pp_gR6, pp_gR7, pp_gR8, pp_gR9, pp_gR10, pp_gR11, pp_gR12, pp_gR14, pp_isO]
  obtain ⟨E, hE⟩ : ∃ E, E = kPa1 P start := ⟨_, rfl⟩
  have e7 : E 7 = P 7 := by rw [hE]; rfl
  have e10 : E 10 = P 10 := by rw [hE]; rfl
  have hE2 : st (st P 5 (P 10 3) start) 6 (P 10 3) (P 10 2) = E := hE.symm
  rw [hE2]
  unfold kPa
  rw [← hE, ← e7]
  have e0 : pp X p B E = pp X p B (sw E 7 (cpy (E 7) (fun _ => P 10 3) 0 start ((0 : Nat) : Int))) := by rw [show ((0 : Nat) : Int) = 0 from rfl, cpy_z, sw_self]
  rw [e0]
  rw [show ((3 : Nat), Value.int (I start)) = (3, Value.int (I (start + ((0 : Nat) : Int)))) from congrArg (fun z => ((3 : Nat), Value.int (I z))) (Int.add_zero _).symm]
  refine up_to (n := size.toNat) (P := fun j => G l X M_X3_addPart 1 (fun o' A1 => o' = Rv ∧ A1 = pp X p B (st (sw E 7 (cpy (E 7) (fun _ => P 10 3) 0 start size)) 10 3 (P 10 3 + 1))) 29 [(0, .ref p), (1, .int (I start)), (2, .int (I size)), (3, .int (I (start + (j : Int))))] [] (pp X p B (sw E 7 (cpy (E 7) (fun _ => P 10 3) 0 start (j : Int)))) 0 0) ?_ ?_
  · rw [show ((size.toNat : Nat) : Int) = size by omega]
    have f : sw E 7 (cpy (E 7) (fun _ => P 10 3) 0 start size) 10 3 = P 10 3 := by rw [sw_j (by decide), e10]
    refine k_X3_addPart_29 ?_
    simp (disch := omega) only [true_implies, false_implies, not_true_eq_false, not_false_eq_true, I_n, I_neg, I_add, I_sub, I_mul, I_le4, I_lt4, I_eq4, I_div4, I_bi0, I_bi01, I_bi1, nor_em, rI_of, rV_of, zI_of, zV_of, nz_and, br_T, br_F, br_T2, br_F2, st_eq, st9_0, st_k, st_i, true_and, and_true, Classical.not_not, pp_gI0, pp_gI1, pp_gI2, pp_gI3, pp_gI13, pp_gI15, pp_pI0, pp_pI1, pp_pI2, pp_pI3, pp_pI13, pp_pI15, pp_gR4, pp_gR5, pp_gR6, pp_gR7, pp_gR8, pp_gR9, pp_gR10, pp_gR11, pp_gR12, pp_gR14, pp_isO]
    rw [f]
  · intro j hj ih
    have f : sw E 7 (cpy (E 7) (fun _ => P 10 3) 0 start (j : Int)) 10 3 = P 10 3 := by rw [sw_j (by decide), e10]
    have e : st (sw E 7 (cpy (E 7) (fun _ => P 10 3) 0 start (j : Int))) 7 (start + (j : Int)) (P 10 3) = sw E 7 (cpy (E 7) (fun _ => P 10 3) 0 start ((j + 1 : Nat) : Int)) := by
      have := cpy_s (r := E 7) (q := fun _ => P 10 3) (f := 0) (t := start) (n := (j : Int)) (by omega)
      rw [sw_st, sw_sw, sw_i, this]
      rfl
    refine k_X3_addPart_29 ?_
    simp (disch := omega) only [true_implies, false_implies, not_true_eq_false, not_false_eq_true, I_n, I_neg, I_add, I_sub, I_mul, I_le4, I_lt4, I_eq4, I_div4, I_bi0, I_bi01, I_bi1, nor_em, rI_of, rV_of, zI_of, zV_of, nz_and, br_T, br_F, br_T2, br_F2, st_eq, st9_0, st_k, st_i, true_and, and_true, Classical.not_not, pp_gI0, pp_gI1, pp_gI2, pp_gI3, pp_gI13, pp_gI15, pp_pI0, pp_pI1, pp_pI2, pp_pI3, pp_pI13, pp_pI15, pp_gR4, pp_gR5, pp_gR6, pp_gR7, pp_gR8, pp_gR9, pp_gR10, pp_gR11, pp_gR12, pp_gR14, pp_isO]
    rw [f]
    refine (put_p7 hl (by omega) (by omega)).cl0 (by decide) ?_
    simp (disch := omega) only [true_implies, false_implies, not_true_eq_false, not_false_eq_true, I_n, I_neg, I_add, I_sub, I_mul, I_le4, I_lt4, I_eq4, I_div4, I_bi0, I_bi01, I_bi1, nor_em, rI_of, rV_of, zI_of, zV_of, nz_and, br_T, br_F, br_T2, br_F2, st_eq, st9_0, st_k, st_i, true_and, and_true, Classical.not_not, pp_gI0, pp_gI1, pp_gI2, pp_gI3, pp_gI13, pp_gI15, pp_pI0, pp_pI1, pp_pI2, pp_pI3, pp_pI13, pp_pI15, pp_gR4, pp_gR5, pp_gR6, pp_gR7, pp_gR8, pp_gR9, pp_gR10, pp_gR11, pp_gR12, pp_gR14, pp_isO]
    rw [e, Int.add_assoc]
    exact ih
/-- what a Plan in the making holds: pieces to k, parts to c -/
def PV (P : Nat → Int → Int) (r : Int → Int) (k c : Int) : Prop :=
  (P 10 0 = r 0 ∧ P 10 1 = r 4 ∧ P 10 2 = k ∧ P 10 3 = c ∧ P 10 13 = 0 ∧ P 10 15 = 0) ∧
  (∀ x, 0 ≤ x → x < r 0 → P 0 x = gB r 0 x ∧ P 1 x = gB r 1 x) ∧
  (∀ i, 0 ≤ i → i < k → P 2 i = gS r 0 (r 2 * i) (gLen r i) ∧ P 3 i = r 2 * i ∧ P 4 i = gF r i) ∧
  (∀ q, 0 ≤ q → q < c → P 5 q = gPl r q ∧ P 6 q = gPc r q ∧ ∀ i, 0 ≤ i → i < gPt r q → P 7 (gPl r q + i) = q)
theorem kPa_j {P : Nat → Int → Int} {s z : Int} {j : Nat} (h5 : j ≠ 5) (h6 : j ≠ 6) (h7 : j ≠ 7) (h10 : j ≠ 10) : kPa P s z j = P j := by
  unfold kPa kPa1
  rw [st_row h10, sw_j h7, st_row h6, st_row h5]
theorem kPa_10 {P : Nat → Int → Int} {s z y : Int} : kPa P s z 10 y = if y = 3 then P 10 3 + 1 else P 10 y := by
  unfold kPa kPa1
  rw [st_if, sw_j (by decide), st_row (by decide), st_row (by decide)]
theorem PV_part (g : GW r) {k c : Int} (h : PV P r k c) (c0 : 0 ≤ c) (c1 : c < gT r) (hk : gPc r c = k) : PV (kPa P (gPl r c) (gPt r c)) r k (c + 1) := by
  obtain ⟨⟨a0, a1, a2, a3, a4, a5⟩, b, d, f⟩ := h
  have r5 : ∀ y, kPa P (gPl r c) (gPt r c) 5 y = if y = c then gPl r c else P 5 y := fun y => by
    unfold kPa kPa1
    rw [st_row (by decide), sw_j (by decide), st_row (by decide), a3, st_if]
  have r6 : ∀ y, kPa P (gPl r c) (gPt r c) 6 y = if y = c then k else P 6 y := fun y => by
    unfold kPa kPa1
    rw [st_row (by decide), sw_j (by decide), st_if, a3, a2, st_row (by decide)]
  have r7 : kPa P (gPl r c) (gPt r c) 7 = cpy (P 7) (fun _ => c) 0 (gPl r c) (gPt r c) := by
    unfold kPa
    rw [st_row (by decide), sw_i, a3]
  refine ⟨⟨?_, ?_, ?_, ?_, ?_, ?_⟩, ?_, ?_, ?_⟩
  · rw [kPa_10, if_neg (by decide), a0]
  · rw [kPa_10, if_neg (by decide), a1]
  · rw [kPa_10, if_neg (by decide), a2]
  · rw [kPa_10, if_pos rfl, a3]
  · rw [kPa_10, if_neg (by decide), a4]
  · rw [kPa_10, if_neg (by decide), a5]
  · rw [kPa_j (by decide) (by decide) (by decide) (by decide), kPa_j (by decide) (by decide) (by decide) (by decide)]
    exact b
  · rw [kPa_j (by decide) (by decide) (by decide) (by decide), kPa_j (by decide) (by decide) (by decide) (by decide), kPa_j (by decide) (by decide) (by decide) (by decide)]
    exact d
  · intro q q0 q1
    rw [r5, r6, r7]
    by_cases hq : q = c
    · subst hq
      rw [if_pos rfl, if_pos rfl]
      refine ⟨rfl, hk.symm, fun i i0 i1 => ?_⟩
      unfold cpy
      rw [if_pos (by omega)]
    · obtain ⟨x1, x2, x3⟩ := f q q0 (by omega)
      rw [if_neg hq, if_neg hq]
      refine ⟨x1, x2, fun i i0 i1 => ?_⟩
      have d := part_ne g c0 c1 q0 (by omega) hq i0 i1
      unfold cpy
      rw [if_neg (by omega)]
      exact x3 i i0 i1
theorem c_X3_addPiece (hl : l.stackTraces = false) (g : GW r) {k : Int} (k0 : 0 ≤ k) (k1 : k < gN r) (h : PV P r k (gF r k)) : Ct l X 2 M_X3_addPiece [.ref p, .int (I (r 2 * k)), .int (I (gLen r k)), .int (I (r 3))] (pp X p B P) 0 0 (fun o' A1 => o' = Rv ∧ ∃ P', A1 = pp X p B P' ∧ PV P' r (k + 1) (gF r k + gPo r k)) := by
  obtain ⟨l1, l2, l3, l4⟩ := gLen_b g k0 k1
  obtain ⟨p1, p2, p3, p4, p5⟩ := gPo_b g k0 k1
  obtain ⟨n1, n2, -⟩ := gN_b g
  obtain ⟨f1, f2⟩ := gF_b g k0 k1
  obtain ⟨t1, t2⟩ := gT_b g
  have lg := g.2.1
  have g3 := g.2.2.2.2
  have g4 := g.2.2.2.1
  obtain ⟨⟨a0, a1, a2, a3, a4, a5⟩, b, d, f⟩ := id h
  have hS : gR' (P 0) (r 2 * k) (gLen r k) = gS r 0 (r 2 * k) (gLen r k) := by
    unfold gR' gS
    refine congrArg (· % 9973) (sg_congr fun j hj => ?_)
    show ((j : Int) + 1) * P 0 (r 2 * k + j) = ((j : Int) + 1) * gB r 0 (r 2 * k + j)
    rw [(b (r 2 * k + j) (by omega) (by omega)).1]
  refine Ct.of hl rfl rfl (Nat.le_of_ble_eq_true rfl) (k_X3_addPiece_0 ?_)
  simp (disch := omega) only [true_implies, false_implies, not_true_eq_false, not_false_eq_true, I_n, I_neg, I_add, I_sub, I_mul, I_le4, I_lt4, I_eq4, I_div4, I_bi0, I_bi01, I_bi1, nor_em, rI_of, rV_of, zI_of, zV_of, nz_and, br_T, br_F, br_T2, br_F2, st_eq, st9_0, st_k, st_i, true_and, and_true, Classical.not_not, pp_gI0, pp_gI1, pp_gI2, pp_gI3, pp_gI13, pp_gI15, pp_pI0, pp_pI1, pp_pI2, pp_pI3, pp_pI13, pp_pI15, pp_gR4, pp_gR5, pp_gR6, pp_gR7, pp_gR8, pp_gR9, pp_gR10, pp_gR11, pp_gR12, pp_gR14, pp_isO]
  rw [a2]
  refine (put_p3 hl (by omega) (by omega)).cl0 (by decide) ?_
  simp (disch := omega) only [true_implies, false_implies, not_true_eq_false, not_false_eq_true, I_n, I_neg, I_add, I_sub, I_mul, I_le4, I_lt4, I_eq4, I_div4, I_bi0, I_bi01, I_bi1, nor_em, rI_of, rV_of, zI_of, zV_of, nz_and, br_T, br_F, br_T2, br_F2, st_eq, st9_0, st_k, st_i, true_and, and_true, Classical.not_not, pp_gI0, pp_gI1, pp_gI2, pp_gI3, pp_gI13, pp_gI15, pp_pI0, pp_pI1, pp_pI2, pp_pI3, pp_pI13, pp_pI15, pp_gR4, pp_gR5, pp_gR6, pp_gR7, pp_gR8, pp_gR9, pp_gR10, pp_gR11, pp_gR12, pp_gR14, pp_isO]
  rw [a2, a3]
  refine (put_p4 hl (by omega) (by omega)).cl0 (by decide) ?_
  simp (disch := omega) only [true_implies, false_implies, not_true_eq_false, not_false_eq_true, I_n, I_neg, I_add, I_sub, I_mul, I_le4, I_lt4, I_eq4, I_div4, I_bi0, I_bi01, I_bi1, nor_em, rI_of, rV_of, zI_of, zV_of, nz_and, br_T, br_F, br_T2, br_F2, st_eq, st9_0, st_k, st_i, true_and, and_true, Classical.not_not, pp_gI0, pp_gI1, pp_gI2, pp_gI3, pp_gI13, pp_gI15, pp_pI0, pp_pI1, pp_pI2, pp_pI3, pp_pI13, pp_pI15, pp_gR4, pp_gR5, pp_gR6, pp_gR7, pp_gR8, pp_gR9, pp_gR10, pp_gR11, pp_gR12, pp_gR14, pp_isO]
  rw [a2]
  have e0 : st (st P 3 k (r 2 * k)) 4 k (gF r k) 0 = P 0 := by rw [st_row (by decide), st_row (by decide)]
  have cs := c_sumOf (l := l) (x := r 2 * k) (m := gLen r k) hl (pp_k1 (X := X) (p := p) (B := B) (P := st (st P 3 k (r 2 * k)) 4 k (gF r k))) (by decide) (by omega) (by omega) (by omega) (by omega) (fun y y0 y1 => by rw [e0, (b y (by omega) (by omega)).1]; exact gB_b)
  rw [e0, hS] at cs
  refine cs.cl0 (by decide) ?_
  simp (disch := omega) only [true_implies, false_implies, not_true_eq_false, not_false_eq_true, I_n, I_neg, I_add, I_sub, I_mul, I_le4, I_lt4, I_eq4, I_div4, I_bi0, I_bi01, I_bi1, nor_em, rI_of, rV_of, zI_of, zV_of, nz_and, br_T, br_F, br_T2, br_F2, st_eq, st9_0, st_k, st_i, true_and, and_true, Classical.not_not, pp_gI0, pp_gI1, pp_gI2, pp_gI3, pp_gI13, pp_gI15, pp_pI0, pp_pI1, pp_pI2, pp_pI3, pp_pI13, pp_pI15, pp_gR4, pp_gR5, pp_gR6, pp_gR7, pp_gR8, pp_gR9, pp_gR10, pp_gR11, pp_gR12, pp_gR14, pp_isO]
  refine (put_p2 hl (by omega) (by omega)).cl0 (by decide) ?_
  simp (disch := omega) only [true_implies, false_implies, not_true_eq_false, not_false_eq_true, I_n, I_neg, I_add, I_sub, I_mul, I_le4, I_lt4, I_eq4, I_div4, I_bi0, I_bi01, I_bi1, nor_em, rI_of, rV_of, zI_of, zV_of, nz_and, br_T, br_F, br_T2, br_F2, st_eq, st9_0, st_k, st_i, true_and, and_true, Classical.not_not, pp_gI0, pp_gI1, pp_gI2, pp_gI3, pp_gI13, pp_gI15, pp_pI0, pp_pI1, pp_pI2, pp_pI3, pp_pI13, pp_pI15, pp_gR4, pp_gR5, pp_gR6, pp_gR7, pp_gR8, pp_gR9, pp_gR10, pp_gR11, pp_gR12, pp_gR14, pp_isO]
  obtain ⟨E, hE⟩ : ∃ E, E = st (st (st P 3 k (r 2 * k)) 4 k (gF r k)) 2 k (gS r 0 (r 2 * k) (gLen r k)) := ⟨_, rfl⟩
  rw [← hE]
  have ej : ∀ j : Nat, j ≠ 2 → j ≠ 3 → j ≠ 4 → E j = P j := fun j h2 h3 h4 => by rw [hE, st_row h2, st_row h4, st_row h3]
  have hE2 : E 2 k = gS r 0 (r 2 * k) (gLen r k) ∧ E 3 k = r 2 * k ∧ E 4 k = gF r k := by
    rw [hE]
    refine ⟨st_eq, ?_, ?_⟩
    · rw [st_i (by decide), st_i (by decide), st_eq]
    · rw [st_i (by decide), st_eq]
  have hV : PV E r k (gF r k) := by
    unfold PV
    rw [ej 10 (by decide) (by decide) (by decide), ej 0 (by decide) (by decide) (by decide), ej 1 (by decide) (by decide) (by decide), ej 5 (by decide) (by decide) (by decide), ej 6 (by decide) (by decide) (by decide), ej 7 (by decide) (by decide) (by decide)]
    refine ⟨h.1, b, fun i i0 i1 => ?_, f⟩
    have hne : i ≠ k := by omega
    have e2 : E 2 i = P 2 i := by rw [hE, st_k hne, st_i (by decide), st_i (by decide)]
    have e3 : E 3 i = P 3 i := by rw [hE, st_i (by decide), st_i (by decide), st_k hne]
    have e4 : E 4 i = P 4 i := by rw [hE, st_i (by decide), st_k hne, st_i (by decide)]
    rw [e2, e3, e4]
    exact d i i0 i1
  have loop : ∀ (m : Nat) (j : Int) (F : Nat → Int → Int), 0 ≤ j → j + m = gPo r k → PV F r k (gF r k + j) → F 2 k = gS r 0 (r 2 * k) (gLen r k) ∧ F 3 k = r 2 * k ∧ F 4 k = gF r k →
      G l X M_X3_addPiece 2 (fun o' A1 => o' = Rv ∧ ∃ P', A1 = pp X p B P' ∧ PV P' r (k + 1) (gF r k + gPo r k)) 50 [(0, .ref p), (1, .int (I (r 2 * k))), (2, .int (I (gLen r k))), (3, .int (I (r 3))), (4, .int (I j))] [] (pp X p B F) 0 0 := by
    intro m
    induction m with
    | zero =>
      intro j F j0 jm hF hk
      have ej2 : j = gPo r k := by omega
      have hc := Int.mul_comm (gPo r k) (r 3)
      have hb : 0 ≤ j * r 3 ∧ j * r 3 < gLen r k + r 3 ∧ gLen r k ≤ j * r 3 := by rw [ej2]; omega
      have last : G l X M_X3_addPiece 2 (fun o' A1 => o' = Rv ∧ ∃ P', A1 = pp X p B P' ∧ PV P' r (k + 1) (gF r k + gPo r k)) 92 [(0, .ref p)] [] (pp X p B F) 0 0 := by
        obtain ⟨⟨x0, x1, x2, x3, x4, x5⟩, y, z, u⟩ := hF
        refine k_X3_addPiece_92 ?_
        simp (disch := omega) only [true_implies, false_implies, not_true_eq_false, not_false_eq_true, I_n, I_neg, I_add, I_sub, I_mul, I_le4, I_lt4, I_eq4, I_div4, I_bi0, I_bi01, I_bi1, nor_em, rI_of, rV_of, zI_of, zV_of, nz_and, br_T, br_F, br_T2, br_F2, st_eq, st9_0, st_k, st_i, true_and, and_true, Classical.not_not, pp_gI0, pp_gI1, pp_gI2, pp_gI3, pp_gI13, pp_gI15, pp_pI0, pp_pI1, pp_pI2, pp_pI3, pp_pI13, pp_pI15, pp_gR4, pp_gR5, pp_gR6, pp_gR7, pp_gR8, pp_gR9, pp_gR10, pp_gR11, pp_gR12, pp_gR14, pp_isO]
        refine ⟨_, rfl, ⟨?_, ?_, ?_, ?_, ?_, ?_⟩, ?_, ?_, ?_⟩
        · rw [st_k (by decide), x0]
        · rw [st_k (by decide), x1]
        · rw [st_eq, x2]
        · rw [st_k (by decide), x3, ej2]
        · rw [st_k (by decide), x4]
        · rw [st_k (by decide), x5]
        · rw [st_row (by decide), st_row (by decide)]
          exact y
        · intro i i0 i1
          rw [st_row (by decide), st_row (by decide), st_row (by decide)]
          by_cases hi : i = k
          · rw [hi]
            exact hk
          · exact z i i0 (by omega)
        · rw [st_row (by decide), st_row (by decide), st_row (by decide)]
          rw [ej2] at u
          exact u
      refine k_X3_addPiece_50 ?_
      simp (disch := omega) only [true_implies, false_implies, not_true_eq_false, not_false_eq_true, I_n, I_neg, I_add, I_sub, I_mul, I_le4, I_lt4, I_eq4, I_div4, I_bi0, I_bi01, I_bi1, nor_em, rI_of, rV_of, zI_of, zV_of, nz_and, br_T, br_F, br_T2, br_F2, st_eq, st9_0, st_k, st_i, true_and, and_true, Classical.not_not, pp_gI0, pp_gI1, pp_gI2, pp_gI3, pp_gI13, pp_gI15, pp_pI0, pp_pI1, pp_pI2, pp_pI3, pp_pI13, pp_pI15, pp_gR4, pp_gR5, pp_gR6, pp_gR7, pp_gR8, pp_gR9, pp_gR10, pp_gR11, pp_gR12, pp_gR14, pp_isO]
      first | exact last | exact ⟨fun _ => last, fun _ => last⟩ | exact ⟨fun _ => last, fun _ => ⟨fun _ => last, fun hh => absurd hb.2.2 hh⟩⟩
    | succ m ih =>
      intro j F j0 jm hF hk
      have hc := Int.mul_comm j (r 3)
      have hj3 : r 3 * j ≤ r 3 * gPo r k - r 3 := by
        have a := Int.mul_le_mul_of_nonneg_left (show j ≤ gPo r k - 1 by omega) (show 0 ≤ r 3 by omega)
        rw [Int.mul_sub, Int.mul_one] at a
        exact a
      have hb : 0 ≤ j * r 3 := Int.mul_nonneg j0 (by omega)
      have e1 : r 2 * k + j * r 3 = gPl r (gF r k + j) := by rw [gPl_of g k0 k1 j0 (by omega), hc]
      have e2 : (if gLen r k - j * r 3 < r 3 then I (gLen r k - j * r 3) else I (r 3)) = I (gPt r (gF r k + j)) := by
        rw [gPt_of g k0 k1 j0 (by omega), hc]
        by_cases hq : gLen r k - r 3 * j < r 3
        · rw [if_pos hq, if_neg (by omega)]
        · rw [if_neg hq, if_pos (by omega)]
      have pc := gPc_of g k0 k1 j0 (by omega : j < gPo r k)
      obtain ⟨b1, b2, b3, b4, b5, b6⟩ := gPl_b g (p := gF r k + j) (by omega) (by omega)
      have c3 := hF.1.2.2.2.1
      refine k_X3_addPiece_50 ?_
      simp (disch := omega) only [true_implies, false_implies, not_true_eq_false, not_false_eq_true, I_n, I_neg, I_add, I_sub, I_mul, I_le4, I_lt4, I_eq4, I_div4, I_bi0, I_bi01, I_bi1, nor_em, rI_of, rV_of, zI_of, zV_of, nz_and, br_T, br_F, br_T2, br_F2, st_eq, st9_0, st_k, st_i, true_and, and_true, Classical.not_not, pp_gI0, pp_gI1, pp_gI2, pp_gI3, pp_gI13, pp_gI15, pp_pI0, pp_pI1, pp_pI2, pp_pI3, pp_pI13, pp_pI15, pp_gR4, pp_gR5, pp_gR6, pp_gR7, pp_gR8, pp_gR9, pp_gR10, pp_gR11, pp_gR12, pp_gR14, pp_isO]
      rw [e1, e2]
      refine (c_X3_addPart hl (by omega) (by omega) (by omega) (by omega)).cl0 (by decide) ?_
      simp (disch := omega) only [true_implies, false_implies, not_true_eq_false, not_false_eq_true, I_n, I_neg, I_add, I_sub, I_mul, I_le4, I_lt4, I_eq4, I_div4, I_bi0, I_bi01, I_bi1, nor_em, rI_of, rV_of, zI_of, zV_of, nz_and, br_T, br_F, br_T2, br_F2, st_eq, st9_0, st_k, st_i, true_and, and_true, Classical.not_not, pp_gI0, pp_gI1, pp_gI2, pp_gI3, pp_gI13, pp_gI15, pp_pI0, pp_pI1, pp_pI2, pp_pI3, pp_pI13, pp_pI15, pp_gR4, pp_gR5, pp_gR6, pp_gR7, pp_gR8, pp_gR9, pp_gR10, pp_gR11, pp_gR12, pp_gR14, pp_isO]
      have v := PV_part g hF (by omega) (by omega) pc
      rw [Int.add_assoc] at v
      refine ih (j + 1) _ (by omega) (by omega) v ?_
      rw [kPa_j (by decide) (by decide) (by decide) (by decide), kPa_j (by decide) (by decide) (by decide) (by decide), kPa_j (by decide) (by decide) (by decide) (by decide)]
      exact hk
  exact loop (gPo r k).toNat 0 E (by omega) (by omega) (by rw [Int.add_zero]; exact hV) hE2
end CP
