/-! the class: takeUp -/
theorem rRp_v {r : Int → Int} {p n : Int} (h0 : 0 ≤ p) (g : GW r) (n0 : 0 ≤ n) (n1 : n < gT r) : rRp r p n (96 + n) = 3 ∧ (∀ y, gPl r n ≤ y → y < gPl r n + gPt r n → rRp r p n (336 + y) = r (696 + 242 * p + 2 + y)) ∧ ∀ y, y ≠ 96 + n → y < 336 + gPl r n ∨ 336 + gPl r n + gPt r n ≤ y → rRp r p n y = r y := by
  obtain ⟨l1, l2, l3, l4, l5, l6⟩ := gPl_b g n0 n1
  obtain ⟨t1, t2⟩ := gT_b g
  have lg := g.2.1
  refine ⟨?_, fun y y0 y1 => ?_, fun y hy hy2 => ?_⟩
  · unfold rRp cpy
    rw [if_neg (by omega), rs_eq]
  · unfold rRp cpy
    rw [if_pos (by omega), rs_ne (by omega)]
    exact congrArg r (by omega)
  · unfold rRp cpy
    rw [if_neg (by omega), rs_ne hy]
theorem sg_nul {f : Int → Int} : ∀ n : Nat, (∀ k : Nat, k < n → f k = 0) → sg f n = 0 := by
  intro n
  induction n with
  | zero => intro _; rfl
  | succ n ih =>
    intro h
    rw [sg_s, ih fun k hk => h k (by omega), h n (by omega)]
    rfl
/-- nothing is judged yet -/
theorem DX_out {D : Nat → Int → Int} {r : Int → Int} (h : DX D r 0 (gN r)) : (∀ k, 0 ≤ k → k < gN r → D 3 k = 0) ∧ D 10 6 = 0 ∧ D 10 7 = 0 := by
  obtain ⟨a1, a2, a3, a4, a5⟩ := h
  refine ⟨fun k k0 k1 => ?_, ?_, ?_⟩
  · have := (a3 k k0 k1).2
    rw [if_pos ⟨k0, k1⟩] at this
    exact this
  · rw [a4.2.1]
    exact sg_nul _ fun k hk => if_pos ⟨by omega, by omega⟩
  · rw [a4.2.2]
    exact sg_nul _ fun k hk => if_pos ⟨by omega, by omega⟩
theorem DX_putU {D : Nat → Int → Int} {r q : Int → Int} {p n e : Int} (w : RW r e) (h : DX D r 0 (gN r)) (p0 : 0 ≤ p) (p1 : p < r 9) (n0 : 0 ≤ n) (n1 : n < gT r) (hz : r (96 + n) = 0) (hf : gPl r n + gPt r n ≤ r (696 + 242 * p + 1)) (hq : ∀ y, 0 ≤ y → y < r (696 + 242 * p + 1) → q y = r (696 + 242 * p + 2 + y)) : DX (kPut r D n 2 q) (rRp r p n) 0 (gN (rRp r p n)) := by
  have g := w.1
  obtain ⟨l1, l2, l3, l4, l5, l6⟩ := gPl_b g n0 n1
  obtain ⟨t1, t2⟩ := gT_b g
  have lg := g.2.1
  obtain ⟨pc1, pc2, pc3, pc4⟩ := gPc_b g n0 n1
  obtain ⟨v1, v2, v3⟩ := rRp_v (r := r) (p := p) p0 g n0 n1
  obtain ⟨d1, d2, d3⟩ := DX_out h
  obtain ⟨h1, h2, h3, h4, h5, h6, h7, h8⟩ := id h
  have f7 := w.2.2.2.2.2.2.2.2.2.2.2.2.1 p p0 p1
  have f8 := w.2.2.2.2.2.2.2.2.2.2.2.2.2.1 p
  have c3 := w.2.2.2.1
  have o : ∀ y, y < 96 ∨ 576 ≤ y → rRp r p n y = r y := fun y hy => v3 y (by omega) (by omega)
  have cf2 : ∀ y, cf y → rRp r p n y = r y := fun y hy => o y (by unfold cf at hy; omega)
  obtain ⟨e0, e2, e3, hB⟩ := cfg_c w cf2
  have hc := geo_c e0 e2 e3
  have qor : ∀ i, 0 ≤ i → i < gT r → i ≠ n → rRp r p n (96 + i) = r (96 + i) := fun i i0 i1 hi => v3 _ (by omega) (by omega)
  have m1 := gMi_1 g e0 e2 e3 n0 n1 qor
  have ms := gMs_1 g e0 e2 e3 n0 n1 qor
  rw [bi_t hz, v1, bi_f (by decide : ¬ (3 : Int) = 0)] at m1 ms
  have mo : ∀ k, 0 ≤ k → k < gN r → k ≠ gPc r n → gMi (rRp r p n) k = gMi r k := fun k k0 k1 hk => gMi_o g e0 e2 e3 n0 n1 k0 k1 hk qor
  refine ⟨?_, ?_, ?_, ⟨?_, ?_, ?_⟩, ?_, ?_, ?_, ?_⟩
  · intro p' p'0 p'1 hp' j j0 j1
    rw [hc.2.2.2.2.2.1] at p'1
    rw [hc.2.2.2.2.2.2.2.2] at j1
    rw [hc.2.2.2.2.2.2.2.1, kPut_0]
    obtain ⟨b1, b2, b3, b4, b5, b6⟩ := gPl_b g p'0 p'1
    unfold cpy
    by_cases hpp : p' = n
    · subst hpp
      rw [if_pos (by omega), v2 _ (by omega) (by omega), show gPl r p' + (gPl r p' + j - gPl r p') = gPl r p' + j by omega]
      exact hq _ (by omega) (by omega)
    · have d := part_ne g n0 n1 p'0 p'1 hpp j0 j1
      rw [if_neg (by omega), v3 _ (by omega) (by omega)]
      rw [qor p' p'0 p'1 hpp] at hp'
      exact h1 p' p'0 p'1 hp' j j0 j1
  · intro p' p'0 p'1
    rw [hc.2.2.2.2.2.1] at p'1
    rw [kPut_1]
    by_cases hpp : p' = n
    · rw [if_pos hpp, hpp, v1]
      rfl
    · rw [if_neg hpp, qor p' p'0 p'1 hpp]
      exact h2 p' p'0 p'1
  · intro k k0 k1
    rw [if_pos ⟨k0, k1⟩]
    rw [hc.1] at k1
    rw [kPut_2, kPut_j (by decide) (by decide) (by decide) (by decide)]
    refine ⟨?_, d1 k k0 k1⟩
    by_cases hk : k = gPc r n
    · rw [if_pos hk, hk, m1, (h3 (gPc r n) pc1 pc2).1]
      omega
    · rw [if_neg hk, mo k k0 k1 hk]
      exact (h3 k k0 k1).1
  · rw [kPut_10, if_pos rfl, ms, h4.1]
    omega
  · rw [kPut_10, if_neg (by decide), d2]
    refine Eq.symm (sg_nul _ fun k hk => ?_)
    exact if_pos ⟨by omega, by omega⟩
  · rw [kPut_10, if_neg (by decide), d3]
    refine Eq.symm (sg_nul _ fun k hk => ?_)
    exact if_pos ⟨by omega, by omega⟩
  · rw [kPut_10, if_neg (by decide), kPut_10, if_neg (by decide), kPut_10, if_neg (by decide), kPut_10, if_neg (by decide), kPut_j (by decide) (by decide) (by decide) (by decide), o 5 (by omega), o 6 (by omega), o 8 (by omega), o 13 (by omega), o 7 (by omega)]
    exact h5
  · intro s s0 s1
    rw [kPut_j (by decide) (by decide) (by decide) (by decide), kPut_j (by decide) (by decide) (by decide) (by decide), kPut_j (by decide) (by decide) (by decide) (by decide), o _ (by omega), o _ (by omega), o _ (by omega)]
    exact h6 s s0 s1
  · intro j j0 j1 j2
    rw [o 7 (by omega)] at j2
    rw [kPut_j (by decide) (by decide) (by decide) (by decide), kPut_j (by decide) (by decide) (by decide) (by decide), kPut_j (by decide) (by decide) (by decide) (by decide), o _ (by omega), o _ (by omega), o _ (by omega)]
    exact h7 j j0 j1 j2
  · intro k k0 k1
    rw [kPut_0]
    unfold cpy
    split
    · rw [show gPl r n + (k - gPl r n) = k by omega, hq k k0 (by omega)]
      exact f8 k p0 (by omega) k0 k1
    · exact h8 k k0 k1
section CT
variable {l : Launch} {X : XT} {a p : Nat} {B : AH} {P : Nat → Int → Int}
theorem L_jud (hl : l.stackTraces = false) (hd : p + 10 < a ∨ a + 12 < p) (hP : PlanAt X B p P) : ∀ (m : Nat) (k : Int) (D : Nat → Int → Int) (r : Int → Int) (e : Int), PR P r → RW r e → e + m + 10 ≤ 2000000000 → DX D r k (gN r) → 0 ≤ k → k + m = gN r →
    G l X M_X1_takeUp 4 (fun o' A1 => o' = Rv ∧ ∃ D', A1 = dp X a p B D' ∧ DR D' (rJs m k r)) 81 [(0, .ref a), (2, .int (I k))] [] (dp X a p B D) 0 0 := by
  intro m
  induction m with
  | zero =>
    intro k D r e hR w he h k0 km
    obtain ⟨n1, n2, -⟩ := gN_b w.1
    have hp := dp_pl (D := D) hd hP
    refine k_X1_takeUp_81 ?_
    simp (disch := omega) only [true_implies, false_implies, not_true_eq_false, not_false_eq_true, I_n, I_neg, I_add, I_sub, I_mul, I_le4, I_lt4, I_eq4, I_div4, I_bi0, I_bi01, I_bi1, nor_em, rI_of, rV_of, zI_of, zV_of, nz_and, br_T, br_F, br_T2, br_F2, st_eq, st9_0, st_k, st_i, true_and, and_true, Classical.not_not, or_true, true_or, or_false, false_or, rR_of, dp_gI5, dp_gI6, dp_gI7, dp_gI8, dp_gI9, dp_gI10, dp_gI14, dp_pI5, dp_pI6, dp_pI7, dp_pI8, dp_pI9, dp_pI10, dp_pI14, dp_gR0, dp_gR1, dp_gR2, dp_gR3, dp_gR4, dp_gR11, dp_gR12, dp_gR13, dp_gR15, dp_gR16, dp_gA3, dp_pA3, dp_gAR0, dp_gAR1, dp_gAR2, dp_isO, dp_isA]
    rw [hp.g2, hR.1.2.2.1]
    simp (disch := omega) only [true_implies, false_implies, not_true_eq_false, not_false_eq_true, I_n, I_neg, I_add, I_sub, I_mul, I_le4, I_lt4, I_eq4, I_div4, I_bi0, I_bi01, I_bi1, nor_em, rI_of, rV_of, zI_of, zV_of, nz_and, br_T, br_F, br_T2, br_F2, st_eq, st9_0, st_k, st_i, true_and, and_true, Classical.not_not, or_true, true_or, or_false, false_or, rR_of, dp_gI5, dp_gI6, dp_gI7, dp_gI8, dp_gI9, dp_gI10, dp_gI14, dp_pI5, dp_pI6, dp_pI7, dp_pI8, dp_pI9, dp_pI10, dp_pI14, dp_gR0, dp_gR1, dp_gR2, dp_gR3, dp_gR4, dp_gR11, dp_gR12, dp_gR13, dp_gR15, dp_gR16, dp_gA3, dp_pA3, dp_gAR0, dp_gAR1, dp_gAR2, dp_isO, dp_isA]
    have ek : k = gN r := by omega
    rw [ek] at h
    exact ⟨D, rfl, DX_n h 0⟩
  | succ m ih =>
    intro k D r e hR w he h k0 km
    obtain ⟨n1, n2, -⟩ := gN_b w.1
    have hp := dp_pl (D := D) hd hP
    refine k_X1_takeUp_81 ?_
    simp (disch := omega) only [true_implies, false_implies, not_true_eq_false, not_false_eq_true, I_n, I_neg, I_add, I_sub, I_mul, I_le4, I_lt4, I_eq4, I_div4, I_bi0, I_bi01, I_bi1, nor_em, rI_of, rV_of, zI_of, zV_of, nz_and, br_T, br_F, br_T2, br_F2, st_eq, st9_0, st_k, st_i, true_and, and_true, Classical.not_not, or_true, true_or, or_false, false_or, rR_of, dp_gI5, dp_gI6, dp_gI7, dp_gI8, dp_gI9, dp_gI10, dp_gI14, dp_pI5, dp_pI6, dp_pI7, dp_pI8, dp_pI9, dp_pI10, dp_pI14, dp_gR0, dp_gR1, dp_gR2, dp_gR3, dp_gR4, dp_gR11, dp_gR12, dp_gR13, dp_gR15, dp_gR16, dp_gA3, dp_pA3, dp_gAR0, dp_gAR1, dp_gAR2, dp_isO, dp_isA]
    rw [hp.g2, hR.1.2.2.1]
    simp (disch := omega) only [true_implies, false_implies, not_true_eq_false, not_false_eq_true, I_n, I_neg, I_add, I_sub, I_mul, I_le4, I_lt4, I_eq4, I_div4, I_bi0, I_bi01, I_bi1, nor_em, rI_of, rV_of, zI_of, zV_of, nz_and, br_T, br_F, br_T2, br_F2, st_eq, st9_0, st_k, st_i, true_and, and_true, Classical.not_not, or_true, true_or, or_false, false_or, rR_of, dp_gI5, dp_gI6, dp_gI7, dp_gI8, dp_gI9, dp_gI10, dp_gI14, dp_pI5, dp_pI6, dp_pI7, dp_pI8, dp_pI9, dp_pI10, dp_pI14, dp_gR0, dp_gR1, dp_gR2, dp_gR3, dp_gR4, dp_gR11, dp_gR12, dp_gR13, dp_gR15, dp_gR16, dp_gA3, dp_pA3, dp_gAR0, dp_gAR1, dp_gAR2, dp_isO, dp_isA]
    refine (c_X1_judge hl hd hP hR w h k0 (by omega)).cl0 (by decide) ?_
    simp (disch := omega) only [true_implies, false_implies, not_true_eq_false, not_false_eq_true, I_n, I_neg, I_add, I_sub, I_mul, I_le4, I_lt4, I_eq4, I_div4, I_bi0, I_bi01, I_bi1, nor_em, rI_of, rV_of, zI_of, zV_of, nz_and, br_T, br_F, br_T2, br_F2, st_eq, st9_0, st_k, st_i, true_and, and_true, Classical.not_not, or_true, true_or, or_false, false_or, rR_of, dp_gI5, dp_gI6, dp_gI7, dp_gI8, dp_gI9, dp_gI10, dp_gI14, dp_pI5, dp_pI6, dp_pI7, dp_pI8, dp_pI9, dp_pI10, dp_pI14, dp_gR0, dp_gR1, dp_gR2, dp_gR3, dp_gR4, dp_gR11, dp_gR12, dp_gR13, dp_gR15, dp_gR16, dp_gA3, dp_pA3, dp_gAR0, dp_gAR1, dp_gAR2, dp_isO, dp_isA]
    have o : ∀ y, y < 7 ∨ 7 < y ∧ y < 576 ∨ 696 ≤ y → rJ r k y = r y := fun y hy => rJ_o w hy
    have cf2 : ∀ y, cf y → rJ r k y = r y := fun y hy => o y (by unfold cf at hy; omega)
    have hc := geo_c (o 0 (by omega)) (o 2 (by omega)) (o 3 (by omega))
    have j := DX_judge w h k0 (by omega) (by omega)
    rw [← hc.1] at j
    exact ih (k + 1) (kJ r D k) (rJ r k) (e + 1) (PR_c w cf2 hR) (rJ_w w (by omega) (by omega)) (by omega) j (by omega) (by rw [hc.1]; omega)
theorem L_end (hl : l.stackTraces = false) (hd : p + 10 < a ∨ a + 12 < p) (hP : PlanAt X B p P) {b z : Nat} {nm c : Int} (hb : B.2 b = some (ob 3 [.int (I nm), .ref z])) (hbd : b < a ∨ a + 12 < b) {D : Nat → Int → Int} {r : Int → Int} {e : Int} (hR : PR P r) (w : RW r e) (he : e + 100 ≤ 2000000000) (h : DX D r 0 (gN r)) (hm : gMs r = gT r - c) (hnm : 0 ≤ nm ∧ nm ≤ 999) (hc0 : 0 ≤ c) :
    G l X M_X1_takeUp 4 (fun o' A1 => o' = Rv ∧ ∃ D', A1 = dp X a p B D' ∧ DR D' (rJs (gN r).toNat 0 (rTell r 8 nm c))) 2 [(0, .ref a), (1, .ref b), (2, .int (I (gT r)))] [] (dp X a p B D) 0 0 := by
  obtain ⟨n1, n2, -⟩ := gN_b w.1
  obtain ⟨t1, t2⟩ := gT_b w.1
  have lg := w.1.2.1
  have hg := RW_gl w
  have hp := dp_pl (D := D) hd hP
  have hbb : (dp X a p B D).2 b = some (ob 3 [.int (I nm), .ref z]) := (dp_out hbd).trans hb
  have gm : 0 ≤ gMs r ∧ gMs r ≤ (gT r).toNat := sg_bi
  have e5 : D 10 5 = gMs r := h.2.2.2.1.1
  refine k_X1_takeUp_2 ?_
  simp (disch := omega) only [true_implies, false_implies, not_true_eq_false, not_false_eq_true, I_n, I_neg, I_add, I_sub, I_mul, I_le4, I_lt4, I_eq4, I_div4, I_bi0, I_bi01, I_bi1, nor_em, rI_of, rV_of, zI_of, zV_of, nz_and, br_T, br_F, br_T2, br_F2, st_eq, st9_0, st_k, st_i, true_and, and_true, Classical.not_not, or_true, true_or, or_false, false_or, rR_of, dp_gI5, dp_gI6, dp_gI7, dp_gI8, dp_gI9, dp_gI10, dp_gI14, dp_pI5, dp_pI6, dp_pI7, dp_pI8, dp_pI9, dp_pI10, dp_pI14, dp_gR0, dp_gR1, dp_gR2, dp_gR3, dp_gR4, dp_gR11, dp_gR12, dp_gR13, dp_gR15, dp_gR16, dp_gA3, dp_pA3, dp_gAR0, dp_gAR1, dp_gAR2, dp_isO, dp_isA]
  rw [hp.g3, hR.1.2.2.2.1]
  simp (disch := omega) only [true_implies, false_implies, not_true_eq_false, not_false_eq_true, I_n, I_neg, I_add, I_sub, I_mul, I_le4, I_lt4, I_eq4, I_div4, I_bi0, I_bi01, I_bi1, nor_em, rI_of, rV_of, zI_of, zV_of, nz_and, br_T, br_F, br_T2, br_F2, st_eq, st9_0, st_k, st_i, true_and, and_true, Classical.not_not, or_true, true_or, or_false, false_or, rR_of, dp_gI5, dp_gI6, dp_gI7, dp_gI8, dp_gI9, dp_gI10, dp_gI14, dp_pI5, dp_pI6, dp_pI7, dp_pI8, dp_pI9, dp_pI10, dp_pI14, dp_gR0, dp_gR1, dp_gR2, dp_gR3, dp_gR4, dp_gR11, dp_gR12, dp_gR13, dp_gR15, dp_gR16, dp_gA3, dp_pA3, dp_gAR0, dp_gAR1, dp_gAR2, dp_isO, dp_isA]
  rw [gI_iff hbb rfl]
  try simp (disch := omega) only [true_implies, false_implies, not_true_eq_false, not_false_eq_true, I_n, I_neg, I_add, I_sub, I_mul, I_le4, I_lt4, I_eq4, I_div4, I_bi0, I_bi01, I_bi1, nor_em, rI_of, rV_of, zI_of, zV_of, nz_and, br_T, br_F, br_T2, br_F2, st_eq, st9_0, st_k, st_i, true_and, and_true, Classical.not_not, or_true, true_or, or_false, false_or, rR_of, dp_gI5, dp_gI6, dp_gI7, dp_gI8, dp_gI9, dp_gI10, dp_gI14, dp_pI5, dp_pI6, dp_pI7, dp_pI8, dp_pI9, dp_pI10, dp_pI14, dp_gR0, dp_gR1, dp_gR2, dp_gR3, dp_gR4, dp_gR11, dp_gR12, dp_gR13, dp_gR15, dp_gR16, dp_gA3, dp_pA3, dp_gAR0, dp_gAR1, dp_gAR2, dp_isO, dp_isA]
  rw [hp.g3, hR.1.2.2.2.1]
  try simp (disch := omega) only [true_implies, false_implies, not_true_eq_false, not_false_eq_true, I_n, I_neg, I_add, I_sub, I_mul, I_le4, I_lt4, I_eq4, I_div4, I_bi0, I_bi01, I_bi1, nor_em, rI_of, rV_of, zI_of, zV_of, nz_and, br_T, br_F, br_T2, br_F2, st_eq, st9_0, st_k, st_i, true_and, and_true, Classical.not_not, or_true, true_or, or_false, false_or, rR_of, dp_gI5, dp_gI6, dp_gI7, dp_gI8, dp_gI9, dp_gI10, dp_gI14, dp_pI5, dp_pI6, dp_pI7, dp_pI8, dp_pI9, dp_pI10, dp_pI14, dp_gR0, dp_gR1, dp_gR2, dp_gR3, dp_gR4, dp_gR11, dp_gR12, dp_gR13, dp_gR15, dp_gR16, dp_gA3, dp_pA3, dp_gAR0, dp_gAR1, dp_gAR2, dp_isO, dp_isA]
  rw [e5, show gT r - gMs r = c by omega]
  refine (c_X0_write hl (by rw [h.2.2.2.2.1.2.2.2.2]; omega)).cl0 (by decide) ?_
  simp (disch := omega) only [true_implies, false_implies, not_true_eq_false, not_false_eq_true, I_n, I_neg, I_add, I_sub, I_mul, I_le4, I_lt4, I_eq4, I_div4, I_bi0, I_bi01, I_bi1, nor_em, rI_of, rV_of, zI_of, zV_of, nz_and, br_T, br_F, br_T2, br_F2, st_eq, st9_0, st_k, st_i, true_and, and_true, Classical.not_not, or_true, true_or, or_false, false_or, rR_of, dp_gI5, dp_gI6, dp_gI7, dp_gI8, dp_gI9, dp_gI10, dp_gI14, dp_pI5, dp_pI6, dp_pI7, dp_pI8, dp_pI9, dp_pI10, dp_pI14, dp_gR0, dp_gR1, dp_gR2, dp_gR3, dp_gR4, dp_gR11, dp_gR12, dp_gR13, dp_gR15, dp_gR16, dp_gA3, dp_pA3, dp_gAR0, dp_gAR1, dp_gAR2, dp_isO, dp_isA]
  have o : ∀ y, y ≠ 7 → y < 576 ∨ 696 ≤ y → rTell r 8 nm c y = r y := fun y h7 hy => rTell_g hg.1 (by omega)
  have cf2 : ∀ y, cf y → rTell r 8 nm c y = r y := fun y hy => o y (by unfold cf at hy; omega) (by unfold cf at hy; omega)
  have hc := geo_c (o 0 (by omega) (by omega)) (o 2 (by omega) (by omega)) (o 3 (by omega) (by omega))
  have j := DX_tell (κ := 8) (a := nm) (b := c) w h
  rw [← hc.1] at j
  have w2 := RW_tell (k := 8) (a := nm) (b := c) w (by omega) (by omega) (by omega) (by omega)
  have x := L_jud (a := a) hl hd hP (gN r).toNat 0 (kTell D 8 nm c) (rTell r 8 nm c) (e + 1) (PR_c w cf2 hR) w2 (by omega) j (by omega) (by rw [hc.1]; omega)
  exact x
theorem L_skip (hl : l.stackTraces = false) (hd : p + 10 < a ∨ a + 12 < p) (hP : PlanAt X B p P) {Q : Ot → AH → Prop} {b z : Nat} {nm len n : Int} {q : Int → Int} (hb : B.2 b = some (ob 3 [.int (I nm), .ref z])) (hbd : b < a ∨ a + 12 < b) (hz : B.2 z = some (ia X len.toNat (fun k => I (q k)))) (hzd : z < a ∨ a + 12 < z) (hlen : 0 ≤ len ∧ len ≤ 240) {D : Nat → Int → Int} {r : Int → Int} (hR : PR P r) (g : GW r) (n0 : 0 ≤ n) (hn : n < gT r → ¬ gPl r n + gPt r n ≤ len)
    (K : G l X M_X1_takeUp 4 Q 2 [(0, .ref a), (1, .ref b), (2, .int (I (gT r)))] [] (dp X a p B D) 0 0) : ∀ (m : Nat) (i : Int), i + m = gT r → n ≤ i → G l X M_X1_takeUp 4 Q 2 [(0, .ref a), (1, .ref b), (2, .int (I i))] [] (dp X a p B D) 0 0 := by
  have hp := dp_pl (D := D) hd hP
  obtain ⟨t1, t2⟩ := gT_b g
  have lg := g.2.1
  have hbb : (dp X a p B D).2 b = some (ob 3 [.int (I nm), .ref z]) := (dp_out hbd).trans hb
  have hzz : (dp X a p B D).2 z = some (ia X len.toNat (fun k => I (q k))) := (dp_out hzd).trans hz
  intro m
  induction m with
  | zero =>
    intro i hi _
    have : i = gT r := by omega
    rw [this]
    exact K
  | succ m ih =>
    intro i hi hni
    obtain ⟨b1, b2, b3, b4, b5, b6⟩ := gPl_b g (p := i) (by omega) (by omega)
    obtain ⟨b1', b2', b3', b4', b5', b6'⟩ := gPl_b g (p := n) (by omega) (by omega)
    have hno := hn (by omega)
    have hdj : gPl r n + gPt r n ≤ gPl r i + gPt r i := by
      by_cases hin : i = n
      · rw [hin]
        exact Int.le_refl _
      · have := part_dj g (p := n) (q := i) n0 (by omega) (by omega)
        omega
    have el : gLs r i = gPl r i := if_pos (by omega)
    refine k_X1_takeUp_2 ?_
    simp (disch := omega) only [true_implies, false_implies, not_true_eq_false, not_false_eq_true, I_n, I_neg, I_add, I_sub, I_mul, I_le4, I_lt4, I_eq4, I_div4, I_bi0, I_bi01, I_bi1, nor_em, rI_of, rV_of, zI_of, zV_of, nz_and, br_T, br_F, br_T2, br_F2, st_eq, st9_0, st_k, st_i, true_and, and_true, Classical.not_not, or_true, true_or, or_false, false_or, rR_of, dp_gI5, dp_gI6, dp_gI7, dp_gI8, dp_gI9, dp_gI10, dp_gI14, dp_pI5, dp_pI6, dp_pI7, dp_pI8, dp_pI9, dp_pI10, dp_pI14, dp_gR0, dp_gR1, dp_gR2, dp_gR3, dp_gR4, dp_gR11, dp_gR12, dp_gR13, dp_gR15, dp_gR16, dp_gA3, dp_pA3, dp_gAR0, dp_gAR1, dp_gAR2, dp_isO, dp_isA]
    rw [hp.g3, hR.1.2.2.2.1]
    simp (disch := omega) only [true_implies, false_implies, not_true_eq_false, not_false_eq_true, I_n, I_neg, I_add, I_sub, I_mul, I_le4, I_lt4, I_eq4, I_div4, I_bi0, I_bi01, I_bi1, nor_em, rI_of, rV_of, zI_of, zV_of, nz_and, br_T, br_F, br_T2, br_F2, st_eq, st9_0, st_k, st_i, true_and, and_true, Classical.not_not, or_true, true_or, or_false, false_or, rR_of, dp_gI5, dp_gI6, dp_gI7, dp_gI8, dp_gI9, dp_gI10, dp_gI14, dp_pI5, dp_pI6, dp_pI7, dp_pI8, dp_pI9, dp_pI10, dp_pI14, dp_gR0, dp_gR1, dp_gR2, dp_gR3, dp_gR4, dp_gR11, dp_gR12, dp_gR13, dp_gR15, dp_gR16, dp_gA3, dp_pA3, dp_gAR0, dp_gAR1, dp_gAR2, dp_isO, dp_isA]
    refine ⟨hp.isO, (c_X3_partStart hl hp hR g (by omega) (by omega)).cl0 (by decide) ?_⟩
    rw [el]
    simp (disch := omega) only [true_implies, false_implies, not_true_eq_false, not_false_eq_true, I_n, I_neg, I_add, I_sub, I_mul, I_le4, I_lt4, I_eq4, I_div4, I_bi0, I_bi01, I_bi1, nor_em, rI_of, rV_of, zI_of, zV_of, nz_and, br_T, br_F, br_T2, br_F2, st_eq, st9_0, st_k, st_i, true_and, and_true, Classical.not_not, or_true, true_or, or_false, false_or, rR_of, dp_gI5, dp_gI6, dp_gI7, dp_gI8, dp_gI9, dp_gI10, dp_gI14, dp_pI5, dp_pI6, dp_pI7, dp_pI8, dp_pI9, dp_pI10, dp_pI14, dp_gR0, dp_gR1, dp_gR2, dp_gR3, dp_gR4, dp_gR11, dp_gR12, dp_gR13, dp_gR15, dp_gR16, dp_gA3, dp_pA3, dp_gAR0, dp_gAR1, dp_gAR2, dp_isO, dp_isA]
    refine ⟨hp.isO, (c_X3_partLength hl hp hR g (by omega) (by omega)).cl0 (by decide) ?_⟩
    rw [rI_of, gR_iff hbb rfl, nI_iff hzz, I_ofNat, show ((len.toNat : Nat) : Int) = len by omega]
    simp (disch := omega) only [true_implies, false_implies, not_true_eq_false, not_false_eq_true, I_n, I_neg, I_add, I_sub, I_mul, I_le4, I_lt4, I_eq4, I_div4, I_bi0, I_bi01, I_bi1, nor_em, rI_of, rV_of, zI_of, zV_of, nz_and, br_T, br_F, br_T2, br_F2, st_eq, st9_0, st_k, st_i, true_and, and_true, Classical.not_not, or_true, true_or, or_false, false_or, rR_of, dp_gI5, dp_gI6, dp_gI7, dp_gI8, dp_gI9, dp_gI10, dp_gI14, dp_pI5, dp_pI6, dp_pI7, dp_pI8, dp_pI9, dp_pI10, dp_pI14, dp_gR0, dp_gR1, dp_gR2, dp_gR3, dp_gR4, dp_gR11, dp_gR12, dp_gR13, dp_gR15, dp_gR16, dp_gA3, dp_pA3, dp_gAR0, dp_gAR1, dp_gAR2, dp_isO, dp_isA]
    exact ih (i + 1) (by omega) (by omega)
theorem L_take (hl : l.stackTraces = false) (hd : p + 10 < a ∨ a + 12 < p) (hP : PlanAt X B p P) {b z : Nat} {nm len t : Int} {q : Int → Int} (hb : B.2 b = some (ob 3 [.int (I nm), .ref z])) (hbd : b < a ∨ a + 12 < b) (hz : B.2 z = some (ia X len.toNat (fun k => I (q k)))) (hzd : z < a ∨ a + 12 < z) (hlen : 0 ≤ len ∧ len ≤ 240) (hnm : 0 ≤ nm ∧ nm ≤ 999) (ht : 0 ≤ t) :
    ∀ (m : Nat) (n : Int) (D : Nat → Int → Int) (r : Int → Int) (e : Int), PR P r → RW r e → e + 100 ≤ 2000000000 → DX D r 0 (gN r) → gMs r = gT r - n → (∀ i, n ≤ i → i < gT r → r (96 + i) = 0) → 0 ≤ n → n + m = gT r → t < r 9 → len = r (696 + 242 * t + 1) → (∀ y, 0 ≤ y → y < len → q y = r (696 + 242 * t + 2 + y)) →
    G l X M_X1_takeUp 4 (fun o' A1 => o' = Rv ∧ ∃ D', A1 = dp X a p B D' ∧ DR D' (rJs (gN r).toNat 0 (rTell (rRe t m n r).1 8 nm (rRe t m n r).2))) 2 [(0, .ref a), (1, .ref b), (2, .int (I n))] [] (dp X a p B D) 0 0 := by
  intro m
  induction m with
  | zero =>
    intro n D r e hR w he h hm hz0 n0 hnm2 ht9 hle hq
    have en : n = gT r := by omega
    have x := L_end (a := a) hl hd hP (c := n) hb hbd hR w he h hm hnm n0
    rw [en]
    rw [en] at x
    exact x
  | succ m ih =>
    intro n D r e hR w he h hm hz0 n0 hnm2 ht9 hle hq
    obtain ⟨t1, t2⟩ := gT_b w.1
    have lg := w.1.2.1
    by_cases hf : gPl r n + gPt r n ≤ len
    · have e1 : rRe t (m + 1) n r = rRe t m (n + 1) (rRp r t n) := if_pos (by omega)
      obtain ⟨-, w2, o2⟩ := rRp_w w ht ht9 n0 (by omega) (by omega)
      obtain ⟨v1, v2, v3⟩ := rRp_v (r := r) (p := t) ht w.1 n0 (by omega)
      have cf2 : ∀ y, cf y → rRp r t n y = r y := fun y hy => o2 y (by unfold cf at hy; omega)
      have hc := geo_c (o2 0 (by omega)) (o2 2 (by omega)) (o2 3 (by omega))
      have hp := dp_pl (D := D) hd hP
      obtain ⟨b1, b2, b3, b4, b5, b6⟩ := gPl_b w.1 (p := n) (by omega) (by omega)
      have hbb : (dp X a p B D).2 b = some (ob 3 [.int (I nm), .ref z]) := (dp_out hbd).trans hb
      have hzz : (dp X a p B D).2 z = some (ia X len.toNat (fun k => I (q k))) := (dp_out hzd).trans hz
      have el : gLs r n = gPl r n := if_pos (by omega)
      have ms := gMs_1 w.1 (o2 0 (by omega)) (o2 2 (by omega)) (o2 3 (by omega)) n0 (by omega) (q := rRp r t n) fun i i0 i1 hi => v3 _ (by omega) (by omega)
      rw [bi_t (hz0 n (by omega) (by omega)), v1, bi_f (by decide : ¬ (3 : Int) = 0)] at ms
      have nx2 := DX_putU w h ht ht9 n0 (by omega) (hz0 n (by omega) (by omega)) (by omega) (q := q) fun y y0 y1 => hq y y0 (by omega)
      have x := ih (n + 1) (kPut r D n 2 q) (rRp r t n) e (PR_c w cf2 hR) w2 he nx2 (by rw [hc.2.2.2.2.2.1]; omega) (fun i i0 i1 => by
        rw [hc.2.2.2.2.2.1] at i1
        rw [v3 _ (by omega) (by omega)]
        exact hz0 i (by omega) i1) (by omega) (by rw [hc.2.2.2.2.2.1]; omega) (by rw [o2 9 (by omega)]; exact ht9) (by rw [o2 _ (by omega)]; exact hle) (fun y y0 y1 => by rw [o2 _ (by omega)]; exact hq y y0 y1)
      rw [hc.1] at x
      rw [e1]
      refine k_X1_takeUp_2 ?_
      simp (disch := omega) only [true_implies, false_implies, not_true_eq_false, not_false_eq_true, I_n, I_neg, I_add, I_sub, I_mul, I_le4, I_lt4, I_eq4, I_div4, I_bi0, I_bi01, I_bi1, nor_em, rI_of, rV_of, zI_of, zV_of, nz_and, br_T, br_F, br_T2, br_F2, st_eq, st9_0, st_k, st_i, true_and, and_true, Classical.not_not, or_true, true_or, or_false, false_or, rR_of, dp_gI5, dp_gI6, dp_gI7, dp_gI8, dp_gI9, dp_gI10, dp_gI14, dp_pI5, dp_pI6, dp_pI7, dp_pI8, dp_pI9, dp_pI10, dp_pI14, dp_gR0, dp_gR1, dp_gR2, dp_gR3, dp_gR4, dp_gR11, dp_gR12, dp_gR13, dp_gR15, dp_gR16, dp_gA3, dp_pA3, dp_gAR0, dp_gAR1, dp_gAR2, dp_isO, dp_isA]
      rw [hp.g3, hR.1.2.2.2.1]
      simp (disch := omega) only [true_implies, false_implies, not_true_eq_false, not_false_eq_true, I_n, I_neg, I_add, I_sub, I_mul, I_le4, I_lt4, I_eq4, I_div4, I_bi0, I_bi01, I_bi1, nor_em, rI_of, rV_of, zI_of, zV_of, nz_and, br_T, br_F, br_T2, br_F2, st_eq, st9_0, st_k, st_i, true_and, and_true, Classical.not_not, or_true, true_or, or_false, false_or, rR_of, dp_gI5, dp_gI6, dp_gI7, dp_gI8, dp_gI9, dp_gI10, dp_gI14, dp_pI5, dp_pI6, dp_pI7, dp_pI8, dp_pI9, dp_pI10, dp_pI14, dp_gR0, dp_gR1, dp_gR2, dp_gR3, dp_gR4, dp_gR11, dp_gR12, dp_gR13, dp_gR15, dp_gR16, dp_gA3, dp_pA3, dp_gAR0, dp_gAR1, dp_gAR2, dp_isO, dp_isA]
      refine ⟨hp.isO, (c_X3_partStart hl hp hR w.1 (by omega) (by omega)).cl0 (by decide) ?_⟩
      rw [el]
      simp (disch := omega) only [true_implies, false_implies, not_true_eq_false, not_false_eq_true, I_n, I_neg, I_add, I_sub, I_mul, I_le4, I_lt4, I_eq4, I_div4, I_bi0, I_bi01, I_bi1, nor_em, rI_of, rV_of, zI_of, zV_of, nz_and, br_T, br_F, br_T2, br_F2, st_eq, st9_0, st_k, st_i, true_and, and_true, Classical.not_not, or_true, true_or, or_false, false_or, rR_of, dp_gI5, dp_gI6, dp_gI7, dp_gI8, dp_gI9, dp_gI10, dp_gI14, dp_pI5, dp_pI6, dp_pI7, dp_pI8, dp_pI9, dp_pI10, dp_pI14, dp_gR0, dp_gR1, dp_gR2, dp_gR3, dp_gR4, dp_gR11, dp_gR12, dp_gR13, dp_gR15, dp_gR16, dp_gA3, dp_pA3, dp_gAR0, dp_gAR1, dp_gAR2, dp_isO, dp_isA]
      refine ⟨hp.isO, (c_X3_partLength hl hp hR w.1 (by omega) (by omega)).cl0 (by decide) ?_⟩
      rw [rI_of, gR_iff hbb rfl, nI_iff hzz, I_ofNat, show ((len.toNat : Nat) : Int) = len by omega]
      simp (disch := omega) only [true_implies, false_implies, not_true_eq_false, not_false_eq_true, I_n, I_neg, I_add, I_sub, I_mul, I_le4, I_lt4, I_eq4, I_div4, I_bi0, I_bi01, I_bi1, nor_em, rI_of, rV_of, zI_of, zV_of, nz_and, br_T, br_F, br_T2, br_F2, st_eq, st9_0, st_k, st_i, true_and, and_true, Classical.not_not, or_true, true_or, or_false, false_or, rR_of, dp_gI5, dp_gI6, dp_gI7, dp_gI8, dp_gI9, dp_gI10, dp_gI14, dp_pI5, dp_pI6, dp_pI7, dp_pI8, dp_pI9, dp_pI10, dp_pI14, dp_gR0, dp_gR1, dp_gR2, dp_gR3, dp_gR4, dp_gR11, dp_gR12, dp_gR13, dp_gR15, dp_gR16, dp_gA3, dp_pA3, dp_gAR0, dp_gAR1, dp_gAR2, dp_isO, dp_isA]
      rw [gR_iff hbb rfl]
      refine (c_X1_putPart hl hd hP hR w.1 n0 (by omega) hz hzd (by omega) (by omega)).cl0 (by decide) ?_
      simp (disch := omega) only [true_implies, false_implies, not_true_eq_false, not_false_eq_true, I_n, I_neg, I_add, I_sub, I_mul, I_le4, I_lt4, I_eq4, I_div4, I_bi0, I_bi01, I_bi1, nor_em, rI_of, rV_of, zI_of, zV_of, nz_and, br_T, br_F, br_T2, br_F2, st_eq, st9_0, st_k, st_i, true_and, and_true, Classical.not_not, or_true, true_or, or_false, false_or, rR_of, dp_gI5, dp_gI6, dp_gI7, dp_gI8, dp_gI9, dp_gI10, dp_gI14, dp_pI5, dp_pI6, dp_pI7, dp_pI8, dp_pI9, dp_pI10, dp_pI14, dp_gR0, dp_gR1, dp_gR2, dp_gR3, dp_gR4, dp_gR11, dp_gR12, dp_gR13, dp_gR15, dp_gR16, dp_gA3, dp_pA3, dp_gAR0, dp_gAR1, dp_gAR2, dp_isO, dp_isA]
      exact x
    · have e1 : rRe t (m + 1) n r = (r, n) := if_neg (by omega)
      rw [e1]
      exact L_skip hl hd hP hb hbd hz hzd hlen hR w.1 n0 (fun _ => hf) (L_end (a := a) hl hd hP (c := n) hb hbd hR w he h hm hnm n0) (m + 1) n hnm2 (by omega)
theorem c_X1_takeUp (hl : l.stackTraces = false) (hd : p + 10 < a ∨ a + 12 < p) (hP : PlanAt X B p P) {b z : Nat} {nm len t : Int} {q : Int → Int} (hb : B.2 b = some (ob 3 [.int (I nm), .ref z])) (hbd : b < a ∨ a + 12 < b) (hz : B.2 z = some (ia X len.toNat (fun k => I (q k)))) (hzd : z < a ∨ a + 12 < z) (ht : 0 ≤ t)
    {D : Nat → Int → Int} {r : Int → Int} {e : Int} (hR : PR P r) (w : RW r e) (he : e + 100 ≤ 2000000000) (h : DR D r) (hm : gMs r = gT r) (ht9 : t < r 9) (hnm : nm = r (696 + 242 * t)) (hle : len = r (696 + 242 * t + 1)) (hq : ∀ y, 0 ≤ y → y < len → q y = r (696 + 242 * t + 2 + y)) :
    Ct l X 4 M_X1_takeUp [.ref a, .ref b] (dp X a p B D) 0 0 (fun o' A1 => o' = Rv ∧ ∃ D', A1 = dp X a p B D' ∧ DR D' (rJs (gN r).toNat 0 (rTell (rRe t (gT r).toNat 0 r).1 8 ((rRe t (gT r).toNat 0 r).1 (696 + 242 * t)) (rRe t (gT r).toNat 0 r).2))) := by
  obtain ⟨t1, t2⟩ := gT_b w.1
  have lg := w.1.2.1
  have f7 := w.2.2.2.2.2.2.2.2.2.2.2.2.1 t ht ht9
  obtain ⟨-, o2, -, -⟩ := rRe_w ht (gT r).toNat 0 r e w ht9 (by omega) (by omega)
  have hz0 : ∀ i, 0 ≤ i → i < gT r → r (96 + i) = 0 := fun i i0 i1 => by
    have a := (sg_all (f := fun j => bi (r (96 + j) = 0)) (gT r).toNat fun j _ => bi_b).mp (by unfold gMs at hm; omega) i.toNat (by omega)
    rw [show ((i.toNat : Nat) : Int) = i by omega] at a
    exact Classical.byContradiction fun hc => by
      have : bi (r (96 + i) = 0) = 0 := bi_f hc
      omega
  have hV : ∀ k, 0 ≤ k → k < gN r → gV r k = 0 := fun k k0 k1 => by
    obtain ⟨f1, f2⟩ := gF_b w.1 k0 k1
    obtain ⟨p1, -⟩ := gPo_b w.1 k0 k1
    have := (sg_all (f := fun j => bi (r (96 + (gF r k + j)) = 0)) (gPo r k).toNat fun j _ => bi_b).mpr fun j hj => bi_t (hz0 _ (by omega) (by omega))
    have e : gMi r k = (gPo r k).toNat := this
    exact if_pos (by omega)
  have hX : DX D r 0 (gN r) := by
    obtain ⟨g1, g2⟩ := DR_good h
    have hv := fun k k0 k1 => DR_v h (k := k) k0 k1
    obtain ⟨a1, a2, a3, a4, a5⟩ := h
    refine ⟨a1, a2, fun k k0 k1 => ⟨(a3 k k0 k1).1, ?_⟩, ⟨a4.1, ?_, ?_⟩, a5⟩
    · rw [if_pos ⟨k0, k1⟩, hv k k0 k1, hV k k0 k1]
    · rw [g1]
      refine (sg_nul _ fun k hk => ?_).trans (sg_nul _ fun k hk => ?_).symm
      · show bi (gV r k = 1) = 0
        rw [hV k (by omega) (by omega)]
        exact bi_f (by decide)
      · exact if_pos ⟨by omega, by omega⟩
    · rw [g2]
      refine (sg_nul _ fun k hk => ?_).trans (sg_nul _ fun k hk => ?_).symm
      · show bi (gV r k = 2) = 0
        rw [hV k (by omega) (by omega)]
        exact bi_f (by decide)
      · exact if_pos ⟨by omega, by omega⟩
  rw [o2 (696 + 242 * t) (by omega), ← hnm]
  refine Ct.of hl rfl rfl (Nat.le_of_ble_eq_true rfl) (k_X1_takeUp_0 ?_)
  simp only [I_n]
  exact L_take hl hd hP hb hbd hz hzd (by omega) (by omega) ht (gT r).toNat 0 D r e hR w he hX (by omega) (fun i i0 i1 => hz0 i i0 i1) (by omega) (by omega) ht9 hle hq
end CT
