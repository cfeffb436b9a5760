/-! the class: lose, dropWrong, dropWhole, the ban -/
def kLo1 (r : Int → Int) (D : Nat → Int → Int) (p : Int) : Nat → Int → Int := if D 3 (gPc r p) = 1 then st D 10 6 (D 10 6 - 1) else if D 3 (gPc r p) = 2 then st D 10 7 (D 10 7 - 1) else D
def kLo (r : Int → Int) (D : Nat → Int → Int) (p : Int) : Nat → Int → Int := st (st (st (st (kLo1 r D p) 3 (gPc r p) 0) 1 p (-1)) 2 (gPc r p) (D 2 (gPc r p) + 1)) 10 5 (D 10 5 + 1)
theorem kLo1_j {r : Int → Int} {D : Nat → Int → Int} {p : Int} {j : Nat} (h : j ≠ 10) : kLo1 r D p j = D j := by
  unfold kLo1
  split
  · exact st_row h
  · split
    · exact st_row h
    · rfl
theorem kLo1_y {r : Int → Int} {D : Nat → Int → Int} {p y : Int} (h6 : y ≠ 6) (h7 : y ≠ 7) : kLo1 r D p 10 y = D 10 y := by
  unfold kLo1
  split
  · exact st_k h6
  · split
    · exact st_k h7
    · rfl
theorem kLo_j {r : Int → Int} {D : Nat → Int → Int} {p : Int} {j : Nat} (h1 : j ≠ 1) (h2 : j ≠ 2) (h3 : j ≠ 3) (h : j ≠ 10) : kLo r D p j = D j := by
  unfold kLo
  rw [st_row h, st_row h2, st_row h1, st_row h3, kLo1_j h]
theorem kLo_y {r : Int → Int} {D : Nat → Int → Int} {p y : Int} (h5 : y ≠ 5) (h6 : y ≠ 6) (h7 : y ≠ 7) : kLo r D p 10 y = D 10 y := by
  unfold kLo
  rw [st_k h5, st_i (by decide), st_i (by decide), st_i (by decide), kLo1_y h6 h7]
theorem DR_lose {r : Int → Int} {D : Nat → Int → Int} {p e : Int} (w : RW r e) (p0 : 0 ≤ p) (p1 : p < gT r) (hz : r (96 + p) ≠ 0) (h : DR D r) : DR (kLo r D p) (rs r (96 + p) 0) := by
  have g := w.1
  obtain ⟨t1, t2⟩ := gT_b g
  have lg := g.2.1
  obtain ⟨pc1, pc2, pc3, pc4⟩ := gPc_b g p0 p1
  obtain ⟨h1, h2, h3, h4, h5, h6, h7, h8⟩ := id h
  have o : ∀ y, y ≠ 96 + p → rs r (96 + p) 0 y = r y := fun y hy => rs_ne hy
  have cf2 : ∀ y, cf y → rs r (96 + p) 0 y = r y := fun y hy => o y (by unfold cf at hy; omega)
  obtain ⟨e0, e2, e3, hB⟩ := cfg_c w cf2
  have hc := geo_c e0 e2 e3
  have qor : ∀ i, 0 ≤ i → i < gT r → i ≠ p → rs r (96 + p) 0 (96 + i) = r (96 + i) := fun i i0 i1 hi => o _ (by omega)
  have qp : rs r (96 + p) 0 (96 + p) = 0 := rs_eq
  have m1 := gMi_1 g e0 e2 e3 p0 p1 qor
  have ms := gMs_1 g e0 e2 e3 p0 p1 qor
  rw [bi_f hz, qp, bi_t rfl] at m1 ms
  have mo : ∀ k, 0 ≤ k → k < gN r → k ≠ gPc r p → gMi (rs r (96 + p) 0) k = gMi r k := fun k k0 k1 hk => gMi_o g e0 e2 e3 p0 p1 k0 k1 hk qor
  have vo : ∀ k, 0 ≤ k → k < gN r → k ≠ gPc r p → gV (rs r (96 + p) 0) k = gV r k := fun k k0 k1 hk => by
    obtain ⟨b1, b2, b3, b4⟩ := gLen_b g k0 k1
    exact gV_c w cf2 (mo k k0 k1 hk) fun _ j j0 j1 => o _ (by omega)
  have vk : gV (rs r (96 + p) 0) (gPc r p) = 0 := by
    have : 0 ≤ gMi r (gPc r p) := sg_bi.1
    exact if_pos (by omega)
  have good := DR_good h
  have dv := DR_v h pc1 pc2
  have cnt : ∀ v, v = 1 ∨ v = 2 → gIn (rs r (96 + p) 0) v = gIn r v - bi (gV r (gPc r p) = v) := fun v hv => by
    unfold gIn
    rw [hc.1]
    have a := sg_one (f := fun k => bi (gV r k = v)) (g := fun k => bi (gV (rs r (96 + p) 0) k = v)) (n := (gN r).toNat) (i := gPc r p) pc1 (by omega) fun k hk hne => by
      have := vo k (by omega) (by omega) hne
      simp only [this]
    rw [a, vk, bi_f (p := (0 : Int) = v) (by omega)]
    omega
  have K6 : kLo r D p 10 6 = gIn (rs r (96 + p) 0) 1 := by
    rw [cnt 1 (by omega)]
    unfold kLo
    rw [st_k (by omega), st_i (by decide), st_i (by decide), st_i (by decide)]
    unfold kLo1
    rw [dv]
    by_cases hv : gV r (gPc r p) = 1
    · rw [if_pos hv, st_eq, good.1, bi_t hv]
    · rw [if_neg hv, bi_f hv]
      split
      · rw [st_k (by omega), good.1]
        omega
      · rw [good.1]
        omega
  have K7 : kLo r D p 10 7 = gIn (rs r (96 + p) 0) 2 := by
    rw [cnt 2 (by omega)]
    unfold kLo
    rw [st_k (by omega), st_i (by decide), st_i (by decide), st_i (by decide)]
    unfold kLo1
    rw [dv]
    by_cases hv : gV r (gPc r p) = 1
    · rw [if_pos hv, st_k (by omega), good.2, bi_f (by omega)]
      omega
    · rw [if_neg hv]
      by_cases hv2 : gV r (gPc r p) = 2
      · rw [if_pos hv2, st_eq, good.2, bi_t hv2]
      · rw [if_neg hv2, good.2, bi_f hv2]
        omega
  refine ⟨?_, ?_, ?_, ⟨?_, ?_, ?_⟩, ⟨?_, ?_, ?_, ?_, ?_⟩, ?_, ?_, ?_⟩
  · intro p' p'0 p'1 hp' j j0 j1
    rw [hc.2.2.2.2.2.1] at p'1
    rw [hc.2.2.2.2.2.2.2.2] at j1
    rw [hc.2.2.2.2.2.2.2.1]
    obtain ⟨b1, b2, b3, b4, b5, b6⟩ := gPl_b g p'0 p'1
    have hpp : p' ≠ p := fun e => by rw [e, qp] at hp'; exact hp' rfl
    rw [qor p' p'0 p'1 hpp] at hp'
    rw [kLo_j (by decide) (by decide) (by decide) (by decide), o _ (by omega)]
    exact h1 p' p'0 p'1 hp' j j0 j1
  · intro p' p'0 p'1
    rw [hc.2.2.2.2.2.1] at p'1
    unfold kLo
    rw [st_i (by decide), st_i (by decide), st_if]
    by_cases hpp : p' = p
    · rw [if_pos hpp, hpp, qp]
      rfl
    · rw [if_neg hpp, st_i (by decide), kLo1_j (by decide), qor p' p'0 p'1 hpp]
      exact h2 p' p'0 p'1
  · intro k k0 k1
    rw [hc.1] at k1
    rw [if_neg (by omega)]
    unfold kLo
    rw [st_i (by decide), st_if, st_i (by decide), st_i (by decide), st_i (by decide), st_i (by decide), st_i (by decide), st_if, kLo1_j (by decide), kLo1_j (by decide)]
    by_cases hk : k = gPc r p
    · rw [if_pos hk, if_pos hk, hk, m1, vk, (h3 _ pc1 pc2).1]
      exact ⟨by omega, rfl⟩
    · rw [if_neg hk, if_neg hk, mo k k0 k1 hk, vo k k0 k1 hk]
      exact ⟨(h3 k k0 k1).1, DR_v h k0 k1⟩
  · rw [ms]
    unfold kLo
    rw [st_eq, h4.1]
    omega
  · rw [ind0]
    exact K6
  · rw [ind0]
    exact K7
  · rw [kLo_y (by omega) (by omega) (by omega), h5.1, o 5 (by omega)]
  · rw [kLo_y (by omega) (by omega) (by omega), h5.2.1, o 6 (by omega)]
  · rw [kLo_y (by omega) (by omega) (by omega), h5.2.2.1, o 8 (by omega)]
  · rw [kLo_y (by omega) (by omega) (by omega), h5.2.2.2.1, o 13 (by omega)]
  · rw [kLo_j (by decide) (by decide) (by decide) (by decide), h5.2.2.2.2, o 7 (by omega)]
  · intro s s0 s1
    rw [kLo_j (by decide) (by decide) (by decide) (by decide), kLo_j (by decide) (by decide) (by decide) (by decide), kLo_j (by decide) (by decide) (by decide) (by decide), o _ (by omega), o _ (by omega), o _ (by omega)]
    exact h6 s s0 s1
  · intro j j0 j1 j2
    rw [o 7 (by omega)] at j2
    rw [kLo_j (by decide) (by decide) (by decide) (by decide), kLo_j (by decide) (by decide) (by decide) (by decide), kLo_j (by decide) (by decide) (by decide) (by decide), o _ (by omega), o _ (by omega), o _ (by omega)]
    exact h7 j j0 j1 j2
  · rw [kLo_j (by decide) (by decide) (by decide) (by decide)]
    exact h8
def kDa (r : Int → Int) (D : Nat → Int → Int) (p : Int) : Nat → Int → Int := st (kLo r D p) 10 10 (D 10 10 + 1)
def kDw1 (r : Int → Int) (D : Nat → Int → Int) (p : Int) : Nat → Int → Int := if 2 ≤ D 1 p then kDa r D p else st (kDa r D p) 6 (D 1 p) (D 6 (D 1 p) + 1)
def kDw (r : Int → Int) (D : Nat → Int → Int) (p : Int) : Nat → Int → Int := kTell (kDw1 r D p) 3 p (D 1 p)
theorem lose_w {r : Int → Int} {p e : Int} (w : RW r e) (p0 : 0 ≤ p) (p1 : p < 240) : RW (rs r (96 + p) 0) e := RW_set w (by omega) (by omega) (by omega) (by omega) (by omega) (by omega) (by omega) (by omega) (by omega) (by omega) (by omega) (by omega)
theorem DR_da {r : Int → Int} {D : Nat → Int → Int} {p e : Int} (w : RW r e) (p0 : 0 ≤ p) (p1 : p < gT r) (hz : r (96 + p) ≠ 0) (h : DR D r) : DR (kDa r D p) (rD2 r p) := by
  obtain ⟨t1, t2⟩ := gT_b w.1
  have lg := w.1.2.1
  have x := DR_lose w p0 p1 hz h
  obtain ⟨a1, a2, a3, a4, a5, a6, a7, a8⟩ := id x
  have h5 := h.2.2.2.2.1
  refine DX_cnt (lose_w w p0 (by omega)) x (fun y _ _ h8 _ => rs_ne h8) (fun j _ _ _ h10 => st_row h10) (fun y hy => st_k (by omega)) ?_ ?_
  · unfold kDa rD2
    rw [st_k (by omega), st_k (by omega), st_eq, st_k (by omega), rs_ne (b := 5) (by omega), rs_ne (b := 6) (by omega), rs_eq, rs_ne (b := 13) (by omega), rs_ne (k := 96 + p) (b := 8) (by omega), h5.2.2.1]
    exact ⟨a5.1, a5.2.1, rfl, a5.2.2.2.1⟩
  · intro s s0 s1
    unfold kDa rD2
    rw [st_i (by decide), st_i (by decide), st_i (by decide), rs_ne (k := 8) (by omega), rs_ne (k := 8) (by omega), rs_ne (k := 8) (by omega)]
    exact a6 s s0 s1
theorem DR_dw {r : Int → Int} {D : Nat → Int → Int} {p e : Int} (w : RW r e) (he : e + 10 ≤ 2000000000) (p0 : 0 ≤ p) (p1 : p < gT r) (hz : r (96 + p) ≠ 0) (h : DR D r) : DR (kDw r D p) (rDr r p 3) ∧ D 1 p = r (96 + p) - 1 := by
  obtain ⟨t1, t2⟩ := gT_b w.1
  have lg := w.1.2.1
  have x := DR_da w p0 p1 hz h
  have w2 := rD2_w w he p0 (by omega)
  obtain ⟨w3, o3⟩ := rD3_w w he p0 (by omega) hz
  have eo := h.2.1 p p0 p1
  have hb := w.2.2.2.2.2.2.2.2.2.1 p p0 (by omega)
  refine ⟨?_, eo⟩
  have x3 : DR (kDw1 r D p) (rD3 r p) := by
    unfold kDw1 rD3
    rw [eo]
    by_cases h2 : 2 ≤ r (96 + p) - 1
    · rw [if_pos h2, if_pos h2]
      exact x
    · rw [if_neg h2, if_neg h2]
      obtain ⟨a1, a2, a3, a4, a5, a6, a7, a8⟩ := id x
      refine DX_cnt w2 x (fun y _ _ _ hy => rs_ne (by omega)) (fun j _ _ h6 _ => st_row h6) (fun y _ => st_i (by decide)) ?_ ?_
      · rw [st_i (by decide), st_i (by decide), st_i (by decide), st_i (by decide), rs_ne (by omega), rs_ne (by omega), rs_ne (by omega), rs_ne (by omega)]
        exact ⟨a5.1, a5.2.1, a5.2.2.1, a5.2.2.2.1⟩
      · intro s s0 s1
        obtain ⟨b1, b2, b3⟩ := a6 s s0 s1
        rw [st_i (by decide), st_i (by decide), st_if, rs_ne (b := 14 + s) (by omega), rs_ne (b := 16 + s) (by omega)]
        refine ⟨b1, b2, ?_⟩
        by_cases hs : s = r (96 + p) - 1
        · have b := (h.2.2.2.2.2.1 (r (96 + p) - 1) (by omega) (by omega)).2.2
          rw [if_pos hs, hs, rs_eq, b, rD2_o (by omega) (by omega)]
        · rw [if_neg hs, rs_ne (by omega), b3]
  unfold kDw rDr
  rw [if_pos rfl, eo]
  exact DX_tell w3 x3
def kBan (r : Int → Int) (D : Nat → Int → Int) : Nat → Int → Int := if D 10 14 = 0 ∧ r 4 ≤ D 6 1 then kTell (st (st D 10 14 1) 4 1 0) 6 1 (D 6 1) else D
theorem DR_ban {r : Int → Int} {D : Nat → Int → Int} {e : Int} (w : RW r e) (h : DR D r) : DR (kBan r D) (rBan r) := by
  obtain ⟨a1, a2, a3, a4, a5, a6, a7, a8⟩ := id h
  have e6 := (a6 1 (by omega) (by omega)).2.2
  unfold kBan rBan
  rw [a5.2.2.2.1, e6, show (18 : Int) + 1 = 19 by decide]
  by_cases hc : r 13 = 0 ∧ r 4 ≤ r 19
  · rw [if_pos hc, if_pos hc, rs_ne (k := 15) (b := 19) (by omega), rs_ne (k := 13) (b := 19) (by omega)]
    have w2 : RW (rs (rs r 13 1) 15 0) e := by
      refine RW_set ?_ (by omega) (by omega) (by omega) (by omega) (by omega) (by omega) (by omega) (by omega) (by omega) (by omega) (by omega) (by omega)
      exact RW_set w (by omega) (by omega) (by omega) (by omega) (by omega) (by omega) (by omega) (by omega) (by omega) (by omega) (by omega) (by omega)
    refine DX_tell w2 (DX_cnt w h (fun y _ _ _ hy => by rw [rs_ne (by omega), rs_ne (by omega)]) (fun j h4 _ _ h10 => by rw [st_row h4, st_row h10]) (fun y hy => by rw [st_i (by decide), st_k (by omega)]) ?_ ?_)
    · have z : ∀ y, st (st D 10 14 1) 4 1 0 10 y = st D 10 14 1 10 y := fun y => st_i (by decide)
      rw [z, z, z, z, st_k (by omega), st_k (by omega), st_k (by omega), st_eq, rs_ne (b := 5) (by omega), rs_ne (b := 5) (by omega), rs_ne (b := 6) (by omega), rs_ne (b := 6) (by omega), rs_ne (b := 8) (by omega), rs_ne (b := 8) (by omega), rs_ne (b := 13) (by omega), rs_eq]
      exact ⟨a5.1, a5.2.1, a5.2.2.1, rfl⟩
    · intro s s0 s1
      obtain ⟨b1, b2, b3⟩ := a6 s s0 s1
      rw [st_if, st_i (by decide), st_i (by decide), st_i (by decide), st_i (by decide), st_i (by decide), rs_ne (k := 15) (b := 16 + s) (by omega), rs_ne (k := 13) (b := 16 + s) (by omega), rs_ne (k := 15) (b := 18 + s) (by omega), rs_ne (k := 13) (b := 18 + s) (by omega)]
      refine ⟨?_, b2, b3⟩
      by_cases hs : s = 1
      · rw [if_pos hs, hs]
        exact rs_eq.symm
      · rw [if_neg hs, rs_ne (by omega), rs_ne (by omega), b1]
  · rw [if_neg hc, if_neg hc]
    exact h
section CL
variable {l : Launch} {X : XT} {a p : Nat} {B : AH} {D P : Nat → Int → Int} {r : Int → Int} {e lo hi : Int}
theorem c_X1_lose (hl : l.stackTraces = false) (hd : p + 10 < a ∨ a + 12 < p) (hP : PlanAt X B p P) (hR : PR P r) (w : RW r e) (h : DR D r) {k : Int} (k0 : 0 ≤ k) (k1 : k < gT r) : Fn l X 1 M_X1_lose [.ref a, .int (I k)] (dp X a p B D) 0 0 Rv (dp X a p B (kLo r D k)) := by
  obtain ⟨t1, t2⟩ := gT_b w.1
  have lg := w.1.2.1
  obtain ⟨pc1, pc2, pc3, pc4⟩ := gPc_b w.1 k0 k1
  obtain ⟨n1, n2, -⟩ := gN_b w.1
  have hp := fun D => dp_pl (D := D) hd hP
  have e6 := hR.2.2.2.2.2.1 k k0 k1
  have ev := DR_v h pc1 pc2
  have hv := gV_b (r := r) (k := gPc r k)
  have fin : ∀ E, E = kLo1 r D k → G l X M_X1_lose 1 (fun o' A1 => o' = Rv ∧ A1 = dp X a p B (kLo r D k)) 59 [(0, .ref a), (1, .int (I k)), (2, .int (I (gPc r k)))] [] (dp X a p B E) 0 0 := by
    intro E hE
    have E2 : E 2 (gPc r k) = D 2 (gPc r k) := by rw [hE, kLo1_j (by decide)]
    have E5 : E 10 5 = D 10 5 := by rw [hE, kLo1_y (by omega) (by omega)]
    refine k_X1_lose_59 ?_
    simp (disch := omega) only [true_implies, false_implies, not_true_eq_false, not_false_eq_true, I_n, I_neg, I_add, I_sub, I_mul, I_le4, I_lt4, I_eq4, I_div4, I_bi0, I_bi01, I_bi1, nor_em, rI_of, rV_of, zI_of, zV_of, nz_and, br_T, br_F, br_T2, br_F2, st_eq, st9_0, st_k, st_i, true_and, and_true, Classical.not_not, or_true, true_or, or_false, false_or, rR_of, dp_gI5, dp_gI6, dp_gI7, dp_gI8, dp_gI9, dp_gI10, dp_gI14, dp_pI5, dp_pI6, dp_pI7, dp_pI8, dp_pI9, dp_pI10, dp_pI14, dp_gR0, dp_gR1, dp_gR2, dp_gR3, dp_gR4, dp_gR11, dp_gR12, dp_gR13, dp_gR15, dp_gR16, dp_gA3, dp_pA3, dp_gAR0, dp_gAR1, dp_gAR2, dp_isO, dp_isA]
    refine (put_d3 hl (by omega) (by omega)).cl0 (by decide) ?_
    simp (disch := omega) only [true_implies, false_implies, not_true_eq_false, not_false_eq_true, I_n, I_neg, I_add, I_sub, I_mul, I_le4, I_lt4, I_eq4, I_div4, I_bi0, I_bi01, I_bi1, nor_em, rI_of, rV_of, zI_of, zV_of, nz_and, br_T, br_F, br_T2, br_F2, st_eq, st9_0, st_k, st_i, true_and, and_true, Classical.not_not, or_true, true_or, or_false, false_or, rR_of, dp_gI5, dp_gI6, dp_gI7, dp_gI8, dp_gI9, dp_gI10, dp_gI14, dp_pI5, dp_pI6, dp_pI7, dp_pI8, dp_pI9, dp_pI10, dp_pI14, dp_gR0, dp_gR1, dp_gR2, dp_gR3, dp_gR4, dp_gR11, dp_gR12, dp_gR13, dp_gR15, dp_gR16, dp_gA3, dp_pA3, dp_gAR0, dp_gAR1, dp_gAR2, dp_isO, dp_isA]
    refine (put_d1 hl (by omega) (by omega)).cl0 (by decide) ?_
    simp (disch := omega) only [true_implies, false_implies, not_true_eq_false, not_false_eq_true, I_n, I_neg, I_add, I_sub, I_mul, I_le4, I_lt4, I_eq4, I_div4, I_bi0, I_bi01, I_bi1, nor_em, rI_of, rV_of, zI_of, zV_of, nz_and, br_T, br_F, br_T2, br_F2, st_eq, st9_0, st_k, st_i, true_and, and_true, Classical.not_not, or_true, true_or, or_false, false_or, rR_of, dp_gI5, dp_gI6, dp_gI7, dp_gI8, dp_gI9, dp_gI10, dp_gI14, dp_pI5, dp_pI6, dp_pI7, dp_pI8, dp_pI9, dp_pI10, dp_pI14, dp_gR0, dp_gR1, dp_gR2, dp_gR3, dp_gR4, dp_gR11, dp_gR12, dp_gR13, dp_gR15, dp_gR16, dp_gA3, dp_pA3, dp_gAR0, dp_gAR1, dp_gAR2, dp_isO, dp_isA]
    refine (at_d2 hl (by omega) (by omega)).cl0 (by decide) ?_
    simp (disch := omega) only [true_implies, false_implies, not_true_eq_false, not_false_eq_true, I_n, I_neg, I_add, I_sub, I_mul, I_le4, I_lt4, I_eq4, I_div4, I_bi0, I_bi01, I_bi1, nor_em, rI_of, rV_of, zI_of, zV_of, nz_and, br_T, br_F, br_T2, br_F2, st_eq, st9_0, st_k, st_i, true_and, and_true, Classical.not_not, or_true, true_or, or_false, false_or, rR_of, dp_gI5, dp_gI6, dp_gI7, dp_gI8, dp_gI9, dp_gI10, dp_gI14, dp_pI5, dp_pI6, dp_pI7, dp_pI8, dp_pI9, dp_pI10, dp_pI14, dp_gR0, dp_gR1, dp_gR2, dp_gR3, dp_gR4, dp_gR11, dp_gR12, dp_gR13, dp_gR15, dp_gR16, dp_gA3, dp_pA3, dp_gAR0, dp_gAR1, dp_gAR2, dp_isO, dp_isA]
    refine (put_d2 hl (by omega) (by omega)).cl0 (by decide) ?_
    simp (disch := omega) only [true_implies, false_implies, not_true_eq_false, not_false_eq_true, I_n, I_neg, I_add, I_sub, I_mul, I_le4, I_lt4, I_eq4, I_div4, I_bi0, I_bi01, I_bi1, nor_em, rI_of, rV_of, zI_of, zV_of, nz_and, br_T, br_F, br_T2, br_F2, st_eq, st9_0, st_k, st_i, true_and, and_true, Classical.not_not, or_true, true_or, or_false, false_or, rR_of, dp_gI5, dp_gI6, dp_gI7, dp_gI8, dp_gI9, dp_gI10, dp_gI14, dp_pI5, dp_pI6, dp_pI7, dp_pI8, dp_pI9, dp_pI10, dp_pI14, dp_gR0, dp_gR1, dp_gR2, dp_gR3, dp_gR4, dp_gR11, dp_gR12, dp_gR13, dp_gR15, dp_gR16, dp_gA3, dp_pA3, dp_gAR0, dp_gAR1, dp_gAR2, dp_isO, dp_isA]
    rw [E2, E5, hE]
    all_goals first | rfl | exact ⟨rfl, rfl⟩
  refine Fn.of hl rfl rfl (Nat.le_of_ble_eq_true rfl) (k_X1_lose_0 ?_)
  simp (disch := omega) only [true_implies, false_implies, not_true_eq_false, not_false_eq_true, I_n, I_neg, I_add, I_sub, I_mul, I_le4, I_lt4, I_eq4, I_div4, I_bi0, I_bi01, I_bi1, nor_em, rI_of, rV_of, zI_of, zV_of, nz_and, br_T, br_F, br_T2, br_F2, st_eq, st9_0, st_k, st_i, true_and, and_true, Classical.not_not, or_true, true_or, or_false, false_or, rR_of, dp_gI5, dp_gI6, dp_gI7, dp_gI8, dp_gI9, dp_gI10, dp_gI14, dp_pI5, dp_pI6, dp_pI7, dp_pI8, dp_pI9, dp_pI10, dp_pI14, dp_gR0, dp_gR1, dp_gR2, dp_gR3, dp_gR4, dp_gR11, dp_gR12, dp_gR13, dp_gR15, dp_gR16, dp_gA3, dp_pA3, dp_gAR0, dp_gAR1, dp_gAR2, dp_isO, dp_isA]
  rw [(hp _).r10]
  refine (at_p6 hl (hp _) (by omega) (by omega)).cl0 (by decide) ?_
  rw [e6]
  simp (disch := omega) only [true_implies, false_implies, not_true_eq_false, not_false_eq_true, I_n, I_neg, I_add, I_sub, I_mul, I_le4, I_lt4, I_eq4, I_div4, I_bi0, I_bi01, I_bi1, nor_em, rI_of, rV_of, zI_of, zV_of, nz_and, br_T, br_F, br_T2, br_F2, st_eq, st9_0, st_k, st_i, true_and, and_true, Classical.not_not, or_true, true_or, or_false, false_or, rR_of, dp_gI5, dp_gI6, dp_gI7, dp_gI8, dp_gI9, dp_gI10, dp_gI14, dp_pI5, dp_pI6, dp_pI7, dp_pI8, dp_pI9, dp_pI10, dp_pI14, dp_gR0, dp_gR1, dp_gR2, dp_gR3, dp_gR4, dp_gR11, dp_gR12, dp_gR13, dp_gR15, dp_gR16, dp_gA3, dp_pA3, dp_gAR0, dp_gAR1, dp_gAR2, dp_isO, dp_isA]
  refine (at_d3 hl (by omega) (by omega)).cl0 (by decide) ?_
  simp (disch := omega) only [true_implies, false_implies, not_true_eq_false, not_false_eq_true, I_n, I_neg, I_add, I_sub, I_mul, I_le4, I_lt4, I_eq4, I_div4, I_bi0, I_bi01, I_bi1, nor_em, rI_of, rV_of, zI_of, zV_of, nz_and, br_T, br_F, br_T2, br_F2, st_eq, st9_0, st_k, st_i, true_and, and_true, Classical.not_not, or_true, true_or, or_false, false_or, rR_of, dp_gI5, dp_gI6, dp_gI7, dp_gI8, dp_gI9, dp_gI10, dp_gI14, dp_pI5, dp_pI6, dp_pI7, dp_pI8, dp_pI9, dp_pI10, dp_pI14, dp_gR0, dp_gR1, dp_gR2, dp_gR3, dp_gR4, dp_gR11, dp_gR12, dp_gR13, dp_gR15, dp_gR16, dp_gA3, dp_pA3, dp_gAR0, dp_gAR1, dp_gAR2, dp_isO, dp_isA]
  refine ⟨fun h1 => ?_, fun h1 => ?_⟩
  · refine (at_d3 hl (by omega) (by omega)).cl0 (by decide) ?_
    simp (disch := omega) only [true_implies, false_implies, not_true_eq_false, not_false_eq_true, I_n, I_neg, I_add, I_sub, I_mul, I_le4, I_lt4, I_eq4, I_div4, I_bi0, I_bi01, I_bi1, nor_em, rI_of, rV_of, zI_of, zV_of, nz_and, br_T, br_F, br_T2, br_F2, st_eq, st9_0, st_k, st_i, true_and, and_true, Classical.not_not, or_true, true_or, or_false, false_or, rR_of, dp_gI5, dp_gI6, dp_gI7, dp_gI8, dp_gI9, dp_gI10, dp_gI14, dp_pI5, dp_pI6, dp_pI7, dp_pI8, dp_pI9, dp_pI10, dp_pI14, dp_gR0, dp_gR1, dp_gR2, dp_gR3, dp_gR4, dp_gR11, dp_gR12, dp_gR13, dp_gR15, dp_gR16, dp_gA3, dp_pA3, dp_gAR0, dp_gAR1, dp_gAR2, dp_isO, dp_isA]
    refine ⟨fun h2 => ?_, fun h2 => ?_⟩
    · exact fin _ (by unfold kLo1; rw [if_neg h1, if_neg h2])
    · exact fin _ (by unfold kLo1; rw [if_neg h1, if_pos h2])
  · exact fin _ (by unfold kLo1; rw [if_pos h1])
theorem c_X1_dropWrong (hl : l.stackTraces = false) (hd : p + 10 < a ∨ a + 12 < p) (hP : PlanAt X B p P) (hR : PR P r) (w : RW r e) (he : e + 10 ≤ 2000000000) (h : DR D r) {k : Int} (k0 : 0 ≤ k) (k1 : k < gT r) (hz : r (96 + k) ≠ 0) : Fn l X 2 M_X1_dropWrong [.ref a, .int (I k)] (dp X a p B D) 0 0 Rv (dp X a p B (kDw r D k)) := by
  obtain ⟨t1, t2⟩ := gT_b w.1
  have lg := w.1.2.1
  have hb := w.2.2.2.2.2.2.2.2.2.1 k k0 (by omega)
  have eo := h.2.1 k k0 k1
  have h5 := h.2.2.2.2.1
  have hgl := RW_gl w
  have fin : ∀ E, E = kDw1 r D k → G l X M_X1_dropWrong 2 (fun o' A1 => o' = Rv ∧ A1 = dp X a p B (kDw r D k)) 47 [(0, .ref a), (1, .int (I k)), (2, .int (I (D 1 k)))] [] (dp X a p B E) 0 0 := by
    intro E hE
    have E11 : E 11 3 = D 11 3 := by
      rw [hE]
      unfold kDw1 kDa
      split
      · rw [st_i (by decide), kLo_j (by decide) (by decide) (by decide) (by decide)]
      · rw [st_i (by decide), st_i (by decide), kLo_j (by decide) (by decide) (by decide) (by decide)]
    refine k_X1_dropWrong_47 ?_
    simp (disch := omega) only [true_implies, false_implies, not_true_eq_false, not_false_eq_true, I_n, I_neg, I_add, I_sub, I_mul, I_le4, I_lt4, I_eq4, I_div4, I_bi0, I_bi01, I_bi1, nor_em, rI_of, rV_of, zI_of, zV_of, nz_and, br_T, br_F, br_T2, br_F2, st_eq, st9_0, st_k, st_i, true_and, and_true, Classical.not_not, or_true, true_or, or_false, false_or, rR_of, dp_gI5, dp_gI6, dp_gI7, dp_gI8, dp_gI9, dp_gI10, dp_gI14, dp_pI5, dp_pI6, dp_pI7, dp_pI8, dp_pI9, dp_pI10, dp_pI14, dp_gR0, dp_gR1, dp_gR2, dp_gR3, dp_gR4, dp_gR11, dp_gR12, dp_gR13, dp_gR15, dp_gR16, dp_gA3, dp_pA3, dp_gAR0, dp_gAR1, dp_gAR2, dp_isO, dp_isA]
    refine (c_X0_write (D := E) hl (by rw [E11]; omega)).cl0 (by decide) ?_
    simp (disch := omega) only [true_implies, false_implies, not_true_eq_false, not_false_eq_true, I_n, I_neg, I_add, I_sub, I_mul, I_le4, I_lt4, I_eq4, I_div4, I_bi0, I_bi01, I_bi1, nor_em, rI_of, rV_of, zI_of, zV_of, nz_and, br_T, br_F, br_T2, br_F2, st_eq, st9_0, st_k, st_i, true_and, and_true, Classical.not_not, or_true, true_or, or_false, false_or, rR_of, dp_gI5, dp_gI6, dp_gI7, dp_gI8, dp_gI9, dp_gI10, dp_gI14, dp_pI5, dp_pI6, dp_pI7, dp_pI8, dp_pI9, dp_pI10, dp_pI14, dp_gR0, dp_gR1, dp_gR2, dp_gR3, dp_gR4, dp_gR11, dp_gR12, dp_gR13, dp_gR15, dp_gR16, dp_gA3, dp_pA3, dp_gAR0, dp_gAR1, dp_gAR2, dp_isO, dp_isA]
    unfold kDw
    rw [hE]
  have K10 : kLo r D k 10 10 = D 10 10 := kLo_y (by omega) (by omega) (by omega)
  refine Fn.of hl rfl rfl (Nat.le_of_ble_eq_true rfl) (k_X1_dropWrong_0 ?_)
  simp (disch := omega) only [true_implies, false_implies, not_true_eq_false, not_false_eq_true, I_n, I_neg, I_add, I_sub, I_mul, I_le4, I_lt4, I_eq4, I_div4, I_bi0, I_bi01, I_bi1, nor_em, rI_of, rV_of, zI_of, zV_of, nz_and, br_T, br_F, br_T2, br_F2, st_eq, st9_0, st_k, st_i, true_and, and_true, Classical.not_not, or_true, true_or, or_false, false_or, rR_of, dp_gI5, dp_gI6, dp_gI7, dp_gI8, dp_gI9, dp_gI10, dp_gI14, dp_pI5, dp_pI6, dp_pI7, dp_pI8, dp_pI9, dp_pI10, dp_pI14, dp_gR0, dp_gR1, dp_gR2, dp_gR3, dp_gR4, dp_gR11, dp_gR12, dp_gR13, dp_gR15, dp_gR16, dp_gA3, dp_pA3, dp_gAR0, dp_gAR1, dp_gAR2, dp_isO, dp_isA]
  refine (at_d1 hl (by omega) (by omega)).cl0 (by decide) ?_
  simp (disch := omega) only [true_implies, false_implies, not_true_eq_false, not_false_eq_true, I_n, I_neg, I_add, I_sub, I_mul, I_le4, I_lt4, I_eq4, I_div4, I_bi0, I_bi01, I_bi1, nor_em, rI_of, rV_of, zI_of, zV_of, nz_and, br_T, br_F, br_T2, br_F2, st_eq, st9_0, st_k, st_i, true_and, and_true, Classical.not_not, or_true, true_or, or_false, false_or, rR_of, dp_gI5, dp_gI6, dp_gI7, dp_gI8, dp_gI9, dp_gI10, dp_gI14, dp_pI5, dp_pI6, dp_pI7, dp_pI8, dp_pI9, dp_pI10, dp_pI14, dp_gR0, dp_gR1, dp_gR2, dp_gR3, dp_gR4, dp_gR11, dp_gR12, dp_gR13, dp_gR15, dp_gR16, dp_gA3, dp_pA3, dp_gAR0, dp_gAR1, dp_gAR2, dp_isO, dp_isA]
  refine (c_X1_lose hl hd hP hR w h k0 k1).cl0 (by decide) ?_
  simp (disch := omega) only [true_implies, false_implies, not_true_eq_false, not_false_eq_true, I_n, I_neg, I_add, I_sub, I_mul, I_le4, I_lt4, I_eq4, I_div4, I_bi0, I_bi01, I_bi1, nor_em, rI_of, rV_of, zI_of, zV_of, nz_and, br_T, br_F, br_T2, br_F2, st_eq, st9_0, st_k, st_i, true_and, and_true, Classical.not_not, or_true, true_or, or_false, false_or, rR_of, dp_gI5, dp_gI6, dp_gI7, dp_gI8, dp_gI9, dp_gI10, dp_gI14, dp_pI5, dp_pI6, dp_pI7, dp_pI8, dp_pI9, dp_pI10, dp_pI14, dp_gR0, dp_gR1, dp_gR2, dp_gR3, dp_gR4, dp_gR11, dp_gR12, dp_gR13, dp_gR15, dp_gR16, dp_gA3, dp_pA3, dp_gAR0, dp_gAR1, dp_gAR2, dp_isO, dp_isA]
  rw [K10, show st (kLo r D k) 10 10 (D 10 10 + 1) = kDa r D k from rfl]
  refine ⟨fun h2 => ?_, fun h2 => ?_⟩
  · exact fin _ (by unfold kDw1; rw [if_pos h2])
  · have K6 : kDa r D k 6 (D 1 k) = D 6 (D 1 k) := by
      unfold kDa
      rw [st_i (by decide), kLo_j (by decide) (by decide) (by decide) (by decide)]
    refine (at_d6 hl (by omega) (by omega)).cl0 (by decide) ?_
    rw [K6]
    simp (disch := omega) only [true_implies, false_implies, not_true_eq_false, not_false_eq_true, I_n, I_neg, I_add, I_sub, I_mul, I_le4, I_lt4, I_eq4, I_div4, I_bi0, I_bi01, I_bi1, nor_em, rI_of, rV_of, zI_of, zV_of, nz_and, br_T, br_F, br_T2, br_F2, st_eq, st9_0, st_k, st_i, true_and, and_true, Classical.not_not, or_true, true_or, or_false, false_or, rR_of, dp_gI5, dp_gI6, dp_gI7, dp_gI8, dp_gI9, dp_gI10, dp_gI14, dp_pI5, dp_pI6, dp_pI7, dp_pI8, dp_pI9, dp_pI10, dp_pI14, dp_gR0, dp_gR1, dp_gR2, dp_gR3, dp_gR4, dp_gR11, dp_gR12, dp_gR13, dp_gR15, dp_gR16, dp_gA3, dp_pA3, dp_gAR0, dp_gAR1, dp_gAR2, dp_isO, dp_isA]
    refine (put_d6 hl (by omega) (by omega)).cl0 (by decide) ?_
    simp (disch := omega) only [true_implies, false_implies, not_true_eq_false, not_false_eq_true, I_n, I_neg, I_add, I_sub, I_mul, I_le4, I_lt4, I_eq4, I_div4, I_bi0, I_bi01, I_bi1, nor_em, rI_of, rV_of, zI_of, zV_of, nz_and, br_T, br_F, br_T2, br_F2, st_eq, st9_0, st_k, st_i, true_and, and_true, Classical.not_not, or_true, true_or, or_false, false_or, rR_of, dp_gI5, dp_gI6, dp_gI7, dp_gI8, dp_gI9, dp_gI10, dp_gI14, dp_pI5, dp_pI6, dp_pI7, dp_pI8, dp_pI9, dp_pI10, dp_pI14, dp_gR0, dp_gR1, dp_gR2, dp_gR3, dp_gR4, dp_gR11, dp_gR12, dp_gR13, dp_gR15, dp_gR16, dp_gA3, dp_pA3, dp_gAR0, dp_gAR1, dp_gAR2, dp_isO, dp_isA]
    exact fin _ (by unfold kDw1; rw [if_neg h2])
theorem c_X1_ban (hl : l.stackTraces = false) (hd : p + 10 < a ∨ a + 12 < p) (hP : PlanAt X B p P) (hR : PR P r) (w : RW r e) (h : DR D r) : Fn l X 2 M_X1_banIfTooOftenWrong [.ref a] (dp X a p B D) 0 0 Rv (dp X a p B (kBan r D)) := by
  have hp := fun D => dp_pl (D := D) hd hP
  have e1 := hR.1.2.1
  have e6 := (h.2.2.2.2.2.1 1 (by omega) (by omega)).2.2
  have b18 := RW_18 w (s := 1) (by omega)
  have c2 := w.2.2.1
  have c4 := w.2.2.2.2.1
  have h5 := h.2.2.2.2.1
  have hgl := RW_gl w
  refine Fn.of hl rfl rfl (Nat.le_of_ble_eq_true rfl) (k_X1_banIfTooOftenWrong_0 ?_)
  simp (disch := omega) only [true_implies, false_implies, not_true_eq_false, not_false_eq_true, I_n, I_neg, I_add, I_sub, I_mul, I_le4, I_lt4, I_eq4, I_div4, I_bi0, I_bi01, I_bi1, nor_em, rI_of, rV_of, zI_of, zV_of, nz_and, br_T, br_F, br_T2, br_F2, st_eq, st9_0, st_k, st_i, true_and, and_true, Classical.not_not, or_true, true_or, or_false, false_or, rR_of, dp_gI5, dp_gI6, dp_gI7, dp_gI8, dp_gI9, dp_gI10, dp_gI14, dp_pI5, dp_pI6, dp_pI7, dp_pI8, dp_pI9, dp_pI10, dp_pI14, dp_gR0, dp_gR1, dp_gR2, dp_gR3, dp_gR4, dp_gR11, dp_gR12, dp_gR13, dp_gR15, dp_gR16, dp_gA3, dp_pA3, dp_gAR0, dp_gAR1, dp_gAR2, dp_isO, dp_isA]
  refine (at_d6 hl (by omega) (by omega)).cl0 (by decide) ?_
  simp (disch := omega) only [true_implies, false_implies, not_true_eq_false, not_false_eq_true, I_n, I_neg, I_add, I_sub, I_mul, I_le4, I_lt4, I_eq4, I_div4, I_bi0, I_bi01, I_bi1, nor_em, rI_of, rV_of, zI_of, zV_of, nz_and, br_T, br_F, br_T2, br_F2, st_eq, st9_0, st_k, st_i, true_and, and_true, Classical.not_not, or_true, true_or, or_false, false_or, rR_of, dp_gI5, dp_gI6, dp_gI7, dp_gI8, dp_gI9, dp_gI10, dp_gI14, dp_pI5, dp_pI6, dp_pI7, dp_pI8, dp_pI9, dp_pI10, dp_pI14, dp_gR0, dp_gR1, dp_gR2, dp_gR3, dp_gR4, dp_gR11, dp_gR12, dp_gR13, dp_gR15, dp_gR16, dp_gA3, dp_pA3, dp_gAR0, dp_gAR1, dp_gAR2, dp_isO, dp_isA]
  rw [(hp _).g1, e1]
  simp (disch := omega) only [true_implies, false_implies, not_true_eq_false, not_false_eq_true, I_n, I_neg, I_add, I_sub, I_mul, I_le4, I_lt4, I_eq4, I_div4, I_bi0, I_bi01, I_bi1, nor_em, rI_of, rV_of, zI_of, zV_of, nz_and, br_T, br_F, br_T2, br_F2, st_eq, st9_0, st_k, st_i, true_and, and_true, Classical.not_not, or_true, true_or, or_false, false_or, rR_of, dp_gI5, dp_gI6, dp_gI7, dp_gI8, dp_gI9, dp_gI10, dp_gI14, dp_pI5, dp_pI6, dp_pI7, dp_pI8, dp_pI9, dp_pI10, dp_pI14, dp_gR0, dp_gR1, dp_gR2, dp_gR3, dp_gR4, dp_gR11, dp_gR12, dp_gR13, dp_gR15, dp_gR16, dp_gA3, dp_pA3, dp_gAR0, dp_gAR1, dp_gAR2, dp_isO, dp_isA]
  unfold kBan
  refine ⟨fun h1 => ?_, fun h1 => ⟨fun h2 => ?_, fun h2 => ?_⟩⟩
  · rw [if_neg fun q => by omega]
    all_goals first | rfl | exact ⟨rfl, rfl⟩
  · rw [if_neg fun q => h2 q.1]
    all_goals first | rfl | exact ⟨rfl, rfl⟩
  · rw [if_pos ⟨h2, by omega⟩]
    refine (put_d4 hl (by omega) (by omega)).cl0 (by decide) ?_
    simp (disch := omega) only [true_implies, false_implies, not_true_eq_false, not_false_eq_true, I_n, I_neg, I_add, I_sub, I_mul, I_le4, I_lt4, I_eq4, I_div4, I_bi0, I_bi01, I_bi1, nor_em, rI_of, rV_of, zI_of, zV_of, nz_and, br_T, br_F, br_T2, br_F2, st_eq, st9_0, st_k, st_i, true_and, and_true, Classical.not_not, or_true, true_or, or_false, false_or, rR_of, dp_gI5, dp_gI6, dp_gI7, dp_gI8, dp_gI9, dp_gI10, dp_gI14, dp_pI5, dp_pI6, dp_pI7, dp_pI8, dp_pI9, dp_pI10, dp_pI14, dp_gR0, dp_gR1, dp_gR2, dp_gR3, dp_gR4, dp_gR11, dp_gR12, dp_gR13, dp_gR15, dp_gR16, dp_gA3, dp_pA3, dp_gAR0, dp_gAR1, dp_gAR2, dp_isO, dp_isA]
    refine (c_X0_write (D := st (st D 10 14 1) 4 1 0) hl (by rw [st_i (by decide), st_i (by decide)]; omega)).cl0 (by decide) ?_
    simp (disch := omega) only [true_implies, false_implies, not_true_eq_false, not_false_eq_true, I_n, I_neg, I_add, I_sub, I_mul, I_le4, I_lt4, I_eq4, I_div4, I_bi0, I_bi01, I_bi1, nor_em, rI_of, rV_of, zI_of, zV_of, nz_and, br_T, br_F, br_T2, br_F2, st_eq, st9_0, st_k, st_i, true_and, and_true, Classical.not_not, or_true, true_or, or_false, false_or, rR_of, dp_gI5, dp_gI6, dp_gI7, dp_gI8, dp_gI9, dp_gI10, dp_gI14, dp_pI5, dp_pI6, dp_pI7, dp_pI8, dp_pI9, dp_pI10, dp_pI14, dp_gR0, dp_gR1, dp_gR2, dp_gR3, dp_gR4, dp_gR11, dp_gR12, dp_gR13, dp_gR15, dp_gR16, dp_gA3, dp_pA3, dp_gAR0, dp_gAR1, dp_gAR2, dp_isO, dp_isA]
end CL
