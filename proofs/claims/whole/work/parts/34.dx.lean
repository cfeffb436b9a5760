/-! the class: a Download against a row; events; what it tells -/
/-- the Download D holds the row r; of the pieces from lo to hi - 1 the verdicts are still out -/
def DX (D : Nat → Int → Int) (r : Int → Int) (lo hi : Int) : Prop :=
  (∀ p, 0 ≤ p → p < gT r → r (96 + p) ≠ 0 → ∀ j, 0 ≤ j → j < gPt r p → D 0 (gPl r p + j) = r (336 + (gPl r p + j))) ∧
  (∀ p, 0 ≤ p → p < gT r → D 1 p = r (96 + p) - 1) ∧
  (∀ k, 0 ≤ k → k < gN r → D 2 k = gMi r k ∧ D 3 k = (if lo ≤ k ∧ k < hi then 0 else gV r k)) ∧
  (D 10 5 = gMs r ∧ D 10 6 = sg (fun k => if lo ≤ k ∧ k < hi then 0 else bi (gV r k = 1)) (gN r).toNat ∧ D 10 7 = sg (fun k => if lo ≤ k ∧ k < hi then 0 else bi (gV r k = 2)) (gN r).toNat) ∧
  (D 10 8 = r 5 ∧ D 10 9 = r 6 ∧ D 10 10 = r 8 ∧ D 10 14 = r 13 ∧ D 11 3 = r 7) ∧
  (∀ s, 0 ≤ s → s ≤ 1 → D 4 s = r (14 + s) ∧ D 5 s = r (16 + s) ∧ D 6 s = r (18 + s)) ∧
  (∀ j, 0 ≤ j → j < 40 → j < r 7 → D 7 j = r (576 + 3 * j) ∧ D 8 j = r (576 + 3 * j + 1) ∧ D 9 j = r (576 + 3 * j + 2)) ∧
  (∀ k, 0 ≤ k → k < 240 → 0 ≤ D 0 k ∧ D 0 k ≤ 255)
abbrev DR (D : Nat → Int → Int) (r : Int → Int) : Prop := DX D r 0 0
theorem ind0 {r : Int → Int} {lo v : Int} : sg (fun k => if lo ≤ k ∧ k < lo then 0 else bi (gV r k = v)) (gN r).toNat = gIn r v := by
  refine sg_congr fun k _ => if_neg (by omega)
theorem DX_n {D : Nat → Int → Int} {r : Int → Int} {lo : Int} (h : DX D r lo lo) (lo' : Int) : DX D r lo' lo' := by
  obtain ⟨a1, a2, a3, a4, a5⟩ := h
  refine ⟨a1, a2, fun k k0 k1 => ?_, ?_, a5⟩
  · obtain ⟨b1, b2⟩ := a3 k k0 k1
    rw [if_neg (by omega)] at b2
    exact ⟨b1, by rw [if_neg (by omega)]; exact b2⟩
  · rw [ind0, ind0] at a4
    rw [ind0, ind0]
    exact a4
theorem DR_good {D : Nat → Int → Int} {r : Int → Int} (h : DR D r) : D 10 6 = gIn r 1 ∧ D 10 7 = gIn r 2 := by
  have a4 := h.2.2.2.1
  rw [ind0, ind0] at a4
  exact a4.2
theorem DR_v {D : Nat → Int → Int} {r : Int → Int} (h : DR D r) {k : Int} (k0 : 0 ≤ k) (k1 : k < gN r) : D 3 k = gV r k := by
  have b2 := (h.2.2.1 k k0 k1).2
  rw [if_neg (by omega)] at b2
  exact b2
theorem gIn_b {r : Int → Int} {v : Int} : 0 ≤ gIn r v ∧ gIn r v ≤ (gN r).toNat := sg_bi
/-- an event, told -/
def kTell (D : Nat → Int → Int) (k a b : Int) : Nat → Int → Int := st (st (st (st D 7 (D 11 3 - D 11 3 / 40 * 40) k) 8 (D 11 3 - D 11 3 / 40 * 40) a) 9 (D 11 3 - D 11 3 / 40 * 40) b) 11 3 (D 11 3 + 1)
theorem kTell_j {D : Nat → Int → Int} {k a b : Int} {j : Nat} (h : j ≠ 7) (h8 : j ≠ 8) (h9 : j ≠ 9) (h11 : j ≠ 11) : kTell D k a b j = D j := by
  unfold kTell
  rw [st_row h11, st_row h9, st_row h8, st_row h]
theorem kTell_11 {D : Nat → Int → Int} {k a b : Int} : kTell D k a b 11 3 = D 11 3 + 1 := st_eq
/-- the events of a row: what a Download's ring holds -/
theorem kTell_ev {D : Nat → Int → Int} {r : Int → Int} {κ a b : Int} (h0 : 0 ≤ r 7) (h7 : D 11 3 = r 7) (h : ∀ j, 0 ≤ j → j < 40 → j < r 7 → D 7 j = r (576 + 3 * j) ∧ D 8 j = r (576 + 3 * j + 1) ∧ D 9 j = r (576 + 3 * j + 2)) :
    ∀ j, 0 ≤ j → j < 40 → j < rTell r κ a b 7 → kTell D κ a b 7 j = rTell r κ a b (576 + 3 * j) ∧ kTell D κ a b 8 j = rTell r κ a b (576 + 3 * j + 1) ∧ kTell D κ a b 9 j = rTell r κ a b (576 + 3 * j + 2) := by
  intro j j0 j1 j2
  have e7 : rTell r κ a b 7 = r 7 + 1 := rs_eq
  rw [e7] at j2
  unfold kTell rTell
  rw [h7]
  obtain ⟨s, hs⟩ : ∃ s, s = r 7 - r 7 / 40 * 40 := ⟨_, rfl⟩
  rw [← hs]
  have hs1 : 0 ≤ s ∧ s < 40 := by omega
  by_cases hj : j = s
  · subst hj
    refine ⟨?_, ?_, ?_⟩
    · rw [st_i (by decide), st_i (by decide), st_i (by decide), st_eq, rs_ne (by omega), rs_ne (by omega), rs_ne (by omega), rs_eq]
    · rw [st_i (by decide), st_i (by decide), st_eq, rs_ne (by omega), rs_ne (by omega), rs_eq]
    · rw [st_i (by decide), st_eq, rs_ne (by omega), rs_eq]
  · have hlt : j < r 7 := by omega
    obtain ⟨b1, b2, b3⟩ := h j j0 j1 hlt
    refine ⟨?_, ?_, ?_⟩
    · rw [st_i (by decide), st_i (by decide), st_i (by decide), st_k hj, rs_ne (by omega), rs_ne (by omega), rs_ne (by omega), rs_ne (by omega), b1]
    · rw [st_i (by decide), st_i (by decide), st_k hj, st_i (by decide), rs_ne (by omega), rs_ne (by omega), rs_ne (by omega), rs_ne (by omega), b2]
    · rw [st_i (by decide), st_k hj, st_i (by decide), st_i (by decide), rs_ne (by omega), rs_ne (by omega), rs_ne (by omega), rs_ne (by omega), b3]
/-- what DX asks of the row, apart from events: the places that count -/
theorem DX_row {D : Nat → Int → Int} {r q : Int → Int} {lo hi e : Int} (w : RW r e) (h : DX D r lo hi) (he : ∀ y, y < 7 ∨ 7 < y ∧ y < 576 → q y = r y) (h7 : D 11 3 = q 7) (hev : ∀ j, 0 ≤ j → j < 40 → j < q 7 → D 7 j = q (576 + 3 * j) ∧ D 8 j = q (576 + 3 * j + 1) ∧ D 9 j = q (576 + 3 * j + 2)) : DX D q lo hi := by
  obtain ⟨a1, a2, a3, a4, a5, a6, a7, a8⟩ := id h
  have hcf : ∀ y, cf y → q y = r y := fun y hy => he y (by unfold cf at hy; omega)
  obtain ⟨h0, h2, h3, hB⟩ := cfg_c w hcf
  have hc := geo_c h0 h2 h3
  obtain ⟨t1, t2⟩ := gT_b w.1
  have lg := w.1.2.1
  have hM : ∀ k, 0 ≤ k → k < gN r → gMi q k = gMi r k := fun k k0 k1 => by
    obtain ⟨f1, f2⟩ := gF_b w.1 k0 k1
    exact gMi_c h0 h2 h3 fun i i0 i1 => by rw [he _ (by omega)]
  have hV : ∀ k, 0 ≤ k → k < gN r → gV q k = gV r k := fun k k0 k1 => by
    obtain ⟨l1, l2, l3, l4⟩ := gLen_b w.1 k0 k1
    exact gV_c w hcf (hM k k0 k1) fun _ j j0 j1 => he _ (by omega)
  have hMs : gMs q = gMs r := gMs_c w.1 h0 h2 h3 fun i i0 i1 => he _ (by omega)
  refine ⟨?_, ?_, ?_, ?_, ?_, ?_, hev, a8⟩
  · intro p p0 p1 hp j j0 j1
    rw [hc.2.2.2.2.2.1] at p1
    rw [he _ (by omega)] at hp
    rw [hc.2.2.2.2.2.2.2.2] at j1
    obtain ⟨b1, b2, b3, b4, b5, b6⟩ := gPl_b w.1 p0 p1
    rw [hc.2.2.2.2.2.2.2.1, he _ (by omega)]
    exact a1 p p0 p1 hp j j0 j1
  · intro p p0 p1
    rw [hc.2.2.2.2.2.1] at p1
    rw [he _ (by omega)]
    exact a2 p p0 p1
  · intro k k0 k1
    rw [hc.1] at k1
    rw [hM k k0 k1, hV k k0 k1]
    exact a3 k k0 k1
  · rw [hMs, hc.1]
    obtain ⟨b1, b2, b3⟩ := a4
    refine ⟨b1, ?_, ?_⟩
    · rw [b2]
      refine sg_congr fun k hk => ?_
      rw [hV k (by omega) (by omega)]
    · rw [b3]
      refine sg_congr fun k hk => ?_
      rw [hV k (by omega) (by omega)]
  · rw [he 5 (by omega), he 6 (by omega), he 8 (by omega), he 13 (by omega)]
    exact ⟨a5.1, a5.2.1, a5.2.2.1, a5.2.2.2.1, h7⟩
  · intro s s0 s1
    rw [he _ (by omega), he _ (by omega), he _ (by omega)]
    exact a6 s s0 s1
/-- DX of another Download, its events apart -/
theorem DX_D {D E : Nat → Int → Int} {r : Int → Int} {lo hi : Int} (h : DX D r lo hi) (hj : ∀ j, j ≤ 6 ∨ j = 10 → E j = D j) (h7 : E 11 3 = r 7) (hev : ∀ j, 0 ≤ j → j < 40 → j < r 7 → E 7 j = r (576 + 3 * j) ∧ E 8 j = r (576 + 3 * j + 1) ∧ E 9 j = r (576 + 3 * j + 2)) : DX E r lo hi := by
  obtain ⟨a1, a2, a3, a4, a5, a6, a7, a8⟩ := h
  unfold DX
  rw [hj 0 (by omega), hj 1 (by omega), hj 2 (by omega), hj 3 (by omega), hj 4 (by omega), hj 5 (by omega), hj 6 (by omega), hj 10 (by omega)]
  exact ⟨a1, a2, a3, a4, ⟨a5.1, a5.2.1, a5.2.2.1, a5.2.2.2.1, h7⟩, a6, hev, a8⟩
theorem DX_tell {D : Nat → Int → Int} {r : Int → Int} {lo hi e κ a b : Int} (w : RW r e) (h : DX D r lo hi) : DX (kTell D κ a b) (rTell r κ a b) lo hi := by
  have hg := RW_gl w
  have e7 : rTell r κ a b 7 = r 7 + 1 := rs_eq
  have ev := kTell_ev (κ := κ) (a := a) (b := b) hg.1 h.2.2.2.2.1.2.2.2.2 h.2.2.2.2.2.2.1
  obtain ⟨a1, a2, a3, a4, a5, a6, a7, a8⟩ := id h
  have hcf : ∀ y, y < 7 ∨ 7 < y ∧ y < 576 → rTell r κ a b y = r y := fun y hy => rTell_g hg.1 (by omega)
  -- first the Download with the new ring over the new row
  have x : DX (fun i => if i = 11 then fun _ => r 7 + 1 else if i = 7 ∨ i = 8 ∨ i = 9 then kTell D κ a b i else D i) (rTell r κ a b) lo hi := by
    have y : DX (fun i => if i = 7 ∨ i = 8 ∨ i = 9 ∨ i = 11 then (if i = 11 then fun _ => r 7 else D i) else D i) r lo hi := by
      refine DX_D h ?_ ?_ ?_
      · intro j hj
        exact if_neg (by omega)
      · rfl
      · intro j j0 j1 j2
        exact a7 j j0 j1 j2
    obtain ⟨y1, y2, y3, y4, y5, y6, y7, y8⟩ := id y
    have hcf2 : ∀ y, cf y → rTell r κ a b y = r y := fun y hy => hcf y (by unfold cf at hy; omega)
    obtain ⟨h0, h2, h3, hB⟩ := cfg_c w hcf2
    have hc := geo_c h0 h2 h3
    obtain ⟨t1, t2⟩ := gT_b w.1
    have lg := w.1.2.1
    have hM : ∀ k, 0 ≤ k → k < gN r → gMi (rTell r κ a b) k = gMi r k := fun k k0 k1 => by
      obtain ⟨f1, f2⟩ := gF_b w.1 k0 k1
      exact gMi_c h0 h2 h3 fun i i0 i1 => by rw [hcf _ (by omega)]
    have hV : ∀ k, 0 ≤ k → k < gN r → gV (rTell r κ a b) k = gV r k := fun k k0 k1 => by
      obtain ⟨l1, l2, l3, l4⟩ := gLen_b w.1 k0 k1
      exact gV_c w hcf2 (hM k k0 k1) fun _ j j0 j1 => hcf _ (by omega)
    have hMs : gMs (rTell r κ a b) = gMs r := gMs_c w.1 h0 h2 h3 fun i i0 i1 => hcf _ (by omega)
    refine ⟨?_, ?_, ?_, ?_, ?_, ?_, ?_, a8⟩
    · intro p p0 p1 hp j j0 j1
      rw [hc.2.2.2.2.2.1] at p1
      rw [hcf _ (by omega)] at hp
      rw [hc.2.2.2.2.2.2.2.2] at j1
      obtain ⟨b1, b2, b3, b4, b5, b6⟩ := gPl_b w.1 p0 p1
      rw [hc.2.2.2.2.2.2.2.1, hcf _ (by omega)]
      exact a1 p p0 p1 hp j j0 j1
    · intro p p0 p1
      rw [hc.2.2.2.2.2.1] at p1
      rw [hcf _ (by omega)]
      exact a2 p p0 p1
    · intro k k0 k1
      rw [hc.1] at k1
      rw [hM k k0 k1, hV k k0 k1]
      exact a3 k k0 k1
    · rw [hMs, hc.1]
      obtain ⟨b1, b2, b3⟩ := a4
      refine ⟨b1, ?_, ?_⟩
      · refine b2.trans (sg_congr fun k hk => ?_)
        rw [hV k (by omega) (by omega)]
      · refine b3.trans (sg_congr fun k hk => ?_)
        rw [hV k (by omega) (by omega)]
    · rw [hcf 5 (by omega), hcf 6 (by omega), hcf 8 (by omega), hcf 13 (by omega)]
      exact ⟨a5.1, a5.2.1, a5.2.2.1, a5.2.2.2.1, e7.symm⟩
    · intro s s0 s1
      rw [hcf _ (by omega), hcf _ (by omega), hcf _ (by omega)]
      exact a6 s s0 s1
    · exact ev
  refine DX_D x ?_ ?_ ?_
  · intro j hj
    rw [kTell_j (by omega) (by omega) (by omega) (by omega)]
    exact ((if_neg (by omega)).trans (if_neg (by omega))).symm
  · rw [kTell_11, e7, a5.2.2.2.2]
  · exact ev
section CT
variable {l : Launch} {X : XT} {a p : Nat} {B : AH} {D P : Nat → Int → Int} {r : Int → Int} {e lo hi : Int}
theorem dp_pl (hd : p + 10 < a ∨ a + 12 < p) (h : PlanAt X B p P) : PlanAt X (dp X a p B D) p P := h.of fun b h1 h2 => dp_out (by omega)
theorem c_X0_write (hl : l.stackTraces = false) (h0 : 0 ≤ D 11 3 ∧ D 11 3 ≤ 2100000000) {k x y : Int} : Fn l X 1 M_X0_write [.ref (a + 9), .int (I k), .int (I x), .int (I y)] (dp X a p B D) 0 0 Rv (dp X a p B (kTell D k x y)) := by
  refine Fn.of hl rfl rfl (Nat.le_of_ble_eq_true rfl) (k_X0_write_0 ?_)
  simp (disch := omega) only [true_implies, false_implies, not_true_eq_false, not_false_eq_true, I_n, I_neg, I_add, I_sub, I_mul, I_le4, I_lt4, I_eq4, I_div4, I_bi0, I_bi01, I_bi1, nor_em, rI_of, rV_of, zI_of, zV_of, nz_and, br_T, br_F, br_T2, br_F2, st_eq, st9_0, st_k, st_i, true_and, and_true, Classical.not_not, rR_of, dp_gI5, dp_gI6, dp_gI7, dp_gI8, dp_gI9, dp_gI10, dp_gI14, dp_pI5, dp_pI6, dp_pI7, dp_pI8, dp_pI9, dp_pI10, dp_pI14, dp_gR0, dp_gR1, dp_gR2, dp_gR3, dp_gR4, dp_gR11, dp_gR12, dp_gR13, dp_gR15, dp_gR16, dp_gA3, dp_pA3, dp_gAR0, dp_gAR1, dp_gAR2, dp_isO, dp_isA]
  refine (put_d7 hl (by omega) (by omega)).cl0 (by decide) ?_
  simp (disch := omega) only [true_implies, false_implies, not_true_eq_false, not_false_eq_true, I_n, I_neg, I_add, I_sub, I_mul, I_le4, I_lt4, I_eq4, I_div4, I_bi0, I_bi01, I_bi1, nor_em, rI_of, rV_of, zI_of, zV_of, nz_and, br_T, br_F, br_T2, br_F2, st_eq, st9_0, st_k, st_i, true_and, and_true, Classical.not_not, rR_of, dp_gI5, dp_gI6, dp_gI7, dp_gI8, dp_gI9, dp_gI10, dp_gI14, dp_pI5, dp_pI6, dp_pI7, dp_pI8, dp_pI9, dp_pI10, dp_pI14, dp_gR0, dp_gR1, dp_gR2, dp_gR3, dp_gR4, dp_gR11, dp_gR12, dp_gR13, dp_gR15, dp_gR16, dp_gA3, dp_pA3, dp_gAR0, dp_gAR1, dp_gAR2, dp_isO, dp_isA]
  refine (put_d8 hl (by omega) (by omega)).cl0 (by decide) ?_
  simp (disch := omega) only [true_implies, false_implies, not_true_eq_false, not_false_eq_true, I_n, I_neg, I_add, I_sub, I_mul, I_le4, I_lt4, I_eq4, I_div4, I_bi0, I_bi01, I_bi1, nor_em, rI_of, rV_of, zI_of, zV_of, nz_and, br_T, br_F, br_T2, br_F2, st_eq, st9_0, st_k, st_i, true_and, and_true, Classical.not_not, rR_of, dp_gI5, dp_gI6, dp_gI7, dp_gI8, dp_gI9, dp_gI10, dp_gI14, dp_pI5, dp_pI6, dp_pI7, dp_pI8, dp_pI9, dp_pI10, dp_pI14, dp_gR0, dp_gR1, dp_gR2, dp_gR3, dp_gR4, dp_gR11, dp_gR12, dp_gR13, dp_gR15, dp_gR16, dp_gA3, dp_pA3, dp_gAR0, dp_gAR1, dp_gAR2, dp_isO, dp_isA]
  refine (put_d9 hl (by omega) (by omega)).cl0 (by decide) ?_
  simp (disch := omega) only [true_implies, false_implies, not_true_eq_false, not_false_eq_true, I_n, I_neg, I_add, I_sub, I_mul, I_le4, I_lt4, I_eq4, I_div4, I_bi0, I_bi01, I_bi1, nor_em, rI_of, rV_of, zI_of, zV_of, nz_and, br_T, br_F, br_T2, br_F2, st_eq, st9_0, st_k, st_i, true_and, and_true, Classical.not_not, rR_of, dp_gI5, dp_gI6, dp_gI7, dp_gI8, dp_gI9, dp_gI10, dp_gI14, dp_pI5, dp_pI6, dp_pI7, dp_pI8, dp_pI9, dp_pI10, dp_pI14, dp_gR0, dp_gR1, dp_gR2, dp_gR3, dp_gR4, dp_gR11, dp_gR12, dp_gR13, dp_gR15, dp_gR16, dp_gA3, dp_pA3, dp_gAR0, dp_gAR1, dp_gAR2, dp_isO, dp_isA]
  unfold kTell
  all_goals first | rfl | exact ⟨rfl, rfl⟩
theorem c_X1_isConnected (hl : l.stackTraces = false) (w : RW r e) (h : DX D r lo hi) {s : Int} (hs : 0 ≤ s ∧ s ≤ 1) : Fn l X 1 M_X1_isConnected [.ref a, .int (I s)] (dp X a p B D) 0 0 (Ri (I (bi (r (14 + s) = 1)))) (dp X a p B D) := by
  have b := RW_14 w hs
  have e4 := (h.2.2.2.2.2.1 s hs.1 hs.2).1
  refine Fn.of hl rfl rfl (Nat.le_of_ble_eq_true rfl) (k_X1_isConnected_0 ?_)
  simp (disch := omega) only [true_implies, false_implies, not_true_eq_false, not_false_eq_true, I_n, I_neg, I_add, I_sub, I_mul, I_le4, I_lt4, I_eq4, I_div4, I_bi0, I_bi01, I_bi1, nor_em, rI_of, rV_of, zI_of, zV_of, nz_and, br_T, br_F, br_T2, br_F2, st_eq, st9_0, st_k, st_i, true_and, and_true, Classical.not_not, rR_of, dp_gI5, dp_gI6, dp_gI7, dp_gI8, dp_gI9, dp_gI10, dp_gI14, dp_pI5, dp_pI6, dp_pI7, dp_pI8, dp_pI9, dp_pI10, dp_pI14, dp_gR0, dp_gR1, dp_gR2, dp_gR3, dp_gR4, dp_gR11, dp_gR12, dp_gR13, dp_gR15, dp_gR16, dp_gA3, dp_pA3, dp_gAR0, dp_gAR1, dp_gAR2, dp_isO, dp_isA]
  refine (at_d4 hl (by omega) (by omega)).cl0 (by decide) ?_
  rw [e4]
  simp (disch := omega) only [true_implies, false_implies, not_true_eq_false, not_false_eq_true, I_n, I_neg, I_add, I_sub, I_mul, I_le4, I_lt4, I_eq4, I_div4, I_bi0, I_bi01, I_bi1, nor_em, rI_of, rV_of, zI_of, zV_of, nz_and, br_T, br_F, br_T2, br_F2, st_eq, st9_0, st_k, st_i, true_and, and_true, Classical.not_not, rR_of, dp_gI5, dp_gI6, dp_gI7, dp_gI8, dp_gI9, dp_gI10, dp_gI14, dp_pI5, dp_pI6, dp_pI7, dp_pI8, dp_pI9, dp_pI10, dp_pI14, dp_gR0, dp_gR1, dp_gR2, dp_gR3, dp_gR4, dp_gR11, dp_gR12, dp_gR13, dp_gR15, dp_gR16, dp_gA3, dp_pA3, dp_gAR0, dp_gAR1, dp_gAR2, dp_isO, dp_isA]
  refine ⟨fun q => ?_, fun q => ?_⟩
  · rw [bi_f q]
    all_goals first | rfl | exact ⟨rfl, rfl⟩
  · rw [bi_t q]
    all_goals first | rfl | exact ⟨rfl, rfl⟩
theorem c_X1_isMissing (hl : l.stackTraces = false) (w : RW r e) (h : DX D r lo hi) {k : Int} (h0 : 0 ≤ k) (h1 : k < gT r) : Fn l X 1 M_X1_isMissing [.ref a, .int (I k)] (dp X a p B D) 0 0 (Ri (I (bi (r (96 + k) = 0)))) (dp X a p B D) := by
  obtain ⟨t1, t2⟩ := gT_b w.1
  have lg := w.1.2.1
  have b := w.2.2.2.2.2.2.2.2.2.1 k h0 (by omega)
  have e4 := h.2.1 k h0 h1
  refine Fn.of hl rfl rfl (Nat.le_of_ble_eq_true rfl) (k_X1_isMissing_0 ?_)
  simp (disch := omega) only [true_implies, false_implies, not_true_eq_false, not_false_eq_true, I_n, I_neg, I_add, I_sub, I_mul, I_le4, I_lt4, I_eq4, I_div4, I_bi0, I_bi01, I_bi1, nor_em, rI_of, rV_of, zI_of, zV_of, nz_and, br_T, br_F, br_T2, br_F2, st_eq, st9_0, st_k, st_i, true_and, and_true, Classical.not_not, rR_of, dp_gI5, dp_gI6, dp_gI7, dp_gI8, dp_gI9, dp_gI10, dp_gI14, dp_pI5, dp_pI6, dp_pI7, dp_pI8, dp_pI9, dp_pI10, dp_pI14, dp_gR0, dp_gR1, dp_gR2, dp_gR3, dp_gR4, dp_gR11, dp_gR12, dp_gR13, dp_gR15, dp_gR16, dp_gA3, dp_pA3, dp_gAR0, dp_gAR1, dp_gAR2, dp_isO, dp_isA]
  refine (at_d1 hl (by omega) (by omega)).cl0 (by decide) ?_
  rw [e4]
  simp (disch := omega) only [true_implies, false_implies, not_true_eq_false, not_false_eq_true, I_n, I_neg, I_add, I_sub, I_mul, I_le4, I_lt4, I_eq4, I_div4, I_bi0, I_bi01, I_bi1, nor_em, rI_of, rV_of, zI_of, zV_of, nz_and, br_T, br_F, br_T2, br_F2, st_eq, st9_0, st_k, st_i, true_and, and_true, Classical.not_not, rR_of, dp_gI5, dp_gI6, dp_gI7, dp_gI8, dp_gI9, dp_gI10, dp_gI14, dp_pI5, dp_pI6, dp_pI7, dp_pI8, dp_pI9, dp_pI10, dp_pI14, dp_gR0, dp_gR1, dp_gR2, dp_gR3, dp_gR4, dp_gR11, dp_gR12, dp_gR13, dp_gR15, dp_gR16, dp_gA3, dp_pA3, dp_gAR0, dp_gAR1, dp_gAR2, dp_isO, dp_isA]
  refine ⟨fun q => ?_, fun q => ?_⟩
  · rw [bi_f (by omega)]
    all_goals first | rfl | exact ⟨rfl, rfl⟩
  · rw [bi_t (by omega)]
    all_goals first | rfl | exact ⟨rfl, rfl⟩
theorem c_X1_isSuspect (hl : l.stackTraces = false) (w : RW r e) (h : DR D r) {k : Int} (h0 : 0 ≤ k) (h1 : k < gN r) : Fn l X 1 M_X1_isSuspect [.ref a, .int (I k)] (dp X a p B D) 0 0 (Ri (I (bi (gV r k = 2)))) (dp X a p B D) := by
  obtain ⟨n1, n2, -⟩ := gN_b w.1
  have b := gV_b (r := r) (k := k)
  have e4 := DR_v h h0 h1
  refine Fn.of hl rfl rfl (Nat.le_of_ble_eq_true rfl) (k_X1_isSuspect_0 ?_)
  simp (disch := omega) only [true_implies, false_implies, not_true_eq_false, not_false_eq_true, I_n, I_neg, I_add, I_sub, I_mul, I_le4, I_lt4, I_eq4, I_div4, I_bi0, I_bi01, I_bi1, nor_em, rI_of, rV_of, zI_of, zV_of, nz_and, br_T, br_F, br_T2, br_F2, st_eq, st9_0, st_k, st_i, true_and, and_true, Classical.not_not, rR_of, dp_gI5, dp_gI6, dp_gI7, dp_gI8, dp_gI9, dp_gI10, dp_gI14, dp_pI5, dp_pI6, dp_pI7, dp_pI8, dp_pI9, dp_pI10, dp_pI14, dp_gR0, dp_gR1, dp_gR2, dp_gR3, dp_gR4, dp_gR11, dp_gR12, dp_gR13, dp_gR15, dp_gR16, dp_gA3, dp_pA3, dp_gAR0, dp_gAR1, dp_gAR2, dp_isO, dp_isA]
  refine (at_d3 hl (by omega) (by omega)).cl0 (by decide) ?_
  rw [e4]
  simp (disch := omega) only [true_implies, false_implies, not_true_eq_false, not_false_eq_true, I_n, I_neg, I_add, I_sub, I_mul, I_le4, I_lt4, I_eq4, I_div4, I_bi0, I_bi01, I_bi1, nor_em, rI_of, rV_of, zI_of, zV_of, nz_and, br_T, br_F, br_T2, br_F2, st_eq, st9_0, st_k, st_i, true_and, and_true, Classical.not_not, rR_of, dp_gI5, dp_gI6, dp_gI7, dp_gI8, dp_gI9, dp_gI10, dp_gI14, dp_pI5, dp_pI6, dp_pI7, dp_pI8, dp_pI9, dp_pI10, dp_pI14, dp_gR0, dp_gR1, dp_gR2, dp_gR3, dp_gR4, dp_gR11, dp_gR12, dp_gR13, dp_gR15, dp_gR16, dp_gA3, dp_pA3, dp_gAR0, dp_gAR1, dp_gAR2, dp_isO, dp_isA]
  refine ⟨fun q => ?_, fun q => ?_⟩
  · rw [bi_f q]
    all_goals first | rfl | exact ⟨rfl, rfl⟩
  · rw [bi_t q]
    all_goals first | rfl | exact ⟨rfl, rfl⟩
/-- all pieces good: as many good ones as there are -/
theorem sg_all {f : Int → Int} : ∀ n : Nat, (∀ k : Nat, k < n → 0 ≤ f k ∧ f k ≤ 1) → (sg f n = n ↔ ∀ k : Nat, k < n → f k = 1) := by
  intro n
  induction n with
  | zero => intro _; exact ⟨fun _ k hk => by omega, fun _ => rfl⟩
  | succ n ih =>
    intro h
    have i := ih fun k hk => h k (by omega)
    have hn := h n (by omega)
    have hle : sg f n ≤ 1 * n := sg_le fun k hk => (h k (by omega)).2
    rw [sg_s]
    constructor
    · intro he k hk
      by_cases hkn : k = n
      · rw [hkn]; omega
      · exact i.mp (by omega) k (by omega)
    · intro ha
      rw [i.mpr fun k hk => ha k (by omega), ha n (by omega)]
      omega
theorem fin_iff {r : Int → Int} (g : GW r) : gIn r 1 = gN r ↔ gFi r = 1 := by
  obtain ⟨n1, n2, -⟩ := gN_b g
  have a := sg_all (f := fun k => bi (gV r k = 1)) (gN r).toNat fun k _ => bi_b
  have e : (((gN r).toNat : Nat) : Int) = gN r := by omega
  rw [e] at a
  have f := gFiF_b (r := r) (gN r).toNat 0
  constructor
  · intro h
    have h2 := a.mp h
    rcases f with ⟨f1, -⟩ | ⟨f1, i, i0, i1, i2⟩
    · exact f1
    · have := h2 i.toNat (by omega)
      rw [show ((i.toNat : Nat) : Int) = i by omega] at this
      rw [bi_f i2] at this
      exact absurd this (by decide)
  · intro h
    rcases f with ⟨f1, f2⟩ | ⟨f1, -⟩
    · exact a.mpr fun k hk => bi_t (f2 k (by omega) (by omega))
    · have h3 : gFiF r (gN r).toNat 0 = 1 := h
      rw [f1] at h3
      exact absurd h3 (by decide)
theorem c_X1_isFinished (hl : l.stackTraces = false) (hd : p + 10 < a ∨ a + 12 < p) (hP : PlanAt X B p P) (hR : PR P r) (w : RW r e) (h : DR D r) : Fn l X 0 M_X1_isFinished [.ref a] (dp X a p B D) 0 0 (Ri (I (gFi r))) (dp X a p B D) := by
  obtain ⟨n1, n2, -⟩ := gN_b w.1
  have hp := dp_pl (D := D) hd hP
  have b := gIn_b (r := r) (v := 1)
  have e4 := (DR_good h).1
  have ef := fin_iff w.1
  have ef2 := gFi_b (r := r)
  refine Fn.of hl rfl rfl (Nat.le_of_ble_eq_true rfl) (k_X1_isFinished_0 ?_)
  simp (disch := omega) only [true_implies, false_implies, not_true_eq_false, not_false_eq_true, I_n, I_neg, I_add, I_sub, I_mul, I_le4, I_lt4, I_eq4, I_div4, I_bi0, I_bi01, I_bi1, nor_em, rI_of, rV_of, zI_of, zV_of, nz_and, br_T, br_F, br_T2, br_F2, st_eq, st9_0, st_k, st_i, true_and, and_true, Classical.not_not, rR_of, dp_gI5, dp_gI6, dp_gI7, dp_gI8, dp_gI9, dp_gI10, dp_gI14, dp_pI5, dp_pI6, dp_pI7, dp_pI8, dp_pI9, dp_pI10, dp_pI14, dp_gR0, dp_gR1, dp_gR2, dp_gR3, dp_gR4, dp_gR11, dp_gR12, dp_gR13, dp_gR15, dp_gR16, dp_gA3, dp_pA3, dp_gAR0, dp_gAR1, dp_gAR2, dp_isO, dp_isA]
  rw [hp.g2, e4, hR.1.2.2.1]
  simp (disch := omega) only [true_implies, false_implies, not_true_eq_false, not_false_eq_true, I_n, I_neg, I_add, I_sub, I_mul, I_le4, I_lt4, I_eq4, I_div4, I_bi0, I_bi01, I_bi1, nor_em, rI_of, rV_of, zI_of, zV_of, nz_and, br_T, br_F, br_T2, br_F2, st_eq, st9_0, st_k, st_i, true_and, and_true, Classical.not_not, rR_of, dp_gI5, dp_gI6, dp_gI7, dp_gI8, dp_gI9, dp_gI10, dp_gI14, dp_pI5, dp_pI6, dp_pI7, dp_pI8, dp_pI9, dp_pI10, dp_pI14, dp_gR0, dp_gR1, dp_gR2, dp_gR3, dp_gR4, dp_gR11, dp_gR12, dp_gR13, dp_gR15, dp_gR16, dp_gA3, dp_pA3, dp_gAR0, dp_gAR1, dp_gAR2, dp_isO, dp_isA]
  refine ⟨fun q => ?_, fun q => ?_⟩
  · rw [show gFi r = 0 by rcases ef2 with y | y; exact y; exact absurd (ef.mpr y) q]
    all_goals first | rfl | exact ⟨rfl, rfl⟩
  · rw [ef.mp q]
    all_goals first | rfl | exact ⟨rfl, rfl⟩
theorem c_X1_partsFrom (hl : l.stackTraces = false) (hd : p + 10 < a ∨ a + 12 < p) (hP : PlanAt X B p P) (hR : PR P r) (w : RW r e) (h : DX D r lo hi) {s : Int} (hs : 0 ≤ s ∧ s ≤ 1) : Fn l X 1 M_X1_partsFrom [.ref a, .int (I s)] (dp X a p B D) 0 0 (Ri (I (gFr r s))) (dp X a p B D) := by
  obtain ⟨t1, t2⟩ := gT_b w.1
  have lg := w.1.2.1
  have hp := dp_pl (D := D) hd hP
  have ho := w.2.2.2.2.2.2.2.2.2.1
  have e3 := hR.1.2.2.2.1
  refine Fn.of hl rfl rfl (Nat.le_of_ble_eq_true rfl) (k_X1_partsFrom_0 ?_)
  simp only [I_n]
  refine up_to (n := (gT r).toNat) (P := fun j => G l X M_X1_partsFrom 1 (fun o' A1 => o' = Ri (I (gFr r s)) ∧ A1 = dp X a p B D) 4 [(0, .ref a), (1, .int (I s)), (2, .int (I (sg (fun k => bi (r (96 + k) = s + 1)) j))), (3, .int (I j))] [] (dp X a p B D) 0 0) ?_ ?_
  · refine k_X1_partsFrom_4 ?_
    simp (disch := omega) only [true_implies, false_implies, not_true_eq_false, not_false_eq_true, I_n, I_neg, I_add, I_sub, I_mul, I_le4, I_lt4, I_eq4, I_div4, I_bi0, I_bi01, I_bi1, nor_em, rI_of, rV_of, zI_of, zV_of, nz_and, br_T, br_F, br_T2, br_F2, st_eq, st9_0, st_k, st_i, true_and, and_true, Classical.not_not, rR_of, dp_gI5, dp_gI6, dp_gI7, dp_gI8, dp_gI9, dp_gI10, dp_gI14, dp_pI5, dp_pI6, dp_pI7, dp_pI8, dp_pI9, dp_pI10, dp_pI14, dp_gR0, dp_gR1, dp_gR2, dp_gR3, dp_gR4, dp_gR11, dp_gR12, dp_gR13, dp_gR15, dp_gR16, dp_gA3, dp_pA3, dp_gAR0, dp_gAR1, dp_gAR2, dp_isO, dp_isA]
    rw [hp.g3, e3]
    simp (disch := omega) only [true_implies, false_implies, not_true_eq_false, not_false_eq_true, I_n, I_neg, I_add, I_sub, I_mul, I_le4, I_lt4, I_eq4, I_div4, I_bi0, I_bi01, I_bi1, nor_em, rI_of, rV_of, zI_of, zV_of, nz_and, br_T, br_F, br_T2, br_F2, st_eq, st9_0, st_k, st_i, true_and, and_true, Classical.not_not, rR_of, dp_gI5, dp_gI6, dp_gI7, dp_gI8, dp_gI9, dp_gI10, dp_gI14, dp_pI5, dp_pI6, dp_pI7, dp_pI8, dp_pI9, dp_pI10, dp_pI14, dp_gR0, dp_gR1, dp_gR2, dp_gR3, dp_gR4, dp_gR11, dp_gR12, dp_gR13, dp_gR15, dp_gR16, dp_gA3, dp_pA3, dp_gAR0, dp_gAR1, dp_gAR2, dp_isO, dp_isA]
    rfl
  · intro j hj ih
    have ho1 := ho j (by omega) (by omega)
    have e4 := h.2.1 j (by omega) (by omega)
    refine k_X1_partsFrom_4 ?_
    simp (disch := omega) only [true_implies, false_implies, not_true_eq_false, not_false_eq_true, I_n, I_neg, I_add, I_sub, I_mul, I_le4, I_lt4, I_eq4, I_div4, I_bi0, I_bi01, I_bi1, nor_em, rI_of, rV_of, zI_of, zV_of, nz_and, br_T, br_F, br_T2, br_F2, st_eq, st9_0, st_k, st_i, true_and, and_true, Classical.not_not, rR_of, dp_gI5, dp_gI6, dp_gI7, dp_gI8, dp_gI9, dp_gI10, dp_gI14, dp_pI5, dp_pI6, dp_pI7, dp_pI8, dp_pI9, dp_pI10, dp_pI14, dp_gR0, dp_gR1, dp_gR2, dp_gR3, dp_gR4, dp_gR11, dp_gR12, dp_gR13, dp_gR15, dp_gR16, dp_gA3, dp_pA3, dp_gAR0, dp_gAR1, dp_gAR2, dp_isO, dp_isA]
    rw [hp.g3, e3]
    simp (disch := omega) only [true_implies, false_implies, not_true_eq_false, not_false_eq_true, I_n, I_neg, I_add, I_sub, I_mul, I_le4, I_lt4, I_eq4, I_div4, I_bi0, I_bi01, I_bi1, nor_em, rI_of, rV_of, zI_of, zV_of, nz_and, br_T, br_F, br_T2, br_F2, st_eq, st9_0, st_k, st_i, true_and, and_true, Classical.not_not, rR_of, dp_gI5, dp_gI6, dp_gI7, dp_gI8, dp_gI9, dp_gI10, dp_gI14, dp_pI5, dp_pI6, dp_pI7, dp_pI8, dp_pI9, dp_pI10, dp_pI14, dp_gR0, dp_gR1, dp_gR2, dp_gR3, dp_gR4, dp_gR11, dp_gR12, dp_gR13, dp_gR15, dp_gR16, dp_gA3, dp_pA3, dp_gAR0, dp_gAR1, dp_gAR2, dp_isO, dp_isA]
    refine (at_d1 hl (by omega) (by omega)).cl0 (by decide) ?_
    rw [e4]
    simp (disch := omega) only [true_implies, false_implies, not_true_eq_false, not_false_eq_true, I_n, I_neg, I_add, I_sub, I_mul, I_le4, I_lt4, I_eq4, I_div4, I_bi0, I_bi01, I_bi1, nor_em, rI_of, rV_of, zI_of, zV_of, nz_and, br_T, br_F, br_T2, br_F2, st_eq, st9_0, st_k, st_i, true_and, and_true, Classical.not_not, rR_of, dp_gI5, dp_gI6, dp_gI7, dp_gI8, dp_gI9, dp_gI10, dp_gI14, dp_pI5, dp_pI6, dp_pI7, dp_pI8, dp_pI9, dp_pI10, dp_pI14, dp_gR0, dp_gR1, dp_gR2, dp_gR3, dp_gR4, dp_gR11, dp_gR12, dp_gR13, dp_gR15, dp_gR16, dp_gA3, dp_pA3, dp_gAR0, dp_gAR1, dp_gAR2, dp_isO, dp_isA]
    refine ⟨fun h => ?_, fun h => ?_⟩
    · have e : sg (fun k => bi (r (96 + k) = s + 1)) (j + 1) = sg (fun k => bi (r (96 + k) = s + 1)) j + 0 := by rw [sg_s, bi_f (by omega)]
      rw [e, Int.add_zero] at ih
      exact ih
    · have e : sg (fun k => bi (r (96 + k) = s + 1)) (j + 1) = sg (fun k => bi (r (96 + k) = s + 1)) j + 1 := by rw [sg_s, bi_t (by omega)]
      rw [e] at ih
      exact ih
theorem c_X1_lowestMissing (hl : l.stackTraces = false) (hd : p + 10 < a ∨ a + 12 < p) (hP : PlanAt X B p P) (hR : PR P r) (w : RW r e) (h : DX D r lo hi) : Fn l X 2 M_X1_lowestMissing [.ref a] (dp X a p B D) 0 0 (Ri (I (gLo r))) (dp X a p B D) := by
  obtain ⟨t1, t2⟩ := gT_b w.1
  have lg := w.1.2.1
  have hp := dp_pl (D := D) hd hP
  have e3 := hR.1.2.2.2.1
  refine Fn.of hl rfl rfl (Nat.le_of_ble_eq_true rfl) (k_X1_lowestMissing_0 ?_)
  simp only [I_n]
  have key : ∀ (m : Nat) (j : Int), 0 ≤ j → j + m = gT r → G l X M_X1_lowestMissing 2 (fun o' A1 => o' = Ri (I (gLoF r m j)) ∧ A1 = dp X a p B D) 2 [(0, .ref a), (1, .int (I j))] [] (dp X a p B D) 0 0 := by
    intro m
    induction m with
    | zero =>
      intro j h0 hj
      refine k_X1_lowestMissing_2 ?_
      simp (disch := omega) only [true_implies, false_implies, not_true_eq_false, not_false_eq_true, I_n, I_neg, I_add, I_sub, I_mul, I_le4, I_lt4, I_eq4, I_div4, I_bi0, I_bi01, I_bi1, nor_em, rI_of, rV_of, zI_of, zV_of, nz_and, br_T, br_F, br_T2, br_F2, st_eq, st9_0, st_k, st_i, true_and, and_true, Classical.not_not, rR_of, dp_gI5, dp_gI6, dp_gI7, dp_gI8, dp_gI9, dp_gI10, dp_gI14, dp_pI5, dp_pI6, dp_pI7, dp_pI8, dp_pI9, dp_pI10, dp_pI14, dp_gR0, dp_gR1, dp_gR2, dp_gR3, dp_gR4, dp_gR11, dp_gR12, dp_gR13, dp_gR15, dp_gR16, dp_gA3, dp_pA3, dp_gAR0, dp_gAR1, dp_gAR2, dp_isO, dp_isA]
      rw [hp.g3, e3]
      simp (disch := omega) only [true_implies, false_implies, not_true_eq_false, not_false_eq_true, I_n, I_neg, I_add, I_sub, I_mul, I_le4, I_lt4, I_eq4, I_div4, I_bi0, I_bi01, I_bi1, nor_em, rI_of, rV_of, zI_of, zV_of, nz_and, br_T, br_F, br_T2, br_F2, st_eq, st9_0, st_k, st_i, true_and, and_true, Classical.not_not, rR_of, dp_gI5, dp_gI6, dp_gI7, dp_gI8, dp_gI9, dp_gI10, dp_gI14, dp_pI5, dp_pI6, dp_pI7, dp_pI8, dp_pI9, dp_pI10, dp_pI14, dp_gR0, dp_gR1, dp_gR2, dp_gR3, dp_gR4, dp_gR11, dp_gR12, dp_gR13, dp_gR15, dp_gR16, dp_gA3, dp_pA3, dp_gAR0, dp_gAR1, dp_gAR2, dp_isO, dp_isA]
      rfl
    | succ m ih =>
      intro j h0 hj
      refine k_X1_lowestMissing_2 ?_
      simp (disch := omega) only [true_implies, false_implies, not_true_eq_false, not_false_eq_true, I_n, I_neg, I_add, I_sub, I_mul, I_le4, I_lt4, I_eq4, I_div4, I_bi0, I_bi01, I_bi1, nor_em, rI_of, rV_of, zI_of, zV_of, nz_and, br_T, br_F, br_T2, br_F2, st_eq, st9_0, st_k, st_i, true_and, and_true, Classical.not_not, rR_of, dp_gI5, dp_gI6, dp_gI7, dp_gI8, dp_gI9, dp_gI10, dp_gI14, dp_pI5, dp_pI6, dp_pI7, dp_pI8, dp_pI9, dp_pI10, dp_pI14, dp_gR0, dp_gR1, dp_gR2, dp_gR3, dp_gR4, dp_gR11, dp_gR12, dp_gR13, dp_gR15, dp_gR16, dp_gA3, dp_pA3, dp_gAR0, dp_gAR1, dp_gAR2, dp_isO, dp_isA]
      rw [hp.g3, e3]
      simp (disch := omega) only [true_implies, false_implies, not_true_eq_false, not_false_eq_true, I_n, I_neg, I_add, I_sub, I_mul, I_le4, I_lt4, I_eq4, I_div4, I_bi0, I_bi01, I_bi1, nor_em, rI_of, rV_of, zI_of, zV_of, nz_and, br_T, br_F, br_T2, br_F2, st_eq, st9_0, st_k, st_i, true_and, and_true, Classical.not_not, rR_of, dp_gI5, dp_gI6, dp_gI7, dp_gI8, dp_gI9, dp_gI10, dp_gI14, dp_pI5, dp_pI6, dp_pI7, dp_pI8, dp_pI9, dp_pI10, dp_pI14, dp_gR0, dp_gR1, dp_gR2, dp_gR3, dp_gR4, dp_gR11, dp_gR12, dp_gR13, dp_gR15, dp_gR16, dp_gA3, dp_pA3, dp_gAR0, dp_gAR1, dp_gAR2, dp_isO, dp_isA]
      refine (c_X1_isMissing hl w h h0 (by omega)).cl0 (by decide) ?_
      simp (disch := omega) only [true_implies, false_implies, not_true_eq_false, not_false_eq_true, I_n, I_neg, I_add, I_sub, I_mul, I_le4, I_lt4, I_eq4, I_div4, I_bi0, I_bi01, I_bi1, nor_em, rI_of, rV_of, zI_of, zV_of, nz_and, br_T, br_F, br_T2, br_F2, st_eq, st9_0, st_k, st_i, true_and, and_true, Classical.not_not, rR_of, dp_gI5, dp_gI6, dp_gI7, dp_gI8, dp_gI9, dp_gI10, dp_gI14, dp_pI5, dp_pI6, dp_pI7, dp_pI8, dp_pI9, dp_pI10, dp_pI14, dp_gR0, dp_gR1, dp_gR2, dp_gR3, dp_gR4, dp_gR11, dp_gR12, dp_gR13, dp_gR15, dp_gR16, dp_gA3, dp_pA3, dp_gAR0, dp_gAR1, dp_gAR2, dp_isO, dp_isA]
      refine ⟨fun h => ?_, fun h => ?_⟩
      · have e : gLoF r (m + 1) j = gLoF r m (j + 1) := if_neg h
        rw [e]
        exact ih (j + 1) (by omega) (by omega)
      · have e : gLoF r (m + 1) j = j := if_pos h
        rw [e]
        all_goals first | rfl | exact ⟨rfl, rfl⟩
  exact key (gT r).toNat 0 (by omega) (by omega)
theorem c_X1_highestMissing (hl : l.stackTraces = false) (hd : p + 10 < a ∨ a + 12 < p) (hP : PlanAt X B p P) (hR : PR P r) (w : RW r e) (h : DX D r lo hi) : Fn l X 2 M_X1_highestMissing [.ref a] (dp X a p B D) 0 0 (Ri (I (gHh r))) (dp X a p B D) := by
  obtain ⟨t1, t2⟩ := gT_b w.1
  have lg := w.1.2.1
  have hp := dp_pl (D := D) hd hP
  have e3 := hR.1.2.2.2.1
  have key : ∀ (m : Nat), (m : Int) ≤ gT r → G l X M_X1_highestMissing 2 (fun o' A1 => o' = Ri (I (gHi r m)) ∧ A1 = dp X a p B D) 10 [(0, .ref a), (1, .int (I ((m : Int) - 1)))] [] (dp X a p B D) 0 0 := by
    intro m
    induction m with
    | zero =>
      intro hj
      refine k_X1_highestMissing_10 ?_
      simp (disch := omega) only [true_implies, false_implies, not_true_eq_false, not_false_eq_true, I_n, I_neg, I_add, I_sub, I_mul, I_le4, I_lt4, I_eq4, I_div4, I_bi0, I_bi01, I_bi1, nor_em, rI_of, rV_of, zI_of, zV_of, nz_and, br_T, br_F, br_T2, br_F2, st_eq, st9_0, st_k, st_i, true_and, and_true, Classical.not_not, rR_of, dp_gI5, dp_gI6, dp_gI7, dp_gI8, dp_gI9, dp_gI10, dp_gI14, dp_pI5, dp_pI6, dp_pI7, dp_pI8, dp_pI9, dp_pI10, dp_pI14, dp_gR0, dp_gR1, dp_gR2, dp_gR3, dp_gR4, dp_gR11, dp_gR12, dp_gR13, dp_gR15, dp_gR16, dp_gA3, dp_pA3, dp_gAR0, dp_gAR1, dp_gAR2, dp_isO, dp_isA]
      rfl
    | succ m ih =>
      intro hj
      have e0 : ((m + 1 : Nat) : Int) - 1 = m := by omega
      rw [e0]
      refine k_X1_highestMissing_10 ?_
      simp (disch := omega) only [true_implies, false_implies, not_true_eq_false, not_false_eq_true, I_n, I_neg, I_add, I_sub, I_mul, I_le4, I_lt4, I_eq4, I_div4, I_bi0, I_bi01, I_bi1, nor_em, rI_of, rV_of, zI_of, zV_of, nz_and, br_T, br_F, br_T2, br_F2, st_eq, st9_0, st_k, st_i, true_and, and_true, Classical.not_not, rR_of, dp_gI5, dp_gI6, dp_gI7, dp_gI8, dp_gI9, dp_gI10, dp_gI14, dp_pI5, dp_pI6, dp_pI7, dp_pI8, dp_pI9, dp_pI10, dp_pI14, dp_gR0, dp_gR1, dp_gR2, dp_gR3, dp_gR4, dp_gR11, dp_gR12, dp_gR13, dp_gR15, dp_gR16, dp_gA3, dp_pA3, dp_gAR0, dp_gAR1, dp_gAR2, dp_isO, dp_isA]
      refine (c_X1_isMissing hl w h (by omega) (by omega)).cl0 (by decide) ?_
      simp (disch := omega) only [true_implies, false_implies, not_true_eq_false, not_false_eq_true, I_n, I_neg, I_add, I_sub, I_mul, I_le4, I_lt4, I_eq4, I_div4, I_bi0, I_bi01, I_bi1, nor_em, rI_of, rV_of, zI_of, zV_of, nz_and, br_T, br_F, br_T2, br_F2, st_eq, st9_0, st_k, st_i, true_and, and_true, Classical.not_not, rR_of, dp_gI5, dp_gI6, dp_gI7, dp_gI8, dp_gI9, dp_gI10, dp_gI14, dp_pI5, dp_pI6, dp_pI7, dp_pI8, dp_pI9, dp_pI10, dp_pI14, dp_gR0, dp_gR1, dp_gR2, dp_gR3, dp_gR4, dp_gR11, dp_gR12, dp_gR13, dp_gR15, dp_gR16, dp_gA3, dp_pA3, dp_gAR0, dp_gAR1, dp_gAR2, dp_isO, dp_isA]
      refine ⟨fun h => ?_, fun h => ?_⟩
      · have e : gHi r (m + 1) = gHi r m := if_neg h
        rw [e]
        exact ih (by omega)
      · have e : gHi r (m + 1) = m := if_pos h
        rw [e]
        all_goals first | rfl | exact ⟨rfl, rfl⟩
  refine Fn.of hl rfl rfl (Nat.le_of_ble_eq_true rfl) (k_X1_highestMissing_0 ?_)
  simp (disch := omega) only [true_implies, false_implies, not_true_eq_false, not_false_eq_true, I_n, I_neg, I_add, I_sub, I_mul, I_le4, I_lt4, I_eq4, I_div4, I_bi0, I_bi01, I_bi1, nor_em, rI_of, rV_of, zI_of, zV_of, nz_and, br_T, br_F, br_T2, br_F2, st_eq, st9_0, st_k, st_i, true_and, and_true, Classical.not_not, rR_of, dp_gI5, dp_gI6, dp_gI7, dp_gI8, dp_gI9, dp_gI10, dp_gI14, dp_pI5, dp_pI6, dp_pI7, dp_pI8, dp_pI9, dp_pI10, dp_pI14, dp_gR0, dp_gR1, dp_gR2, dp_gR3, dp_gR4, dp_gR11, dp_gR12, dp_gR13, dp_gR15, dp_gR16, dp_gA3, dp_pA3, dp_gAR0, dp_gAR1, dp_gAR2, dp_isO, dp_isA]
  rw [hp.g3, e3]
  simp (disch := omega) only [true_implies, false_implies, not_true_eq_false, not_false_eq_true, I_n, I_neg, I_add, I_sub, I_mul, I_le4, I_lt4, I_eq4, I_div4, I_bi0, I_bi01, I_bi1, nor_em, rI_of, rV_of, zI_of, zV_of, nz_and, br_T, br_F, br_T2, br_F2, st_eq, st9_0, st_k, st_i, true_and, and_true, Classical.not_not, rR_of, dp_gI5, dp_gI6, dp_gI7, dp_gI8, dp_gI9, dp_gI10, dp_gI14, dp_pI5, dp_pI6, dp_pI7, dp_pI8, dp_pI9, dp_pI10, dp_pI14, dp_gR0, dp_gR1, dp_gR2, dp_gR3, dp_gR4, dp_gR11, dp_gR12, dp_gR13, dp_gR15, dp_gR16, dp_gA3, dp_pA3, dp_gAR0, dp_gAR1, dp_gAR2, dp_isO, dp_isA]
  have hk := key (gT r).toNat (by omega)
  have e : (((gT r).toNat : Nat) : Int) = gT r := by omega
  rw [e] at hk
  exact hk
theorem c_X1_wrongBytesOf (hl : l.stackTraces = false) (hd : p + 10 < a ∨ a + 12 < p) (hP : PlanAt X B p P) (hR : PR P r) (w : RW r e) (h : DX D r lo hi) {k : Int} (h0 : 0 ≤ k) (h1 : k < gT r) : Fn l X 2 M_X1_wrongBytesOf [.ref a, .int (I k)] (dp X a p B D) 0 0 (Ri (I (gWr r k))) (dp X a p B D) := by
  obtain ⟨t1, t2⟩ := gT_b w.1
  have lg := w.1.2.1
  obtain ⟨b1, b2, b3, b4, b5, b6⟩ := gPl_b w.1 h0 h1
  have hp := dp_pl (D := D) hd hP
  have el : gLs r k = gPl r k := if_pos h1
  have g3 := w.1.2.2.2
  refine Fn.of hl rfl rfl (Nat.le_of_ble_eq_true rfl) (k_X1_wrongBytesOf_0 ?_)
  simp (disch := omega) only [true_implies, false_implies, not_true_eq_false, not_false_eq_true, I_n, I_neg, I_add, I_sub, I_mul, I_le4, I_lt4, I_eq4, I_div4, I_bi0, I_bi01, I_bi1, nor_em, rI_of, rV_of, zI_of, zV_of, nz_and, br_T, br_F, br_T2, br_F2, st_eq, st9_0, st_k, st_i, true_and, and_true, Classical.not_not, rR_of, dp_gI5, dp_gI6, dp_gI7, dp_gI8, dp_gI9, dp_gI10, dp_gI14, dp_pI5, dp_pI6, dp_pI7, dp_pI8, dp_pI9, dp_pI10, dp_pI14, dp_gR0, dp_gR1, dp_gR2, dp_gR3, dp_gR4, dp_gR11, dp_gR12, dp_gR13, dp_gR15, dp_gR16, dp_gA3, dp_pA3, dp_gAR0, dp_gAR1, dp_gAR2, dp_isO, dp_isA]
  refine (c_X1_isMissing hl w h h0 h1).cl0 (by decide) ?_
  simp (disch := omega) only [true_implies, false_implies, not_true_eq_false, not_false_eq_true, I_n, I_neg, I_add, I_sub, I_mul, I_le4, I_lt4, I_eq4, I_div4, I_bi0, I_bi01, I_bi1, nor_em, rI_of, rV_of, zI_of, zV_of, nz_and, br_T, br_F, br_T2, br_F2, st_eq, st9_0, st_k, st_i, true_and, and_true, Classical.not_not, rR_of, dp_gI5, dp_gI6, dp_gI7, dp_gI8, dp_gI9, dp_gI10, dp_gI14, dp_pI5, dp_pI6, dp_pI7, dp_pI8, dp_pI9, dp_pI10, dp_pI14, dp_gR0, dp_gR1, dp_gR2, dp_gR3, dp_gR4, dp_gR11, dp_gR12, dp_gR13, dp_gR15, dp_gR16, dp_gA3, dp_pA3, dp_gAR0, dp_gAR1, dp_gAR2, dp_isO, dp_isA]
  unfold gWr
  refine ⟨fun hm => ?_, fun hm => ?_⟩
  · rw [hp.r4]
    refine ⟨hp.isO, (c_X3_partStart hl hp hR w.1 h0 (by omega)).cl0 (by decide) ?_⟩
    rw [el]
    simp (disch := omega) only [true_implies, false_implies, not_true_eq_false, not_false_eq_true, I_n, I_neg, I_add, I_sub, I_mul, I_le4, I_lt4, I_eq4, I_div4, I_bi0, I_bi01, I_bi1, nor_em, rI_of, rV_of, zI_of, zV_of, nz_and, br_T, br_F, br_T2, br_F2, st_eq, st9_0, st_k, st_i, true_and, and_true, Classical.not_not, rR_of, dp_gI5, dp_gI6, dp_gI7, dp_gI8, dp_gI9, dp_gI10, dp_gI14, dp_pI5, dp_pI6, dp_pI7, dp_pI8, dp_pI9, dp_pI10, dp_pI14, dp_gR0, dp_gR1, dp_gR2, dp_gR3, dp_gR4, dp_gR11, dp_gR12, dp_gR13, dp_gR15, dp_gR16, dp_gA3, dp_pA3, dp_gAR0, dp_gAR1, dp_gAR2, dp_isO, dp_isA]
    refine ⟨hp.isO, (c_X3_partLength hl hp hR w.1 h0 h1).cl0 (by decide) ?_⟩
    simp (disch := omega) only [true_implies, false_implies, not_true_eq_false, not_false_eq_true, I_n, I_neg, I_add, I_sub, I_mul, I_le4, I_lt4, I_eq4, I_div4, I_bi0, I_bi01, I_bi1, nor_em, rI_of, rV_of, zI_of, zV_of, nz_and, br_T, br_F, br_T2, br_F2, st_eq, st9_0, st_k, st_i, true_and, and_true, Classical.not_not, rR_of, dp_gI5, dp_gI6, dp_gI7, dp_gI8, dp_gI9, dp_gI10, dp_gI14, dp_pI5, dp_pI6, dp_pI7, dp_pI8, dp_pI9, dp_pI10, dp_pI14, dp_gR0, dp_gR1, dp_gR2, dp_gR3, dp_gR4, dp_gR11, dp_gR12, dp_gR13, dp_gR15, dp_gR16, dp_gA3, dp_pA3, dp_gAR0, dp_gAR1, dp_gAR2, dp_isO, dp_isA]
    refine (c_diff hl dp_k1 hp.c0 (by omega) (by omega) (by omega) (by omega) (by omega) (by omega) ?_).cl0 (by decide) ?_
    · intro y y0 y1
      have c1 := h.2.2.2.2.2.2.2 y (by omega) (by omega)
      have c2 := (hR.2.1 y (by omega) (by omega)).1
      have c3 := gB_b (r := r) (s := 0) (x := y)
      omega
    simp (disch := omega) only [true_implies, false_implies, not_true_eq_false, not_false_eq_true, I_n, I_neg, I_add, I_sub, I_mul, I_le4, I_lt4, I_eq4, I_div4, I_bi0, I_bi01, I_bi1, nor_em, rI_of, rV_of, zI_of, zV_of, nz_and, br_T, br_F, br_T2, br_F2, st_eq, st9_0, st_k, st_i, true_and, and_true, Classical.not_not, rR_of, dp_gI5, dp_gI6, dp_gI7, dp_gI8, dp_gI9, dp_gI10, dp_gI14, dp_pI5, dp_pI6, dp_pI7, dp_pI8, dp_pI9, dp_pI10, dp_pI14, dp_gR0, dp_gR1, dp_gR2, dp_gR3, dp_gR4, dp_gR11, dp_gR12, dp_gR13, dp_gR15, dp_gR16, dp_gA3, dp_pA3, dp_gAR0, dp_gAR1, dp_gAR2, dp_isO, dp_isA]
    rw [if_neg hm]
    have e : sg (fun j => bi (¬ D 0 (gPl r k + j) = P 0 (gPl r k + j))) (gPt r k).toNat = sg (fun j => bi (¬ r (336 + (gPl r k + j)) = gB r 0 (gPl r k + j))) (gPt r k).toNat := sg_congr fun j hj => by
      rw [h.1 k h0 h1 hm j (by omega) (by omega), (hR.2.1 (gPl r k + j) (by omega) (by omega)).1]
    rw [e]
    all_goals first | rfl | exact ⟨rfl, rfl⟩
  · rw [if_pos hm]
    all_goals first | rfl | exact ⟨rfl, rfl⟩
end CT
