/-! the class: receive -/
/-- counters and sources changed on both sides -/
theorem DX_cnt {D E : Nat → Int → Int} {r q : Int → Int} {lo hi e : Int} (w : RW r e) (h : DX D r lo hi) (hq : ∀ y, y ≠ 5 → y ≠ 6 → y ≠ 8 → y < 13 ∨ 19 < y → q y = r y) (hE : ∀ j, j ≠ 4 → j ≠ 5 → j ≠ 6 → j ≠ 10 → E j = D j) (h10 : ∀ y, y = 5 ∨ y = 6 ∨ y = 7 → E 10 y = D 10 y)
    (h5 : E 10 8 = q 5 ∧ E 10 9 = q 6 ∧ E 10 10 = q 8 ∧ E 10 14 = q 13) (h6 : ∀ s, 0 ≤ s → s ≤ 1 → E 4 s = q (14 + s) ∧ E 5 s = q (16 + s) ∧ E 6 s = q (18 + s)) : DX E q lo hi := by
  obtain ⟨a1, a2, a3, a4, a5, a6, a7, a8⟩ := id h
  have hcf : ∀ y, cf y → q y = r y := fun y hy => hq y (by unfold cf at hy; omega) (by unfold cf at hy; omega) (by unfold cf at hy; omega) (by unfold cf at hy; omega)
  obtain ⟨h0, h2, h3, hB⟩ := cfg_c w hcf
  have hc := geo_c h0 h2 h3
  obtain ⟨t1, t2⟩ := gT_b w.1
  have lg := w.1.2.1
  have ho : ∀ y, 19 < y → q y = r y := fun y hy => hq y (by omega) (by omega) (by omega) (by omega)
  have hM : ∀ k, 0 ≤ k → k < gN r → gMi q k = gMi r k := fun k k0 k1 => by
    obtain ⟨f1, f2⟩ := gF_b w.1 k0 k1
    exact gMi_c h0 h2 h3 fun i i0 i1 => by rw [ho _ (by omega)]
  have hV : ∀ k, 0 ≤ k → k < gN r → gV q k = gV r k := fun k k0 k1 => by
    obtain ⟨l1, l2, l3, l4⟩ := gLen_b w.1 k0 k1
    exact gV_c w hcf (hM k k0 k1) fun _ j j0 j1 => ho _ (by omega)
  have hMs : gMs q = gMs r := gMs_c w.1 h0 h2 h3 fun i i0 i1 => ho _ (by omega)
  have q7 : q 7 = r 7 := hq 7 (by omega) (by omega) (by omega) (by omega)
  unfold DX
  rw [hE 0 (by decide) (by decide) (by decide) (by decide), hE 1 (by decide) (by decide) (by decide) (by decide), hE 2 (by decide) (by decide) (by decide) (by decide), hE 3 (by decide) (by decide) (by decide) (by decide), hE 7 (by decide) (by decide) (by decide) (by decide), hE 8 (by decide) (by decide) (by decide) (by decide), hE 9 (by decide) (by decide) (by decide) (by decide), hE 11 (by decide) (by decide) (by decide) (by decide), h10 5 (by omega), h10 6 (by omega), h10 7 (by omega)]
  refine ⟨?_, ?_, ?_, ?_, ⟨h5.1, h5.2.1, h5.2.2.1, h5.2.2.2, by rw [a5.2.2.2.2, q7]⟩, h6, ?_, a8⟩
  · intro p p0 p1 hp j j0 j1
    rw [hc.2.2.2.2.2.1] at p1
    rw [ho _ (by omega)] at hp
    rw [hc.2.2.2.2.2.2.2.2] at j1
    obtain ⟨b1, b2, b3, b4, b5, b6⟩ := gPl_b w.1 p0 p1
    rw [hc.2.2.2.2.2.2.2.1, ho _ (by omega)]
    exact a1 p p0 p1 hp j j0 j1
  · intro p p0 p1
    rw [hc.2.2.2.2.2.1] at p1
    rw [ho _ (by omega)]
    exact a2 p p0 p1
  · intro k k0 k1
    rw [hc.1] at k1
    rw [hM k k0 k1, hV k k0 k1]
    exact a3 k k0 k1
  · rw [hMs, hc.1]
    obtain ⟨b1, b2, b3⟩ := a4
    refine ⟨b1, ?_, ?_⟩
    · rw [b2]
      refine sg_congr fun k hk => ?_
      rw [hV k (by omega) (by omega)]
    · rw [b3]
      refine sg_congr fun k hk => ?_
      rw [hV k (by omega) (by omega)]
  · intro j j0 j1 j2
    rw [q7] at j2
    rw [ho _ (by omega), ho _ (by omega), ho _ (by omega)]
    exact a7 j j0 j1 j2
theorem DX_conn {D : Nat → Int → Int} {r : Int → Int} {lo hi e s v : Int} (w : RW r e) (h : DX D r lo hi) (hs : 0 ≤ s ∧ s ≤ 1) : DX (st D 4 s v) (rs r (14 + s) v) lo hi := by
  obtain ⟨a1, a2, a3, a4, a5, a6, a7, a8⟩ := id h
  refine DX_cnt w h (fun y _ _ _ hy => rs_ne (by omega)) (fun j h4 _ _ _ => st_row h4) (fun y _ => st_i (by decide)) ?_ ?_
  · rw [rs_ne (by omega), rs_ne (by omega), rs_ne (by omega), rs_ne (by omega), st_i (by decide), st_i (by decide), st_i (by decide), st_i (by decide)]
    exact ⟨a5.1, a5.2.1, a5.2.2.1, a5.2.2.2.1⟩
  · intro s' s0 s1
    obtain ⟨b1, b2, b3⟩ := a6 s' s0 s1
    rw [st_if, st_i (by decide), st_i (by decide), rs_ne (b := 16 + s') (by omega), rs_ne (b := 18 + s') (by omega)]
    refine ⟨?_, b2, b3⟩
    by_cases hss : s' = s
    · rw [if_pos hss, hss, rs_eq]
    · rw [if_neg hss, rs_ne (by omega), b1]
theorem kJ_c {q r : Int → Int} {D : Nat → Int → Int} {k e : Int} (w : RW r e) (h : ∀ y, cf y → q y = r y) : kJ q D k = kJ r D k := by
  obtain ⟨h0, h2, h3, hB⟩ := cfg_c w h
  have hc := geo_c h0 h2 h3
  unfold kJ
  rw [h2, hc.2.2.1, gS_c hB]
theorem PR_c {q r : Int → Int} {P : Nat → Int → Int} {e : Int} (w : RW r e) (h : ∀ y, cf y → q y = r y) (p : PR P r) : PR P q := by
  obtain ⟨h0, h2, h3, hB⟩ := cfg_c w h
  have hc := geo_c h0 h2 h3
  have c3 := w.2.2.2.1
  obtain ⟨a1, a2, a3, a4, a5, a6, a7, a8, a9⟩ := p
  refine ⟨?_, ?_, ?_, ?_, ?_, ?_, ?_, ?_, ?_⟩
  · rw [h0, h 4 (by unfold cf; omega), hc.1, hc.2.2.2.2.2.1, h 11 (by unfold cf; omega), h 12 (by unfold cf; omega)]
    exact a1
  · rw [h0]
    intro k k0 k1
    rw [hB, hB]
    exact a2 k k0 k1
  · rw [hc.1]
    intro k k0 k1
    rw [gS_c hB, h2, hc.2.2.1]
    exact a3 k k0 k1
  · rw [hc.1]
    intro k k0 k1
    unfold gPs gFs
    rw [hc.1, h2, h0, hc.2.2.2.2.1, hc.2.2.2.2.2.1]
    exact a4 k k0 k1
  · rw [hc.2.2.2.2.2.1]
    intro k k0 k1
    unfold gLs
    rw [hc.2.2.2.2.2.1, hc.2.2.2.2.2.2.2.1, h0]
    exact a5 k k0 k1
  · rw [hc.2.2.2.2.2.1]
    intro k k0 k1
    rw [hc.2.2.2.2.2.2.1]
    exact a6 k k0 k1
  · rw [h0]
    intro k k0 k1
    unfold gAt
    rw [hc.2.2.2.2.1, h2, h3]
    exact a7 k k0 k1
  · rw [h 11 (by unfold cf; omega)]
    intro b b0 b1
    rw [h _ (by unfold cf; omega), h _ (by unfold cf; omega), h _ (by unfold cf; omega)]
    exact a8 b b0 b1
  · rw [h 12 (by unfold cf; omega)]
    intro b b0 b1
    rw [h _ (by unfold cf; omega), h _ (by unfold cf; omega)]
    exact a9 b b0 b1
theorem DX_A5 {r : Int → Int} {D : Nat → Int → Int} {p s e : Int} {q : Int → Int} (w : RW r e) (he : e + 10 ≤ 2000000000) (hs : 0 ≤ s ∧ s ≤ 1) (p0 : 0 ≤ p) (p1 : p < gT r) (hz : r (96 + p) = 0) (h : DR D r) (hq : ∀ k, 0 ≤ k → k < r 0 → q k = gB r s k) :
    DX (kA4 r D p s q) (rA3 r s p) (gPc r p) (gPc r p + 1) ∧ DR (kA5 r D p s q) (rA4 r s p) ∧ gPc (rA3 r s p) p = gPc r p := by
  obtain ⟨pc1, pc2, pc3, pc4⟩ := gPc_b w.1 p0 p1
  obtain ⟨⟨wa1, oa1⟩, ⟨wa2, oa2⟩, ⟨wa3, oa3⟩, -⟩ := rA_w w he hs p0 p1
  have d3 := DX_put w he hs p0 p1 hz h hq
  have d4 : DX (kA4 r D p s q) (rA3 r s p) (gPc r p) (gPc r p + 1) := DX_tell wa2 d3
  have cf3 : ∀ y, cf y → rA3 r s p y = r y := fun y hy => oa3 y (by unfold cf at hy; omega)
  obtain ⟨e0, e2, e3, hB⟩ := cfg_c w cf3
  have hc := geo_c e0 e2 e3
  have d5 := DX_judge wa3 d4 pc1 (by omega) (by rw [hc.1]; exact pc2)
  rw [kJ_c w cf3] at d5
  refine ⟨d4, ?_, hc.2.2.2.2.2.2.1 p⟩
  unfold rA4
  rw [hc.2.2.2.2.2.2.1 p]
  exact DX_n d5 0
theorem cut_eq {r q : Int → Int} {e s n : Int} (w : RW r e) (h : ∀ y, cf y → q y = r y) (hn : q (16 + s) = n) : gCut q s = cutN r s n := by
  have c3 := w.2.2.2.1
  unfold gCut cutN
  rw [h 12 (by unfold cf; omega)]
  rw [sg_congr (g := fun c => bi (r (80 + 2 * c) = s ∧ r (80 + 2 * c + 1) = n)) fun c hcc => by
    unfold gCf
    rw [hn]
    have a := h (80 + 2 * c) (by unfold cf; omega)
    have b := h (80 + 2 * c + 1) (by unfold cf; omega)
    simp only [a, b]]
theorem DR_arr {r : Int → Int} {D : Nat → Int → Int} {p s e : Int} {q : Int → Int} (w : RW r e) (he : e + 10 ≤ 2000000000) (hs : 0 ≤ s ∧ s ≤ 1) (p0 : 0 ≤ p) (p1 : p < gT r) (hz : r (96 + p) = 0) (h : DR D r) (hq : ∀ k, 0 ≤ k → k < r 0 → q k = gB r s k) : DR (kArr r D p s q) (rArr r s p) := by
  obtain ⟨-, d5, -⟩ := DX_A5 w he hs p0 p1 hz h hq
  obtain ⟨⟨wa1, oa1⟩, ⟨wa2, oa2⟩, ⟨wa3, oa3⟩, ⟨wa4, oa4⟩⟩ := rA_w w he hs p0 p1
  have cf4 : ∀ y, cf y → rA4 r s p y = r y := fun y hy => oa4 y (by unfold cf at hy; omega)
  have d3 := DX_put w he hs p0 p1 hz h hq
  have e5 : kA5 r D p s q 5 s = D 5 s + 1 := by
    unfold kA5 kJ
    have k4 : kA4 r D p s q 5 s = D 5 s + 1 := by unfold kA4; rw [kTell_j (by decide) (by decide) (by decide) (by decide), kA3_5, if_pos rfl]
    split
    · exact k4
    · split
      · rw [kTell_j (by decide) (by decide) (by decide) (by decide), st_i (by decide), st_i (by decide), k4]
      · rw [kTell_j (by decide) (by decide) (by decide) (by decide), st_i (by decide), st_i (by decide), k4]
  have en : rA4 r s p (16 + s) = D 5 s + 1 := by
    rw [← (d5.2.2.2.2.2.1 s hs.1 hs.2).2.1, e5]
  unfold kArr rArr
  rw [cut_eq w cf4 en]
  by_cases hcut : cutN r s (D 5 s + 1) = 0
  · rw [if_pos hcut, if_pos hcut]
    exact d5
  · rw [if_neg hcut, if_neg hcut]
    have w1 : RW (rs (rA4 r s p) (14 + s) 0) (e + 3) := RW_set wa4 (by omega) (by omega) (by omega) (by omega) (by omega) (by omega) (by omega) (by omega) (by omega) (by omega) (by omega) (by omega)
    have d6 := DX_conn (v := 0) wa4 d5 hs
    have e16 : rs (rA4 r s p) (14 + s) 0 (16 + s) = D 5 s + 1 := by rw [rs_ne (by omega), en]
    rw [e16]
    exact DX_tell w1 d6
section CR
variable {l : Launch} {X : XT} {a p : Nat} {B : AH} {D P : Nat → Int → Int} {r : Int → Int} {e lo hi : Int}
theorem c_X1_receive (hl : l.stackTraces = false) (hd : p + 10 < a ∨ a + 12 < p) (hP : PlanAt X B p P) (hR : PR P r) (w : RW r e) (he : e + 10 ≤ 2000000000) (h : DR D r) {k s : Int} (hs : 0 ≤ s ∧ s ≤ 1) (k0 : 0 ≤ k) (k1 : k < gT r) (hz : r (96 + k) = 0) : Fn l X 3 M_X1_receive [.ref a, .int (I k), .int (I s)] (dp X a p B D) 0 0 Rv (dp X a p B (kArr r D k s (P s.toNat))) := by
  obtain ⟨t1, t2⟩ := gT_b w.1
  have lg := w.1.2.1
  obtain ⟨b1, b2, b3, b4, b5, b6⟩ := gPl_b w.1 k0 k1
  obtain ⟨pc1, pc2, pc3, pc4⟩ := gPc_b w.1 k0 k1
  obtain ⟨n1, n2, -⟩ := gN_b w.1
  have hp := fun D => dp_pl (D := D) hd hP
  have g3 := w.1.2.2.2
  have e6 := hR.2.2.2.2.2.1 k k0 k1
  have hgl := RW_gl w
  have h5 := h.2.2.2.2.1
  have h16 := RW_16 w hs
  have e16 := (h.2.2.2.2.2.1 s hs.1 hs.2).2.1
  have hcr := w.2.2.2.2.2.1
  have hq : ∀ y, 0 ≤ y → y < r 0 → P s.toNat y = gB r s y := fun y y0 y1 => by
    obtain ⟨c0, c1⟩ := hR.2.1 y y0 y1
    have hs2 : s = 0 ∨ s = 1 := by omega
    rcases hs2 with rfl | rfl
    · exact c0
    · exact c1
  obtain ⟨d4, d5, epc⟩ := DX_A5 (q := P s.toNat) w he hs k0 k1 hz h hq
  obtain ⟨⟨wa1, oa1⟩, ⟨wa2, oa2⟩, ⟨wa3, oa3⟩, ⟨wa4, oa4⟩⟩ := rA_w w he hs k0 k1
  have cf3 : ∀ y, cf y → rA3 r s k y = r y := fun y hy => oa3 y (by unfold cf at hy; omega)
  obtain ⟨c0, c2, c3, hB⟩ := cfg_c w cf3
  have hc := geo_c c0 c2 c3
  have g4 := RW_gl wa4
  obtain ⟨q, hqd⟩ : ∃ q, q = P s.toNat := ⟨_, rfl⟩
  rw [← hqd] at hq d4 d5 ⊢
  have el : gLs r k = gPl r k := if_pos k1
  obtain ⟨b, hb, hb2, hb3⟩ : ∃ b, (b = p + 1 ∨ b = p + 2) ∧ B.2 b = some (ia X 240 (fun y => I (q y))) ∧ ∀ A, PlanAt X A p P → Fn l X 0 M_X3_bytesOf [.ref p, .int (I s)] A 0 0 (Ra b) A := by
    have hs2 : s = 0 ∨ s = 1 := by omega
    rcases hs2 with rfl | rfl
    · exact ⟨p + 1, Or.inl rfl, by rw [hqd]; exact hP.c0, fun A hA => c_X3_bytesOf0 hl hA⟩
    · exact ⟨p + 2, Or.inr rfl, by rw [hqd]; exact hP.c1, fun A hA => c_X3_bytesOf1 hl hA⟩
  refine Fn.of hl rfl rfl (Nat.le_of_ble_eq_true rfl) (k_X1_receive_0 ?_)
  simp (disch := omega) only [true_implies, false_implies, not_true_eq_false, not_false_eq_true, I_n, I_neg, I_add, I_sub, I_mul, I_le4, I_lt4, I_eq4, I_div4, I_bi0, I_bi01, I_bi1, nor_em, rI_of, rV_of, zI_of, zV_of, nz_and, br_T, br_F, br_T2, br_F2, st_eq, st9_0, st_k, st_i, true_and, and_true, Classical.not_not, rR_of, dp_gI5, dp_gI6, dp_gI7, dp_gI8, dp_gI9, dp_gI10, dp_gI14, dp_pI5, dp_pI6, dp_pI7, dp_pI8, dp_pI9, dp_pI10, dp_pI14, dp_gR0, dp_gR1, dp_gR2, dp_gR3, dp_gR4, dp_gR11, dp_gR12, dp_gR13, dp_gR15, dp_gR16, dp_gA3, dp_pA3, dp_gAR0, dp_gAR1, dp_gAR2, dp_isO, dp_isA]
  refine ⟨(hp _).isO, (hb3 _ (hp _)).cl0 (by decide) ?_⟩
  simp (disch := omega) only [true_implies, false_implies, not_true_eq_false, not_false_eq_true, I_n, I_neg, I_add, I_sub, I_mul, I_le4, I_lt4, I_eq4, I_div4, I_bi0, I_bi01, I_bi1, nor_em, rI_of, rV_of, zI_of, zV_of, nz_and, br_T, br_F, br_T2, br_F2, st_eq, st9_0, st_k, st_i, true_and, and_true, Classical.not_not, rR_of, dp_gI5, dp_gI6, dp_gI7, dp_gI8, dp_gI9, dp_gI10, dp_gI14, dp_pI5, dp_pI6, dp_pI7, dp_pI8, dp_pI9, dp_pI10, dp_pI14, dp_gR0, dp_gR1, dp_gR2, dp_gR3, dp_gR4, dp_gR11, dp_gR12, dp_gR13, dp_gR15, dp_gR16, dp_gA3, dp_pA3, dp_gAR0, dp_gAR1, dp_gAR2, dp_isO, dp_isA]
  refine (c_X1_putPart (D := st D 10 8 (D 10 8 + 1)) hl hd hP hR w.1 k0 k1 hb2 (by omega) (by omega) (by omega)).cl0 (by decide) ?_
  simp (disch := omega) only [true_implies, false_implies, not_true_eq_false, not_false_eq_true, I_n, I_neg, I_add, I_sub, I_mul, I_le4, I_lt4, I_eq4, I_div4, I_bi0, I_bi01, I_bi1, nor_em, rI_of, rV_of, zI_of, zV_of, nz_and, br_T, br_F, br_T2, br_F2, st_eq, st9_0, st_k, st_i, true_and, and_true, Classical.not_not, rR_of, dp_gI5, dp_gI6, dp_gI7, dp_gI8, dp_gI9, dp_gI10, dp_gI14, dp_pI5, dp_pI6, dp_pI7, dp_pI8, dp_pI9, dp_pI10, dp_pI14, dp_gR0, dp_gR1, dp_gR2, dp_gR3, dp_gR4, dp_gR11, dp_gR12, dp_gR13, dp_gR15, dp_gR16, dp_gA3, dp_pA3, dp_gAR0, dp_gAR1, dp_gAR2, dp_isO, dp_isA]
  rw [show kPut r (st D 10 8 (D 10 8 + 1)) k s q = kA1 r D k s q from rfl]
  refine ⟨(hp _).isO, (c_X3_partStart hl (hp _) hR w.1 k0 (by omega)).cl0 (by decide) ?_⟩
  rw [el]
  simp (disch := omega) only [true_implies, false_implies, not_true_eq_false, not_false_eq_true, I_n, I_neg, I_add, I_sub, I_mul, I_le4, I_lt4, I_eq4, I_div4, I_bi0, I_bi01, I_bi1, nor_em, rI_of, rV_of, zI_of, zV_of, nz_and, br_T, br_F, br_T2, br_F2, st_eq, st9_0, st_k, st_i, true_and, and_true, Classical.not_not, rR_of, dp_gI5, dp_gI6, dp_gI7, dp_gI8, dp_gI9, dp_gI10, dp_gI14, dp_pI5, dp_pI6, dp_pI7, dp_pI8, dp_pI9, dp_pI10, dp_pI14, dp_gR0, dp_gR1, dp_gR2, dp_gR3, dp_gR4, dp_gR11, dp_gR12, dp_gR13, dp_gR15, dp_gR16, dp_gA3, dp_pA3, dp_gAR0, dp_gAR1, dp_gAR2, dp_isO, dp_isA]
  refine ⟨(hp _).isO, (c_X3_partLength hl (hp _) hR w.1 k0 k1).cl0 (by decide) ?_⟩
  simp (disch := omega) only [true_implies, false_implies, not_true_eq_false, not_false_eq_true, I_n, I_neg, I_add, I_sub, I_mul, I_le4, I_lt4, I_eq4, I_div4, I_bi0, I_bi01, I_bi1, nor_em, rI_of, rV_of, zI_of, zV_of, nz_and, br_T, br_F, br_T2, br_F2, st_eq, st9_0, st_k, st_i, true_and, and_true, Classical.not_not, rR_of, dp_gI5, dp_gI6, dp_gI7, dp_gI8, dp_gI9, dp_gI10, dp_gI14, dp_pI5, dp_pI6, dp_pI7, dp_pI8, dp_pI9, dp_pI10, dp_pI14, dp_gR0, dp_gR1, dp_gR2, dp_gR3, dp_gR4, dp_gR11, dp_gR12, dp_gR13, dp_gR15, dp_gR16, dp_gA3, dp_pA3, dp_gAR0, dp_gAR1, dp_gAR2, dp_isO, dp_isA]
  refine (c_X1_breakBytes (D := kA1 r D k s q) hl hd hP hR w ?_ (by rw [kA1_8]; omega) (by omega) (by omega) (by omega)).cl0 (by decide) ?_
  · intro y y0 y1
    rw [kA1_0]
    unfold cpy
    split
    · rw [show gPl r k + (y - gPl r k) = y by omega, hq y y0 (by omega)]
      exact gB_b
    · exact h.2.2.2.2.2.2.2 y y0 y1
  simp (disch := omega) only [true_implies, false_implies, not_true_eq_false, not_false_eq_true, I_n, I_neg, I_add, I_sub, I_mul, I_le4, I_lt4, I_eq4, I_div4, I_bi0, I_bi01, I_bi1, nor_em, rI_of, rV_of, zI_of, zV_of, nz_and, br_T, br_F, br_T2, br_F2, st_eq, st9_0, st_k, st_i, true_and, and_true, Classical.not_not, rR_of, dp_gI5, dp_gI6, dp_gI7, dp_gI8, dp_gI9, dp_gI10, dp_gI14, dp_pI5, dp_pI6, dp_pI7, dp_pI8, dp_pI9, dp_pI10, dp_pI14, dp_gR0, dp_gR1, dp_gR2, dp_gR3, dp_gR4, dp_gR11, dp_gR12, dp_gR13, dp_gR15, dp_gR16, dp_gA3, dp_pA3, dp_gAR0, dp_gAR1, dp_gAR2, dp_isO, dp_isA]
  rw [show sw (kA1 r D k s q) 0 (kBs r (kA1 r D k s q 10 8) (gPl r k) (gPt r k) (kA1 r D k s q 0) (r 11).toNat) = kA2 r D k s q from rfl]
  refine (at_d5 hl (by omega) (by omega)).cl0 (by decide) ?_
  have e2 : kA2 r D k s q 5 s = D 5 s := by
    unfold kA2 kA1
    rw [sw_j (by decide), kPut_j (by decide) (by decide) (by decide) (by decide), st_i (by decide)]
  rw [e2]
  simp (disch := omega) only [true_implies, false_implies, not_true_eq_false, not_false_eq_true, I_n, I_neg, I_add, I_sub, I_mul, I_le4, I_lt4, I_eq4, I_div4, I_bi0, I_bi01, I_bi1, nor_em, rI_of, rV_of, zI_of, zV_of, nz_and, br_T, br_F, br_T2, br_F2, st_eq, st9_0, st_k, st_i, true_and, and_true, Classical.not_not, rR_of, dp_gI5, dp_gI6, dp_gI7, dp_gI8, dp_gI9, dp_gI10, dp_gI14, dp_pI5, dp_pI6, dp_pI7, dp_pI8, dp_pI9, dp_pI10, dp_pI14, dp_gR0, dp_gR1, dp_gR2, dp_gR3, dp_gR4, dp_gR11, dp_gR12, dp_gR13, dp_gR15, dp_gR16, dp_gA3, dp_pA3, dp_gAR0, dp_gAR1, dp_gAR2, dp_isO, dp_isA]
  refine (put_d5 hl (by omega) (by omega)).cl0 (by decide) ?_
  rw [show st (kA2 r D k s q) 5 s (D 5 s + 1) = kA3 r D k s q from rfl]
  simp (disch := omega) only [true_implies, false_implies, not_true_eq_false, not_false_eq_true, I_n, I_neg, I_add, I_sub, I_mul, I_le4, I_lt4, I_eq4, I_div4, I_bi0, I_bi01, I_bi1, nor_em, rI_of, rV_of, zI_of, zV_of, nz_and, br_T, br_F, br_T2, br_F2, st_eq, st9_0, st_k, st_i, true_and, and_true, Classical.not_not, rR_of, dp_gI5, dp_gI6, dp_gI7, dp_gI8, dp_gI9, dp_gI10, dp_gI14, dp_pI5, dp_pI6, dp_pI7, dp_pI8, dp_pI9, dp_pI10, dp_pI14, dp_gR0, dp_gR1, dp_gR2, dp_gR3, dp_gR4, dp_gR11, dp_gR12, dp_gR13, dp_gR15, dp_gR16, dp_gA3, dp_pA3, dp_gAR0, dp_gAR1, dp_gAR2, dp_isO, dp_isA]
  have e11 : kA3 r D k s q 11 3 = D 11 3 := by
    rw [kA3_j (by decide) (by decide)]
    unfold kA1
    rw [kPut_j (by decide) (by decide) (by decide) (by decide), st_i (by decide)]
  refine (c_X0_write (D := kA3 r D k s q) hl (by rw [e11]; omega)).cl0 (by decide) ?_
  rw [show kTell (kA3 r D k s q) 0 k s = kA4 r D k s q from rfl]
  simp (disch := omega) only [true_implies, false_implies, not_true_eq_false, not_false_eq_true, I_n, I_neg, I_add, I_sub, I_mul, I_le4, I_lt4, I_eq4, I_div4, I_bi0, I_bi01, I_bi1, nor_em, rI_of, rV_of, zI_of, zV_of, nz_and, br_T, br_F, br_T2, br_F2, st_eq, st9_0, st_k, st_i, true_and, and_true, Classical.not_not, rR_of, dp_gI5, dp_gI6, dp_gI7, dp_gI8, dp_gI9, dp_gI10, dp_gI14, dp_pI5, dp_pI6, dp_pI7, dp_pI8, dp_pI9, dp_pI10, dp_pI14, dp_gR0, dp_gR1, dp_gR2, dp_gR3, dp_gR4, dp_gR11, dp_gR12, dp_gR13, dp_gR15, dp_gR16, dp_gA3, dp_pA3, dp_gAR0, dp_gAR1, dp_gAR2, dp_isO, dp_isA]
  rw [(hp _).r10]
  refine (at_p6 hl (hp _) (by omega) (by omega)).cl0 (by decide) ?_
  rw [e6]
  simp (disch := omega) only [true_implies, false_implies, not_true_eq_false, not_false_eq_true, I_n, I_neg, I_add, I_sub, I_mul, I_le4, I_lt4, I_eq4, I_div4, I_bi0, I_bi01, I_bi1, nor_em, rI_of, rV_of, zI_of, zV_of, nz_and, br_T, br_F, br_T2, br_F2, st_eq, st9_0, st_k, st_i, true_and, and_true, Classical.not_not, rR_of, dp_gI5, dp_gI6, dp_gI7, dp_gI8, dp_gI9, dp_gI10, dp_gI14, dp_pI5, dp_pI6, dp_pI7, dp_pI8, dp_pI9, dp_pI10, dp_pI14, dp_gR0, dp_gR1, dp_gR2, dp_gR3, dp_gR4, dp_gR11, dp_gR12, dp_gR13, dp_gR15, dp_gR16, dp_gA3, dp_pA3, dp_gAR0, dp_gAR1, dp_gAR2, dp_isO, dp_isA]
  have aj := c_X1_judge (a := a) (D := kA4 r D k s q) (k := gPc r k) hl hd hP (PR_c w cf3 hR) wa3 d4 pc1 (by rw [hc.1]; exact pc2)
  rw [kJ_c w cf3, show kJ r (kA4 r D k s q) (gPc r k) = kA5 r D k s q from rfl] at aj
  refine aj.cl0 (by decide) ?_
  simp (disch := omega) only [true_implies, false_implies, not_true_eq_false, not_false_eq_true, I_n, I_neg, I_add, I_sub, I_mul, I_le4, I_lt4, I_eq4, I_div4, I_bi0, I_bi01, I_bi1, nor_em, rI_of, rV_of, zI_of, zV_of, nz_and, br_T, br_F, br_T2, br_F2, st_eq, st9_0, st_k, st_i, true_and, and_true, Classical.not_not, rR_of, dp_gI5, dp_gI6, dp_gI7, dp_gI8, dp_gI9, dp_gI10, dp_gI14, dp_pI5, dp_pI6, dp_pI7, dp_pI8, dp_pI9, dp_pI10, dp_pI14, dp_gR0, dp_gR1, dp_gR2, dp_gR3, dp_gR4, dp_gR11, dp_gR12, dp_gR13, dp_gR15, dp_gR16, dp_gA3, dp_pA3, dp_gAR0, dp_gAR1, dp_gAR2, dp_isO, dp_isA]
  refine ⟨(hp _).isO, (c_X3_isCutAt (s := s) (n := D 5 s + 1) hl (hp _) hR w hs (by omega)).cl0 (by decide) ?_⟩
  have hcz : 0 ≤ cutN r s (D 5 s + 1) ∧ cutN r s (D 5 s + 1) ≤ 1 := cz_b
  simp (disch := omega) only [true_implies, false_implies, not_true_eq_false, not_false_eq_true, I_n, I_neg, I_add, I_sub, I_mul, I_le4, I_lt4, I_eq4, I_div4, I_bi0, I_bi01, I_bi1, nor_em, rI_of, rV_of, zI_of, zV_of, nz_and, br_T, br_F, br_T2, br_F2, st_eq, st9_0, st_k, st_i, true_and, and_true, Classical.not_not, rR_of, dp_gI5, dp_gI6, dp_gI7, dp_gI8, dp_gI9, dp_gI10, dp_gI14, dp_pI5, dp_pI6, dp_pI7, dp_pI8, dp_pI9, dp_pI10, dp_pI14, dp_gR0, dp_gR1, dp_gR2, dp_gR3, dp_gR4, dp_gR11, dp_gR12, dp_gR13, dp_gR15, dp_gR16, dp_gA3, dp_pA3, dp_gAR0, dp_gAR1, dp_gAR2, dp_isO, dp_isA]
  unfold kArr
  refine ⟨fun hcut => ?_, fun hcut => ?_⟩
  · rw [if_pos hcut]
    all_goals first | rfl | exact ⟨rfl, rfl⟩
  · rw [if_neg hcut]
    refine (put_d4 hl (by omega) (by omega)).cl0 (by decide) ?_
    simp (disch := omega) only [true_implies, false_implies, not_true_eq_false, not_false_eq_true, I_n, I_neg, I_add, I_sub, I_mul, I_le4, I_lt4, I_eq4, I_div4, I_bi0, I_bi01, I_bi1, nor_em, rI_of, rV_of, zI_of, zV_of, nz_and, br_T, br_F, br_T2, br_F2, st_eq, st9_0, st_k, st_i, true_and, and_true, Classical.not_not, rR_of, dp_gI5, dp_gI6, dp_gI7, dp_gI8, dp_gI9, dp_gI10, dp_gI14, dp_pI5, dp_pI6, dp_pI7, dp_pI8, dp_pI9, dp_pI10, dp_pI14, dp_gR0, dp_gR1, dp_gR2, dp_gR3, dp_gR4, dp_gR11, dp_gR12, dp_gR13, dp_gR15, dp_gR16, dp_gA3, dp_pA3, dp_gAR0, dp_gAR1, dp_gAR2, dp_isO, dp_isA]
    have e7 := d5.2.2.2.2.1.2.2.2.2
    refine (c_X0_write (D := st (kA5 r D k s q) 4 s 0) hl (by rw [st_i (by decide)]; omega)).cl0 (by decide) ?_
    simp (disch := omega) only [true_implies, false_implies, not_true_eq_false, not_false_eq_true, I_n, I_neg, I_add, I_sub, I_mul, I_le4, I_lt4, I_eq4, I_div4, I_bi0, I_bi01, I_bi1, nor_em, rI_of, rV_of, zI_of, zV_of, nz_and, br_T, br_F, br_T2, br_F2, st_eq, st9_0, st_k, st_i, true_and, and_true, Classical.not_not, rR_of, dp_gI5, dp_gI6, dp_gI7, dp_gI8, dp_gI9, dp_gI10, dp_gI14, dp_pI5, dp_pI6, dp_pI7, dp_pI8, dp_pI9, dp_pI10, dp_pI14, dp_gR0, dp_gR1, dp_gR2, dp_gR3, dp_gR4, dp_gR11, dp_gR12, dp_gR13, dp_gR15, dp_gR16, dp_gA3, dp_pA3, dp_gAR0, dp_gAR1, dp_gAR2, dp_isO, dp_isA]
end CR
