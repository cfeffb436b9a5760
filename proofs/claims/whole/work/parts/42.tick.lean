/-! the class: receiveMissing, ticks -/
theorem rFe_off {s f : Int} : ∀ (m : Nat) (j : Int) (r : Int → Int), r (14 + s) = 0 → rFe s f m j r = (r, 0) := by
  intro m
  induction m with
  | zero => intro j r _; rfl
  | succ m ih =>
    intro j r h
    show (if r (96 + (f + j)) = 0 ∧ ¬ r (14 + s) = 0 then _ else rFe s f m (j + 1) r) = _
    rw [if_neg fun q => q.2 h]
    exact ih (j + 1) r h
theorem sg_pos {f : Int → Int} : ∀ n : Nat, (∀ k : Nat, k < n → 0 ≤ f k) → ∀ i : Int, 0 ≤ i → i < n → 0 < f i → 0 < sg f n := by
  intro n
  induction n with
  | zero => intro _ i h0 h1; omega
  | succ n ih =>
    intro h i h0 h1 hp
    have hn := h n (by omega)
    have hs := sg_nn (f := f) (n := n) fun k hk => h k (by omega)
    rw [sg_s]
    by_cases hi : i = n
    · rw [hi] at hp
      omega
    · have := ih (fun k hk => h k (by omega)) i h0 (by omega) hp
      omega
theorem gMs_lo {r : Int → Int} (g : GW r) : 0 < gMs r ↔ ¬ gLo r = -1 := by
  obtain ⟨t1, t2⟩ := gT_b g
  constructor
  · intro h he
    rcases gLo_b g with ⟨-, a2⟩ | ⟨a1, -⟩
    · have e : gMs r = 0 := by
        unfold gMs
        have hz : ∀ n : Nat, (n : Int) ≤ gT r → sg (fun k => bi (r (96 + k) = 0)) n = 0 := by
          intro n
          induction n with
          | zero => intro _; rfl
          | succ n ih =>
            intro hn
            rw [sg_s, ih (by omega), bi_f (a2 n (by omega) (by omega))]
            rfl
        exact hz _ (by omega)
      omega
    · omega
  · intro h
    rcases gLo_b g with ⟨a1, -⟩ | ⟨a1, a2, a3, -⟩
    · exact absurd a1 h
    · exact sg_pos (f := fun k => bi (r (96 + k) = 0)) (gT r).toNat (fun k _ => bi_b.1) (gLo r) a1 (by omega) (by show 0 < bi (r (96 + gLo r) = 0); rw [bi_t a3]; decide)
theorem gMs_hi {r : Int → Int} (g : GW r) : 0 < gMs r ↔ ¬ gHh r = -1 := by
  rw [gMs_lo g]
  rcases gLo_b g with ⟨a1, a2⟩ | ⟨a1, a2, a3, -⟩
  · rcases gHh_b g with ⟨b1, -⟩ | ⟨b1, b2, b3, -⟩
    · rw [a1, b1]
    · exact absurd b3 (a2 _ b1 b2)
  · rcases gHh_b g with ⟨b1, b2⟩ | ⟨b1, b2, b3, -⟩
    · exact absurd a3 (b2 _ a1 a2)
    · exact ⟨fun _ => by omega, fun _ => by omega⟩
section CO
variable {l : Launch} {X : XT} {a p : Nat} {B : AH} {P : Nat → Int → Int}
theorem L_recM (hl : l.stackTraces = false) (hd : p + 10 < a ∨ a + 12 < p) (hP : PlanAt X B p P) {s k f z : Int} (hs : 0 ≤ s ∧ s ≤ 1) : ∀ (m : Nat) (j : Int) (D : Nat → Int → Int) (r : Int → Int) (n e : Int), PR P r → RW r e → e + 10 + 10 * m ≤ 2000000000 → DR D r → 0 ≤ j → 0 ≤ k → k < gN r → j + m = gPo r k → f = gF r k → z = gF r k + gPo r k →
    G l X M_X1_receiveMissing 4 (fun o' A1 => o' = Ri (I (n + (rFe s f m j r).2)) ∧ ∃ D', A1 = dp X a p B D' ∧ DR D' (rFe s f m j r).1) 27 [(0, .ref a), (2, .int (I s)), (4, .int (I z)), (5, .int (I n)), (6, .int (I (f + j)))] [] (dp X a p B D) 0 0 := by
  intro m
  induction m with
  | zero =>
    intro j D r n e hR w he h h0 hk hk1 hj hf hz
    obtain ⟨p1, p2, -⟩ := gPo_b w.1 hk hk1
    obtain ⟨q1, q2, -⟩ := gE_b w.1
    obtain ⟨f1, f2⟩ := gF_b w.1 hk hk1
    obtain ⟨t1, t2⟩ := gT_b w.1
    have lg := w.1.2.1
    refine k_X1_receiveMissing_27 ?_
    simp (disch := omega) only [true_implies, false_implies, not_true_eq_false, not_false_eq_true, I_n, I_neg, I_add, I_sub, I_mul, I_le4, I_lt4, I_eq4, I_div4, I_bi0, I_bi01, I_bi1, nor_em, rI_of, rV_of, zI_of, zV_of, nz_and, br_T, br_F, br_T2, br_F2, st_eq, st9_0, st_k, st_i, true_and, and_true, Classical.not_not, or_true, true_or, or_false, false_or, rR_of, dp_gI5, dp_gI6, dp_gI7, dp_gI8, dp_gI9, dp_gI10, dp_gI14, dp_pI5, dp_pI6, dp_pI7, dp_pI8, dp_pI9, dp_pI10, dp_pI14, dp_gR0, dp_gR1, dp_gR2, dp_gR3, dp_gR4, dp_gR11, dp_gR12, dp_gR13, dp_gR15, dp_gR16, dp_gA3, dp_pA3, dp_gAR0, dp_gAR1, dp_gAR2, dp_isO, dp_isA]
    rw [show rFe s f 0 j r = (r, 0) from rfl, Int.add_zero]
    exact ⟨rfl, D, rfl, h⟩
  | succ m ih =>
    intro j D r n e hR w he h h0 hk hk1 hj hf hz
    obtain ⟨p1, p2, -⟩ := gPo_b w.1 hk hk1
    obtain ⟨q1, q2, -⟩ := gE_b w.1
    obtain ⟨f1, f2⟩ := gF_b w.1 hk hk1
    obtain ⟨t1, t2⟩ := gT_b w.1
    have lg := w.1.2.1
    have h14 := RW_14 w hs
    refine k_X1_receiveMissing_27 ?_
    simp (disch := omega) only [true_implies, false_implies, not_true_eq_false, not_false_eq_true, I_n, I_neg, I_add, I_sub, I_mul, I_le4, I_lt4, I_eq4, I_div4, I_bi0, I_bi01, I_bi1, nor_em, rI_of, rV_of, zI_of, zV_of, nz_and, br_T, br_F, br_T2, br_F2, st_eq, st9_0, st_k, st_i, true_and, and_true, Classical.not_not, or_true, true_or, or_false, false_or, rR_of, dp_gI5, dp_gI6, dp_gI7, dp_gI8, dp_gI9, dp_gI10, dp_gI14, dp_pI5, dp_pI6, dp_pI7, dp_pI8, dp_pI9, dp_pI10, dp_pI14, dp_gR0, dp_gR1, dp_gR2, dp_gR3, dp_gR4, dp_gR11, dp_gR12, dp_gR13, dp_gR15, dp_gR16, dp_gA3, dp_pA3, dp_gAR0, dp_gAR1, dp_gAR2, dp_isO, dp_isA]
    refine (c_X1_isConnected hl w h hs).cl0 (by decide) ?_
    simp (disch := omega) only [true_implies, false_implies, not_true_eq_false, not_false_eq_true, I_n, I_neg, I_add, I_sub, I_mul, I_le4, I_lt4, I_eq4, I_div4, I_bi0, I_bi01, I_bi1, nor_em, rI_of, rV_of, zI_of, zV_of, nz_and, br_T, br_F, br_T2, br_F2, st_eq, st9_0, st_k, st_i, true_and, and_true, Classical.not_not, or_true, true_or, or_false, false_or, rR_of, dp_gI5, dp_gI6, dp_gI7, dp_gI8, dp_gI9, dp_gI10, dp_gI14, dp_pI5, dp_pI6, dp_pI7, dp_pI8, dp_pI9, dp_pI10, dp_pI14, dp_gR0, dp_gR1, dp_gR2, dp_gR3, dp_gR4, dp_gR11, dp_gR12, dp_gR13, dp_gR15, dp_gR16, dp_gA3, dp_pA3, dp_gAR0, dp_gAR1, dp_gAR2, dp_isO, dp_isA]
    refine ⟨fun hoff => ?_, fun hon => ?_⟩
    · rw [rFe_off (m + 1) j r (by omega), Int.add_zero]
      exact ⟨rfl, D, rfl, h⟩
    · refine (c_X1_isMissing hl w h (by omega) (by omega)).cl0 (by decide) ?_
      simp (disch := omega) only [true_implies, false_implies, not_true_eq_false, not_false_eq_true, I_n, I_neg, I_add, I_sub, I_mul, I_le4, I_lt4, I_eq4, I_div4, I_bi0, I_bi01, I_bi1, nor_em, rI_of, rV_of, zI_of, zV_of, nz_and, br_T, br_F, br_T2, br_F2, st_eq, st9_0, st_k, st_i, true_and, and_true, Classical.not_not, or_true, true_or, or_false, false_or, rR_of, dp_gI5, dp_gI6, dp_gI7, dp_gI8, dp_gI9, dp_gI10, dp_gI14, dp_pI5, dp_pI6, dp_pI7, dp_pI8, dp_pI9, dp_pI10, dp_pI14, dp_gR0, dp_gR1, dp_gR2, dp_gR3, dp_gR4, dp_gR11, dp_gR12, dp_gR13, dp_gR15, dp_gR16, dp_gA3, dp_pA3, dp_gAR0, dp_gAR1, dp_gAR2, dp_isO, dp_isA]
      refine ⟨fun hm => ?_, fun hm => ?_⟩
      · have e1 : rFe s f (m + 1) j r = rFe s f m (j + 1) r := if_neg fun q => hm q.1
        rw [e1, Int.add_assoc f]
        exact ih (j + 1) D r n e hR w (by omega) h (by omega) hk hk1 (by omega) hf hz
      · have e1 : rFe s f (m + 1) j r = ((rFe s f m (j + 1) (rArr r s (f + j))).1, (rFe s f m (j + 1) (rArr r s (f + j))).2 + 1) := if_pos ⟨hm, by omega⟩
        obtain ⟨w2, o2⟩ := rArr_w w (by omega) hs (p := f + j) (by omega) (by omega)
        have cf2 : ∀ y, cf y → rArr r s (f + j) y = r y := fun y hy => o2 y (by unfold cf at hy; omega)
        have hc := geo_c (o2 0 (by omega)) (o2 2 (by omega)) (o2 3 (by omega))
        have hq : ∀ y, 0 ≤ y → y < r 0 → P s.toNat y = gB r s y := fun y y0 y1 => by
          obtain ⟨c0, c1⟩ := hR.2.1 y y0 y1
          have hs2 : s = 0 ∨ s = 1 := by omega
          rcases hs2 with rfl | rfl
          · exact c0
          · exact c1
        refine (c_X1_receive hl hd hP hR w (by omega) h hs (by omega) (by omega) hm).cl0 (by decide) ?_
        simp (disch := omega) only [true_implies, false_implies, not_true_eq_false, not_false_eq_true, I_n, I_neg, I_add, I_sub, I_mul, I_le4, I_lt4, I_eq4, I_div4, I_bi0, I_bi01, I_bi1, nor_em, rI_of, rV_of, zI_of, zV_of, nz_and, br_T, br_F, br_T2, br_F2, st_eq, st9_0, st_k, st_i, true_and, and_true, Classical.not_not, or_true, true_or, or_false, false_or, rR_of, dp_gI5, dp_gI6, dp_gI7, dp_gI8, dp_gI9, dp_gI10, dp_gI14, dp_pI5, dp_pI6, dp_pI7, dp_pI8, dp_pI9, dp_pI10, dp_pI14, dp_gR0, dp_gR1, dp_gR2, dp_gR3, dp_gR4, dp_gR11, dp_gR12, dp_gR13, dp_gR15, dp_gR16, dp_gA3, dp_pA3, dp_gAR0, dp_gAR1, dp_gAR2, dp_isO, dp_isA]
        have i2 := ih (j + 1) (kArr r D (f + j) s (P s.toNat)) (rArr r s (f + j)) (n + 1) (e + 4) (PR_c w cf2 hR) w2 (by omega) (DR_arr w (by omega) hs (by omega) (by omega) hm h hq) (by omega) hk (by rw [hc.1]; exact hk1) (by rw [hc.2.2.2.1]; omega) (by rw [hc.2.2.2.2.1]; exact hf) (by rw [hc.2.2.2.2.1, hc.2.2.2.1]; exact hz)
        rw [e1]
        rw [show n + 1 + (rFe s f m (j + 1) (rArr r s (f + j))).2 = n + ((rFe s f m (j + 1) (rArr r s (f + j))).2 + 1) by omega, ← Int.add_assoc f] at i2
        exact i2
theorem c_X1_receiveMissing (hl : l.stackTraces = false) (hd : p + 10 < a ∨ a + 12 < p) (hP : PlanAt X B p P) {D : Nat → Int → Int} {r : Int → Int} {e : Int} (hR : PR P r) (w : RW r e) (he : e + 1000 ≤ 2000000000) (h : DR D r) {s k : Int} (hs : 0 ≤ s ∧ s ≤ 1) (k0 : 0 ≤ k) (k1 : k < gN r) : Ct l X 4 M_X1_receiveMissing [.ref a, .int (I k), .int (I s)] (dp X a p B D) 0 0 (fun o' A1 => o' = Ri (I (rFe s (gF r k) (gPo r k).toNat 0 r).2) ∧ ∃ D', A1 = dp X a p B D' ∧ DR D' (rFe s (gF r k) (gPo r k).toNat 0 r).1) := by
  obtain ⟨p1, p2, -⟩ := gPo_b w.1 k0 k1
  obtain ⟨q1, q2, -⟩ := gE_b w.1
  have hp := fun D => dp_pl (D := D) hd hP
  refine Ct.of hl rfl rfl (Nat.le_of_ble_eq_true rfl) (k_X1_receiveMissing_0 ?_)
  simp (disch := omega) only [true_implies, false_implies, not_true_eq_false, not_false_eq_true, I_n, I_neg, I_add, I_sub, I_mul, I_le4, I_lt4, I_eq4, I_div4, I_bi0, I_bi01, I_bi1, nor_em, rI_of, rV_of, zI_of, zV_of, nz_and, br_T, br_F, br_T2, br_F2, st_eq, st9_0, st_k, st_i, true_and, and_true, Classical.not_not, or_true, true_or, or_false, false_or, rR_of, dp_gI5, dp_gI6, dp_gI7, dp_gI8, dp_gI9, dp_gI10, dp_gI14, dp_pI5, dp_pI6, dp_pI7, dp_pI8, dp_pI9, dp_pI10, dp_pI14, dp_gR0, dp_gR1, dp_gR2, dp_gR3, dp_gR4, dp_gR11, dp_gR12, dp_gR13, dp_gR15, dp_gR16, dp_gA3, dp_pA3, dp_gAR0, dp_gAR1, dp_gAR2, dp_isO, dp_isA]
  refine ⟨(hp _).isO, (c_X3_firstPart hl (hp _) hR w.1 k0 k1).cl0 (by decide) ?_⟩
  simp (disch := omega) only [true_implies, false_implies, not_true_eq_false, not_false_eq_true, I_n, I_neg, I_add, I_sub, I_mul, I_le4, I_lt4, I_eq4, I_div4, I_bi0, I_bi01, I_bi1, nor_em, rI_of, rV_of, zI_of, zV_of, nz_and, br_T, br_F, br_T2, br_F2, st_eq, st9_0, st_k, st_i, true_and, and_true, Classical.not_not, or_true, true_or, or_false, false_or, rR_of, dp_gI5, dp_gI6, dp_gI7, dp_gI8, dp_gI9, dp_gI10, dp_gI14, dp_pI5, dp_pI6, dp_pI7, dp_pI8, dp_pI9, dp_pI10, dp_pI14, dp_gR0, dp_gR1, dp_gR2, dp_gR3, dp_gR4, dp_gR11, dp_gR12, dp_gR13, dp_gR15, dp_gR16, dp_gA3, dp_pA3, dp_gAR0, dp_gAR1, dp_gAR2, dp_isO, dp_isA]
  refine ⟨(hp _).isO, (c_X3_partsOf hl (hp _) hR w.1 k0 k1).cl0 (by decide) ?_⟩
  simp (disch := omega) only [true_implies, false_implies, not_true_eq_false, not_false_eq_true, I_n, I_neg, I_add, I_sub, I_mul, I_le4, I_lt4, I_eq4, I_div4, I_bi0, I_bi01, I_bi1, nor_em, rI_of, rV_of, zI_of, zV_of, nz_and, br_T, br_F, br_T2, br_F2, st_eq, st9_0, st_k, st_i, true_and, and_true, Classical.not_not, or_true, true_or, or_false, false_or, rR_of, dp_gI5, dp_gI6, dp_gI7, dp_gI8, dp_gI9, dp_gI10, dp_gI14, dp_pI5, dp_pI6, dp_pI7, dp_pI8, dp_pI9, dp_pI10, dp_pI14, dp_gR0, dp_gR1, dp_gR2, dp_gR3, dp_gR4, dp_gR11, dp_gR12, dp_gR13, dp_gR15, dp_gR16, dp_gA3, dp_pA3, dp_gAR0, dp_gAR1, dp_gAR2, dp_isO, dp_isA]
  have a0 := L_recM (a := a) hl hd hP hs (k := k) (f := gF r k) (z := gF r k + gPo r k) (gPo r k).toNat 0 D r 0 e hR w (by omega) h (by omega) k0 k1 (by omega) rfl rfl
  rw [Int.zero_add, Int.add_zero] at a0
  exact a0
theorem L_mkT (hl : l.stackTraces = false) (hd : p + 10 < a ∨ a + 12 < p) (hP : PlanAt X B p P) : ∀ (m : Nat) (j : Int) (D : Nat → Int → Int) (r : Int → Int) (v e : Int), PR P r → RW r e → e + 194 * m + 5000 ≤ 2000000000 → DR D r → 0 ≤ j → j + m = gN r → (v = 0 ∨ v = 1) →
    G l X M_X1_makeTick 11 (fun o' A1 => o' = Ri (I (rT3 m j r v).2) ∧ ∃ D', A1 = dp X a p B D' ∧ DR D' (rT3 m j r v).1) 56 [(0, .ref a), (1, .int (I v)), (2, .int (I j))] [] (dp X a p B D) 0 0 := by
  intro m
  induction m with
  | zero =>
    intro j D r v e hR w he h h0 h1 hv
    obtain ⟨n1, n2, -⟩ := gN_b w.1
    have hp := fun D => dp_pl (D := D) hd hP
    refine k_X1_makeTick_56 ?_
    simp (disch := omega) only [true_implies, false_implies, not_true_eq_false, not_false_eq_true, I_n, I_neg, I_add, I_sub, I_mul, I_le4, I_lt4, I_eq4, I_div4, I_bi0, I_bi01, I_bi1, nor_em, rI_of, rV_of, zI_of, zV_of, nz_and, br_T, br_F, br_T2, br_F2, st_eq, st9_0, st_k, st_i, true_and, and_true, Classical.not_not, or_true, true_or, or_false, false_or, rR_of, dp_gI5, dp_gI6, dp_gI7, dp_gI8, dp_gI9, dp_gI10, dp_gI14, dp_pI5, dp_pI6, dp_pI7, dp_pI8, dp_pI9, dp_pI10, dp_pI14, dp_gR0, dp_gR1, dp_gR2, dp_gR3, dp_gR4, dp_gR11, dp_gR12, dp_gR13, dp_gR15, dp_gR16, dp_gA3, dp_pA3, dp_gAR0, dp_gAR1, dp_gAR2, dp_isO, dp_isA]
    rw [(hp _).g2, hR.1.2.2.1]
    simp (disch := omega) only [true_implies, false_implies, not_true_eq_false, not_false_eq_true, I_n, I_neg, I_add, I_sub, I_mul, I_le4, I_lt4, I_eq4, I_div4, I_bi0, I_bi01, I_bi1, nor_em, rI_of, rV_of, zI_of, zV_of, nz_and, br_T, br_F, br_T2, br_F2, st_eq, st9_0, st_k, st_i, true_and, and_true, Classical.not_not, or_true, true_or, or_false, false_or, rR_of, dp_gI5, dp_gI6, dp_gI7, dp_gI8, dp_gI9, dp_gI10, dp_gI14, dp_pI5, dp_pI6, dp_pI7, dp_pI8, dp_pI9, dp_pI10, dp_pI14, dp_gR0, dp_gR1, dp_gR2, dp_gR3, dp_gR4, dp_gR11, dp_gR12, dp_gR13, dp_gR15, dp_gR16, dp_gA3, dp_pA3, dp_gAR0, dp_gAR1, dp_gAR2, dp_isO, dp_isA]
    exact ⟨hv, rfl, D, rfl, h⟩
  | succ m ih =>
    intro j D r v e hR w he h h0 h1 hv
    obtain ⟨n1, n2, -⟩ := gN_b w.1
    have hp := fun D => dp_pl (D := D) hd hP
    have c4 := w.2.2.2.2.1
    refine k_X1_makeTick_56 ?_
    simp (disch := omega) only [true_implies, false_implies, not_true_eq_false, not_false_eq_true, I_n, I_neg, I_add, I_sub, I_mul, I_le4, I_lt4, I_eq4, I_div4, I_bi0, I_bi01, I_bi1, nor_em, rI_of, rV_of, zI_of, zV_of, nz_and, br_T, br_F, br_T2, br_F2, st_eq, st9_0, st_k, st_i, true_and, and_true, Classical.not_not, or_true, true_or, or_false, false_or, rR_of, dp_gI5, dp_gI6, dp_gI7, dp_gI8, dp_gI9, dp_gI10, dp_gI14, dp_pI5, dp_pI6, dp_pI7, dp_pI8, dp_pI9, dp_pI10, dp_pI14, dp_gR0, dp_gR1, dp_gR2, dp_gR3, dp_gR4, dp_gR11, dp_gR12, dp_gR13, dp_gR15, dp_gR16, dp_gA3, dp_pA3, dp_gAR0, dp_gAR1, dp_gAR2, dp_isO, dp_isA]
    rw [(hp _).g2, hR.1.2.2.1]
    simp (disch := omega) only [true_implies, false_implies, not_true_eq_false, not_false_eq_true, I_n, I_neg, I_add, I_sub, I_mul, I_le4, I_lt4, I_eq4, I_div4, I_bi0, I_bi01, I_bi1, nor_em, rI_of, rV_of, zI_of, zV_of, nz_and, br_T, br_F, br_T2, br_F2, st_eq, st9_0, st_k, st_i, true_and, and_true, Classical.not_not, or_true, true_or, or_false, false_or, rR_of, dp_gI5, dp_gI6, dp_gI7, dp_gI8, dp_gI9, dp_gI10, dp_gI14, dp_pI5, dp_pI6, dp_pI7, dp_pI8, dp_pI9, dp_pI10, dp_pI14, dp_gR0, dp_gR1, dp_gR2, dp_gR3, dp_gR4, dp_gR11, dp_gR12, dp_gR13, dp_gR15, dp_gR16, dp_gA3, dp_pA3, dp_gAR0, dp_gAR1, dp_gAR2, dp_isO, dp_isA]
    refine (c_X1_isConnected hl w h (s := 0) (by omega)).cl0 (by decide) ?_
    rw [show (14 : Int) + 0 = 14 by decide]
    simp (disch := omega) only [true_implies, false_implies, not_true_eq_false, not_false_eq_true, I_n, I_neg, I_add, I_sub, I_mul, I_le4, I_lt4, I_eq4, I_div4, I_bi0, I_bi01, I_bi1, nor_em, rI_of, rV_of, zI_of, zV_of, nz_and, br_T, br_F, br_T2, br_F2, st_eq, st9_0, st_k, st_i, true_and, and_true, Classical.not_not, or_true, true_or, or_false, false_or, rR_of, dp_gI5, dp_gI6, dp_gI7, dp_gI8, dp_gI9, dp_gI10, dp_gI14, dp_pI5, dp_pI6, dp_pI7, dp_pI8, dp_pI9, dp_pI10, dp_pI14, dp_gR0, dp_gR1, dp_gR2, dp_gR3, dp_gR4, dp_gR11, dp_gR12, dp_gR13, dp_gR15, dp_gR16, dp_gA3, dp_pA3, dp_gAR0, dp_gAR1, dp_gAR2, dp_isO, dp_isA]
    refine ⟨fun hoff => ?_, fun hon => ?_⟩
    · have e1 : rT3 (m + 1) j r v = (r, v) := by
        show (if r 14 = 1 then _ else _) = _
        rw [if_neg hoff]
      rw [e1]
      exact ⟨hv, rfl, D, rfl, h⟩
    · refine (c_X1_isSuspect hl w h h0 (by omega)).cl0 (by decide) ?_
      simp (disch := omega) only [true_implies, false_implies, not_true_eq_false, not_false_eq_true, I_n, I_neg, I_add, I_sub, I_mul, I_le4, I_lt4, I_eq4, I_div4, I_bi0, I_bi01, I_bi1, nor_em, rI_of, rV_of, zI_of, zV_of, nz_and, br_T, br_F, br_T2, br_F2, st_eq, st9_0, st_k, st_i, true_and, and_true, Classical.not_not, or_true, true_or, or_false, false_or, rR_of, dp_gI5, dp_gI6, dp_gI7, dp_gI8, dp_gI9, dp_gI10, dp_gI14, dp_pI5, dp_pI6, dp_pI7, dp_pI8, dp_pI9, dp_pI10, dp_pI14, dp_gR0, dp_gR1, dp_gR2, dp_gR3, dp_gR4, dp_gR11, dp_gR12, dp_gR13, dp_gR15, dp_gR16, dp_gA3, dp_pA3, dp_gAR0, dp_gAR1, dp_gAR2, dp_isO, dp_isA]
      refine ⟨fun h2 => ?_, fun h2 => ?_⟩
      · have e1 : rT3 (m + 1) j r v = rT3 m (j + 1) r v := by
          show (if r 14 = 1 then _ else _) = _
          rw [if_pos hon, if_neg h2]
        rw [e1]
        exact ih (j + 1) D r v e hR w (by omega) h (by omega) (by omega) hv
      · have e1 : rT3 (m + 1) j r v = rT3 m (j + 1) (rSe r j) 1 := by
          show (if r 14 = 1 then _ else _) = _
          rw [if_pos hon, if_pos h2]
        obtain ⟨w2, o2⟩ := rSe_w w (by omega) h0 (by omega) h2
        obtain ⟨f1, f2⟩ := gF_b w.1 h0 (k := j) (by omega)
        have cf2 : ∀ y, cf y → rSe r j y = r y := fun y hy => by
          unfold cf at hy
          exact o2 y (by omega) (by omega) (by omega) (by omega) (by omega) (by omega) (by omega) (by omega) (by omega)
        obtain ⟨c0, c2, c3, hB⟩ := cfg_c w cf2
        have hc := geo_c c0 c2 c3
        refine (c_X1_searchPiece hl hd hP hR w (by omega) h h0 (by omega) h2).cl0 (by decide) ?_
        rintro o1 A1 ⟨rfl, D2, rfl, x2⟩
        simp (disch := omega) only [true_implies, false_implies, not_true_eq_false, not_false_eq_true, I_n, I_neg, I_add, I_sub, I_mul, I_le4, I_lt4, I_eq4, I_div4, I_bi0, I_bi01, I_bi1, nor_em, rI_of, rV_of, zI_of, zV_of, nz_and, br_T, br_F, br_T2, br_F2, st_eq, st9_0, st_k, st_i, true_and, and_true, Classical.not_not, or_true, true_or, or_false, false_or, rR_of, dp_gI5, dp_gI6, dp_gI7, dp_gI8, dp_gI9, dp_gI10, dp_gI14, dp_pI5, dp_pI6, dp_pI7, dp_pI8, dp_pI9, dp_pI10, dp_pI14, dp_gR0, dp_gR1, dp_gR2, dp_gR3, dp_gR4, dp_gR11, dp_gR12, dp_gR13, dp_gR15, dp_gR16, dp_gA3, dp_pA3, dp_gAR0, dp_gAR1, dp_gAR2, dp_isO, dp_isA]
        rw [e1]
        exact ih (j + 1) D2 (rSe r j) 1 (e + 194) (PR_c w cf2 hR) w2 (by omega) x2 (by omega) (by rw [hc.1]; omega) (Or.inr rfl)
theorem L_mkT28 (hl : l.stackTraces = false) (hd : p + 10 < a ∨ a + 12 < p) (hP : PlanAt X B p P) {D : Nat → Int → Int} {r : Int → Int} {v e : Int} (hR : PR P r) (w : RW r e) (he : e + 20000 ≤ 2000000000) (h : DR D r) (hv : v = 0 ∨ v = 1) :
    G l X M_X1_makeTick 11 (fun o' A1 => o' = Ri (I (rT3 (gN r).toNat 0 (rT2 r) (dT2 r v)).2) ∧ ∃ D', A1 = dp X a p B D' ∧ DR D' (rT3 (gN r).toNat 0 (rT2 r) (dT2 r v)).1) 28 [(0, .ref a), (1, .int (I v))] [] (dp X a p B D) 0 0 := by
  obtain ⟨n1, n2, -⟩ := gN_b w.1
  obtain ⟨t1, t2⟩ := gT_b w.1
  have lg := w.1.2.1
  have c4 := w.2.2.2.2.1
  have e5 := h.2.2.2.1.1
  have hms : 0 ≤ gMs r ∧ gMs r ≤ (gT r).toNat := sg_bi
  have hh := gMs_hi w.1
  have hb := gHh_b w.1
  have same : ¬ (r 15 = 1 ∧ ¬ gHh r = -1) → G l X M_X1_makeTick 11 (fun o' A1 => o' = Ri (I (rT3 (gN r).toNat 0 (rT2 r) (dT2 r v)).2) ∧ ∃ D', A1 = dp X a p B D' ∧ DR D' (rT3 (gN r).toNat 0 (rT2 r) (dT2 r v)).1) 56 [(0, .ref a), (1, .int (I v)), (2, .int (I 0))] [] (dp X a p B D) 0 0 := by
    intro hn
    have a1 : rT2 r = r := by unfold rT2; rw [if_neg hn]
    have a2 : dT2 r v = v := by unfold dT2; rw [if_neg hn]
    rw [a1, a2]
    exact L_mkT hl hd hP (gN r).toNat 0 D r v e hR w (by omega) h (by omega) (by omega) hv
  refine k_X1_makeTick_28 ?_
  simp (disch := omega) only [true_implies, false_implies, not_true_eq_false, not_false_eq_true, I_n, I_neg, I_add, I_sub, I_mul, I_le4, I_lt4, I_eq4, I_div4, I_bi0, I_bi01, I_bi1, nor_em, rI_of, rV_of, zI_of, zV_of, nz_and, br_T, br_F, br_T2, br_F2, st_eq, st9_0, st_k, st_i, true_and, and_true, Classical.not_not, or_true, true_or, or_false, false_or, rR_of, dp_gI5, dp_gI6, dp_gI7, dp_gI8, dp_gI9, dp_gI10, dp_gI14, dp_pI5, dp_pI6, dp_pI7, dp_pI8, dp_pI9, dp_pI10, dp_pI14, dp_gR0, dp_gR1, dp_gR2, dp_gR3, dp_gR4, dp_gR11, dp_gR12, dp_gR13, dp_gR15, dp_gR16, dp_gA3, dp_pA3, dp_gAR0, dp_gAR1, dp_gAR2, dp_isO, dp_isA]
  refine (c_X1_isConnected hl w h (s := 1) (by omega)).cl0 (by decide) ?_
  rw [show (14 : Int) + 1 = 15 by decide]
  simp (disch := omega) only [true_implies, false_implies, not_true_eq_false, not_false_eq_true, I_n, I_neg, I_add, I_sub, I_mul, I_le4, I_lt4, I_eq4, I_div4, I_bi0, I_bi01, I_bi1, nor_em, rI_of, rV_of, zI_of, zV_of, nz_and, br_T, br_F, br_T2, br_F2, st_eq, st9_0, st_k, st_i, true_and, and_true, Classical.not_not, or_true, true_or, or_false, false_or, rR_of, dp_gI5, dp_gI6, dp_gI7, dp_gI8, dp_gI9, dp_gI10, dp_gI14, dp_pI5, dp_pI6, dp_pI7, dp_pI8, dp_pI9, dp_pI10, dp_pI14, dp_gR0, dp_gR1, dp_gR2, dp_gR3, dp_gR4, dp_gR11, dp_gR12, dp_gR13, dp_gR15, dp_gR16, dp_gA3, dp_pA3, dp_gAR0, dp_gAR1, dp_gAR2, dp_isO, dp_isA]
  refine ⟨fun h1 => same fun q => h1 q.1, fun h1 => ⟨fun h2 => same fun q => by have := hh.mpr q.2; omega, fun h2 => ?_⟩⟩
  have hne : ¬ gHh r = -1 := hh.mp (by omega)
  have hx : r 15 = 1 ∧ ¬ gHh r = -1 := ⟨h1, hne⟩
  have a1 : rT2 r = rArr r 1 (gHh r) := by unfold rT2; rw [if_pos hx]
  have a2 : dT2 r v = 1 := by unfold dT2; rw [if_pos hx]
  obtain ⟨b1, b2, b3⟩ : 0 ≤ gHh r ∧ gHh r < gT r ∧ r (96 + gHh r) = 0 := by
    rcases hb with ⟨b, -⟩ | ⟨b1, b2, b3, -⟩
    · exact absurd b hne
    · exact ⟨b1, b2, b3⟩
  rw [a1, a2]
  obtain ⟨w2, o2⟩ := rArr_kp w (by omega) (s := 1) (by omega) (p := gHh r) b1 b2
  have cf2 : ∀ y, cf y → rArr r 1 (gHh r) y = r y := fun y hy => o2 y (by unfold cf at hy; unfold kp; omega)
  have hc := geo_c (cf2 0 (by unfold cf; omega)) (cf2 2 (by unfold cf; omega)) (cf2 3 (by unfold cf; omega))
  refine (c_X1_highestMissing hl hd hP hR w h).cl0 (by decide) ?_
  simp (disch := omega) only [true_implies, false_implies, not_true_eq_false, not_false_eq_true, I_n, I_neg, I_add, I_sub, I_mul, I_le4, I_lt4, I_eq4, I_div4, I_bi0, I_bi01, I_bi1, nor_em, rI_of, rV_of, zI_of, zV_of, nz_and, br_T, br_F, br_T2, br_F2, st_eq, st9_0, st_k, st_i, true_and, and_true, Classical.not_not, or_true, true_or, or_false, false_or, rR_of, dp_gI5, dp_gI6, dp_gI7, dp_gI8, dp_gI9, dp_gI10, dp_gI14, dp_pI5, dp_pI6, dp_pI7, dp_pI8, dp_pI9, dp_pI10, dp_pI14, dp_gR0, dp_gR1, dp_gR2, dp_gR3, dp_gR4, dp_gR11, dp_gR12, dp_gR13, dp_gR15, dp_gR16, dp_gA3, dp_pA3, dp_gAR0, dp_gAR1, dp_gAR2, dp_isO, dp_isA]
  refine (c_X1_receive hl hd hP hR w (by omega) h (s := 1) (by omega) b1 b2 b3).cl0 (by decide) ?_
  simp (disch := omega) only [true_implies, false_implies, not_true_eq_false, not_false_eq_true, I_n, I_neg, I_add, I_sub, I_mul, I_le4, I_lt4, I_eq4, I_div4, I_bi0, I_bi01, I_bi1, nor_em, rI_of, rV_of, zI_of, zV_of, nz_and, br_T, br_F, br_T2, br_F2, st_eq, st9_0, st_k, st_i, true_and, and_true, Classical.not_not, or_true, true_or, or_false, false_or, rR_of, dp_gI5, dp_gI6, dp_gI7, dp_gI8, dp_gI9, dp_gI10, dp_gI14, dp_pI5, dp_pI6, dp_pI7, dp_pI8, dp_pI9, dp_pI10, dp_pI14, dp_gR0, dp_gR1, dp_gR2, dp_gR3, dp_gR4, dp_gR11, dp_gR12, dp_gR13, dp_gR15, dp_gR16, dp_gA3, dp_pA3, dp_gAR0, dp_gAR1, dp_gAR2, dp_isO, dp_isA]
  exact L_mkT hl hd hP (gN r).toNat 0 _ (rArr r 1 (gHh r)) 1 (e + 4) (PR_c w cf2 hR) w2 (by omega) (DR_arr w (by omega) (by omega) b1 b2 b3 h fun y y0 y1 => (hR.2.1 y y0 y1).2) (by omega) (by rw [hc.1]; omega) (Or.inr rfl)
theorem c_X1_makeTick (hl : l.stackTraces = false) (hd : p + 10 < a ∨ a + 12 < p) (hP : PlanAt X B p P) {D : Nat → Int → Int} {r : Int → Int} {e : Int} (hR : PR P r) (w : RW r e) (he : e + 30000 ≤ 2000000000) (h : DR D r) : Ct l X 11 M_X1_makeTick [.ref a] (dp X a p B D) 0 0 (fun o' A1 => o' = Ri (I (rTk r).2) ∧ ∃ D', A1 = dp X a p B D' ∧ DR D' (rTk r).1) := by
  obtain ⟨n1, n2, -⟩ := gN_b w.1
  obtain ⟨t1, t2⟩ := gT_b w.1
  have lg := w.1.2.1
  have c4 := w.2.2.2.2.1
  have e5 := h.2.2.2.1.1
  have hms : 0 ≤ gMs r ∧ gMs r ≤ (gT r).toNat := sg_bi
  have hh := gMs_lo w.1
  have hb := gLo_b w.1
  unfold rTk
  have same : ¬ (r 14 = 1 ∧ ¬ gLo r = -1) → G l X M_X1_makeTick 11 (fun o' A1 => o' = Ri (I (rT3 (gN r).toNat 0 (rT2 (rT1 r)) (dT2 (rT1 r) (dT1 r))).2) ∧ ∃ D', A1 = dp X a p B D' ∧ DR D' (rT3 (gN r).toNat 0 (rT2 (rT1 r)) (dT2 (rT1 r) (dT1 r))).1) 28 [(0, .ref a), (1, .int (I 0))] [] (dp X a p B D) 0 0 := by
    intro hn
    have a1 : rT1 r = r := by unfold rT1; rw [if_neg hn]
    have a2 : dT1 r = 0 := by unfold dT1; rw [if_neg hn]
    rw [a1, a2]
    exact L_mkT28 hl hd hP hR w (by omega) h (Or.inl rfl)
  refine Ct.of hl rfl rfl (Nat.le_of_ble_eq_true rfl) (k_X1_makeTick_0 ?_)
  simp (disch := omega) only [true_implies, false_implies, not_true_eq_false, not_false_eq_true, I_n, I_neg, I_add, I_sub, I_mul, I_le4, I_lt4, I_eq4, I_div4, I_bi0, I_bi01, I_bi1, nor_em, rI_of, rV_of, zI_of, zV_of, nz_and, br_T, br_F, br_T2, br_F2, st_eq, st9_0, st_k, st_i, true_and, and_true, Classical.not_not, or_true, true_or, or_false, false_or, rR_of, dp_gI5, dp_gI6, dp_gI7, dp_gI8, dp_gI9, dp_gI10, dp_gI14, dp_pI5, dp_pI6, dp_pI7, dp_pI8, dp_pI9, dp_pI10, dp_pI14, dp_gR0, dp_gR1, dp_gR2, dp_gR3, dp_gR4, dp_gR11, dp_gR12, dp_gR13, dp_gR15, dp_gR16, dp_gA3, dp_pA3, dp_gAR0, dp_gAR1, dp_gAR2, dp_isO, dp_isA]
  refine (c_X1_isConnected hl w h (s := 0) (by omega)).cl0 (by decide) ?_
  rw [show (14 : Int) + 0 = 14 by decide]
  simp (disch := omega) only [true_implies, false_implies, not_true_eq_false, not_false_eq_true, I_n, I_neg, I_add, I_sub, I_mul, I_le4, I_lt4, I_eq4, I_div4, I_bi0, I_bi01, I_bi1, nor_em, rI_of, rV_of, zI_of, zV_of, nz_and, br_T, br_F, br_T2, br_F2, st_eq, st9_0, st_k, st_i, true_and, and_true, Classical.not_not, or_true, true_or, or_false, false_or, rR_of, dp_gI5, dp_gI6, dp_gI7, dp_gI8, dp_gI9, dp_gI10, dp_gI14, dp_pI5, dp_pI6, dp_pI7, dp_pI8, dp_pI9, dp_pI10, dp_pI14, dp_gR0, dp_gR1, dp_gR2, dp_gR3, dp_gR4, dp_gR11, dp_gR12, dp_gR13, dp_gR15, dp_gR16, dp_gA3, dp_pA3, dp_gAR0, dp_gAR1, dp_gAR2, dp_isO, dp_isA]
  refine ⟨fun h1 => same fun q => h1 q.1, fun h1 => ⟨fun h2 => same fun q => by have := hh.mpr q.2; omega, fun h2 => ?_⟩⟩
  have hne : ¬ gLo r = -1 := hh.mp (by omega)
  have hx : r 14 = 1 ∧ ¬ gLo r = -1 := ⟨h1, hne⟩
  have a1 : rT1 r = rArr r 0 (gLo r) := by unfold rT1; rw [if_pos hx]
  have a2 : dT1 r = 1 := by unfold dT1; rw [if_pos hx]
  obtain ⟨b1, b2, b3⟩ : 0 ≤ gLo r ∧ gLo r < gT r ∧ r (96 + gLo r) = 0 := by
    rcases hb with ⟨b, -⟩ | ⟨b1, b2, b3, -⟩
    · exact absurd b hne
    · exact ⟨b1, b2, b3⟩
  rw [a1, a2]
  obtain ⟨w2, o2⟩ := rArr_kp w (by omega) (s := 0) (by omega) (p := gLo r) b1 b2
  have cf2 : ∀ y, cf y → rArr r 0 (gLo r) y = r y := fun y hy => o2 y (by unfold cf at hy; unfold kp; omega)
  have hc := geo_c (cf2 0 (by unfold cf; omega)) (cf2 2 (by unfold cf; omega)) (cf2 3 (by unfold cf; omega))
  refine (c_X1_lowestMissing hl hd hP hR w h).cl0 (by decide) ?_
  simp (disch := omega) only [true_implies, false_implies, not_true_eq_false, not_false_eq_true, I_n, I_neg, I_add, I_sub, I_mul, I_le4, I_lt4, I_eq4, I_div4, I_bi0, I_bi01, I_bi1, nor_em, rI_of, rV_of, zI_of, zV_of, nz_and, br_T, br_F, br_T2, br_F2, st_eq, st9_0, st_k, st_i, true_and, and_true, Classical.not_not, or_true, true_or, or_false, false_or, rR_of, dp_gI5, dp_gI6, dp_gI7, dp_gI8, dp_gI9, dp_gI10, dp_gI14, dp_pI5, dp_pI6, dp_pI7, dp_pI8, dp_pI9, dp_pI10, dp_pI14, dp_gR0, dp_gR1, dp_gR2, dp_gR3, dp_gR4, dp_gR11, dp_gR12, dp_gR13, dp_gR15, dp_gR16, dp_gA3, dp_pA3, dp_gAR0, dp_gAR1, dp_gAR2, dp_isO, dp_isA]
  refine (c_X1_receive hl hd hP hR w (by omega) h (s := 0) (by omega) b1 b2 b3).cl0 (by decide) ?_
  simp (disch := omega) only [true_implies, false_implies, not_true_eq_false, not_false_eq_true, I_n, I_neg, I_add, I_sub, I_mul, I_le4, I_lt4, I_eq4, I_div4, I_bi0, I_bi01, I_bi1, nor_em, rI_of, rV_of, zI_of, zV_of, nz_and, br_T, br_F, br_T2, br_F2, st_eq, st9_0, st_k, st_i, true_and, and_true, Classical.not_not, or_true, true_or, or_false, false_or, rR_of, dp_gI5, dp_gI6, dp_gI7, dp_gI8, dp_gI9, dp_gI10, dp_gI14, dp_pI5, dp_pI6, dp_pI7, dp_pI8, dp_pI9, dp_pI10, dp_pI14, dp_gR0, dp_gR1, dp_gR2, dp_gR3, dp_gR4, dp_gR11, dp_gR12, dp_gR13, dp_gR15, dp_gR16, dp_gA3, dp_pA3, dp_gAR0, dp_gAR1, dp_gAR2, dp_isO, dp_isA]
  have i := L_mkT28 (a := a) hl hd hP (v := 1) (PR_c w cf2 hR) w2 (by omega) (DR_arr (q := P (0 : Int).toNat) w (by omega) (by omega) b1 b2 b3 h fun y y0 y1 => (hR.2.1 y y0 y1).1) (Or.inr rfl)
  rw [hc.1] at i
  exact i
theorem L_mkTs (hl : l.stackTraces = false) (hd : p + 10 < a ∨ a + 12 < p) (hP : PlanAt X B p P) {most : Int} (hmo : most ≤ 600) : ∀ (m : Nat) (n : Int) (D : Nat → Int → Int) (r : Int → Int) (e : Int), PR P r → RW r e → e + 11648 * m + 40000 ≤ 2000000000 → DR D r → 0 ≤ n → n + m = most →
    G l X M_X1_makeTicks 12 (fun o' A1 => o' = Ri (I (rRun m r n).2) ∧ ∃ D', A1 = dp X a p B D' ∧ DR D' (rRun m r n).1) 2 [(0, .ref a), (1, .int (I most)), (2, .int (I n))] [] (dp X a p B D) 0 0 := by
  intro m
  induction m with
  | zero =>
    intro n D r e hR w he h h0 h1
    refine k_X1_makeTicks_2 ?_
    simp (disch := omega) only [true_implies, false_implies, not_true_eq_false, not_false_eq_true, I_n, I_neg, I_add, I_sub, I_mul, I_le4, I_lt4, I_eq4, I_div4, I_bi0, I_bi01, I_bi1, nor_em, rI_of, rV_of, zI_of, zV_of, nz_and, br_T, br_F, br_T2, br_F2, st_eq, st9_0, st_k, st_i, true_and, and_true, Classical.not_not, or_true, true_or, or_false, false_or, rR_of, dp_gI5, dp_gI6, dp_gI7, dp_gI8, dp_gI9, dp_gI10, dp_gI14, dp_pI5, dp_pI6, dp_pI7, dp_pI8, dp_pI9, dp_pI10, dp_pI14, dp_gR0, dp_gR1, dp_gR2, dp_gR3, dp_gR4, dp_gR11, dp_gR12, dp_gR13, dp_gR15, dp_gR16, dp_gA3, dp_pA3, dp_gAR0, dp_gAR1, dp_gAR2, dp_isO, dp_isA]
    rw [show most = n by omega]
    exact ⟨rfl, D, rfl, h⟩
  | succ m ih =>
    intro n D r e hR w he h h0 h1
    have hf := gFi_b (r := r)
    obtain ⟨t1, t2, t3⟩ := rTk_w w (by omega)
    have cf2 : ∀ y, cf y → (rTk r).1 y = r y := fun y hy => t2 y (by unfold cf at hy; unfold kp; omega)
    refine k_X1_makeTicks_2 ?_
    simp (disch := omega) only [true_implies, false_implies, not_true_eq_false, not_false_eq_true, I_n, I_neg, I_add, I_sub, I_mul, I_le4, I_lt4, I_eq4, I_div4, I_bi0, I_bi01, I_bi1, nor_em, rI_of, rV_of, zI_of, zV_of, nz_and, br_T, br_F, br_T2, br_F2, st_eq, st9_0, st_k, st_i, true_and, and_true, Classical.not_not, or_true, true_or, or_false, false_or, rR_of, dp_gI5, dp_gI6, dp_gI7, dp_gI8, dp_gI9, dp_gI10, dp_gI14, dp_pI5, dp_pI6, dp_pI7, dp_pI8, dp_pI9, dp_pI10, dp_pI14, dp_gR0, dp_gR1, dp_gR2, dp_gR3, dp_gR4, dp_gR11, dp_gR12, dp_gR13, dp_gR15, dp_gR16, dp_gA3, dp_pA3, dp_gAR0, dp_gAR1, dp_gAR2, dp_isO, dp_isA]
    refine (c_X1_isFinished hl hd hP hR w h).cl0 (by decide) ?_
    simp (disch := omega) only [true_implies, false_implies, not_true_eq_false, not_false_eq_true, I_n, I_neg, I_add, I_sub, I_mul, I_le4, I_lt4, I_eq4, I_div4, I_bi0, I_bi01, I_bi1, nor_em, rI_of, rV_of, zI_of, zV_of, nz_and, br_T, br_F, br_T2, br_F2, st_eq, st9_0, st_k, st_i, true_and, and_true, Classical.not_not, or_true, true_or, or_false, false_or, rR_of, dp_gI5, dp_gI6, dp_gI7, dp_gI8, dp_gI9, dp_gI10, dp_gI14, dp_pI5, dp_pI6, dp_pI7, dp_pI8, dp_pI9, dp_pI10, dp_pI14, dp_gR0, dp_gR1, dp_gR2, dp_gR3, dp_gR4, dp_gR11, dp_gR12, dp_gR13, dp_gR15, dp_gR16, dp_gA3, dp_pA3, dp_gAR0, dp_gAR1, dp_gAR2, dp_isO, dp_isA]
    refine ⟨fun hfi => ?_, fun hfi => ?_⟩
    · have e1 : rRun (m + 1) r n = (r, n) := if_pos (by omega)
      rw [e1]
      exact ⟨rfl, D, rfl, h⟩
    · refine (c_X1_makeTick hl hd hP hR w (by omega) h).cl0 (by decide) ?_
      rintro o1 A1 ⟨rfl, D2, rfl, x2⟩
      simp (disch := omega) only [true_implies, false_implies, not_true_eq_false, not_false_eq_true, I_n, I_neg, I_add, I_sub, I_mul, I_le4, I_lt4, I_eq4, I_div4, I_bi0, I_bi01, I_bi1, nor_em, rI_of, rV_of, zI_of, zV_of, nz_and, br_T, br_F, br_T2, br_F2, st_eq, st9_0, st_k, st_i, true_and, and_true, Classical.not_not, or_true, true_or, or_false, false_or, rR_of, dp_gI5, dp_gI6, dp_gI7, dp_gI8, dp_gI9, dp_gI10, dp_gI14, dp_pI5, dp_pI6, dp_pI7, dp_pI8, dp_pI9, dp_pI10, dp_pI14, dp_gR0, dp_gR1, dp_gR2, dp_gR3, dp_gR4, dp_gR11, dp_gR12, dp_gR13, dp_gR15, dp_gR16, dp_gA3, dp_pA3, dp_gAR0, dp_gAR1, dp_gAR2, dp_isO, dp_isA]
      refine ⟨fun h2 => ?_, fun h2 => ?_⟩
      · have e1 : rRun (m + 1) r n = rRun m (rTk r).1 (n + 1) := by
          show (if gFi r = 1 then _ else _) = _
          rw [if_neg (by omega), if_neg h2]
        rw [e1]
        exact ih (n + 1) D2 (rTk r).1 (e + 11648) (PR_c w cf2 hR) t1 (by omega) x2 (by omega) (by omega)
      · have e1 : rRun (m + 1) r n = ((rTk r).1, n) := by
          show (if gFi r = 1 then _ else _) = _
          rw [if_neg (by omega), if_pos h2]
        rw [e1]
        exact ⟨rfl, D2, rfl, x2⟩
theorem c_X1_makeTicks (hl : l.stackTraces = false) (hd : p + 10 < a ∨ a + 12 < p) (hP : PlanAt X B p P) {D : Nat → Int → Int} {r : Int → Int} {e : Int} (hR : PR P r) (w : RW r e) {m : Nat} (hm : m ≤ 600) (he : e + 11648 * m + 40000 ≤ 2000000000) (h : DR D r) : Ct l X 12 M_X1_makeTicks [.ref a, .int (I m)] (dp X a p B D) 0 0 (fun o' A1 => o' = Ri (I (rRun m r 0).2) ∧ ∃ D', A1 = dp X a p B D' ∧ DR D' (rRun m r 0).1) := by
  refine Ct.of hl rfl rfl (Nat.le_of_ble_eq_true rfl) (k_X1_makeTicks_0 ?_)
  simp only [I_n]
  exact L_mkTs hl hd hP (by omega) m 0 D r e hR w he h (by omega) (by omega)
end CO
