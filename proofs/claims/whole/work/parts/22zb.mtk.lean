/-! the reference: ticks -/
theorem gLoF_b {r : Int → Int} : ∀ (m : Nat) (j : Int), (gLoF r m j = -1 ∧ ∀ i : Int, j ≤ i → i < j + m → r (96 + i) ≠ 0) ∨ (j ≤ gLoF r m j ∧ gLoF r m j < j + m ∧ r (96 + gLoF r m j) = 0 ∧ ∀ i : Int, j ≤ i → i < gLoF r m j → r (96 + i) ≠ 0) := by
  intro m
  induction m with
  | zero => intro j; exact Or.inl ⟨rfl, fun i h1 h2 => by omega⟩
  | succ m ih =>
    intro j
    by_cases h : r (96 + j) = 0
    · have e : gLoF r (m + 1) j = j := if_pos h
      rw [e]
      exact Or.inr ⟨Int.le_refl _, by omega, h, fun i h1 h2 => by omega⟩
    · have e : gLoF r (m + 1) j = gLoF r m (j + 1) := if_neg h
      rw [e]
      have hs : ∀ i : Int, j ≤ i → (j + 1 ≤ i → r (96 + i) ≠ 0) → r (96 + i) ≠ 0 := by
        intro i h1 h2
        by_cases hi : i = j
        · rw [hi]; exact h
        · exact h2 (by omega)
      rcases ih (j + 1) with ⟨a1, a2⟩ | ⟨a1, a2, a3, a4⟩
      · exact Or.inl ⟨a1, fun i h1 h2 => hs i h1 fun h3 => a2 i h3 (by omega)⟩
      · exact Or.inr ⟨by omega, by omega, a3, fun i h1 h2 => hs i h1 fun h3 => a4 i h3 h2⟩
theorem gLo_b {r : Int → Int} (g : GW r) : (gLo r = -1 ∧ ∀ i : Int, 0 ≤ i → i < gT r → r (96 + i) ≠ 0) ∨ (0 ≤ gLo r ∧ gLo r < gT r ∧ r (96 + gLo r) = 0 ∧ ∀ i : Int, 0 ≤ i → i < gLo r → r (96 + i) ≠ 0) := by
  obtain ⟨t1, t2⟩ := gT_b g
  rcases gLoF_b (r := r) (gT r).toNat 0 with ⟨a1, a2⟩ | ⟨a1, a2, a3, a4⟩
  · exact Or.inl ⟨a1, fun i h1 h2 => a2 i h1 (by omega)⟩
  · exact Or.inr ⟨a1, by unfold gLo; omega, a3, a4⟩
theorem gHi_b {r : Int → Int} : ∀ (m : Nat), (gHi r m = -1 ∧ ∀ i : Int, 0 ≤ i → i < m → r (96 + i) ≠ 0) ∨ (0 ≤ gHi r m ∧ gHi r m < m ∧ r (96 + gHi r m) = 0 ∧ ∀ i : Int, gHi r m < i → i < m → r (96 + i) ≠ 0) := by
  intro m
  induction m with
  | zero => exact Or.inl ⟨rfl, fun i h1 h2 => by omega⟩
  | succ m ih =>
    by_cases h : r (96 + m) = 0
    · have e : gHi r (m + 1) = m := if_pos h
      rw [e]
      exact Or.inr ⟨by omega, by omega, h, fun i h1 h2 => by omega⟩
    · have e : gHi r (m + 1) = gHi r m := if_neg h
      rw [e]
      have hs : ∀ i : Int, i < (m + 1 : Nat) → (i < m → r (96 + i) ≠ 0) → r (96 + i) ≠ 0 := by
        intro i h1 h2
        by_cases hi : i = m
        · rw [hi]; exact h
        · exact h2 (by omega)
      rcases ih with ⟨a1, a2⟩ | ⟨a1, a2, a3, a4⟩
      · exact Or.inl ⟨a1, fun i h1 h2 => hs i h2 fun h3 => a2 i h1 h3⟩
      · exact Or.inr ⟨a1, by omega, a3, fun i h1 h2 => hs i h2 fun h3 => a4 i h1 h3⟩
def gHh (r : Int → Int) : Int := gHi r (gT r).toNat
theorem gHh_b {r : Int → Int} (g : GW r) : (gHh r = -1 ∧ ∀ i : Int, 0 ≤ i → i < gT r → r (96 + i) ≠ 0) ∨ (0 ≤ gHh r ∧ gHh r < gT r ∧ r (96 + gHh r) = 0 ∧ ∀ i : Int, gHh r < i → i < gT r → r (96 + i) ≠ 0) := by
  obtain ⟨t1, t2⟩ := gT_b g
  rcases gHi_b (r := r) (gT r).toNat with ⟨a1, a2⟩ | ⟨a1, a2, a3, a4⟩
  · exact Or.inl ⟨a1, fun i h1 h2 => a2 i h1 (by omega)⟩
  · exact Or.inr ⟨a1, by unfold gHh; omega, a3, fun i h1 h2 => a4 i h1 (by omega)⟩
theorem gFiF_b {r : Int → Int} : ∀ (m : Nat) (j : Int), (gFiF r m j = 1 ∧ ∀ i : Int, j ≤ i → i < j + m → gV r i = 1) ∨ (gFiF r m j = 0 ∧ ∃ i, j ≤ i ∧ i < j + m ∧ gV r i ≠ 1) := by
  intro m
  induction m with
  | zero => intro j; exact Or.inl ⟨rfl, fun i h1 h2 => by omega⟩
  | succ m ih =>
    intro j
    by_cases h : gV r j = 1
    · have e : gFiF r (m + 1) j = gFiF r m (j + 1) := if_pos h
      rw [e]
      rcases ih (j + 1) with ⟨a1, a2⟩ | ⟨a1, i, a2, a3, a4⟩
      · refine Or.inl ⟨a1, fun i h1 h2 => ?_⟩
        by_cases hi : i = j
        · rw [hi]; exact h
        · exact a2 i (by omega) (by omega)
      · exact Or.inr ⟨a1, i, by omega, by omega, a4⟩
    · have e : gFiF r (m + 1) j = 0 := if_neg h
      rw [e]
      exact Or.inr ⟨rfl, j, Int.le_refl _, by omega, h⟩
theorem gFi_b {r : Int → Int} : gFi r = 0 ∨ gFi r = 1 := by
  rcases gFiF_b (r := r) (gN r).toNat 0 with h | h
  · exact Or.inr h.1
  · exact Or.inl h.1
def rT1 (r : Int → Int) : Int → Int := if r 14 = 1 ∧ ¬ gLo r = -1 then rArr r 0 (gLo r) else r
def dT1 (r : Int → Int) : Int := if r 14 = 1 ∧ ¬ gLo r = -1 then 1 else 0
def rT2 (q : Int → Int) : Int → Int := if q 15 = 1 ∧ ¬ gHh q = -1 then rArr q 1 (gHh q) else q
def dT2 (q : Int → Int) (v : Int) : Int := if q 15 = 1 ∧ ¬ gHh q = -1 then 1 else v
def rT3 : Nat → Int → (Int → Int) → Int → (Int → Int) × Int
  | 0, _, r, v => (r, v)
  | m + 1, j, r, v => if r 14 = 1 then (if gV r j = 2 then rT3 m (j + 1) (rSe r j) 1 else rT3 m (j + 1) r v) else (r, v)
def rTk (r : Int → Int) : (Int → Int) × Int := rT3 (gN r).toNat 0 (rT2 (rT1 r)) (dT2 (rT1 r) (dT1 r))
/-- the places that a search or an arrival leaves alone -/
def kp (y : Int) : Prop := y < 5 ∨ 8 < y ∧ y < 13 ∨ 19 < y ∧ y < 96 ∨ 696 ≤ y
theorem rT3_w : ∀ (m : Nat) (j : Int) (r : Int → Int) (v e : Int), RW r e → e + 194 * m + 3000 ≤ 2000000000 → 0 ≤ j → j + m = gN r → (v = 0 ∨ v = 1) → RW (rT3 m j r v).1 (e + 194 * m) ∧ (∀ y, kp y → (rT3 m j r v).1 y = r y) ∧ ((rT3 m j r v).2 = 0 ∨ (rT3 m j r v).2 = 1) := by
  intro m
  induction m with
  | zero => intro j r v e w he h0 h1 hv; exact ⟨RW_e w (by omega) (by omega), fun _ _ => rfl, hv⟩
  | succ m ih =>
    intro j r v e w he h0 h1 hv
    obtain ⟨n1, n2, -⟩ := gN_b w.1
    by_cases h : r 14 = 1
    · by_cases h2 : gV r j = 2
      · have e1 : rT3 (m + 1) j r v = rT3 m (j + 1) (rSe r j) 1 := by
          show (if r 14 = 1 then _ else _) = _
          rw [if_pos h, if_pos h2]
        obtain ⟨f1, f2⟩ := gF_b w.1 h0 (k := j) (by omega)
        obtain ⟨p1, p2, -⟩ := gPo_b w.1 h0 (k := j) (by omega)
        obtain ⟨t1, t2⟩ := gT_b w.1
        have lg := w.1.2.1
        obtain ⟨w2, o2⟩ := rSe_w w (by omega) h0 (by omega) h2
        have ok : ∀ y, kp y → rSe r j y = r y := fun y hy => by
          unfold kp at hy
          exact o2 y (by omega) (by omega) (by omega) (by omega) (by omega) (by omega) (by omega) (by omega) (by omega)
        have hc := geo_c (ok 0 (Or.inl (by omega))) (ok 2 (Or.inl (by omega))) (ok 3 (Or.inl (by omega)))
        rw [e1]
        obtain ⟨i1, i2, i3⟩ := ih (j + 1) (rSe r j) 1 (e + 194) w2 (by omega) (by omega) (by rw [hc.1]; omega) (Or.inr rfl)
        exact ⟨RW_e i1 (by omega) (by omega), fun y hy => (i2 y hy).trans (ok y hy), i3⟩
      · have e1 : rT3 (m + 1) j r v = rT3 m (j + 1) r v := by
          show (if r 14 = 1 then _ else _) = _
          rw [if_pos h, if_neg h2]
        rw [e1]
        obtain ⟨i1, i2, i3⟩ := ih (j + 1) r v e w (by omega) (by omega) (by omega) hv
        exact ⟨RW_e i1 (by omega) (by omega), i2, i3⟩
    · have e1 : rT3 (m + 1) j r v = (r, v) := by
        show (if r 14 = 1 then _ else _) = _
        rw [if_neg h]
      rw [e1]
      exact ⟨RW_e w (by omega) (by omega), fun _ _ => rfl, hv⟩
theorem rArr_kp {r : Int → Int} {e s p : Int} (w : RW r e) (he : e + 10 ≤ 2000000000) (hs : 0 ≤ s ∧ s ≤ 1) (h0 : 0 ≤ p) (h1 : p < gT r) : RW (rArr r s p) (e + 4) ∧ ∀ y, kp y → rArr r s p y = r y := by
  obtain ⟨a1, a2⟩ := rArr_w w he hs h0 h1
  refine ⟨a1, fun y hy => a2 y ?_⟩
  unfold kp at hy
  omega
theorem rT1_w {r : Int → Int} {e : Int} (w : RW r e) (he : e + 10 ≤ 2000000000) : RW (rT1 r) (e + 4) ∧ (∀ y, kp y → rT1 r y = r y) ∧ (dT1 r = 0 ∨ dT1 r = 1) := by
  unfold rT1 dT1
  by_cases h : r 14 = 1 ∧ ¬ gLo r = -1
  · rw [if_pos h, if_pos h]
    rcases gLo_b w.1 with a | ⟨a1, a2, -⟩
    · exact absurd a.1 h.2
    · obtain ⟨b1, b2⟩ := rArr_kp w he (s := 0) (by omega) a1 a2
      exact ⟨b1, b2, Or.inr rfl⟩
  · rw [if_neg h, if_neg h]
    exact ⟨RW_e w (by omega) (by omega), fun _ _ => rfl, Or.inl rfl⟩
theorem rT2_w {r : Int → Int} {e v : Int} (w : RW r e) (he : e + 10 ≤ 2000000000) (hv : v = 0 ∨ v = 1) : RW (rT2 r) (e + 4) ∧ (∀ y, kp y → rT2 r y = r y) ∧ (dT2 r v = 0 ∨ dT2 r v = 1) := by
  unfold rT2 dT2
  by_cases h : r 15 = 1 ∧ ¬ gHh r = -1
  · rw [if_pos h, if_pos h]
    rcases gHh_b w.1 with a | ⟨a1, a2, -⟩
    · exact absurd a.1 h.2
    · obtain ⟨b1, b2⟩ := rArr_kp w he (s := 1) (by omega) a1 a2
      exact ⟨b1, b2, Or.inr rfl⟩
  · rw [if_neg h, if_neg h]
    exact ⟨RW_e w (by omega) (by omega), fun _ _ => rfl, hv⟩
theorem rTk_w {r : Int → Int} {e : Int} (w : RW r e) (he : e + 20000 ≤ 2000000000) : RW (rTk r).1 (e + 11648) ∧ (∀ y, kp y → (rTk r).1 y = r y) ∧ ((rTk r).2 = 0 ∨ (rTk r).2 = 1) := by
  obtain ⟨n1, n2, -⟩ := gN_b w.1
  obtain ⟨a1, a2, a3⟩ := rT1_w w (by omega)
  obtain ⟨b1, b2, b3⟩ := rT2_w a1 (by omega) a3
  have ok : ∀ y, kp y → rT2 (rT1 r) y = r y := fun y hy => (b2 y hy).trans (a2 y hy)
  have hc := geo_c (ok 0 (Or.inl (by omega))) (ok 2 (Or.inl (by omega))) (ok 3 (Or.inl (by omega)))
  obtain ⟨i1, i2, i3⟩ := rT3_w (gN r).toNat 0 (rT2 (rT1 r)) (dT2 (rT1 r) (dT1 r)) (e + 4 + 4) b1 (by omega) (by omega) (by rw [hc.1]; omega) b3
  exact ⟨RW_e i1 (by omega) (by omega), fun y hy => (i2 y hy).trans (ok y hy), i3⟩
section MZB
variable {l : Launch} {X : XT} {o : Nat} {B A : AH} {S : Nat → Int → Int}
theorem L_ticks (hl : l.stackTraces = false) : ∀ (m : Nat) (j : Int) (T : Nat → Int → Int) (v e : Int), RW (T 0) e → e + 194 * m + 3000 ≤ 2000000000 → 0 ≤ j → j + m = gN (T 0) → (v = 0 ∨ v = 1) → SE S T →
    G l X M_X6_ticks 7 (fun ot A1 => ot = Ri (I (rT3 m j (T 0) v).2) ∧ ∃ S', A1 = mp X o B S' ∧ S' 0 = (rT3 m j (T 0) v).1 ∧ SE S S') 63 [(0, .ref o), (1, .int (I v)), (4, .int (I j))] [] (mp X o B T) 0 0 := by
  intro m
  induction m with
  | zero =>
    intro j T v e w he h0 h1 hv hS
    obtain ⟨n1, n2, -⟩ := gN_b w.1
    refine k_X6_ticks_63 ⟨mp_isO, (c_X6_pieces hl w.1).cl0 (by decide) ?_⟩
    simp (disch := omega) only [I_n, I_neg, I_add, I_sub, I_mul, I_le4, I_lt4, I_eq4, I_div4, I_bi0, I_bi01, I_bi1, nor_em, rI_of, rV_of, zI_of, zV_of, nz_and, br_T, br_F, br_T2, br_F2, st_eq, st9_0, st_k, st_i, true_and, and_true, Classical.not_not, mp_isO, mp_gI4, mp_gI5, mp_gI7, mp_gI8, mp_gI9, mp_gI10, mp_gI11, mp_gI12, mp_gI13, mp_gI14, mp_gI15, mp_gI19, mp_gI20, mp_gI21, mp_gI23, mp_pI4, mp_pI5, mp_pI7, mp_pI8, mp_pI9, mp_pI10, mp_pI11, mp_pI12, mp_pI13, mp_pI14, mp_pI15, mp_pI19, mp_pI20, mp_pI21, mp_pI23, mp_gR0, mp_gR1, mp_gR2, mp_gR3, mp_gR6, mp_gR16, mp_gR17, mp_gR18, mp_gR22, mp_aI0, mp_aI1, mp_aI2, mp_aI3, mp_aI4, mp_aI5, mp_aI6, mp_aZ7, mp_aI8, mp_sI0, mp_sI1, mp_sI2, mp_sI3, mp_sI4, mp_sI5, mp_sI6, mp_sI8, mp_sZ0, mp_sZ1]
    exact ⟨hv, rfl, T, rfl, rfl, hS⟩
  | succ m ih =>
    intro j T v e w he h0 h1 hv hS
    obtain ⟨n1, n2, -⟩ := gN_b w.1
    have c4 := w.2.2.2.2.1
    have hgv := gV_b (r := T 0) (k := j)
    refine k_X6_ticks_63 ⟨mp_isO, (c_X6_pieces hl w.1).cl0 (by decide) ?_⟩
    simp (disch := omega) only [I_n, I_neg, I_add, I_sub, I_mul, I_le4, I_lt4, I_eq4, I_div4, I_bi0, I_bi01, I_bi1, nor_em, rI_of, rV_of, zI_of, zV_of, nz_and, br_T, br_F, br_T2, br_F2, st_eq, st9_0, st_k, st_i, true_and, and_true, Classical.not_not, mp_isO, mp_gI4, mp_gI5, mp_gI7, mp_gI8, mp_gI9, mp_gI10, mp_gI11, mp_gI12, mp_gI13, mp_gI14, mp_gI15, mp_gI19, mp_gI20, mp_gI21, mp_gI23, mp_pI4, mp_pI5, mp_pI7, mp_pI8, mp_pI9, mp_pI10, mp_pI11, mp_pI12, mp_pI13, mp_pI14, mp_pI15, mp_pI19, mp_pI20, mp_pI21, mp_pI23, mp_gR0, mp_gR1, mp_gR2, mp_gR3, mp_gR6, mp_gR16, mp_gR17, mp_gR18, mp_gR22, mp_aI0, mp_aI1, mp_aI2, mp_aI3, mp_aI4, mp_aI5, mp_aI6, mp_aZ7, mp_aI8, mp_sI0, mp_sI1, mp_sI2, mp_sI3, mp_sI4, mp_sI5, mp_sI6, mp_sI8, mp_sZ0, mp_sZ1]
    refine ⟨fun h => ?_, fun h => ?_⟩
    · have e1 : rT3 (m + 1) j (T 0) v = (T 0, v) := by
        show (if T 0 14 = 1 then _ else _) = _
        rw [if_neg h]
      rw [e1]
      exact ⟨hv, rfl, T, rfl, rfl, hS⟩
    · refine (c_X6_stateOf hl w h0 (by omega)).cl0 (by decide) ?_
      simp (disch := omega) only [I_n, I_neg, I_add, I_sub, I_mul, I_le4, I_lt4, I_eq4, I_div4, I_bi0, I_bi01, I_bi1, nor_em, rI_of, rV_of, zI_of, zV_of, nz_and, br_T, br_F, br_T2, br_F2, st_eq, st9_0, st_k, st_i, true_and, and_true, Classical.not_not, mp_isO, mp_gI4, mp_gI5, mp_gI7, mp_gI8, mp_gI9, mp_gI10, mp_gI11, mp_gI12, mp_gI13, mp_gI14, mp_gI15, mp_gI19, mp_gI20, mp_gI21, mp_gI23, mp_pI4, mp_pI5, mp_pI7, mp_pI8, mp_pI9, mp_pI10, mp_pI11, mp_pI12, mp_pI13, mp_pI14, mp_pI15, mp_pI19, mp_pI20, mp_pI21, mp_pI23, mp_gR0, mp_gR1, mp_gR2, mp_gR3, mp_gR6, mp_gR16, mp_gR17, mp_gR18, mp_gR22, mp_aI0, mp_aI1, mp_aI2, mp_aI3, mp_aI4, mp_aI5, mp_aI6, mp_aZ7, mp_aI8, mp_sI0, mp_sI1, mp_sI2, mp_sI3, mp_sI4, mp_sI5, mp_sI6, mp_sI8, mp_sZ0, mp_sZ1]
      refine ⟨fun h2 => ?_, fun h2 => ?_⟩
      · have e1 : rT3 (m + 1) j (T 0) v = rT3 m (j + 1) (rSe (T 0) j) 1 := by
          show (if T 0 14 = 1 then _ else _) = _
          rw [if_pos h, if_pos h2]
        obtain ⟨w2, o2⟩ := rSe_w w (by omega) h0 (by omega) h2
        obtain ⟨f1, f2⟩ := gF_b w.1 h0 (k := j) (by omega)
        have hc := geo_c (o2 0 (by omega) (by omega) (by omega) (by omega) (by omega) (by omega) (by omega) (by omega) (by omega)) (o2 2 (by omega) (by omega) (by omega) (by omega) (by omega) (by omega) (by omega) (by omega) (by omega)) (o2 3 (by omega) (by omega) (by omega) (by omega) (by omega) (by omega) (by omega) (by omega) (by omega))
        refine (c_X6_searches hl w (by omega) h0 (by omega) (fun i i0 i1 => gV_2 h2 i0 i1)).cl0 (by decide) ?_
        rintro o1 A1 ⟨rfl, S', rfl, q1, q2⟩
        simp (disch := omega) only [I_n, I_neg, I_add, I_sub, I_mul, I_le4, I_lt4, I_eq4, I_div4, I_bi0, I_bi01, I_bi1, nor_em, rI_of, rV_of, zI_of, zV_of, nz_and, br_T, br_F, br_T2, br_F2, st_eq, st9_0, st_k, st_i, true_and, and_true, Classical.not_not, mp_isO, mp_gI4, mp_gI5, mp_gI7, mp_gI8, mp_gI9, mp_gI10, mp_gI11, mp_gI12, mp_gI13, mp_gI14, mp_gI15, mp_gI19, mp_gI20, mp_gI21, mp_gI23, mp_pI4, mp_pI5, mp_pI7, mp_pI8, mp_pI9, mp_pI10, mp_pI11, mp_pI12, mp_pI13, mp_pI14, mp_pI15, mp_pI19, mp_pI20, mp_pI21, mp_pI23, mp_gR0, mp_gR1, mp_gR2, mp_gR3, mp_gR6, mp_gR16, mp_gR17, mp_gR18, mp_gR22, mp_aI0, mp_aI1, mp_aI2, mp_aI3, mp_aI4, mp_aI5, mp_aI6, mp_aZ7, mp_aI8, mp_sI0, mp_sI1, mp_sI2, mp_sI3, mp_sI4, mp_sI5, mp_sI6, mp_sI8, mp_sZ0, mp_sZ1]
        have i := ih (j + 1) (st S' 9 21 (lk0 (T 0) j).2) 1 (e + 194) (by rw [st9_0, q1]; exact w2) (by omega) (by omega) (by rw [st9_0, q1, hc.1]; omega) (Or.inr rfl) ((hS.tr q2).tr SE_9)
        rw [st9_0, q1] at i
        rw [e1]
        exact i
      · have e1 : rT3 (m + 1) j (T 0) v = rT3 m (j + 1) (T 0) v := by
          show (if T 0 14 = 1 then _ else _) = _
          rw [if_pos h, if_neg h2]
        rw [e1]
        exact ih (j + 1) T v e w (by omega) (by omega) (by omega) hv hS
theorem L_ticks31 (hl : l.stackTraces = false) {T : Nat → Int → Int} {v e : Int} (w : RW (T 0) e) (he : e + 20000 ≤ 2000000000) (hv : v = 0 ∨ v = 1) (hS : SE S T) :
    G l X M_X6_ticks 7 (fun ot A1 => ot = Ri (I (rT3 (gN (T 0)).toNat 0 (rT2 (T 0)) (dT2 (T 0) v)).2) ∧ ∃ S', A1 = mp X o B S' ∧ S' 0 = (rT3 (gN (T 0)).toNat 0 (rT2 (T 0)) (dT2 (T 0) v)).1 ∧ SE S S') 31 [(0, .ref o), (1, .int (I v))] [] (mp X o B T) 0 0 := by
  obtain ⟨n1, n2, -⟩ := gN_b w.1
  have c4 := w.2.2.2.2.1
  obtain ⟨t1, t2⟩ := gT_b w.1
  have lg := w.1.2.1
  have hb : -1 ≤ gHh (T 0) ∧ gHh (T 0) < gT (T 0) := by
    rcases gHh_b w.1 with a | a
    · omega
    · omega
  have same : ¬ (T 0 15 = 1 ∧ ¬ gHh (T 0) = -1) → G l X M_X6_ticks 7 (fun ot A1 => ot = Ri (I (rT3 (gN (T 0)).toNat 0 (rT2 (T 0)) (dT2 (T 0) v)).2) ∧ ∃ S', A1 = mp X o B S' ∧ S' 0 = (rT3 (gN (T 0)).toNat 0 (rT2 (T 0)) (dT2 (T 0) v)).1 ∧ SE S S') 63 [(0, .ref o), (1, .int (I v)), (4, .int (I 0))] [] (mp X o B T) 0 0 := by
    intro h
    have a1 : rT2 (T 0) = T 0 := by unfold rT2; rw [if_neg h]
    have a2 : dT2 (T 0) v = v := by unfold dT2; rw [if_neg h]
    rw [a1, a2]
    exact L_ticks hl (gN (T 0)).toNat 0 T v e w (by omega) (by omega) (by omega) hv hS
  refine k_X6_ticks_31 ⟨mp_isO, (c_X6_highestMissing hl w).cl0 (by decide) ?_⟩
  rw [show gHi (T 0) (gT (T 0)).toNat = gHh (T 0) from rfl]
  simp (disch := omega) only [I_n, I_neg, I_add, I_sub, I_mul, I_le4, I_lt4, I_eq4, I_div4, I_bi0, I_bi01, I_bi1, nor_em, rI_of, rV_of, zI_of, zV_of, nz_and, br_T, br_F, br_T2, br_F2, st_eq, st9_0, st_k, st_i, true_and, and_true, Classical.not_not, mp_isO, mp_gI4, mp_gI5, mp_gI7, mp_gI8, mp_gI9, mp_gI10, mp_gI11, mp_gI12, mp_gI13, mp_gI14, mp_gI15, mp_gI19, mp_gI20, mp_gI21, mp_gI23, mp_pI4, mp_pI5, mp_pI7, mp_pI8, mp_pI9, mp_pI10, mp_pI11, mp_pI12, mp_pI13, mp_pI14, mp_pI15, mp_pI19, mp_pI20, mp_pI21, mp_pI23, mp_gR0, mp_gR1, mp_gR2, mp_gR3, mp_gR6, mp_gR16, mp_gR17, mp_gR18, mp_gR22, mp_aI0, mp_aI1, mp_aI2, mp_aI3, mp_aI4, mp_aI5, mp_aI6, mp_aZ7, mp_aI8, mp_sI0, mp_sI1, mp_sI2, mp_sI3, mp_sI4, mp_sI5, mp_sI6, mp_sI8, mp_sZ0, mp_sZ1]
  refine ⟨fun h => ?_, fun h => ⟨fun h2 => ?_, fun h2 => ?_⟩⟩
  · exact same fun y => h y.1
  · exact same fun y => y.2 h2
  · have hx : T 0 15 = 1 ∧ ¬ gHh (T 0) = -1 := ⟨h, h2⟩
    have a1 : rT2 (T 0) = rArr (T 0) 1 (gHh (T 0)) := by unfold rT2; rw [if_pos hx]
    have a2 : dT2 (T 0) v = 1 := by unfold dT2; rw [if_pos hx]
    rw [a1, a2]
    obtain ⟨w2, o2⟩ := rArr_kp w (by omega) (s := 1) (by omega) (p := gHh (T 0)) (by omega) (by omega)
    have hc := geo_c (o2 0 (Or.inl (by omega))) (o2 2 (Or.inl (by omega))) (o2 3 (Or.inl (by omega)))
    refine (c_X6_arrives hl w (by omega) (by omega) (by omega) (by omega)).cl0 (by decide) ?_
    simp (disch := omega) only [I_n, I_neg, I_add, I_sub, I_mul, I_le4, I_lt4, I_eq4, I_div4, I_bi0, I_bi01, I_bi1, nor_em, rI_of, rV_of, zI_of, zV_of, nz_and, br_T, br_F, br_T2, br_F2, st_eq, st9_0, st_k, st_i, true_and, and_true, Classical.not_not, mp_isO, mp_gI4, mp_gI5, mp_gI7, mp_gI8, mp_gI9, mp_gI10, mp_gI11, mp_gI12, mp_gI13, mp_gI14, mp_gI15, mp_gI19, mp_gI20, mp_gI21, mp_gI23, mp_pI4, mp_pI5, mp_pI7, mp_pI8, mp_pI9, mp_pI10, mp_pI11, mp_pI12, mp_pI13, mp_pI14, mp_pI15, mp_pI19, mp_pI20, mp_pI21, mp_pI23, mp_gR0, mp_gR1, mp_gR2, mp_gR3, mp_gR6, mp_gR16, mp_gR17, mp_gR18, mp_gR22, mp_aI0, mp_aI1, mp_aI2, mp_aI3, mp_aI4, mp_aI5, mp_aI6, mp_aZ7, mp_aI8, mp_sI0, mp_sI1, mp_sI2, mp_sI3, mp_sI4, mp_sI5, mp_sI6, mp_sI8, mp_sZ0, mp_sZ1]
    exact L_ticks hl (gN (T 0)).toNat 0 (sr T (rArr (T 0) 1 (gHh (T 0)))) 1 (e + 4) w2 (by omega) (by omega) (by rw [sr_0, hc.1]; omega) (Or.inr rfl) (SE_sr hS)
theorem c_X6_ticks (hl : l.stackTraces = false) {e : Int} (w : RW (S 0) e) (he : e + 30000 ≤ 2000000000) : Ct l X 7 M_X6_ticks [.ref o] (mp X o B S) 0 0 (fun ot A1 => ot = Ri (I (rTk (S 0)).2) ∧ ∃ S', A1 = mp X o B S' ∧ S' 0 = (rTk (S 0)).1 ∧ SE S S') := by
  obtain ⟨n1, n2, -⟩ := gN_b w.1
  have c4 := w.2.2.2.2.1
  obtain ⟨t1, t2⟩ := gT_b w.1
  have lg := w.1.2.1
  have hb : -1 ≤ gLo (S 0) ∧ gLo (S 0) < gT (S 0) := by
    rcases gLo_b w.1 with a | a
    · omega
    · omega
  unfold rTk
  have same : ¬ (S 0 14 = 1 ∧ ¬ gLo (S 0) = -1) → G l X M_X6_ticks 7 (fun ot A1 => ot = Ri (I (rT3 (gN (S 0)).toNat 0 (rT2 (rT1 (S 0))) (dT2 (rT1 (S 0)) (dT1 (S 0)))).2) ∧ ∃ S', A1 = mp X o B S' ∧ S' 0 = (rT3 (gN (S 0)).toNat 0 (rT2 (rT1 (S 0))) (dT2 (rT1 (S 0)) (dT1 (S 0)))).1 ∧ SE S S') 31 [(0, .ref o), (1, .int (I 0))] [] (mp X o B S) 0 0 := by
    intro h
    have a1 : rT1 (S 0) = S 0 := by unfold rT1; rw [if_neg h]
    have a2 : dT1 (S 0) = 0 := by unfold dT1; rw [if_neg h]
    rw [a1, a2]
    exact L_ticks31 hl w (by omega) (Or.inl rfl) SE.rf
  refine Ct.of hl rfl rfl (Nat.le_of_ble_eq_true rfl) (k_X6_ticks_0 ⟨mp_isO, (c_X6_lowestMissing hl w).cl0 (by decide) ?_⟩)
  simp (disch := omega) only [I_n, I_neg, I_add, I_sub, I_mul, I_le4, I_lt4, I_eq4, I_div4, I_bi0, I_bi01, I_bi1, nor_em, rI_of, rV_of, zI_of, zV_of, nz_and, br_T, br_F, br_T2, br_F2, st_eq, st9_0, st_k, st_i, true_and, and_true, Classical.not_not, mp_isO, mp_gI4, mp_gI5, mp_gI7, mp_gI8, mp_gI9, mp_gI10, mp_gI11, mp_gI12, mp_gI13, mp_gI14, mp_gI15, mp_gI19, mp_gI20, mp_gI21, mp_gI23, mp_pI4, mp_pI5, mp_pI7, mp_pI8, mp_pI9, mp_pI10, mp_pI11, mp_pI12, mp_pI13, mp_pI14, mp_pI15, mp_pI19, mp_pI20, mp_pI21, mp_pI23, mp_gR0, mp_gR1, mp_gR2, mp_gR3, mp_gR6, mp_gR16, mp_gR17, mp_gR18, mp_gR22, mp_aI0, mp_aI1, mp_aI2, mp_aI3, mp_aI4, mp_aI5, mp_aI6, mp_aZ7, mp_aI8, mp_sI0, mp_sI1, mp_sI2, mp_sI3, mp_sI4, mp_sI5, mp_sI6, mp_sI8, mp_sZ0, mp_sZ1]
  refine ⟨fun h => ?_, fun h => ⟨fun h2 => ?_, fun h2 => ?_⟩⟩
  · exact same fun y => h y.1
  · exact same fun y => y.2 h2
  · have hx : S 0 14 = 1 ∧ ¬ gLo (S 0) = -1 := ⟨h, h2⟩
    have a1 : rT1 (S 0) = rArr (S 0) 0 (gLo (S 0)) := by unfold rT1; rw [if_pos hx]
    have a2 : dT1 (S 0) = 1 := by unfold dT1; rw [if_pos hx]
    rw [a1, a2]
    obtain ⟨w2, o2⟩ := rArr_kp w (by omega) (s := 0) (by omega) (p := gLo (S 0)) (by omega) (by omega)
    have hc := geo_c (o2 0 (Or.inl (by omega))) (o2 2 (Or.inl (by omega))) (o2 3 (Or.inl (by omega)))
    refine (c_X6_arrives hl w (by omega) (by omega) (by omega) (by omega)).cl0 (by decide) ?_
    simp (disch := omega) only [I_n, I_neg, I_add, I_sub, I_mul, I_le4, I_lt4, I_eq4, I_div4, I_bi0, I_bi01, I_bi1, nor_em, rI_of, rV_of, zI_of, zV_of, nz_and, br_T, br_F, br_T2, br_F2, st_eq, st9_0, st_k, st_i, true_and, and_true, Classical.not_not, mp_isO, mp_gI4, mp_gI5, mp_gI7, mp_gI8, mp_gI9, mp_gI10, mp_gI11, mp_gI12, mp_gI13, mp_gI14, mp_gI15, mp_gI19, mp_gI20, mp_gI21, mp_gI23, mp_pI4, mp_pI5, mp_pI7, mp_pI8, mp_pI9, mp_pI10, mp_pI11, mp_pI12, mp_pI13, mp_pI14, mp_pI15, mp_pI19, mp_pI20, mp_pI21, mp_pI23, mp_gR0, mp_gR1, mp_gR2, mp_gR3, mp_gR6, mp_gR16, mp_gR17, mp_gR18, mp_gR22, mp_aI0, mp_aI1, mp_aI2, mp_aI3, mp_aI4, mp_aI5, mp_aI6, mp_aZ7, mp_aI8, mp_sI0, mp_sI1, mp_sI2, mp_sI3, mp_sI4, mp_sI5, mp_sI6, mp_sI8, mp_sZ0, mp_sZ1]
    have i := L_ticks31 (X := X) (o := o) (B := B) (S := S) (T := sr S (rArr (S 0) 0 (gLo (S 0)))) (v := 1) hl w2 (by omega) (Or.inr rfl) (SE_sr SE.rf)
    rw [sr_0, hc.1] at i
    exact i
end MZB
