/-! the class's Reader: statements -/
def ZI (n : Int) (z : RZ) : Prop := (0 ≤ z.1 ∧ z.1 ≤ n) ∧ (0 ≤ z.2.1 ∧ z.2.1 ≤ 12) ∧ (-4 ≤ z.2.2.1 ∧ z.2.2.1 ≤ 0)
/-- a Plan that can be told more -/
def SP (P : Nat → Int → Int) (m : Int) : Prop := P 10 0 = m ∧ (0 ≤ P 10 13 ∧ P 10 13 ≤ 12) ∧ (0 ≤ P 10 15 ∧ P 10 15 ≤ 8) ∧ (1 ≤ m ∧ m ≤ 240) ∧ ∀ x, 0 ≤ x → x < m → 0 ≤ P 1 x ∧ P 1 x ≤ 255
def kAF (P : Nat → Int → Int) (x v : Int) : Nat → Int → Int := st P 1 x ((P 1 x + v) % 256)
def kAB (P : Nat → Int → Int) (a b c : Int) : Nat → Int → Int := st (st (st (st P 8 (3 * P 10 13) a) 8 (3 * P 10 13 + 1) b) 8 (3 * P 10 13 + 2) c) 10 13 (P 10 13 + 1)
def kAC (P : Nat → Int → Int) (a b : Int) : Nat → Int → Int := st (st (st P 9 (2 * P 10 15) a) 9 (2 * P 10 15 + 1) b) 10 15 (P 10 15 + 1)
theorem ZI_fail {n : Int} {z : RZ} {c w : Int} (h : ZI n z) (hc : -4 ≤ c ∧ c ≤ 0) : ZI n (zFail z c w) ∧ (zFail z c w).2.1 = z.2.1 ∧ (zFail z c w).1 = z.1 := by
  unfold zFail
  split
  · exact ⟨⟨h.1, h.2.1, hc⟩, rfl, rfl⟩
  · exact ⟨h, rfl, rfl⟩
theorem cNum_b {t : Int → Int} {n : Int} {z : RZ} {lo hi : Int} (h : ZI n z) (hh : lo ≤ hi) : ZI n (cNum t n z lo hi).1 ∧ (lo ≤ (cNum t n z lo hi).2 ∧ (cNum t n z lo hi).2 ≤ hi) ∧ (cNum t n z lo hi).1.2.1 = z.2.1 := by
  obtain ⟨b1, b2, b3⟩ := sk_b (t := t) (n := n) (p := z.1) h.1.2
  have hz := h.1
  obtain ⟨s, hs⟩ : ∃ s, s = sk t n z.1 := ⟨_, rfl⟩
  rw [← hs] at b1 b2
  obtain ⟨c1, c2, c3, c4⟩ := cDi_b (t := t) (n := n) (n - s).toNat s 0 (by omega) (by omega) (by omega)
  obtain ⟨w, hw⟩ : ∃ w, w = cDi t n (n - s).toNat s 0 := ⟨_, rfl⟩
  rw [← hw] at c1 c2 c3 c4
  have e : cNum t n z lo hi = if w.1 = s then (zFail (w.1, z.2) (-2) s, lo) else if w.2 < lo ∨ hi < w.2 then (zFail (w.1, z.2) (-3) s, lo) else ((w.1, z.2), w.2) := by rw [hw, hs]; rfl
  have hzi : ZI n (w.1, z.2) := ⟨⟨by show 0 ≤ w.1; omega, c2⟩, h.2.1, h.2.2⟩
  rw [e]
  split
  · obtain ⟨x1, x2, -⟩ := ZI_fail (c := -2) (w := s) hzi (by omega)
    exact ⟨x1, ⟨Int.le_refl _, hh⟩, x2⟩
  · split
    · obtain ⟨x1, x2, -⟩ := ZI_fail (c := -3) (w := s) hzi (by omega)
      exact ⟨x1, ⟨Int.le_refl _, hh⟩, x2⟩
    · rename_i hno
      exact ⟨hzi, ⟨by show lo ≤ w.2; omega, by show w.2 ≤ hi; omega⟩, rfl⟩
theorem wdS_le {t : Int → Int} {n p : Int} {i : Nat} (hi : i < 12) : ∀ (m : Nat) (j : Int), 0 ≤ j → j + m = tL i → 1 ≤ m → wdS t n p i m j = 1 → p + tL i ≤ n := by
  intro m
  induction m with
  | zero => intro j _ _ h1; omega
  | succ m ih =>
    intro j j0 hj h1 h
    unfold wdS at h
    split at h
    · rename_i hc
      by_cases hm : 1 ≤ m
      · exact ih (j + 1) (by omega) (by omega) hm h
      · have hn2 := tL_n i hi
        have hb := tC_b i hi j.toNat (by omega)
        rw [show ((j.toNat : Nat) : Int) = j by omega] at hb
        have : ¬ n ≤ p + j := by
          intro hz
          have e : gSee t n (p + j) = -1 := if_pos hz
          omega
        omega
    · exact absurd h (by decide)
theorem cIs_b {t : Int → Int} {n p : Int} {i : Nat} (hi : i < 12) : (cIs t n i p = 0 ∨ cIs t n i p = 1) ∧ (cIs t n i p = 1 → p + tL i ≤ n) := by
  have hL := tL_b i hi
  unfold cIs cIsR
  split
  · rename_i h
    have := wdS_le hi (tL i).toNat 0 (by omega) (by omega) (by omega) h
    split
    · exact ⟨Or.inl rfl, fun h => absurd h (by decide)⟩
    · exact ⟨Or.inr rfl, fun _ => this⟩
  · exact ⟨Or.inl rfl, fun h => absurd h (by decide)⟩
theorem cTk_b {t : Int → Int} {n : Int} {z : RZ} {i : Nat} (hi : i < 12) (h : ZI n z) : ZI n (cTk t n i z) ∧ (cTk t n i z).2 = z.2 := by
  have hL := tL_b i hi
  obtain ⟨-, c⟩ := cIs_b (t := t) (n := n) (p := z.1) hi
  have hz := h.1
  unfold cTk
  split
  · rename_i h1
    have := c h1
    exact ⟨⟨⟨by show 0 ≤ z.1 + tL i; omega, this⟩, h.2.1, h.2.2⟩, rfl⟩
  · exact ⟨h, rfl⟩
theorem cWd_b {t : Int → Int} {n : Int} {z : RZ} {i : Nat} (hi : i < 12) (h : ZI n z) : ZI n (cWd t n i z) ∧ (cWd t n i z).2.1 = z.2.1 := by
  have hL := tL_b i hi
  obtain ⟨b1, b2, b3⟩ := sk_b (t := t) (n := n) (p := z.1) h.1.2
  obtain ⟨-, c⟩ := cIs_b (t := t) (n := n) (p := sk t n z.1) hi
  have hz := h.1
  unfold cWd
  split
  · rename_i h1
    have := c h1
    exact ⟨⟨⟨by show 0 ≤ sk t n z.1 + tL i; omega, this⟩, h.2.1, h.2.2⟩, rfl⟩
  · obtain ⟨x1, x2, -⟩ := ZI_fail (z := (sk t n z.1, z.2)) (c := -2) (w := sk t n z.1) ⟨⟨by show 0 ≤ sk t n z.1; omega, b2⟩, h.2.1, h.2.2⟩ (by omega)
    exact ⟨x1, x2⟩
theorem cSe_b {t : Int → Int} {n : Int} {z : RZ} (h : ZI n z) : ZI n (cSe t n z) ∧ (cSe t n z).2.1 = z.2.1 := by
  obtain ⟨b1, b2, b3⟩ := sk_b (t := t) (n := n) (p := z.1) h.1.2
  have hz := h.1
  unfold cSe
  split
  · rename_i h1
    have : ¬ n ≤ sk t n z.1 := by
      intro hz
      have e : gSee t n (sk t n z.1) = -1 := if_pos hz
      omega
    exact ⟨⟨⟨by show 0 ≤ sk t n z.1 + 1; omega, by show sk t n z.1 + 1 ≤ n; omega⟩, h.2.1, h.2.2⟩, rfl⟩
  · obtain ⟨x1, x2, -⟩ := ZI_fail (z := (sk t n z.1, z.2)) (c := -2) (w := sk t n z.1) ⟨⟨by show 0 ≤ sk t n z.1; omega, b2⟩, h.2.1, h.2.2⟩ (by omega)
    exact ⟨x1, x2⟩
def cFl (t : Int → Int) (n : Int) (z : RZ) (P : Nat → Int → Int) (s : Int) : RZ × (Nat → Int → Int) :=
  if z.2.1 < 12 then (((cNum t n (cNum t n z 0 (P 10 0 - 1)).1 1 255).1.1, z.2.1 + 1, (cNum t n (cNum t n z 0 (P 10 0 - 1)).1 1 255).1.2.2), kAF P (cNum t n z 0 (P 10 0 - 1)).2 (cNum t n (cNum t n z 0 (P 10 0 - 1)).1 1 255).2) else (zFail z (-4) s, P)
def cBr (t : Int → Int) (n : Int) (z : RZ) (P : Nat → Int → Int) (s : Int) : RZ × (Nat → Int → Int) :=
  if P 10 13 < 12 then ((cNum t n (cNum t n (cNum t n z 1 999).1 0 47).1 1 255).1, kAB P (cNum t n z 1 999).2 (cNum t n (cNum t n z 1 999).1 0 47).2 (cNum t n (cNum t n (cNum t n z 1 999).1 0 47).1 1 255).2) else (zFail z (-4) s, P)
def cCu (t : Int → Int) (n : Int) (z : RZ) (P : Nat → Int → Int) (s : Int) : RZ × (Nat → Int → Int) :=
  if P 10 15 < 8 then ((cNum t n (cNum t n z 0 1).1 1 999).1, kAC P (cNum t n z 0 1).2 (cNum t n (cNum t n z 0 1).1 1 999).2) else (zFail z (-4) s, P)
theorem ZI_sm {n : Int} {z : RZ} (h : ZI n z) : sm z.2.2.1 := by
  have := h.2.2
  exact ⟨by omega, by omega⟩
theorem rp_pp {X : XT} {B : AH} {p d tx : Nat} {P : Nat → Int → Int} {n : Int} {z : RZ} (h : d < p ∨ p + 10 < d) : rp (pp X p B P) d tx n z = pp X p (rp B d tx n z) P := by
  refine Prod.ext rfl (funext fun b => ?_)
  by_cases hb : b = d
  · rw [hb, pp_out h, rp_q, rp_q]
  · rw [rp_b hb]
    unfold pp
    simp only [rp_b hb]
section CZ
variable {l : Launch} {X : XT} {B : AH} {p d tx : Nat} {n m : Int} {z : RZ} {t : Int → Int} {P : Nat → Int → Int}
theorem c_X3_addFlaw (hl : l.stackTraces = false) (h : SP P m) {x v : Int} (h0 : 0 ≤ x) (h1 : x < m) (hv : 0 ≤ v) : Fn l X 2 M_X3_addFlaw [.ref p, .int (I x), .int (I v)] (pp X p B P) 0 0 Rv (pp X p B (kAF P x v)) := by
  have hx := h.2.2.2.2 x h0 h1
  have hm := h.2.2.2.1
  have k0 : Fn l X 1 M_X5_addTo [.ref (p + 2), .int (I x), .int (I v)] (pp X p B P) 0 0 Rv (pp X p B (kAF P x v)) := by
    refine Fn.of hl rfl rfl (Nat.le_of_ble_eq_true rfl) (k_X5_addTo_0 ?_)
    refine (at_p1 hl pp_at h0 (by omega)).cl0 (by decide) ?_
    simp (disch := omega) only [true_implies, false_implies, not_true_eq_false, not_false_eq_true, I_n, I_neg, I_add, I_sub, I_mul, I_le4, I_lt4, I_eq4, I_div4, I_bi0, I_bi01, I_bi1, nor_em, rI_of, rV_of, zI_of, zV_of, nz_and, br_T, br_F, br_T2, br_F2, st_eq, st9_0, st_k, st_i, true_and, and_true, Classical.not_not, pp_gI0, pp_gI1, pp_gI2, pp_gI3, pp_gI13, pp_gI15, pp_pI0, pp_pI1, pp_pI2, pp_pI3, pp_pI13, pp_pI15, pp_gR4, pp_gR5, pp_gR6, pp_gR7, pp_gR8, pp_gR9, pp_gR10, pp_gR11, pp_gR12, pp_gR14, pp_isO]
    rw [I_and255 (by omega)]
    refine (put_p1 hl h0 (by omega)).cl0 (by decide) ?_
    simp (disch := omega) only [true_implies, false_implies, not_true_eq_false, not_false_eq_true, I_n, I_neg, I_add, I_sub, I_mul, I_le4, I_lt4, I_eq4, I_div4, I_bi0, I_bi01, I_bi1, nor_em, rI_of, rV_of, zI_of, zV_of, nz_and, br_T, br_F, br_T2, br_F2, st_eq, st9_0, st_k, st_i, true_and, and_true, Classical.not_not, pp_gI0, pp_gI1, pp_gI2, pp_gI3, pp_gI13, pp_gI15, pp_pI0, pp_pI1, pp_pI2, pp_pI3, pp_pI13, pp_pI15, pp_gR4, pp_gR5, pp_gR6, pp_gR7, pp_gR8, pp_gR9, pp_gR10, pp_gR11, pp_gR12, pp_gR14, pp_isO]
    unfold kAF
    all_goals first | rfl | exact ⟨rfl, rfl⟩
  refine Fn.of hl rfl rfl (Nat.le_of_ble_eq_true rfl) (k_X3_addFlaw_0 ?_)
  simp (disch := omega) only [true_implies, false_implies, not_true_eq_false, not_false_eq_true, I_n, I_neg, I_add, I_sub, I_mul, I_le4, I_lt4, I_eq4, I_div4, I_bi0, I_bi01, I_bi1, nor_em, rI_of, rV_of, zI_of, zV_of, nz_and, br_T, br_F, br_T2, br_F2, st_eq, st9_0, st_k, st_i, true_and, and_true, Classical.not_not, pp_gI0, pp_gI1, pp_gI2, pp_gI3, pp_gI13, pp_gI15, pp_pI0, pp_pI1, pp_pI2, pp_pI3, pp_pI13, pp_pI15, pp_gR4, pp_gR5, pp_gR6, pp_gR7, pp_gR8, pp_gR9, pp_gR10, pp_gR11, pp_gR12, pp_gR14, pp_isO]
  refine k0.cl0 (by decide) ?_
  simp (disch := omega) only [true_implies, false_implies, not_true_eq_false, not_false_eq_true, I_n, I_neg, I_add, I_sub, I_mul, I_le4, I_lt4, I_eq4, I_div4, I_bi0, I_bi01, I_bi1, nor_em, rI_of, rV_of, zI_of, zV_of, nz_and, br_T, br_F, br_T2, br_F2, st_eq, st9_0, st_k, st_i, true_and, and_true, Classical.not_not, pp_gI0, pp_gI1, pp_gI2, pp_gI3, pp_gI13, pp_gI15, pp_pI0, pp_pI1, pp_pI2, pp_pI3, pp_pI13, pp_pI15, pp_gR4, pp_gR5, pp_gR6, pp_gR7, pp_gR8, pp_gR9, pp_gR10, pp_gR11, pp_gR12, pp_gR14, pp_isO]
theorem c_X3_addBreak (hl : l.stackTraces = false) (h : 0 ≤ P 10 13 ∧ P 10 13 < 12) {a b c : Int} : Fn l X 1 M_X3_addBreak [.ref p, .int (I a), .int (I b), .int (I c)] (pp X p B P) 0 0 Rv (pp X p B (kAB P a b c)) := by
  refine Fn.of hl rfl rfl (Nat.le_of_ble_eq_true rfl) (k_X3_addBreak_0 ?_)
  simp (disch := omega) only [true_implies, false_implies, not_true_eq_false, not_false_eq_true, I_n, I_neg, I_add, I_sub, I_mul, I_le4, I_lt4, I_eq4, I_div4, I_bi0, I_bi01, I_bi1, nor_em, rI_of, rV_of, zI_of, zV_of, nz_and, br_T, br_F, br_T2, br_F2, st_eq, st9_0, st_k, st_i, true_and, and_true, Classical.not_not, pp_gI0, pp_gI1, pp_gI2, pp_gI3, pp_gI13, pp_gI15, pp_pI0, pp_pI1, pp_pI2, pp_pI3, pp_pI13, pp_pI15, pp_gR4, pp_gR5, pp_gR6, pp_gR7, pp_gR8, pp_gR9, pp_gR10, pp_gR11, pp_gR12, pp_gR14, pp_isO]
  refine (put_p8 hl (by omega) (by omega)).cl0 (by decide) ?_
  simp (disch := omega) only [true_implies, false_implies, not_true_eq_false, not_false_eq_true, I_n, I_neg, I_add, I_sub, I_mul, I_le4, I_lt4, I_eq4, I_div4, I_bi0, I_bi01, I_bi1, nor_em, rI_of, rV_of, zI_of, zV_of, nz_and, br_T, br_F, br_T2, br_F2, st_eq, st9_0, st_k, st_i, true_and, and_true, Classical.not_not, pp_gI0, pp_gI1, pp_gI2, pp_gI3, pp_gI13, pp_gI15, pp_pI0, pp_pI1, pp_pI2, pp_pI3, pp_pI13, pp_pI15, pp_gR4, pp_gR5, pp_gR6, pp_gR7, pp_gR8, pp_gR9, pp_gR10, pp_gR11, pp_gR12, pp_gR14, pp_isO]
  refine (put_p8 hl (by omega) (by omega)).cl0 (by decide) ?_
  simp (disch := omega) only [true_implies, false_implies, not_true_eq_false, not_false_eq_true, I_n, I_neg, I_add, I_sub, I_mul, I_le4, I_lt4, I_eq4, I_div4, I_bi0, I_bi01, I_bi1, nor_em, rI_of, rV_of, zI_of, zV_of, nz_and, br_T, br_F, br_T2, br_F2, st_eq, st9_0, st_k, st_i, true_and, and_true, Classical.not_not, pp_gI0, pp_gI1, pp_gI2, pp_gI3, pp_gI13, pp_gI15, pp_pI0, pp_pI1, pp_pI2, pp_pI3, pp_pI13, pp_pI15, pp_gR4, pp_gR5, pp_gR6, pp_gR7, pp_gR8, pp_gR9, pp_gR10, pp_gR11, pp_gR12, pp_gR14, pp_isO]
  refine (put_p8 hl (by omega) (by omega)).cl0 (by decide) ?_
  simp (disch := omega) only [true_implies, false_implies, not_true_eq_false, not_false_eq_true, I_n, I_neg, I_add, I_sub, I_mul, I_le4, I_lt4, I_eq4, I_div4, I_bi0, I_bi01, I_bi1, nor_em, rI_of, rV_of, zI_of, zV_of, nz_and, br_T, br_F, br_T2, br_F2, st_eq, st9_0, st_k, st_i, true_and, and_true, Classical.not_not, pp_gI0, pp_gI1, pp_gI2, pp_gI3, pp_gI13, pp_gI15, pp_pI0, pp_pI1, pp_pI2, pp_pI3, pp_pI13, pp_pI15, pp_gR4, pp_gR5, pp_gR6, pp_gR7, pp_gR8, pp_gR9, pp_gR10, pp_gR11, pp_gR12, pp_gR14, pp_isO]
  unfold kAB
  all_goals first | rfl | exact ⟨rfl, rfl⟩
theorem c_X3_addCut (hl : l.stackTraces = false) (h : 0 ≤ P 10 15 ∧ P 10 15 < 8) {a b : Int} : Fn l X 1 M_X3_addCut [.ref p, .int (I a), .int (I b)] (pp X p B P) 0 0 Rv (pp X p B (kAC P a b)) := by
  refine Fn.of hl rfl rfl (Nat.le_of_ble_eq_true rfl) (k_X3_addCut_0 ?_)
  simp (disch := omega) only [true_implies, false_implies, not_true_eq_false, not_false_eq_true, I_n, I_neg, I_add, I_sub, I_mul, I_le4, I_lt4, I_eq4, I_div4, I_bi0, I_bi01, I_bi1, nor_em, rI_of, rV_of, zI_of, zV_of, nz_and, br_T, br_F, br_T2, br_F2, st_eq, st9_0, st_k, st_i, true_and, and_true, Classical.not_not, pp_gI0, pp_gI1, pp_gI2, pp_gI3, pp_gI13, pp_gI15, pp_pI0, pp_pI1, pp_pI2, pp_pI3, pp_pI13, pp_pI15, pp_gR4, pp_gR5, pp_gR6, pp_gR7, pp_gR8, pp_gR9, pp_gR10, pp_gR11, pp_gR12, pp_gR14, pp_isO]
  refine (put_p9 hl (by omega) (by omega)).cl0 (by decide) ?_
  simp (disch := omega) only [true_implies, false_implies, not_true_eq_false, not_false_eq_true, I_n, I_neg, I_add, I_sub, I_mul, I_le4, I_lt4, I_eq4, I_div4, I_bi0, I_bi01, I_bi1, nor_em, rI_of, rV_of, zI_of, zV_of, nz_and, br_T, br_F, br_T2, br_F2, st_eq, st9_0, st_k, st_i, true_and, and_true, Classical.not_not, pp_gI0, pp_gI1, pp_gI2, pp_gI3, pp_gI13, pp_gI15, pp_pI0, pp_pI1, pp_pI2, pp_pI3, pp_pI13, pp_pI15, pp_gR4, pp_gR5, pp_gR6, pp_gR7, pp_gR8, pp_gR9, pp_gR10, pp_gR11, pp_gR12, pp_gR14, pp_isO]
  refine (put_p9 hl (by omega) (by omega)).cl0 (by decide) ?_
  simp (disch := omega) only [true_implies, false_implies, not_true_eq_false, not_false_eq_true, I_n, I_neg, I_add, I_sub, I_mul, I_le4, I_lt4, I_eq4, I_div4, I_bi0, I_bi01, I_bi1, nor_em, rI_of, rV_of, zI_of, zV_of, nz_and, br_T, br_F, br_T2, br_F2, st_eq, st9_0, st_k, st_i, true_and, and_true, Classical.not_not, pp_gI0, pp_gI1, pp_gI2, pp_gI3, pp_gI13, pp_gI15, pp_pI0, pp_pI1, pp_pI2, pp_pI3, pp_pI13, pp_pI15, pp_gR4, pp_gR5, pp_gR6, pp_gR7, pp_gR8, pp_gR9, pp_gR10, pp_gR11, pp_gR12, pp_gR14, pp_isO]
  unfold kAC
  all_goals first | rfl | exact ⟨rfl, rfl⟩
theorem c_X4_takeFlaw (hl : l.stackTraces = false) (ht : B.2 tx = some (ia X 400 (fun k => I (t k)))) (hd : tx ≠ d) (htp : tx < p ∨ p + 10 < tx) (hdp : d < p ∨ p + 10 < d) (hn : 0 ≤ n ∧ n ≤ 400) (hB : ∀ k, 0 ≤ k → k < 400 → 0 ≤ t k ∧ t k ≤ 255) (hz : ZI n z) (h : SP P m) {s : Int} : Fn l X 4 M_X4_takeFlaw [.ref d, .ref p, .int (I s)] (rp (pp X p B P) d tx n z) 0 0 Rv (rp (pp X p B (cFl t n z P s).2) d tx n (cFl t n z P s).1) := by
  have hm := h.2.2.2.1
  have h0 := h.1
  have ht2 : ∀ P, (pp X p B P).2 tx = some (ia X 400 (fun k => I (t k))) := fun P => (pp_out htp).trans ht
  have hf := hz.2.1
  obtain ⟨z1, z2, z3⟩ := cNum_b (t := t) (lo := 0) (hi := P 10 0 - 1) hz (by omega)
  obtain ⟨y1, y2, y3⟩ := cNum_b (t := t) (lo := 1) (hi := 255) z1 (by omega)
  refine Fn.of hl rfl rfl (Nat.le_of_ble_eq_true rfl) (k_X4_takeFlaw_0 ?_)
  unfold cFl
  simp (disch := omega) only [true_implies, false_implies, not_true_eq_false, not_false_eq_true, rR_of, I_n, I_neg, I_add, I_sub, I_mul, I_le4, I_lt4, I_eq4, I_div4, I_bi0, I_bi01, I_bi1, nor_em, rI_of, rV_of, zI_of, zV_of, nz_and, br_T, br_F, br_T2, br_F2, st_eq, st9_0, st_k, st_i, true_and, and_true, Classical.not_not, rp_g1, rp_g2, rp_g3, rp_g4, rp_g5, rp_r0, rp_p2, rp_p3, rp_p4, rp_p5, rp_o]
  refine ⟨fun hc => ?_, fun hc => ?_⟩
  · rw [if_pos hc, rp_pp hdp, pp_gI0, ← rp_pp hdp]
    simp (disch := omega) only [true_implies, false_implies, not_true_eq_false, not_false_eq_true, rR_of, I_n, I_neg, I_add, I_sub, I_mul, I_le4, I_lt4, I_eq4, I_div4, I_bi0, I_bi01, I_bi1, nor_em, rI_of, rV_of, zI_of, zV_of, nz_and, br_T, br_F, br_T2, br_F2, st_eq, st9_0, st_k, st_i, true_and, and_true, Classical.not_not, rp_g1, rp_g2, rp_g3, rp_g4, rp_g5, rp_r0, rp_p2, rp_p3, rp_p4, rp_p5, rp_o]
    refine (c_X4_takeNumber hl (ht2 _) hd hn hB hz.1 (ZI_sm hz) (by omega) (by omega)).cl0 (by decide) ?_
    simp (disch := omega) only [true_implies, false_implies, not_true_eq_false, not_false_eq_true, rR_of, I_n, I_neg, I_add, I_sub, I_mul, I_le4, I_lt4, I_eq4, I_div4, I_bi0, I_bi01, I_bi1, nor_em, rI_of, rV_of, zI_of, zV_of, nz_and, br_T, br_F, br_T2, br_F2, st_eq, st9_0, st_k, st_i, true_and, and_true, Classical.not_not, rp_g1, rp_g2, rp_g3, rp_g4, rp_g5, rp_r0, rp_p2, rp_p3, rp_p4, rp_p5, rp_o]
    refine (c_X4_takeNumber hl (ht2 _) hd hn hB z1.1 (ZI_sm z1) (by omega) (by omega)).cl0 (by decide) ?_
    simp (disch := omega) only [true_implies, false_implies, not_true_eq_false, not_false_eq_true, rR_of, I_n, I_neg, I_add, I_sub, I_mul, I_le4, I_lt4, I_eq4, I_div4, I_bi0, I_bi01, I_bi1, nor_em, rI_of, rV_of, zI_of, zV_of, nz_and, br_T, br_F, br_T2, br_F2, st_eq, st9_0, st_k, st_i, true_and, and_true, Classical.not_not, rp_g1, rp_g2, rp_g3, rp_g4, rp_g5, rp_r0, rp_p2, rp_p3, rp_p4, rp_p5, rp_o]
    rw [rp_pp hdp]
    refine ⟨pp_isO, (c_X3_addFlaw hl h (by omega) (by omega) (by omega)).cl0 (by decide) ?_⟩
    rw [← rp_pp hdp]
    simp (disch := omega) only [true_implies, false_implies, not_true_eq_false, not_false_eq_true, rR_of, I_n, I_neg, I_add, I_sub, I_mul, I_le4, I_lt4, I_eq4, I_div4, I_bi0, I_bi01, I_bi1, nor_em, rI_of, rV_of, zI_of, zV_of, nz_and, br_T, br_F, br_T2, br_F2, st_eq, st9_0, st_k, st_i, true_and, and_true, Classical.not_not, rp_g1, rp_g2, rp_g3, rp_g4, rp_g5, rp_r0, rp_p2, rp_p3, rp_p4, rp_p5, rp_o]
    rw [y3, z3]
    all_goals first | rfl | exact ⟨rfl, rfl⟩
  · rw [if_neg hc]
    refine (c_X4_fail hl (ZI_sm hz)).cl0 (by decide) ?_
    simp (disch := omega) only [true_implies, false_implies, not_true_eq_false, not_false_eq_true, rR_of, I_n, I_neg, I_add, I_sub, I_mul, I_le4, I_lt4, I_eq4, I_div4, I_bi0, I_bi01, I_bi1, nor_em, rI_of, rV_of, zI_of, zV_of, nz_and, br_T, br_F, br_T2, br_F2, st_eq, st9_0, st_k, st_i, true_and, and_true, Classical.not_not, rp_g1, rp_g2, rp_g3, rp_g4, rp_g5, rp_r0, rp_p2, rp_p3, rp_p4, rp_p5, rp_o]
    all_goals first | rfl | exact ⟨rfl, rfl⟩
theorem c_X4_takeBreak (hl : l.stackTraces = false) (ht : B.2 tx = some (ia X 400 (fun k => I (t k)))) (hd : tx ≠ d) (htp : tx < p ∨ p + 10 < tx) (hdp : d < p ∨ p + 10 < d) (hn : 0 ≤ n ∧ n ≤ 400) (hB : ∀ k, 0 ≤ k → k < 400 → 0 ≤ t k ∧ t k ≤ 255) (hz : ZI n z) (h : SP P m) {s : Int} : Fn l X 4 M_X4_takeBreak [.ref d, .ref p, .int (I s)] (rp (pp X p B P) d tx n z) 0 0 Rv (rp (pp X p B (cBr t n z P s).2) d tx n (cBr t n z P s).1) := by
  have h13 := h.2.1
  have ht2 : ∀ P, (pp X p B P).2 tx = some (ia X 400 (fun k => I (t k))) := fun P => (pp_out htp).trans ht
  obtain ⟨z1, z2, z3⟩ := cNum_b (t := t) (lo := 1) (hi := 999) hz (by omega)
  obtain ⟨y1, y2, y3⟩ := cNum_b (t := t) (lo := 0) (hi := 47) z1 (by omega)
  refine Fn.of hl rfl rfl (Nat.le_of_ble_eq_true rfl) (k_X4_takeBreak_0 ?_)
  unfold cBr
  rw [rp_pp hdp, pp_gI13, ← rp_pp hdp]
  simp (disch := omega) only [true_implies, false_implies, not_true_eq_false, not_false_eq_true, rR_of, I_n, I_neg, I_add, I_sub, I_mul, I_le4, I_lt4, I_eq4, I_div4, I_bi0, I_bi01, I_bi1, nor_em, rI_of, rV_of, zI_of, zV_of, nz_and, br_T, br_F, br_T2, br_F2, st_eq, st9_0, st_k, st_i, true_and, and_true, Classical.not_not, rp_g1, rp_g2, rp_g3, rp_g4, rp_g5, rp_r0, rp_p2, rp_p3, rp_p4, rp_p5, rp_o]
  refine ⟨fun hc => ?_, fun hc => ?_⟩
  · rw [if_pos hc]
    refine (c_X4_takeNumber hl (ht2 _) hd hn hB hz.1 (ZI_sm hz) (by omega) (by omega)).cl0 (by decide) ?_
    simp (disch := omega) only [true_implies, false_implies, not_true_eq_false, not_false_eq_true, rR_of, I_n, I_neg, I_add, I_sub, I_mul, I_le4, I_lt4, I_eq4, I_div4, I_bi0, I_bi01, I_bi1, nor_em, rI_of, rV_of, zI_of, zV_of, nz_and, br_T, br_F, br_T2, br_F2, st_eq, st9_0, st_k, st_i, true_and, and_true, Classical.not_not, rp_g1, rp_g2, rp_g3, rp_g4, rp_g5, rp_r0, rp_p2, rp_p3, rp_p4, rp_p5, rp_o]
    refine (c_X4_takeNumber hl (ht2 _) hd hn hB z1.1 (ZI_sm z1) (by omega) (by omega)).cl0 (by decide) ?_
    simp (disch := omega) only [true_implies, false_implies, not_true_eq_false, not_false_eq_true, rR_of, I_n, I_neg, I_add, I_sub, I_mul, I_le4, I_lt4, I_eq4, I_div4, I_bi0, I_bi01, I_bi1, nor_em, rI_of, rV_of, zI_of, zV_of, nz_and, br_T, br_F, br_T2, br_F2, st_eq, st9_0, st_k, st_i, true_and, and_true, Classical.not_not, rp_g1, rp_g2, rp_g3, rp_g4, rp_g5, rp_r0, rp_p2, rp_p3, rp_p4, rp_p5, rp_o]
    refine (c_X4_takeNumber hl (ht2 _) hd hn hB y1.1 (ZI_sm y1) (by omega) (by omega)).cl0 (by decide) ?_
    simp (disch := omega) only [true_implies, false_implies, not_true_eq_false, not_false_eq_true, rR_of, I_n, I_neg, I_add, I_sub, I_mul, I_le4, I_lt4, I_eq4, I_div4, I_bi0, I_bi01, I_bi1, nor_em, rI_of, rV_of, zI_of, zV_of, nz_and, br_T, br_F, br_T2, br_F2, st_eq, st9_0, st_k, st_i, true_and, and_true, Classical.not_not, rp_g1, rp_g2, rp_g3, rp_g4, rp_g5, rp_r0, rp_p2, rp_p3, rp_p4, rp_p5, rp_o]
    rw [rp_pp hdp]
    refine ⟨pp_isO, (c_X3_addBreak hl (by omega)).cl0 (by decide) ?_⟩
    rw [← rp_pp hdp]
    simp (disch := omega) only [true_implies, false_implies, not_true_eq_false, not_false_eq_true, rR_of, I_n, I_neg, I_add, I_sub, I_mul, I_le4, I_lt4, I_eq4, I_div4, I_bi0, I_bi01, I_bi1, nor_em, rI_of, rV_of, zI_of, zV_of, nz_and, br_T, br_F, br_T2, br_F2, st_eq, st9_0, st_k, st_i, true_and, and_true, Classical.not_not, rp_g1, rp_g2, rp_g3, rp_g4, rp_g5, rp_r0, rp_p2, rp_p3, rp_p4, rp_p5, rp_o]
    all_goals first | rfl | exact ⟨rfl, rfl⟩
  · rw [if_neg hc]
    refine (c_X4_fail hl (ZI_sm hz)).cl0 (by decide) ?_
    simp (disch := omega) only [true_implies, false_implies, not_true_eq_false, not_false_eq_true, rR_of, I_n, I_neg, I_add, I_sub, I_mul, I_le4, I_lt4, I_eq4, I_div4, I_bi0, I_bi01, I_bi1, nor_em, rI_of, rV_of, zI_of, zV_of, nz_and, br_T, br_F, br_T2, br_F2, st_eq, st9_0, st_k, st_i, true_and, and_true, Classical.not_not, rp_g1, rp_g2, rp_g3, rp_g4, rp_g5, rp_r0, rp_p2, rp_p3, rp_p4, rp_p5, rp_o]
    all_goals first | rfl | exact ⟨rfl, rfl⟩
theorem c_X4_takeCut (hl : l.stackTraces = false) (ht : B.2 tx = some (ia X 400 (fun k => I (t k)))) (hd : tx ≠ d) (htp : tx < p ∨ p + 10 < tx) (hdp : d < p ∨ p + 10 < d) (hn : 0 ≤ n ∧ n ≤ 400) (hB : ∀ k, 0 ≤ k → k < 400 → 0 ≤ t k ∧ t k ≤ 255) (hz : ZI n z) (h : SP P m) {s : Int} : Fn l X 4 M_X4_takeCut [.ref d, .ref p, .int (I s)] (rp (pp X p B P) d tx n z) 0 0 Rv (rp (pp X p B (cCu t n z P s).2) d tx n (cCu t n z P s).1) := by
  have h15 := h.2.2.1
  have ht2 : ∀ P, (pp X p B P).2 tx = some (ia X 400 (fun k => I (t k))) := fun P => (pp_out htp).trans ht
  obtain ⟨z1, z2, z3⟩ := cNum_b (t := t) (lo := 0) (hi := 1) hz (by omega)
  refine Fn.of hl rfl rfl (Nat.le_of_ble_eq_true rfl) (k_X4_takeCut_0 ?_)
  unfold cCu
  rw [rp_pp hdp, pp_gI15, ← rp_pp hdp]
  simp (disch := omega) only [true_implies, false_implies, not_true_eq_false, not_false_eq_true, rR_of, I_n, I_neg, I_add, I_sub, I_mul, I_le4, I_lt4, I_eq4, I_div4, I_bi0, I_bi01, I_bi1, nor_em, rI_of, rV_of, zI_of, zV_of, nz_and, br_T, br_F, br_T2, br_F2, st_eq, st9_0, st_k, st_i, true_and, and_true, Classical.not_not, rp_g1, rp_g2, rp_g3, rp_g4, rp_g5, rp_r0, rp_p2, rp_p3, rp_p4, rp_p5, rp_o]
  refine ⟨fun hc => ?_, fun hc => ?_⟩
  · rw [if_pos hc]
    refine (c_X4_takeNumber hl (ht2 _) hd hn hB hz.1 (ZI_sm hz) (by omega) (by omega)).cl0 (by decide) ?_
    simp (disch := omega) only [true_implies, false_implies, not_true_eq_false, not_false_eq_true, rR_of, I_n, I_neg, I_add, I_sub, I_mul, I_le4, I_lt4, I_eq4, I_div4, I_bi0, I_bi01, I_bi1, nor_em, rI_of, rV_of, zI_of, zV_of, nz_and, br_T, br_F, br_T2, br_F2, st_eq, st9_0, st_k, st_i, true_and, and_true, Classical.not_not, rp_g1, rp_g2, rp_g3, rp_g4, rp_g5, rp_r0, rp_p2, rp_p3, rp_p4, rp_p5, rp_o]
    refine (c_X4_takeNumber hl (ht2 _) hd hn hB z1.1 (ZI_sm z1) (by omega) (by omega)).cl0 (by decide) ?_
    simp (disch := omega) only [true_implies, false_implies, not_true_eq_false, not_false_eq_true, rR_of, I_n, I_neg, I_add, I_sub, I_mul, I_le4, I_lt4, I_eq4, I_div4, I_bi0, I_bi01, I_bi1, nor_em, rI_of, rV_of, zI_of, zV_of, nz_and, br_T, br_F, br_T2, br_F2, st_eq, st9_0, st_k, st_i, true_and, and_true, Classical.not_not, rp_g1, rp_g2, rp_g3, rp_g4, rp_g5, rp_r0, rp_p2, rp_p3, rp_p4, rp_p5, rp_o]
    rw [rp_pp hdp]
    refine ⟨pp_isO, (c_X3_addCut hl (by omega)).cl0 (by decide) ?_⟩
    rw [← rp_pp hdp]
    simp (disch := omega) only [true_implies, false_implies, not_true_eq_false, not_false_eq_true, rR_of, I_n, I_neg, I_add, I_sub, I_mul, I_le4, I_lt4, I_eq4, I_div4, I_bi0, I_bi01, I_bi1, nor_em, rI_of, rV_of, zI_of, zV_of, nz_and, br_T, br_F, br_T2, br_F2, st_eq, st9_0, st_k, st_i, true_and, and_true, Classical.not_not, rp_g1, rp_g2, rp_g3, rp_g4, rp_g5, rp_r0, rp_p2, rp_p3, rp_p4, rp_p5, rp_o]
    all_goals first | rfl | exact ⟨rfl, rfl⟩
  · rw [if_neg hc]
    refine (c_X4_fail hl (ZI_sm hz)).cl0 (by decide) ?_
    simp (disch := omega) only [true_implies, false_implies, not_true_eq_false, not_false_eq_true, rR_of, I_n, I_neg, I_add, I_sub, I_mul, I_le4, I_lt4, I_eq4, I_div4, I_bi0, I_bi01, I_bi1, nor_em, rI_of, rV_of, zI_of, zV_of, nz_and, br_T, br_F, br_T2, br_F2, st_eq, st9_0, st_k, st_i, true_and, and_true, Classical.not_not, rp_g1, rp_g2, rp_g3, rp_g4, rp_g5, rp_r0, rp_p2, rp_p3, rp_p4, rp_p5, rp_o]
    all_goals first | rfl | exact ⟨rfl, rfl⟩
end CZ
