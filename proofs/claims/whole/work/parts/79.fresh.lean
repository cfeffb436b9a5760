/-! a row that was read: what it holds beside its text's numbers -/
def FR (r : Int → Int) : Prop := r 9 = 0 ∧ r 13 = 0 ∧ r 14 = 1 ∧ r 15 = 1 ∧ ∀ p, 0 ≤ p → p < 240 → r (96 + p) = 0
theorem FR.of {r q : Int → Int} (h : FR r) (o : ∀ y, y ≠ 4 → y ≠ 10 → y ≠ 11 → y ≠ 12 → y < 20 ∨ 96 ≤ y → q y = r y) : FR q := by
  obtain ⟨a1, a2, a3, a4, a5⟩ := h
  refine ⟨(o 9 (by omega) (by omega) (by omega) (by omega) (by omega)).trans a1, (o 13 (by omega) (by omega) (by omega) (by omega) (by omega)).trans a2, (o 14 (by omega) (by omega) (by omega) (by omega) (by omega)).trans a3, (o 15 (by omega) (by omega) (by omega) (by omega) (by omega)).trans a4, fun p p0 p1 => (o _ (by omega) (by omega) (by omega) (by omega) (by omega)).trans (a5 p p0 p1)⟩
theorem fStm_o {t : Int → Int} {n : Int} {s : PS} (h : TI n s.2) (w : RW s.1 0) (hz : (fStm t n s).2.2.2.2.2.1 = 0) : ∀ y, y ≠ 4 → y ≠ 10 → y ≠ 11 → y ≠ 12 → y < 20 ∨ 96 ≤ y → (fStm t n s).1 y = s.1 y := by
  have hw := RW_WF w
  obtain ⟨z1, z2, z3, z4⟩ := fS0_w (t := t) h hw
  obtain ⟨x1, x2, x3⟩ := TI_end (t := t) z1
  have hz0 : (fS0 t n s).2.2.2.2.2.1 = 0 := x3 hz
  have c3 := w.2.2.2.1
  have g2 := w.1.2.1
  intro y y4 y10 y11 y12 yy
  show (fS0 t n s).1 y = s.1 y
  revert hz0
  unfold fS0
  by_cases h1 : fWd t 8 s.2 = 0
  · rw [if_neg fun q => q h1]
    by_cases h2 : fWd t 9 s.2 = 0
    · rw [if_neg fun q => q h2]
      by_cases h3 : fWd t 10 s.2 = 0
      · rw [if_neg fun q => q h3]
        by_cases h4 : fWd t 11 s.2 = 0
        · rw [if_neg fun q => q h4]
          exact fun _ => rfl
        · rw [if_pos h4]
          intro hz0
          obtain ⟨a1, a2, a3, a4⟩ := TI_must (t := t) (v := 1) h
          obtain ⟨b1, v, b2, b3, b4, -⟩ := lay_ok (s := (s.1, fMust t n s.2 1)) a1 hz0
          show (fLay t n (s.1, fMust t n s.2 1) 4 1 99).1 y = s.1 y
          rw [b4, rs_ne (by omega)]
      · rw [if_pos h3]
        intro hz0
        obtain ⟨a1, a2, a3⟩ := TI_beg (t := t) (many := 12) (most := 8) h
        obtain ⟨b1, -⟩ := TI_lay (t := t) (s := fBeg t n s 12 8) (to := 80 + 2 * s.1 12) (lo := 0) (hi := 1) a1
        obtain ⟨k1, v2, k2, k3, k4, -⟩ := lay_ok b1 hz0
        obtain ⟨j1, v1, j2, j3, j4, -⟩ := lay_ok a1 k1
        obtain ⟨i1, i2, i3⟩ := beg_ok h j1
        show (fLay t n (fLay t n (fBeg t n s 12 8) (80 + 2 * s.1 12) 0 1) (80 + 2 * s.1 12 + 1) 1 999).1 y = s.1 y
        rw [k4, j4, i3, rs_ne (by omega), rs_ne (by omega), rs_ne (by omega)]
    · rw [if_pos h2]
      intro hz0
      obtain ⟨a1, a2, a3⟩ := TI_beg (t := t) (many := 11) (most := 12) h
      obtain ⟨b1, -⟩ := TI_lay (t := t) (s := fBeg t n s 11 12) (to := 44 + 3 * s.1 11) (lo := 1) (hi := 999) a1
      obtain ⟨d1, -⟩ := TI_lay (t := t) (s := fLay t n (fBeg t n s 11 12) (44 + 3 * s.1 11) 1 999) (to := 44 + 3 * s.1 11 + 1) (lo := 0) (hi := 47) b1
      obtain ⟨l1, v3, l2, l3, l4, -⟩ := lay_ok d1 hz0
      obtain ⟨k1, v2, k2, k3, k4, -⟩ := lay_ok b1 l1
      obtain ⟨j1, v1, j2, j3, j4, -⟩ := lay_ok a1 k1
      obtain ⟨i1, i2, i3⟩ := beg_ok h j1
      show (fLay t n (fLay t n (fLay t n (fBeg t n s 11 12) (44 + 3 * s.1 11) 1 999) (44 + 3 * s.1 11 + 1) 0 47) (44 + 3 * s.1 11 + 2) 1 255).1 y = s.1 y
      rw [l4, k4, j4, i3, rs_ne (by omega), rs_ne (by omega), rs_ne (by omega), rs_ne (by omega)]
  · rw [if_pos h1]
    intro hz0
    obtain ⟨a1, a2, a3⟩ := TI_beg (t := t) (many := 10) (most := 12) h
    obtain ⟨b1, -⟩ := TI_lay (t := t) (s := fBeg t n s 10 12) (to := 20 + 2 * s.1 10) (lo := 0) (hi := (fBeg t n s 10 12).1 0 - 1) a1
    obtain ⟨k1, v2, k2, k3, k4, -⟩ := lay_ok b1 hz0
    obtain ⟨j1, v1, j2, j3, j4, -⟩ := lay_ok a1 k1
    obtain ⟨i1, i2, i3⟩ := beg_ok h j1
    show (fLay t n (fLay t n (fBeg t n s 10 12) (20 + 2 * s.1 10) 0 ((fBeg t n s 10 12).1 0 - 1)) (20 + 2 * s.1 10 + 1) 1 255).1 y = s.1 y
    rw [k4, j4, i3, rs_ne (by omega), rs_ne (by omega), rs_ne (by omega)]
theorem hd_FR {t : Int → Int} {n : Int} {s : PS} (hz : (fHead t n s).2.2.2.2.2.1 = 0) : FR (fHead t n s).1 := by
  have hz : (hd7 t n s.2).2.2.2.2.1 = 0 := hz
  obtain ⟨q, hq⟩ : ∃ q, q = (fHead t n s).1 := ⟨_, rfl⟩
  obtain ⟨vL, hL⟩ : ∃ v, v = fTkV (hd1 t n s.2) 1 240 := ⟨_, rfl⟩
  obtain ⟨vS, hS⟩ : ∃ v, v = fTkV (hd2 t n s.2) 0 999 := ⟨_, rfl⟩
  obtain ⟨vP, hP⟩ : ∃ v, v = fTkV (hd4 t n s.2) 4 48 := ⟨_, rfl⟩
  obtain ⟨vQ, hQ⟩ : ∃ v, v = fTkV (hd5 t n s.2) 1 (fTkV (hd4 t n s.2) 4 48) := ⟨_, rfl⟩
  have eq : q = rs (rs (rs (rs (rs (rs (rs (zer s.1 1664) 0 vL) 1 vS) 4 3) 14 1) 15 1) 2 vP) 3 vQ := by
    rw [hq, hL, hS, hP, hQ]
    unfold fHead
    rw [if_pos hz]
    rfl
  rw [← hq]
  have z : ∀ y, 0 ≤ y → y < 1664 → y ≠ 0 → y ≠ 1 → y ≠ 2 → y ≠ 3 → y ≠ 4 → y ≠ 14 → y ≠ 15 → q y = 0 := fun y y0 y1 h0 h1 h2 h3 h4 h14 h15 => by
    rw [eq, rs_ne h3, rs_ne h2, rs_ne h15, rs_ne h14, rs_ne h4, rs_ne h1, rs_ne h0]
    exact if_pos ⟨y0, y1⟩
  have q14 : q 14 = 1 := by rw [eq, rs_ne (by omega), rs_ne (by omega), rs_ne (by omega), rs_eq]
  have q15 : q 15 = 1 := by rw [eq, rs_ne (by omega), rs_ne (by omega), rs_eq]
  exact ⟨z 9 (by omega) (by omega) (by omega) (by omega) (by omega) (by omega) (by omega) (by omega) (by omega), z 13 (by omega) (by omega) (by omega) (by omega) (by omega) (by omega) (by omega) (by omega) (by omega), q14, q15, fun p p0 p1 => z _ (by omega) (by omega) (by omega) (by omega) (by omega) (by omega) (by omega) (by omega) (by omega)⟩
theorem fStms_FR {t : Int → Int} {n : Int} : ∀ (m : Nat) (s : PS), TI n s.2 → (s.2.2.2.2.2.1 = 0 → RW s.1 0 ∧ FR s.1) → (fStms t n m s).2.2.2.2.2.1 = 0 → FR (fStms t n m s).1 := by
  intro m
  induction m with
  | zero => intro s h w hz; exact (w hz).2
  | succ m ih =>
    intro s h w
    by_cases hc : s.2.2.2.2.2.1 = 0 ∧ ¬ s.2.2.2.1 = 3
    · have e : fStms t n (m + 1) s = fStms t n m (fStm t n s) := if_pos hc
      rw [e]
      obtain ⟨hr, hf⟩ := w hc.1
      obtain ⟨a1, a2, a3⟩ := fStm_w (t := t) h (RW_WF hr)
      exact ih _ a1 (fun hz => ⟨fStm_RW h hr hz, hf.of (fStm_o h hr hz)⟩)
    · have e : fStms t n (m + 1) s = s := if_neg hc
      rw [e]
      exact fun hz => (w hz).2
theorem pLd_FR {S : Nat → Int → Int} {k : Int} (hk : 0 ≤ k) (hz : (pLd S k).2.2.2.2.2.1 = 0) : FR (pLd S k).1 := by
  obtain ⟨a1, a2, a3⟩ := TI_nx (t := S 4) (n := k) (q := (S 9 9, 0, S 9 11, S 9 12, 0, S 9 14)) ⟨by show (0 : Int) ≤ 0; omega, by show (0 : Int) ≤ k; omega⟩ ⟨by show (-4 : Int) ≤ 0; omega, by show (0 : Int) ≤ 0; omega⟩
  obtain ⟨b1, b2⟩ := hd_w (t := S 4) (s := (S 1, nx (S 4) k (S 9 9, 0, S 9 11, S 9 12, 0, S 9 14))) a1 (Or.inr trivial)
  exact fStms_FR 401 _ b1 (fun q => ⟨hd_RW a1 trivial q, hd_FR q⟩) hz
