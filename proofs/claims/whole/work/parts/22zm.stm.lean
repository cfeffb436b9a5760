/-! the reference's reading: statements, the head, all of it -/
abbrev PS : Type := (Int → Int) × TK
def WF (r : Int → Int) : Prop := (1 ≤ r 0 ∧ r 0 ≤ 240) ∧ (0 ≤ r 10 ∧ r 10 ≤ 12) ∧ (0 ≤ r 11 ∧ r 11 ≤ 12) ∧ (0 ≤ r 12 ∧ r 12 ≤ 8)
def fB1 (s : PS) (many most : Int) : TK := if s.1 many = most then fFail s.2 (-4) else s.2
def fBeg (t : Int → Int) (n : Int) (s : PS) (many most : Int) : PS := (rs s.1 many (s.1 many + (if (fMust t n (fB1 s many most) 1).2.2.2.2.1 = 0 then 1 else 0)), fMust t n (fB1 s many most) 1)
def fLay (t : Int → Int) (n : Int) (s : PS) (to lo hi : Int) : PS := (if (fTk t n s.2 lo hi).2.2.2.2.1 = 0 then rs s.1 to (fTkV s.2 lo hi) else s.1, fTk t n s.2 lo hi)
def fS1 (t : Int → Int) (n : Int) (s : PS) : PS := fLay t n (fLay t n (fBeg t n s 10 12) (20 + 2 * s.1 10) 0 ((fBeg t n s 10 12).1 0 - 1)) (20 + 2 * s.1 10 + 1) 1 255
def fS2 (t : Int → Int) (n : Int) (s : PS) : PS := fLay t n (fLay t n (fLay t n (fBeg t n s 11 12) (44 + 3 * s.1 11) 1 999) (44 + 3 * s.1 11 + 1) 0 47) (44 + 3 * s.1 11 + 2) 1 255
def fS3 (t : Int → Int) (n : Int) (s : PS) : PS := fLay t n (fLay t n (fBeg t n s 12 8) (80 + 2 * s.1 12) 0 1) (80 + 2 * s.1 12 + 1) 1 999
def fS4 (t : Int → Int) (n : Int) (s : PS) : PS := fLay t n (s.1, fMust t n s.2 1) 4 1 99
def fS0 (t : Int → Int) (n : Int) (s : PS) : PS := if ¬ fWd t 8 s.2 = 0 then fS1 t n s else if ¬ fWd t 9 s.2 = 0 then fS2 t n s else if ¬ fWd t 10 s.2 = 0 then fS3 t n s else if ¬ fWd t 11 s.2 = 0 then fS4 t n s else (s.1, fFail s.2 (-2))
def fStm (t : Int → Int) (n : Int) (s : PS) : PS := ((fS0 t n s).1, fEnd t n (fS0 t n s).2)
def fStms (t : Int → Int) (n : Int) : Nat → PS → PS
  | 0, s => s
  | m + 1, s => if s.2.2.2.2.2.1 = 0 ∧ ¬ s.2.2.2.1 = 3 then fStms t n m (fStm t n s) else s
def hd1 (t : Int → Int) (n : Int) (q : TK) : TK := fMust t n q (fWd t 6 q)
def hd2 (t : Int → Int) (n : Int) (q : TK) : TK := fTk t n (hd1 t n q) 1 240
def hd3 (t : Int → Int) (n : Int) (q : TK) : TK := fTk t n (hd2 t n q) 0 999
def hd4 (t : Int → Int) (n : Int) (q : TK) : TK := fMust t n (hd3 t n q) (fWd t 7 (hd3 t n q))
def hd5 (t : Int → Int) (n : Int) (q : TK) : TK := fTk t n (hd4 t n q) 4 48
def hd6 (t : Int → Int) (n : Int) (q : TK) : TK := fTk t n (hd5 t n q) 1 (fTkV (hd4 t n q) 4 48)
def hd7 (t : Int → Int) (n : Int) (q : TK) : TK := fEnd t n (hd6 t n q)
def fHead (t : Int → Int) (n : Int) (s : PS) : PS := (if (hd7 t n s.2).2.2.2.2.1 = 0 then rs (rs (rBeg2 s.1 (fTkV (hd1 t n s.2) 1 240) (fTkV (hd2 t n s.2) 0 999)) 2 (fTkV (hd4 t n s.2) 4 48)) 3 (fTkV (hd5 t n s.2) 1 (fTkV (hd4 t n s.2) 4 48)) else s.1, hd7 t n s.2)
theorem TI_beg {t : Int → Int} {n : Int} {s : PS} {many most : Int} (h : TI n s.2) : TI n (fBeg t n s many most).2 ∧ s.2.1 ≤ (fBeg t n s many most).2.1 ∧ ((fBeg t n s many most).2.2.2.2.2.1 = 0 → s.2.2.2.2.2.1 = 0 ∧ ¬ s.1 many = most ∧ s.2.2.1 ≤ (fBeg t n s many most).2.1) := by
  have h1 : TI n (fB1 s many most) ∧ (fB1 s many most).1 = s.2.1 ∧ (fB1 s many most).2.1 = s.2.2.1 ∧ ((fB1 s many most).2.2.2.2.1 = 0 → s.2.2.2.2.2.1 = 0 ∧ ¬ s.1 many = most) := by
    unfold fB1
    split
    · obtain ⟨f1, f2⟩ := fFail_1 (q := s.2) (c := -4)
      refine ⟨TI_fail h (by decide), f1, f2, fun hz => ?_⟩
      rw [fFail_w] at hz
      split at hz
      · exact absurd hz (by decide)
      · rename_i h0
        exact absurd hz h0
    · rename_i hm
      exact ⟨h, rfl, rfl, fun hz => ⟨hz, hm⟩⟩
  obtain ⟨b1, b2, b3, b4⟩ := h1
  obtain ⟨c1, c2, c3, c4⟩ := TI_must (t := t) (v := 1) b1
  refine ⟨c1, by rw [← b2]; exact c2, fun hz => ?_⟩
  obtain ⟨d1, d2, d3⟩ := c3 hz
  obtain ⟨e1, e2⟩ := b4 d1
  exact ⟨e1, e2, by rw [← b3]; exact d3⟩
theorem beg_fr {t : Int → Int} {n : Int} {s : PS} {many most : Int} (h : TI n s.2) (hm : 0 ≤ s.1 many ∧ s.1 many ≤ most) : (0 ≤ (fBeg t n s many most).1 many ∧ (fBeg t n s many most).1 many ≤ most) ∧ ∀ y, y ≠ many → (fBeg t n s many most).1 y = s.1 y := by
  obtain ⟨a1, a2, a3⟩ := TI_beg (t := t) (many := many) (most := most) h
  refine ⟨?_, fun y hy => rs_ne hy⟩
  have e : (fBeg t n s many most).1 many = s.1 many + (if (fMust t n (fB1 s many most) 1).2.2.2.2.1 = 0 then 1 else 0) := rs_eq
  rw [e]
  split
  · rename_i hz
    have := (a3 hz).2.1
    omega
  · omega
theorem TI_lay {t : Int → Int} {n : Int} {s : PS} {to lo hi : Int} (h : TI n s.2) : TI n (fLay t n s to lo hi).2 ∧ s.2.1 ≤ (fLay t n s to lo hi).2.1 ∧ ((fLay t n s to lo hi).2.2.2.2.2.1 = 0 → s.2.2.2.2.2.1 = 0) ∧ ∀ y, y ≠ to → (fLay t n s to lo hi).1 y = s.1 y := by
  obtain ⟨a1, a2, a3, a4⟩ := TI_tk (t := t) (lo := lo) (hi := hi) h
  refine ⟨a1, a2, fun hz => (a4 hz).1, fun y hy => ?_⟩
  unfold fLay
  split
  · exact rs_ne hy
  · rfl
theorem WF_of {r q : Int → Int} (w : WF r) (h : ∀ y, y = 0 ∨ y = 10 ∨ y = 11 ∨ y = 12 → q y = r y) : WF q := by
  unfold WF
  rw [h 0 (by omega), h 10 (by omega), h 11 (by omega), h 12 (by omega)]
  exact w
/-- a statement: what it keeps -/
theorem fS0_w {t : Int → Int} {n : Int} {s : PS} (h : TI n s.2) (w : WF s.1) : TI n (fS0 t n s).2 ∧ WF (fS0 t n s).1 ∧ s.2.1 ≤ (fS0 t n s).2.1 ∧ ((fS0 t n s).2.2.2.2.2.1 = 0 → s.2.2.1 ≤ (fS0 t n s).2.1 ∧ s.2.2.2.1 = 0 ∧ s.2.2.2.2.2.1 = 0) := by
  have wk : ∀ i, ¬ fWd t i s.2 = 0 → s.2.2.2.1 = 0 := by
    intro i hi
    unfold fWd at hi
    split at hi
    · split at hi
      · rename_i h2; exact h2
      · exact absurd rfl hi
    · exact absurd rfl hi
  obtain ⟨w0, w10, w11, w12⟩ := w
  unfold fS0
  by_cases h1 : fWd t 8 s.2 = 0
  · rw [if_neg fun q => q h1]
    by_cases h2 : fWd t 9 s.2 = 0
    · rw [if_neg fun q => q h2]
      by_cases h3 : fWd t 10 s.2 = 0
      · rw [if_neg fun q => q h3]
        by_cases h4 : fWd t 11 s.2 = 0
        · rw [if_neg fun q => q h4]
          obtain ⟨f1, f2⟩ := fFail_1 (q := s.2) (c := -2)
          refine ⟨TI_fail h (by decide), ⟨w0, w10, w11, w12⟩, by show _ ≤ (fFail s.2 (-2)).1; rw [f1]; exact Int.le_refl _, fun hz => ?_⟩
          have hz : (fFail s.2 (-2)).2.2.2.2.1 = 0 := hz
          rw [fFail_w] at hz
          split at hz
          · exact absurd hz (by decide)
          · rename_i h0
            exact absurd hz h0
        · rw [if_pos h4]
          obtain ⟨a1, a2, a3, a4⟩ := TI_must (t := t) (v := 1) h
          obtain ⟨b1, b2, b3, b4⟩ := TI_lay (t := t) (s := (s.1, fMust t n s.2 1)) (to := 4) (lo := 1) (hi := 99) a1
          refine ⟨b1, WF_of ⟨w0, w10, w11, w12⟩ fun y hy => b4 y (by omega), Int.le_trans a2 b2, fun hz => ?_⟩
          obtain ⟨c1, c2, c3⟩ := a3 (b3 hz)
          exact ⟨Int.le_trans c3 b2, wk 11 h4, c1⟩
      · rw [if_pos h3]
        obtain ⟨a1, a2, a3⟩ := TI_beg (t := t) (many := 12) (most := 8) h
        obtain ⟨d1, d2⟩ := beg_fr (t := t) (many := 12) (most := 8) h w12
        obtain ⟨b1, b2, b3, b4⟩ := TI_lay (t := t) (s := fBeg t n s 12 8) (to := 80 + 2 * s.1 12) (lo := 0) (hi := 1) a1
        obtain ⟨c1, c2, c3, c4⟩ := TI_lay (t := t) (s := fLay t n (fBeg t n s 12 8) (80 + 2 * s.1 12) 0 1) (to := 80 + 2 * s.1 12 + 1) (lo := 1) (hi := 999) b1
        have wb : WF (fBeg t n s 12 8).1 := by
          unfold WF
          rw [d2 0 (by omega), d2 10 (by omega), d2 11 (by omega)]
          exact ⟨w0, w10, w11, d1⟩
        refine ⟨c1, WF_of wb fun y hy => (c4 y (by omega)).trans (b4 y (by omega)), Int.le_trans a2 (Int.le_trans b2 c2), fun hz => ?_⟩
        obtain ⟨e1, e2, e3⟩ := a3 (b3 (c3 hz))
        exact ⟨Int.le_trans e3 (Int.le_trans b2 c2), wk 10 h3, e1⟩
    · rw [if_pos h2]
      obtain ⟨a1, a2, a3⟩ := TI_beg (t := t) (many := 11) (most := 12) h
      obtain ⟨d1, d2⟩ := beg_fr (t := t) (many := 11) (most := 12) h w11
      obtain ⟨b1, b2, b3, b4⟩ := TI_lay (t := t) (s := fBeg t n s 11 12) (to := 44 + 3 * s.1 11) (lo := 1) (hi := 999) a1
      obtain ⟨c1, c2, c3, c4⟩ := TI_lay (t := t) (s := fLay t n (fBeg t n s 11 12) (44 + 3 * s.1 11) 1 999) (to := 44 + 3 * s.1 11 + 1) (lo := 0) (hi := 47) b1
      obtain ⟨g1, g2, g3, g4⟩ := TI_lay (t := t) (s := fLay t n (fLay t n (fBeg t n s 11 12) (44 + 3 * s.1 11) 1 999) (44 + 3 * s.1 11 + 1) 0 47) (to := 44 + 3 * s.1 11 + 2) (lo := 1) (hi := 255) c1
      have wb : WF (fBeg t n s 11 12).1 := by
        unfold WF
        rw [d2 0 (by omega), d2 10 (by omega), d2 12 (by omega)]
        exact ⟨w0, w10, d1, w12⟩
      refine ⟨g1, WF_of wb fun y hy => (g4 y (by omega)).trans ((c4 y (by omega)).trans (b4 y (by omega))), Int.le_trans a2 (Int.le_trans b2 (Int.le_trans c2 g2)), fun hz => ?_⟩
      obtain ⟨e1, e2, e3⟩ := a3 (b3 (c3 (g3 hz)))
      exact ⟨Int.le_trans e3 (Int.le_trans b2 (Int.le_trans c2 g2)), wk 9 h2, e1⟩
  · rw [if_pos h1]
    obtain ⟨a1, a2, a3⟩ := TI_beg (t := t) (many := 10) (most := 12) h
    obtain ⟨d1, d2⟩ := beg_fr (t := t) (many := 10) (most := 12) h w10
    obtain ⟨b1, b2, b3, b4⟩ := TI_lay (t := t) (s := fBeg t n s 10 12) (to := 20 + 2 * s.1 10) (lo := 0) (hi := (fBeg t n s 10 12).1 0 - 1) a1
    obtain ⟨c1, c2, c3, c4⟩ := TI_lay (t := t) (s := fLay t n (fBeg t n s 10 12) (20 + 2 * s.1 10) 0 ((fBeg t n s 10 12).1 0 - 1)) (to := 20 + 2 * s.1 10 + 1) (lo := 1) (hi := 255) b1
    have wb : WF (fBeg t n s 10 12).1 := by
      unfold WF
      rw [d2 0 (by omega), d2 11 (by omega), d2 12 (by omega)]
      exact ⟨w0, d1, w11, w12⟩
    refine ⟨c1, WF_of wb fun y hy => (c4 y (by omega)).trans (b4 y (by omega)), Int.le_trans a2 (Int.le_trans b2 c2), fun hz => ?_⟩
    obtain ⟨e1, e2, e3⟩ := a3 (b3 (c3 hz))
    exact ⟨Int.le_trans e3 (Int.le_trans b2 c2), wk 8 h1, e1⟩
theorem fStm_w {t : Int → Int} {n : Int} {s : PS} (h : TI n s.2) (w : WF s.1) : TI n (fStm t n s).2 ∧ WF (fStm t n s).1 ∧ ((fStm t n s).2.2.2.2.2.1 = 0 → s.2.1 < (fStm t n s).2.1) := by
  obtain ⟨a1, a2, a3, a4⟩ := fS0_w (t := t) h w
  obtain ⟨b1, b2, b3⟩ := TI_end (t := t) a1
  refine ⟨b1, a2, fun hz => ?_⟩
  obtain ⟨c1, c2, c3⟩ := a4 (b3 hz)
  have := h.2.2.2.2 c2
  have hb2 : (fS0 t n s).2.1 ≤ (fStm t n s).2.1 := b2
  omega
theorem hd_w {t : Int → Int} {n : Int} {s : PS} (h : TI n s.2) (hw : WF s.1 ∨ True) : TI n (fHead t n s).2 ∧ ((fHead t n s).2.2.2.2.2.1 = 0 → WF (fHead t n s).1) := by
  obtain ⟨a1, a2, a3, a4⟩ := TI_must (t := t) (v := fWd t 6 s.2) h
  obtain ⟨b1, b2, b3, b4⟩ := TI_tk (t := t) (q := hd1 t n s.2) (lo := 1) (hi := 240) a1
  obtain ⟨c1, c2, c3, c4⟩ := TI_tk (t := t) (q := hd2 t n s.2) (lo := 0) (hi := 999) b1
  obtain ⟨d1, d2, d3, d4⟩ := TI_must (t := t) (v := fWd t 7 (hd3 t n s.2)) c1
  obtain ⟨e1, e2, e3, e4⟩ := TI_tk (t := t) (q := hd4 t n s.2) (lo := 4) (hi := 48) d1
  obtain ⟨f1, f2, f3, f4⟩ := TI_tk (t := t) (q := hd5 t n s.2) (lo := 1) (hi := fTkV (hd4 t n s.2) 4 48) e1
  obtain ⟨g1, g2, g3⟩ := TI_end (t := t) (q := hd6 t n s.2) f1
  refine ⟨g1, fun hz => ?_⟩
  have hz : (hd7 t n s.2).2.2.2.2.1 = 0 := hz
  have h6 := f4 (g3 hz)
  have h5 := e4 h6.1
  have h4 := d3 h5.1
  have h3 := c4 h4.1
  have h2 := b4 h3.1
  unfold fHead
  rw [if_pos hz]
  have o : ∀ y, y ≠ 2 → y ≠ 3 → rs (rs (rBeg2 s.1 (fTkV (hd1 t n s.2) 1 240) (fTkV (hd2 t n s.2) 0 999)) 2 (fTkV (hd4 t n s.2) 4 48)) 3 (fTkV (hd5 t n s.2) 1 (fTkV (hd4 t n s.2) 4 48)) y = rBeg2 s.1 (fTkV (hd1 t n s.2) 1 240) (fTkV (hd2 t n s.2) 0 999) y := fun y h2 h3 => by rw [rs_ne h3, rs_ne h2]
  have z : ∀ y, 0 ≤ y → y < 1664 → y ≠ 0 → y ≠ 1 → y ≠ 4 → y ≠ 14 → y ≠ 15 → rBeg2 s.1 (fTkV (hd1 t n s.2) 1 240) (fTkV (hd2 t n s.2) 0 999) y = 0 := fun y y0 y1 h0 h1 h4 h14 h15 => by
    unfold rBeg2
    rw [rs_ne h15, rs_ne h14, rs_ne h4, rs_ne h1, rs_ne h0]
    exact if_pos ⟨y0, y1⟩
  have z0 : rBeg2 s.1 (fTkV (hd1 t n s.2) 1 240) (fTkV (hd2 t n s.2) 0 999) 0 = fTkV (hd1 t n s.2) 1 240 := by
    unfold rBeg2
    rw [rs_ne (by omega), rs_ne (by omega), rs_ne (by omega), rs_ne (by omega), rs_eq]
  unfold WF
  show (1 ≤ rs (rs (rBeg2 s.1 (fTkV (hd1 t n s.2) 1 240) (fTkV (hd2 t n s.2) 0 999)) 2 (fTkV (hd4 t n s.2) 4 48)) 3 (fTkV (hd5 t n s.2) 1 (fTkV (hd4 t n s.2) 4 48)) 0 ∧ rs (rs (rBeg2 s.1 (fTkV (hd1 t n s.2) 1 240) (fTkV (hd2 t n s.2) 0 999)) 2 (fTkV (hd4 t n s.2) 4 48)) 3 (fTkV (hd5 t n s.2) 1 (fTkV (hd4 t n s.2) 4 48)) 0 ≤ 240) ∧ _
  simp only []
  rw [o 0 (by omega) (by omega), o 10 (by omega) (by omega), o 11 (by omega) (by omega), o 12 (by omega) (by omega), z 10 (by omega) (by omega) (by omega) (by omega) (by omega) (by omega) (by omega), z 11 (by omega) (by omega) (by omega) (by omega) (by omega) (by omega) (by omega), z 12 (by omega) (by omega) (by omega) (by omega) (by omega) (by omega) (by omega), z0]
  exact ⟨h2.2, by decide, by decide, by decide⟩
