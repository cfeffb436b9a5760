/-! both readers: statements -/
def SMP (t : Int → Int) (n : Int) (z : RZ) (P : Nat → Int → Int) (s : PS) (M : Int) : Prop := SM t n z s.2 ∧ SP P M ∧ (s.2.2.2.2.2.1 = 0 → PR P s.1 ∧ z.2.1 = s.1 10 ∧ M = s.1 0 ∧ WF s.1)
theorem SM_fl {t : Int → Int} {n : Int} {z : RZ} {q : TK} {f : Int} (h : SM t n z q) (hf : 0 ≤ f ∧ f ≤ 12) : SM t n (z.1, f, z.2.2) q := ⟨⟨h.1.1, hf, h.1.2.2⟩, h.2.1, h.2.2⟩
theorem fail_w {t : Int → Int} {n c : Int} {q : TK} (h : q.2.2.2.2.1 = 0) (hc : c ≠ 0) : fNx t n (fFail q c) = fFail q c ∧ (fFail q c).2.2.2.2.1 = c := by
  have tw := fFail_w (q := q) (c := c)
  rw [if_pos h] at tw
  exact ⟨if_neg (by rw [tw]; exact hc), tw⟩
theorem nx_w {t : Int → Int} {n : Int} {q : TK} (b : TI n q) (h : q.2.2.2.2.1 = 0) : fNx t n q = nx t n q ∧ (nx t n q).2.2.2.2.1 = 0 := by
  have hb := b.1
  obtain ⟨-, -, x3⟩ := nx_TOK (t := t) (n := n) (q := q) (by omega)
  exact ⟨if_pos h, by rw [x3]; exact h⟩
/-- a statement's beginning: the word, and whether there are too many -/
theorem SM_beg {t : Int → Int} {n : Int} {z : RZ} {s : PS} {i : Nat} (hi : i < 6) (h : SM t n z s.2) (hw : s.2.2.2.2.2.1 = 0) (hz : z.1 = s.2.1) (hc : cIs t n i z.1 = 1) : SM t n (cTk t n i z) (fNx t n s.2) ∧ (cTk t n i z).2 = z.2 ∧ SM t n (zFail (cTk t n i z) (-4) z.1) (fNx t n (fFail s.2 (-4))) := by
  obtain ⟨a, b, cc, d⟩ := id h
  obtain ⟨f1, f2, f3⟩ := cc hw
  obtain ⟨y1, y2⟩ := cTk_b (t := t) (i := i) (by omega) a
  have w2 := (wd_eq hi f3 hw).2
  rw [← hz] at w2
  have e : cTk t n i z = (z.1 + tL i, z.2) := if_pos hc
  refine ⟨SM_nx h y1 hw ?_ ?_, y2, SM_fail h y1 (by rw [y2]) (by omega) fun _ => hz⟩
  · rw [e]
    exact (w2 hc).symm
  · rw [y2]
    exact f1
theorem beg_no {t : Int → Int} {n many most : Int} {s : PS} (hw : s.2.2.2.2.2.1 = 0) (b : TI n s.2) (h : s.1 many ≠ most) : fBeg t n s many most = (rs s.1 many (s.1 many + 1), nx t n s.2) := by
  obtain ⟨e1, e2⟩ := nx_w (t := t) b hw
  have e : fMust t n (fB1 s many most) 1 = nx t n s.2 := by
    unfold fMust fB1
    rw [if_neg h, if_neg (by decide), e1]
  unfold fBeg
  rw [e, if_pos e2]
theorem beg_too {t : Int → Int} {n many most : Int} {s : PS} (hw : s.2.2.2.2.2.1 = 0) (h : s.1 many = most) : (fBeg t n s many most).2 = fNx t n (fFail s.2 (-4)) ∧ (fBeg t n s many most).2.2.2.2.2.1 ≠ 0 := by
  obtain ⟨e1, e2⟩ := fail_w (t := t) (n := n) (c := -4) hw (by decide)
  have e : (fBeg t n s many most).2 = fNx t n (fFail s.2 (-4)) := by
    show fMust t n (fB1 s many most) 1 = _
    unfold fMust fB1
    rw [if_pos h, if_neg (by decide)]
  refine ⟨e, ?_⟩
  rw [e, e1, e2]
  decide
theorem lay_err {t : Int → Int} {n to lo hi : Int} {s : PS} (h : s.2.2.2.2.2.1 ≠ 0) : (fLay t n s to lo hi).2 = s.2 := fTk_err h
theorem lay_w {t : Int → Int} {n to lo hi : Int} {s : PS} (h : (fLay t n s to lo hi).2.2.2.2.2.1 = 0) : s.2.2.2.2.2.1 = 0 ∧ (fLay t n s to lo hi).1 = rs s.1 to (fTkV s.2 lo hi) := by
  refine ⟨Classical.byContradiction fun x => ?_, if_pos h⟩
  rw [lay_err x] at h
  exact x h
/-- one number laid -/
theorem SM_lay {t : Int → Int} {n to lo hi hi' : Int} {z : RZ} {s : PS} (h : SM t n z s.2) (h0 : 0 ≤ lo ∧ lo ≤ hi ∧ hi ≤ 999) (he : s.2.2.2.2.2.1 = 0 → hi' = hi) : SM t n (cNum t n z lo hi).1 (fLay t n s to lo hi').2 ∧ ((fLay t n s to lo hi').2.2.2.2.2.1 = 0 → (fLay t n s to lo hi').1 = rs s.1 to (cNum t n z lo hi).2) := by
  obtain ⟨a, b⟩ := SM_num2 h h0 he
  refine ⟨a, fun hw => ?_⟩
  rw [b hw]
  exact (lay_w hw).2
theorem SM_flaw {t : Int → Int} {n M : Int} {z : RZ} {P : Nat → Int → Int} {s : PS} (h : SMP t n z P s M) (hw : s.2.2.2.2.2.1 = 0) (hz : z.1 = s.2.1) (hc : cIs t n 2 z.1 = 1) : SMP t n (cFl t n (cTk t n 2 z) P z.1).1 (cFl t n (cTk t n 2 z) P z.1).2 (fS1 t n s) M := by
  obtain ⟨hS, hP, hR⟩ := h
  obtain ⟨p1, p2, p3, p4⟩ := hR hw
  obtain ⟨g1, g2, g3⟩ := SM_beg (i := 2) (by decide) hS hw hz hc
  have bb := cFl_b (t := t) (s := z.1) g1.1 hP
  have hM := hP.2.2.2.1
  have hm0 := hP.1
  have w1 := p4.2.1
  obtain ⟨e1, e2⟩ := nx_w (t := t) hS.2.1 hw
  have zf : (cTk t n 2 z).2.1 = z.2.1 := by rw [g2]
  by_cases hf : z.2.1 < 12
  · have eb := beg_no (t := t) (n := n) (many := 10) (most := 12) hw hS.2.1 (by omega)
    have g1' : SM t n (cTk t n 2 z) (fBeg t n s 10 12).2 := by
      rw [eb]
      rw [e1] at g1
      exact g1
    obtain ⟨a1, b1⟩ := SM_lay (to := 20 + 2 * s.1 10) (lo := 0) (hi := P 10 0 - 1) (hi' := (fBeg t n s 10 12).1 0 - 1) g1' (by omega) fun _ => by
      rw [eb]
      show rs s.1 10 (s.1 10 + 1) 0 - 1 = _
      rw [rs_ne (by omega)]
      omega
    obtain ⟨a2, b2⟩ := SM_lay (to := 20 + 2 * s.1 10 + 1) (lo := 1) (hi := 255) (hi' := 255) a1 (by omega) fun _ => rfl
    have ec : cFl t n (cTk t n 2 z) P z.1 = (((cNum t n (cNum t n (cTk t n 2 z) 0 (P 10 0 - 1)).1 1 255).1.1, z.2.1 + 1, (cNum t n (cNum t n (cTk t n 2 z) 0 (P 10 0 - 1)).1 1 255).1.2.2), kAF P (cNum t n (cTk t n 2 z) 0 (P 10 0 - 1)).2 (cNum t n (cNum t n (cTk t n 2 z) 0 (P 10 0 - 1)).1 1 255).2) := by
      unfold cFl
      rw [zf, if_pos hf]
    refine ⟨?_, bb.2, fun h3 => ?_⟩
    · rw [ec]
      exact SM_fl a2 (by omega)
    · have r3 := b2 h3
      have w2 := (lay_w h3).1
      have r2 := b1 w2
      have er : (fS1 t n s).1 = rs (rs (rs s.1 10 (s.1 10 + 1)) (20 + 2 * s.1 10) (cNum t n (cTk t n 2 z) 0 (P 10 0 - 1)).2) (20 + 2 * s.1 10 + 1) (cNum t n (cNum t n (cTk t n 2 z) 0 (P 10 0 - 1)).1 1 255).2 := by
        rw [eb] at r2 r3
        unfold fS1
        rw [eb, r3, r2]
      rw [er, ec]
      refine ⟨PR_AF p1 p4 (by omega), ?_, ?_, ?_⟩
      · show z.2.1 + 1 = _
        rw [rs_ne (by omega), rs_ne (by omega), rs_eq, p2]
      · rw [rs_ne (by omega), rs_ne (by omega), rs_ne (by omega)]
        exact p3
      · obtain ⟨x0, x1, x2, x3⟩ := p4
        unfold WF
        rw [rs_ne (by omega), rs_ne (by omega), rs_ne (by omega), rs_ne (show (10 : Int) ≠ 20 + 2 * s.1 10 + 1 by omega), rs_ne (show (10 : Int) ≠ 20 + 2 * s.1 10 by omega), rs_eq, rs_ne (show (11 : Int) ≠ 20 + 2 * s.1 10 + 1 by omega), rs_ne (show (11 : Int) ≠ 20 + 2 * s.1 10 by omega), rs_ne (show (11 : Int) ≠ 10 by omega), rs_ne (show (12 : Int) ≠ 20 + 2 * s.1 10 + 1 by omega), rs_ne (show (12 : Int) ≠ 20 + 2 * s.1 10 by omega), rs_ne (show (12 : Int) ≠ 10 by omega)]
        exact ⟨x0, by omega, x2, x3⟩
  · obtain ⟨b1, b2⟩ := beg_too (t := t) (n := n) (many := 10) (most := 12) hw (by omega)
    have e3 : (fS1 t n s).2 = (fBeg t n s 10 12).2 := by
      have y1 : (fLay t n (fBeg t n s 10 12) (20 + 2 * s.1 10) 0 ((fBeg t n s 10 12).1 0 - 1)).2 = (fBeg t n s 10 12).2 := lay_err b2
      have y2 : (fS1 t n s).2 = (fLay t n (fBeg t n s 10 12) (20 + 2 * s.1 10) 0 ((fBeg t n s 10 12).1 0 - 1)).2 := lay_err (by rw [y1]; exact b2)
      rw [y2, y1]
    have ec : cFl t n (cTk t n 2 z) P z.1 = (zFail (cTk t n 2 z) (-4) z.1, P) := by
      unfold cFl
      rw [zf, if_neg hf]
    refine ⟨?_, bb.2, fun h3 => ?_⟩
    · rw [ec, e3, b1]
      exact g3
    · rw [e3] at h3
      exact absurd h3 b2
