/-! both readers: breaks, cuts, blame; a whole text -/
theorem SM_break {t : Int → Int} {n M : Int} {z : RZ} {P : Nat → Int → Int} {s : PS} (h : SMP t n z P s M) (hw : s.2.2.2.2.2.1 = 0) (hz : z.1 = s.2.1) (hc : cIs t n 3 z.1 = 1) : SMP t n (cBr t n (cTk t n 3 z) P z.1).1 (cBr t n (cTk t n 3 z) P z.1).2 (fS2 t n s) M := by
  obtain ⟨hS, hP, hR⟩ := h
  obtain ⟨p1, p2, p3, p4⟩ := hR hw
  obtain ⟨g1, g2, g3⟩ := SM_beg (i := 3) (by decide) hS hw hz hc
  have bb := cBr_b (t := t) (s := z.1) g1.1 hP
  have e13 := p1.1.2.2.2.2.1
  have w1 := p4.2.2.1
  obtain ⟨e1, e2⟩ := nx_w (t := t) hS.2.1 hw
  have zf : (cTk t n 3 z).2.1 = z.2.1 := by rw [g2]
  by_cases hf : P 10 13 < 12
  · have eb := beg_no (t := t) (n := n) (many := 11) (most := 12) hw hS.2.1 (by omega)
    have g1' : SM t n (cTk t n 3 z) (fBeg t n s 11 12).2 := by
      rw [eb]
      rw [e1] at g1
      exact g1
    obtain ⟨a1, b1⟩ := SM_lay (to := 44 + 3 * s.1 11) (lo := 1) (hi := 999) (hi' := 999) g1' (by omega) fun _ => rfl
    obtain ⟨a2, b2⟩ := SM_lay (to := 44 + 3 * s.1 11 + 1) (lo := 0) (hi := 47) (hi' := 47) a1 (by omega) fun _ => rfl
    obtain ⟨a3, b3⟩ := SM_lay (to := 44 + 3 * s.1 11 + 2) (lo := 1) (hi := 255) (hi' := 255) a2 (by omega) fun _ => rfl
    obtain ⟨-, -, n1⟩ := cNum_b (t := t) (lo := 1) (hi := 999) g1.1 (by omega)
    obtain ⟨-, -, n2⟩ := cNum_b (t := t) (lo := 0) (hi := 47) a1.1 (by omega)
    obtain ⟨-, -, n3⟩ := cNum_b (t := t) (lo := 1) (hi := 255) a2.1 (by omega)
    have ec : cBr t n (cTk t n 3 z) P z.1 = ((cNum t n (cNum t n (cNum t n (cTk t n 3 z) 1 999).1 0 47).1 1 255).1, kAB P (cNum t n (cTk t n 3 z) 1 999).2 (cNum t n (cNum t n (cTk t n 3 z) 1 999).1 0 47).2 (cNum t n (cNum t n (cNum t n (cTk t n 3 z) 1 999).1 0 47).1 1 255).2) := by
      unfold cBr
      rw [if_pos hf]
    refine ⟨?_, bb.2, fun h4 => ?_⟩
    · rw [ec]
      exact a3
    · have r4 := b3 h4
      have w3 := (lay_w h4).1
      have r3 := b2 w3
      have w2 := (lay_w w3).1
      have r2 := b1 w2
      have er : (fS2 t n s).1 = rs (rs (rs (rs s.1 11 (s.1 11 + 1)) (44 + 3 * s.1 11) (cNum t n (cTk t n 3 z) 1 999).2) (44 + 3 * s.1 11 + 1) (cNum t n (cNum t n (cTk t n 3 z) 1 999).1 0 47).2) (44 + 3 * s.1 11 + 2) (cNum t n (cNum t n (cNum t n (cTk t n 3 z) 1 999).1 0 47).1 1 255).2 := by
        unfold fS2
        rw [r4, r3, r2, eb]
      rw [er, ec]
      refine ⟨PR_AB p1 p4 (by omega), ?_, ?_, ?_⟩
      · show (cNum t n (cNum t n (cNum t n (cTk t n 3 z) 1 999).1 0 47).1 1 255).1.2.1 = _
        rw [n3, n2, n1, zf, rs_ne (by omega), rs_ne (by omega), rs_ne (by omega), rs_ne (by omega), p2]
      · rw [rs_ne (by omega), rs_ne (by omega), rs_ne (by omega), rs_ne (by omega)]
        exact p3
      · obtain ⟨x0, x1, x2, x3⟩ := p4
        have o : ∀ y, y ≠ 11 → y < 44 → rs (rs (rs (rs s.1 11 (s.1 11 + 1)) (44 + 3 * s.1 11) (cNum t n (cTk t n 3 z) 1 999).2) (44 + 3 * s.1 11 + 1) (cNum t n (cNum t n (cTk t n 3 z) 1 999).1 0 47).2) (44 + 3 * s.1 11 + 2) (cNum t n (cNum t n (cNum t n (cTk t n 3 z) 1 999).1 0 47).1 1 255).2 y = s.1 y := fun y a b => by
          rw [rs_ne (by omega), rs_ne (by omega), rs_ne (by omega), rs_ne a]
        have o11 : rs (rs (rs (rs s.1 11 (s.1 11 + 1)) (44 + 3 * s.1 11) (cNum t n (cTk t n 3 z) 1 999).2) (44 + 3 * s.1 11 + 1) (cNum t n (cNum t n (cTk t n 3 z) 1 999).1 0 47).2) (44 + 3 * s.1 11 + 2) (cNum t n (cNum t n (cNum t n (cTk t n 3 z) 1 999).1 0 47).1 1 255).2 11 = s.1 11 + 1 := by
          rw [rs_ne (by omega), rs_ne (by omega), rs_ne (by omega), rs_eq]
        unfold WF
        rw [o 0 (by omega) (by omega), o 10 (by omega) (by omega), o11, o 12 (by omega) (by omega)]
        exact ⟨x0, x1, by omega, x3⟩
  · obtain ⟨b1, b2⟩ := beg_too (t := t) (n := n) (many := 11) (most := 12) hw (by omega)
    have e3 : (fS2 t n s).2 = (fBeg t n s 11 12).2 := by
      have y1 : (fLay t n (fBeg t n s 11 12) (44 + 3 * s.1 11) 1 999).2 = (fBeg t n s 11 12).2 := lay_err b2
      have y2 : (fLay t n (fLay t n (fBeg t n s 11 12) (44 + 3 * s.1 11) 1 999) (44 + 3 * s.1 11 + 1) 0 47).2 = (fBeg t n s 11 12).2 := (lay_err (by rw [y1]; exact b2)).trans y1
      exact (lay_err (by rw [y2]; exact b2)).trans y2
    have ec : cBr t n (cTk t n 3 z) P z.1 = (zFail (cTk t n 3 z) (-4) z.1, P) := by
      unfold cBr
      rw [if_neg hf]
    refine ⟨?_, bb.2, fun h3 => ?_⟩
    · rw [ec, e3, b1]
      exact g3
    · rw [e3] at h3
      exact absurd h3 b2
theorem SM_cut {t : Int → Int} {n M : Int} {z : RZ} {P : Nat → Int → Int} {s : PS} (h : SMP t n z P s M) (hw : s.2.2.2.2.2.1 = 0) (hz : z.1 = s.2.1) (hc : cIs t n 4 z.1 = 1) : SMP t n (cCu t n (cTk t n 4 z) P z.1).1 (cCu t n (cTk t n 4 z) P z.1).2 (fS3 t n s) M := by
  obtain ⟨hS, hP, hR⟩ := h
  obtain ⟨p1, p2, p3, p4⟩ := hR hw
  obtain ⟨g1, g2, g3⟩ := SM_beg (i := 4) (by decide) hS hw hz hc
  have bb := cCu_b (t := t) (s := z.1) g1.1 hP
  have e15 := p1.1.2.2.2.2.2
  have w1 := p4.2.2.2
  obtain ⟨e1, e2⟩ := nx_w (t := t) hS.2.1 hw
  have zf : (cTk t n 4 z).2.1 = z.2.1 := by rw [g2]
  by_cases hf : P 10 15 < 8
  · have eb := beg_no (t := t) (n := n) (many := 12) (most := 8) hw hS.2.1 (by omega)
    have g1' : SM t n (cTk t n 4 z) (fBeg t n s 12 8).2 := by
      rw [eb]
      rw [e1] at g1
      exact g1
    obtain ⟨a1, b1⟩ := SM_lay (to := 80 + 2 * s.1 12) (lo := 0) (hi := 1) (hi' := 1) g1' (by omega) fun _ => rfl
    obtain ⟨a2, b2⟩ := SM_lay (to := 80 + 2 * s.1 12 + 1) (lo := 1) (hi := 999) (hi' := 999) a1 (by omega) fun _ => rfl
    obtain ⟨-, -, n1⟩ := cNum_b (t := t) (lo := 0) (hi := 1) g1.1 (by omega)
    obtain ⟨-, -, n2⟩ := cNum_b (t := t) (lo := 1) (hi := 999) a1.1 (by omega)
    have ec : cCu t n (cTk t n 4 z) P z.1 = ((cNum t n (cNum t n (cTk t n 4 z) 0 1).1 1 999).1, kAC P (cNum t n (cTk t n 4 z) 0 1).2 (cNum t n (cNum t n (cTk t n 4 z) 0 1).1 1 999).2) := by
      unfold cCu
      rw [if_pos hf]
    refine ⟨?_, bb.2, fun h3 => ?_⟩
    · rw [ec]
      exact a2
    · have r3 := b2 h3
      have w2 := (lay_w h3).1
      have r2 := b1 w2
      have er : (fS3 t n s).1 = rs (rs (rs s.1 12 (s.1 12 + 1)) (80 + 2 * s.1 12) (cNum t n (cTk t n 4 z) 0 1).2) (80 + 2 * s.1 12 + 1) (cNum t n (cNum t n (cTk t n 4 z) 0 1).1 1 999).2 := by
        unfold fS3
        rw [r3, r2, eb]
      rw [er, ec]
      refine ⟨PR_AC p1 p4 (by omega), ?_, ?_, ?_⟩
      · show (cNum t n (cNum t n (cTk t n 4 z) 0 1).1 1 999).1.2.1 = _
        rw [n2, n1, zf, rs_ne (by omega), rs_ne (by omega), rs_ne (by omega), p2]
      · rw [rs_ne (by omega), rs_ne (by omega), rs_ne (by omega)]
        exact p3
      · obtain ⟨x0, x1, x2, x3⟩ := p4
        have o : ∀ y, y < 12 → rs (rs (rs s.1 12 (s.1 12 + 1)) (80 + 2 * s.1 12) (cNum t n (cTk t n 4 z) 0 1).2) (80 + 2 * s.1 12 + 1) (cNum t n (cNum t n (cTk t n 4 z) 0 1).1 1 999).2 y = s.1 y := fun y b => by
          rw [rs_ne (by omega), rs_ne (by omega), rs_ne (by omega)]
        have o12 : rs (rs (rs s.1 12 (s.1 12 + 1)) (80 + 2 * s.1 12) (cNum t n (cTk t n 4 z) 0 1).2) (80 + 2 * s.1 12 + 1) (cNum t n (cNum t n (cTk t n 4 z) 0 1).1 1 999).2 12 = s.1 12 + 1 := by
          rw [rs_ne (by omega), rs_ne (by omega), rs_eq]
        unfold WF
        rw [o 0 (by omega), o 10 (by omega), o 11 (by omega), o12]
        exact ⟨x0, x1, x2, by omega⟩
  · obtain ⟨b1, b2⟩ := beg_too (t := t) (n := n) (many := 12) (most := 8) hw (by omega)
    have e3 : (fS3 t n s).2 = (fBeg t n s 12 8).2 := by
      have y1 : (fLay t n (fBeg t n s 12 8) (80 + 2 * s.1 12) 0 1).2 = (fBeg t n s 12 8).2 := lay_err b2
      exact (lay_err (by rw [y1]; exact b2)).trans y1
    have ec : cCu t n (cTk t n 4 z) P z.1 = (zFail (cTk t n 4 z) (-4) z.1, P) := by
      unfold cCu
      rw [if_neg hf]
    refine ⟨?_, bb.2, fun h3 => ?_⟩
    · rw [ec, e3, b1]
      exact g3
    · rw [e3] at h3
      exact absurd h3 b2
theorem SM_blame {t : Int → Int} {n M : Int} {z : RZ} {P : Nat → Int → Int} {s : PS} (h : SMP t n z P s M) (hw : s.2.2.2.2.2.1 = 0) (hz : z.1 = s.2.1) (hc : cIs t n 5 z.1 = 1) : SMP t n (cNum t n (cTk t n 5 z) 1 99).1 (st P 10 1 (cNum t n (cTk t n 5 z) 1 99).2) (fS4 t n s) M := by
  obtain ⟨hS, hP, hR⟩ := h
  obtain ⟨p1, p2, p3, p4⟩ := hR hw
  obtain ⟨g1, g2, g3⟩ := SM_beg (i := 5) (by decide) hS hw hz hc
  have zf : (cTk t n 5 z).2.1 = z.2.1 := by rw [g2]
  have g1' : SM t n (cTk t n 5 z) ((s.1, fMust t n s.2 1) : PS).2 := by
    show SM t n (cTk t n 5 z) (fMust t n s.2 1)
    unfold fMust
    rw [if_neg (by decide)]
    exact g1
  obtain ⟨a1, b1⟩ := SM_lay (to := 4) (lo := 1) (hi := 99) (hi' := 99) g1' (by omega) fun _ => rfl
  obtain ⟨-, -, n1⟩ := cNum_b (t := t) (lo := 1) (hi := 99) g1.1 (by omega)
  refine ⟨a1, SP_1 hP, fun h3 => ?_⟩
  have er : (fS4 t n s).1 = rs s.1 4 (cNum t n (cTk t n 5 z) 1 99).2 := b1 h3
  rw [er]
  refine ⟨PR_bl p1, ?_, ?_, ?_⟩
  · rw [n1, zf, rs_ne (by omega), p2]
  · rw [rs_ne (by omega)]
    exact p3
  · unfold WF
    rw [rs_ne (by omega), rs_ne (by omega), rs_ne (by omega), rs_ne (by omega)]
    exact p4
theorem SM_S0 {t : Int → Int} {n M : Int} {z : RZ} {P : Nat → Int → Int} {s : PS} (h : SMP t n z P s M) (hw : s.2.2.2.2.2.1 = 0) (hz : z.1 = s.2.1) : SMP t n (cS0 t n z P).1 (cS0 t n z P).2 (fS0 t n s) M := by
  obtain ⟨f1, f2, f3⟩ := h.1.2.2.1 hw
  have i2 := (wd_eq (i := 2) (by decide) f3 hw).1
  have i3 := (wd_eq (i := 3) (by decide) f3 hw).1
  have i4 := (wd_eq (i := 4) (by decide) f3 hw).1
  have i5 := (wd_eq (i := 5) (by decide) f3 hw).1
  rw [← hz] at i2 i3 i4 i5
  unfold cS0 fS0
  by_cases h2 : cIs t n 2 z.1 = 1
  · rw [if_pos h2, if_pos (i2.mp h2)]
    exact SM_flaw h hw hz h2
  rw [if_neg h2, if_neg fun x => h2 (i2.mpr x)]
  by_cases h3 : cIs t n 3 z.1 = 1
  · rw [if_pos h3, if_pos (i3.mp h3)]
    exact SM_break h hw hz h3
  rw [if_neg h3, if_neg fun x => h3 (i3.mpr x)]
  by_cases h4 : cIs t n 4 z.1 = 1
  · rw [if_pos h4, if_pos (i4.mp h4)]
    exact SM_cut h hw hz h4
  rw [if_neg h4, if_neg fun x => h4 (i4.mpr x)]
  by_cases h5 : cIs t n 5 z.1 = 1
  · rw [if_pos h5, if_pos (i5.mp h5)]
    exact SM_blame h hw hz h5
  rw [if_neg h5, if_neg fun x => h5 (i5.mpr x)]
  obtain ⟨e1, e2⟩ := fail_w (t := t) (n := n) (c := -2) hw (by decide)
  have sf := SM_fail (c := -2) (s := z.1) h.1 h.1.1 rfl (by omega) fun _ => hz
  rw [e1] at sf
  exact ⟨sf, h.2.1, fun h3 => absurd (e2.symm.trans h3) (by decide)⟩
theorem SM_stm {t : Int → Int} {n M : Int} {z : RZ} {P : Nat → Int → Int} {s : PS} (h : SMP t n z P s M) (hw : s.2.2.2.2.2.1 = 0) (hz : z.1 = s.2.1) : SMP t n (cSt t n z P).1 (cSt t n z P).2 (fStm t n s) M := by
  obtain ⟨a, b, c⟩ := SM_S0 h hw hz
  refine ⟨SM_semi a, b, fun h3 => ?_⟩
  have w0 : (fS0 t n s).2.2.2.2.2.1 = 0 := Classical.byContradiction fun x => by
    have e : (fStm t n s).2 = (fS0 t n s).2 := fEnd_err x
    rw [e] at h3
    exact x h3
  obtain ⟨c1, c2, c3, c4⟩ := c w0
  refine ⟨c1, ?_, c3, c4⟩
  show (cSe t n (cS0 t n z P).1).2.1 = _
  rw [(cSe_b a.1).2]
  exact c2
theorem sk_id {t : Int → Int} {n p : Int} (h : gSee t n p ≠ 32) : sk t n p = p := by
  unfold sk
  cases (n - p).toNat with
  | zero => rfl
  | succ m => exact if_neg h
theorem SM_sk {t : Int → Int} {n : Int} {z : RZ} {q : TK} (h : SM t n z q) : SM t n (sk t n z.1, z.2) q := by
  obtain ⟨a, b, c, d⟩ := h
  obtain ⟨b1, b2, b3⟩ := sk_b (t := t) (n := n) (p := z.1) a.1.2
  have a1 := a.1
  refine ⟨⟨⟨by show 0 ≤ sk t n z.1; omega, b2⟩, a.2⟩, b, fun hw => ?_, d⟩
  obtain ⟨c1, c2, c3⟩ := c hw
  exact ⟨c1, by show sk t n (sk t n z.1) = _; rw [sk_id b3]; exact c2, c3⟩
/-- all statements -/
theorem SM_all {t : Int → Int} {n M : Int} : ∀ (j m : Nat) (z : RZ) (P : Nat → Int → Int) (s : PS), SMP t n z P s M → (s.2.2.2.2.2.1 = 0 → n - s.2.1 ≤ j ∧ n - s.2.1 < m) → SMP t n (cLp t n j (z, P)).1 (cLp t n j (z, P)).2 (fStms t n m s) M := by
  intro j
  induction j with
  | zero =>
    intro m z P s h hj
    have e : fStms t n m s = s := by
      cases m with
      | zero => rfl
      | succ m =>
        refine if_neg fun q => ?_
        obtain ⟨f1, f2, f3⟩ := h.1.2.2.1 q.1
        have := hj q.1
        exact q.2 (f3.2.1 (by omega)).2
    rw [e]
    exact h
  | succ j ih =>
    intro m z P s h hj
    obtain ⟨hS, hP, hR⟩ := id h
    by_cases hw : s.2.2.2.2.2.1 = 0
    · obtain ⟨f1, f2, f3⟩ := hS.2.2.1 hw
      have hjw := hj hw
      have hb := f3.1
      by_cases hlt : s.2.1 < n
      · obtain ⟨m', rfl⟩ : ∃ m', m = m' + 1 := ⟨m - 1, by omega⟩
        have hk : ¬ s.2.2.2.1 = 3 := by
          intro hk
          by_cases hl : 97 ≤ gSee t n s.2.1 ∧ gSee t n s.2.1 ≤ 122
          · have := (f3.2.2.1 hlt hl).2
            omega
          · by_cases hd : 48 ≤ gSee t n s.2.1 ∧ gSee t n s.2.1 ≤ 57
            · have := (f3.2.2.2.1 hlt hd).2.1
              omega
            · have := (f3.2.2.2.2 hlt hl hd).2
              omega
        have e1 : cLp t n (j + 1) (z, P) = cLp t n j (cSt t n (sk t n z.1, z.2) P) := if_pos ⟨f1, by show sk t n z.1 < n; omega⟩
        have e2 : fStms t n (m' + 1) s = fStms t n m' (fStm t n s) := if_pos ⟨hw, hk⟩
        rw [e1, e2]
        have h' : SMP t n (sk t n z.1, z.2) P s M := ⟨SM_sk hS, hP, hR⟩
        have st' := SM_stm h' hw f2
        refine ih m' _ _ (fStm t n s) st' fun hw' => ?_
        have pr := (fStm_w (t := t) hS.2.1 (hR hw).2.2.2).2.2 hw'
        omega
      · have e1 : cLp t n (j + 1) (z, P) = ((sk t n z.1, z.2), P) := if_neg fun q => by
          have : sk t n z.1 < n := q.2
          omega
        have e2 : fStms t n m s = s := by
          cases m with
          | zero => rfl
          | succ m => exact if_neg fun q => q.2 (f3.2.1 (by omega)).2
        rw [e1, e2]
        exact ⟨SM_sk hS, hP, hR⟩
    · obtain ⟨d1, d2⟩ := hS.2.2.2 hw
      have e1 : cLp t n (j + 1) (z, P) = ((sk t n z.1, z.2), P) := if_neg fun q => hw (by rw [← d1]; exact q.1)
      have e2 : fStms t n m s = s := by
        cases m with
        | zero => rfl
        | succ m => exact if_neg fun q => hw q.1
      rw [e1, e2]
      exact ⟨SM_sk hS, hP, hR⟩
