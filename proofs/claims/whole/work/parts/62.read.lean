/-! both readers: a whole text -/
def EZ (z : RZ) : Prop := z.2.2.1 = 0 → z.2.2.2 = -1
theorem EZ_fail {z : RZ} {c w : Int} (h : EZ z) (hc : c ≠ 0) : EZ (zFail z c w) := by
  unfold zFail
  split
  · exact fun x => absurd x hc
  · exact h
theorem EZ_num {t : Int → Int} {n lo hi : Int} {z : RZ} (h : EZ z) : EZ (cNum t n z lo hi).1 := by
  unfold cNum
  simp only []
  split
  · exact EZ_fail h (by decide)
  · split
    · exact EZ_fail h (by decide)
    · exact h
theorem EZ_wd {t : Int → Int} {n : Int} {z : RZ} {i : Nat} (h : EZ z) : EZ (cWd t n i z) := by
  unfold cWd
  split
  · exact h
  · exact EZ_fail h (by decide)
theorem EZ_tk {t : Int → Int} {n : Int} {z : RZ} {i : Nat} (h : EZ z) : EZ (cTk t n i z) := by
  unfold cTk
  split
  · exact h
  · exact h
theorem EZ_se {t : Int → Int} {n : Int} {z : RZ} (h : EZ z) : EZ (cSe t n z) := by
  unfold cSe
  split
  · exact h
  · exact EZ_fail h (by decide)
theorem EZ_fl {t : Int → Int} {n s : Int} {z : RZ} {P : Nat → Int → Int} (h : EZ z) : EZ (cFl t n z P s).1 := by
  unfold cFl
  split
  · exact EZ_num (EZ_num h)
  · exact EZ_fail h (by decide)
theorem EZ_br {t : Int → Int} {n s : Int} {z : RZ} {P : Nat → Int → Int} (h : EZ z) : EZ (cBr t n z P s).1 := by
  unfold cBr
  split
  · exact EZ_num (EZ_num (EZ_num h))
  · exact EZ_fail h (by decide)
theorem EZ_cu {t : Int → Int} {n s : Int} {z : RZ} {P : Nat → Int → Int} (h : EZ z) : EZ (cCu t n z P s).1 := by
  unfold cCu
  split
  · exact EZ_num (EZ_num h)
  · exact EZ_fail h (by decide)
theorem EZ_st {t : Int → Int} {n : Int} {z : RZ} {P : Nat → Int → Int} (h : EZ z) : EZ (cSt t n z P).1 := by
  refine EZ_se ?_
  unfold cS0
  split
  · exact EZ_fl (EZ_tk h)
  · split
    · exact EZ_br (EZ_tk h)
    · split
      · exact EZ_cu (EZ_tk h)
      · split
        · exact EZ_num (EZ_tk h)
        · exact EZ_fail h (by decide)
theorem EZ_lp {t : Int → Int} {n : Int} : ∀ (j : Nat) (z : RZ) (P : Nat → Int → Int), EZ z → EZ (cLp t n j (z, P)).1 := by
  intro j
  induction j with
  | zero => intro z P h; exact h
  | succ j ih =>
    intro z P h
    unfold cLp
    split
    · exact ih _ _ (EZ_st h)
    · exact h
section CX
variable {l : Launch} {X : XT} {A : AH} {d tx : Nat} {n : Int}
/-- readPlan against the reference's reading -/
theorem c_X4_read (hl : l.stackTraces = false) {S : Nat → Int → Int} {t : Int → Int} (ht : A.2 tx = some (ia X 400 (fun k => I (t k)))) (hS4 : t = S 4) (hd : tx ≠ d) (htl : tx < A.1) (hdl : d < A.1) (hn : 0 ≤ n ∧ n ≤ 400) (hB : ∀ k, 0 ≤ k → k < 400 → 0 ≤ t k ∧ t k ≤ 255) :
    Ct l X 6 M_X4_readPlan [.ref d] (rp A d tx n (0, 0, 0, -1)) 11 1451 (fun o' A' => A.1 ≤ A'.1 ∧ (∀ b, b < A.1 → b ≠ d → A'.2 b = A.2 b) ∧ ∃ z : RZ, A'.2 d = some (ob 5 (rfs tx n z)) ∧
      ((pLd S n).2.2.2.2.2.1 = 0 → z.2.2.1 = 0 ∧ z.2.2.2 = -1 ∧ o' = Rq (some A.1) ∧ A'.1 = A.1 + 11 ∧ ∃ P, PlanAt X A' A.1 P ∧ PR P (pLd S n).1) ∧ ((pLd S n).2.2.2.2.2.1 ≠ 0 → z.2.2.1 = (pLd S n).2.2.2.2.2.1 ∧ z.2.2.2 = (pLd S n).2.2.2.2.2.2 ∧ o' = Rq none)) := by
  subst hS4
  obtain ⟨p1, p2, p3⟩ := pLd_w (S := S) (k := n) hn.1
  obtain ⟨q, hq⟩ : ∃ q, q = nx (S 4) n (S 9 9, 0, S 9 11, S 9 12, 0, S 9 14) := ⟨_, rfl⟩
  have hL : pLd S n = fStms (S 4) n 401 (fHead (S 4) n (S 1, q)) := by rw [hq]; rfl
  rw [← hq] at p1
  obtain ⟨x1, x2, x3⟩ := nx_TOK (t := S 4) (n := n) (q := (S 9 9, 0, S 9 11, S 9 12, 0, S 9 14)) ⟨Int.le_refl _, hn.1⟩
  rw [← hq] at x1 x2 x3
  have qw : q.2.2.2.2.1 = 0 := by rw [x3]
  have s0 : SM (S 4) n (0, 0, 0, -1) q := by
    refine ⟨⟨⟨Int.le_refl _, hn.1⟩, ⟨by decide, by decide⟩, by decide⟩, p1, fun _ => ⟨rfl, x2.symm, x1⟩, fun h => absurd qw h⟩
  obtain ⟨h1, h2⟩ := SM_head s0
  have hh2 : (fHead (S 4) n (S 1, q)).2 = hd7 (S 4) n q := rfl
  obtain ⟨b1, b2⟩ := hd_w (t := S 4) (n := n) (s := (S 1, q)) p1 (Or.inr trivial)
  have ez7 : EZ (ch7 (S 4) n (0, 0, 0, -1)) := EZ_se (EZ_num (EZ_num (EZ_wd (EZ_num (EZ_num (EZ_wd fun _ => rfl))))))
  have z7 : (ch7 (S 4) n (0, 0, 0, -1)).2.2.1 = 0 ↔ (hd7 (S 4) n q).2.2.2.2.1 = 0 := by
    refine ⟨fun h => Classical.byContradiction fun x => ?_, fun h => (h1.2.2.1 h).1⟩
    have := (h1.2.2.2 x).1
    omega
  refine (c_X4_readPlan hl ht hd htl hdl hn hB s0.1 (r := (fHead (S 4) n (S 1, q)).1) fun h0 => ?_).mono fun o' A' hR => ?_
  · have hw := z7.mp h0
    obtain ⟨v2, v3, v5, v6⟩ := h2 hw
    have er : (fHead (S 4) n (S 1, q)).1 = rs (rs (rBeg2 (S 1) (fTkV (hd1 (S 4) n q) 1 240) (fTkV (hd2 (S 4) n q) 0 999)) 2 (fTkV (hd4 (S 4) n q) 4 48)) 3 (fTkV (hd5 (S 4) n q) 1 (fTkV (hd4 (S 4) n q) 4 48)) := if_pos hw
    rw [er, v2, v3, v5, v6]
    unfold rBeg2
    have zz : ∀ y, 0 ≤ y → y < 1664 → zer (S 1) 1664 y = 0 := fun y h0 h1 => if_pos ⟨h0, h1⟩
    refine ⟨?_, ?_, ?_, ?_, ?_, ?_, ?_, ?_⟩
    · rw [rs_ne (by omega), rs_ne (by omega), rs_ne (by omega), rs_ne (by omega), rs_ne (by omega), rs_ne (by omega), rs_eq]
    · rw [rs_ne (by omega), rs_ne (by omega), rs_ne (by omega), rs_ne (by omega), rs_ne (by omega), rs_eq]
    · rw [rs_ne (by omega), rs_eq]
    · rw [rs_eq]
    · rw [rs_ne (by omega), rs_ne (by omega), rs_ne (by omega), rs_ne (by omega), rs_eq]
    · rw [rs_ne (by omega), rs_ne (by omega), rs_ne (by omega), rs_ne (by omega), rs_ne (by omega), rs_ne (by omega), rs_ne (by omega), zz _ (by omega) (by omega)]
    · rw [rs_ne (by omega), rs_ne (by omega), rs_ne (by omega), rs_ne (by omega), rs_ne (by omega), rs_ne (by omega), rs_ne (by omega), zz _ (by omega) (by omega)]
    · rw [rs_ne (by omega), rs_ne (by omega), rs_ne (by omega), rs_ne (by omega), rs_ne (by omega), rs_ne (by omega), rs_ne (by omega), zz _ (by omega) (by omega)]
  · rcases hR with ⟨r1, r2, rfl⟩ | ⟨r1, P0, r2, r3, r4, r5, r6, r7⟩
    · have hw : (hd7 (S 4) n q).2.2.2.2.1 ≠ 0 := fun x => r1 (z7.mpr x)
      have e : pLd S n = fHead (S 4) n (S 1, q) := by
        rw [hL]
        exact if_neg fun x => hw x.1
      obtain ⟨d1, d2⟩ := h1.2.2.2 hw
      rw [e, hh2]
      exact ⟨Nat.le_refl _, fun b _ hb => rp_b hb, _, rp_q, fun x => absurd x hw, fun _ => ⟨d1, d2, r2⟩⟩
    · have hw := z7.mp r1
      have hWF := b2 hw
      have g0 := hWF.1
      have sp : SP P0 ((fHead (S 4) n (S 1, q)).1 0) := by
        obtain ⟨y0, y1, y2, y3, y4, y5⟩ := r2.1
        obtain ⟨u0, u1, u2, u3⟩ := hWF
        refine ⟨y0, by omega, by omega, by omega, fun x x0 x1 => ?_⟩
        rw [(r2.2.1 x x0 x1).2]
        exact gB_b
      have f0 : (ch7 (S 4) n (0, 0, 0, -1)).2.1 = (fHead (S 4) n (S 1, q)).1 10 := by
        obtain ⟨i1, ⟨i2, -⟩, ⟨i3, -⟩, i4, ⟨i5, j5⟩, ⟨i6, -⟩, i7⟩ := ch_b (t := S 4) s0.1
        have k7 : (ch7 (S 4) n (0, 0, 0, -1)).2.1 = (ch6 (S 4) n (0, 0, 0, -1)).1.2.1 := (cSe_b i6).2
        have k6 : (ch6 (S 4) n (0, 0, 0, -1)).1.2.1 = (ch5 (S 4) n (0, 0, 0, -1)).1.2.1 := (cNum_b i5 (by omega)).2.2
        have k5 : (ch5 (S 4) n (0, 0, 0, -1)).1.2.1 = (ch4 (S 4) n (0, 0, 0, -1)).2.1 := (cNum_b i4 (by decide)).2.2
        have k4 : (ch4 (S 4) n (0, 0, 0, -1)).2.1 = (ch3 (S 4) n (0, 0, 0, -1)).1.2.1 := (cWd_b (by decide) i3).2
        have k3 : (ch3 (S 4) n (0, 0, 0, -1)).1.2.1 = (ch2 (S 4) n (0, 0, 0, -1)).1.2.1 := (cNum_b i2 (by decide)).2.2
        have k2 : (ch2 (S 4) n (0, 0, 0, -1)).1.2.1 = (ch1 (S 4) n (0, 0, 0, -1)).2.1 := (cNum_b i1 (by decide)).2.2
        have k1 : (ch1 (S 4) n (0, 0, 0, -1)).2.1 = 0 := (cWd_b (t := S 4) (i := 0) (by decide) s0.1).2
        have er : (fHead (S 4) n (S 1, q)).1 = rs (rs (rBeg2 (S 1) (fTkV (hd1 (S 4) n q) 1 240) (fTkV (hd2 (S 4) n q) 0 999)) 2 (fTkV (hd4 (S 4) n q) 4 48)) 3 (fTkV (hd5 (S 4) n q) 1 (fTkV (hd4 (S 4) n q) 4 48)) := if_pos hw
        rw [k7, k6, k5, k4, k3, k2, k1, er]
        unfold rBeg2
        rw [rs_ne (by omega), rs_ne (by omega), rs_ne (by omega), rs_ne (by omega), rs_ne (by omega), rs_ne (by omega), rs_ne (by omega)]
        exact (if_pos ⟨by omega, by omega⟩ : zer (S 1) 1664 10 = 0).symm
      have smp : SMP (S 4) n (ch7 (S 4) n (0, 0, 0, -1)) P0 (fHead (S 4) n (S 1, q)) ((fHead (S 4) n (S 1, q)).1 0) := ⟨h1, sp, fun _ => ⟨r2, f0, rfl, hWF⟩⟩
      have q7 := h1.2.1.1
      obtain ⟨a1, a2, a3⟩ := SM_all n.toNat 401 _ _ _ smp fun _ => by
        rw [hh2]
        omega
      rw [← hL] at a1 a3
      have ez := EZ_lp (t := S 4) (n := n) n.toNat (ch7 (S 4) n (0, 0, 0, -1)) P0 ez7
      refine ⟨by omega, r7, _, r6, fun hw2 => ?_, fun hw2 => ?_⟩
      · obtain ⟨c1, -, -⟩ := a1.2.2.1 hw2
        rw [if_pos c1] at r3
        exact ⟨c1, ez c1, r3, r4, _, r5, (a3 hw2).1⟩
      · obtain ⟨c1, c2⟩ := a1.2.2.2 hw2
        rw [if_neg (by rw [c1]; exact hw2)] at r3
        exact ⟨c1, c2, r3⟩
end CX
