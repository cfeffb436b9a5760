/-! the reference's reading: the row that it makes is a good one -/
theorem RW_cfg {r q : Int → Int} {e : Int} (w : RW r e) (o : ∀ y, y ≠ 4 → y ≠ 10 → y ≠ 11 → y ≠ 12 → y < 20 ∨ 96 ≤ y → q y = r y) (c2 : 1 ≤ q 4 ∧ q 4 ≤ 99) (c3 : 0 ≤ q 10 ∧ q 10 ≤ 12 ∧ 0 ≤ q 11 ∧ q 11 ≤ 12 ∧ 0 ≤ q 12 ∧ q 12 ≤ 8)
    (f1 : ∀ f, 0 ≤ f → f < q 10 → 0 ≤ q (20 + 2 * f) ∧ q (20 + 2 * f) ≤ 239 ∧ 1 ≤ q (20 + 2 * f + 1) ∧ q (20 + 2 * f + 1) ≤ 255)
    (f2 : ∀ b, 0 ≤ b → b < q 11 → 1 ≤ q (44 + 3 * b) ∧ q (44 + 3 * b) ≤ 999 ∧ 0 ≤ q (44 + 3 * b + 1) ∧ q (44 + 3 * b + 1) ≤ 47 ∧ 1 ≤ q (44 + 3 * b + 2) ∧ q (44 + 3 * b + 2) ≤ 255)
    (f3 : ∀ c, 0 ≤ c → c < q 12 → 0 ≤ q (80 + 2 * c) ∧ q (80 + 2 * c) ≤ 1 ∧ 1 ≤ q (80 + 2 * c + 1) ∧ q (80 + 2 * c + 1) ≤ 999)
    (f10 : ∀ k, 0 ≤ k → k < 1664 → -2147483648 ≤ q k ∧ q k < 2147483648) : RW q e := by
  obtain ⟨g, c1, d2, d3, c4, c5, g1, g2, g3, f4, f5, f6, f7, f8, f9, g10⟩ := w
  refine ⟨?_, ?_, c2, ?_, ?_, ?_, f1, f2, f3, ?_, ?_, ?_, ?_, ?_, f9, f10⟩
  · unfold GW
    rw [o 0 (by omega) (by omega) (by omega) (by omega) (by omega), o 2 (by omega) (by omega) (by omega) (by omega) (by omega), o 3 (by omega) (by omega) (by omega) (by omega) (by omega)]
    exact g
  · rw [o 1 (by omega) (by omega) (by omega) (by omega) (by omega)]
    exact c1
  · rw [o 9 (by omega) (by omega) (by omega) (by omega) (by omega)]
    omega
  · rw [o 13 (by omega) (by omega) (by omega) (by omega) (by omega), o 14 (by omega) (by omega) (by omega) (by omega) (by omega), o 15 (by omega) (by omega) (by omega) (by omega) (by omega)]
    exact c4
  · rw [o 5 (by omega) (by omega) (by omega) (by omega) (by omega), o 6 (by omega) (by omega) (by omega) (by omega) (by omega), o 7 (by omega) (by omega) (by omega) (by omega) (by omega), o 8 (by omega) (by omega) (by omega) (by omega) (by omega), o 16 (by omega) (by omega) (by omega) (by omega) (by omega), o 17 (by omega) (by omega) (by omega) (by omega) (by omega), o 18 (by omega) (by omega) (by omega) (by omega) (by omega), o 19 (by omega) (by omega) (by omega) (by omega) (by omega)]
    exact c5
  · intro p h0 hp
    rw [o _ (by omega) (by omega) (by omega) (by omega) (by omega)]
    exact f4 p h0 hp
  · intro p h0 hp
    rw [o _ (by omega) (by omega) (by omega) (by omega) (by omega)]
    exact f5 p h0 hp
  · intro p h0 hp
    rw [o _ (by omega) (by omega) (by omega) (by omega) (by omega), o _ (by omega) (by omega) (by omega) (by omega) (by omega), o _ (by omega) (by omega) (by omega) (by omega) (by omega)]
    exact f6 p h0 hp
  · intro i i0 hi
    rw [o 9 (by omega) (by omega) (by omega) (by omega) (by omega)] at hi
    rw [o _ (by omega) (by omega) (by omega) (by omega) (by omega), o _ (by omega) (by omega) (by omega) (by omega) (by omega)]
    exact f7 i i0 hi
  · intro i k i0 hi k0 k1
    rw [o _ (by omega) (by omega) (by omega) (by omega) (by omega)]
    exact f8 i k i0 hi k0 k1
theorem rs_32 {r : Int → Int} {a v : Int} (h : ∀ k, 0 ≤ k → k < 1664 → -2147483648 ≤ r k ∧ r k < 2147483648) (hv : -2147483648 ≤ v ∧ v < 2147483648) : ∀ k, 0 ≤ k → k < 1664 → -2147483648 ≤ rs r a v k ∧ rs r a v k < 2147483648 := by
  intro k h0 h1
  unfold rs
  split
  · exact hv
  · exact h k h0 h1
theorem RW_bl {r : Int → Int} {e v : Int} (w : RW r e) (hv : 1 ≤ v ∧ v ≤ 99) : RW (rs r 4 v) e := by
  have c3 := w.2.2.2.1
  have f1 := w.2.2.2.2.2.2.1
  have f2 := w.2.2.2.2.2.2.2.1
  have f3 := w.2.2.2.2.2.2.2.2.1
  have f10 := w.2.2.2.2.2.2.2.2.2.2.2.2.2.2.2
  refine RW_cfg w (fun y h4 _ _ _ _ => rs_ne h4) (by rw [rs_eq]; exact hv) (by rw [rs_ne (by omega), rs_ne (by omega), rs_ne (by omega)]; omega) ?_ ?_ ?_ (rs_32 f10 (by omega))
  · intro f h0 h1
    rw [rs_ne (by omega)] at h1
    rw [rs_ne (by omega), rs_ne (by omega)]
    exact f1 f h0 h1
  · intro f h0 h1
    rw [rs_ne (by omega)] at h1
    rw [rs_ne (by omega), rs_ne (by omega), rs_ne (by omega)]
    exact f2 f h0 h1
  · intro f h0 h1
    rw [rs_ne (by omega)] at h1
    rw [rs_ne (by omega), rs_ne (by omega)]
    exact f3 f h0 h1
theorem RW_fl {r : Int → Int} {e v w' : Int} (w : RW r e) (hm : r 10 ≤ 11) (hv : 0 ≤ v ∧ v ≤ 239) (hw : 1 ≤ w' ∧ w' ≤ 255) : RW (rs (rs (rs r 10 (r 10 + 1)) (20 + 2 * r 10) v) (20 + 2 * r 10 + 1) w') e := by
  have c3 := w.2.2.2.1
  have c2 := w.2.2.1
  have f1 := w.2.2.2.2.2.2.1
  have f2 := w.2.2.2.2.2.2.2.1
  have f3 := w.2.2.2.2.2.2.2.2.1
  have f10 := w.2.2.2.2.2.2.2.2.2.2.2.2.2.2.2
  have o : ∀ y, y ≠ 10 → y ≠ 20 + 2 * r 10 → y ≠ 20 + 2 * r 10 + 1 → rs (rs (rs r 10 (r 10 + 1)) (20 + 2 * r 10) v) (20 + 2 * r 10 + 1) w' y = r y := fun y h1 h2 h3 => by rw [rs_ne h3, rs_ne h2, rs_ne h1]
  have o1 : rs (rs (rs r 10 (r 10 + 1)) (20 + 2 * r 10) v) (20 + 2 * r 10 + 1) w' 10 = r 10 + 1 := by rw [rs_ne (by omega), rs_ne (by omega), rs_eq]
  have o2 : rs (rs (rs r 10 (r 10 + 1)) (20 + 2 * r 10) v) (20 + 2 * r 10 + 1) w' (20 + 2 * r 10) = v := by rw [rs_ne (by omega), rs_eq]
  have o3 : rs (rs (rs r 10 (r 10 + 1)) (20 + 2 * r 10) v) (20 + 2 * r 10 + 1) w' (20 + 2 * r 10 + 1) = w' := by rw [rs_eq]
  refine RW_cfg w (fun y h4 h10 _ _ hy => o y h10 (by omega) (by omega)) (by rw [o 4 (by omega) (by omega) (by omega)]; exact c2) (by rw [o1, o 11 (by omega) (by omega) (by omega), o 12 (by omega) (by omega) (by omega)]; omega) ?_ ?_ ?_ (rs_32 (rs_32 (rs_32 f10 (by omega)) (by omega)) (by omega))
  · intro f h0 h1
    rw [o1] at h1
    by_cases hf : f = r 10
    · subst hf
      rw [o2, o3]
      omega
    · rw [o _ (by omega) (by omega) (by omega), o _ (by omega) (by omega) (by omega)]
      exact f1 f h0 (by omega)
  · intro f h0 h1
    rw [o 11 (by omega) (by omega) (by omega)] at h1
    rw [o _ (by omega) (by omega) (by omega), o _ (by omega) (by omega) (by omega), o _ (by omega) (by omega) (by omega)]
    exact f2 f h0 h1
  · intro f h0 h1
    rw [o 12 (by omega) (by omega) (by omega)] at h1
    rw [o _ (by omega) (by omega) (by omega), o _ (by omega) (by omega) (by omega)]
    exact f3 f h0 h1
theorem RW_cu {r : Int → Int} {e v w' : Int} (w : RW r e) (hm : r 12 ≤ 7) (hv : 0 ≤ v ∧ v ≤ 1) (hw : 1 ≤ w' ∧ w' ≤ 999) : RW (rs (rs (rs r 12 (r 12 + 1)) (80 + 2 * r 12) v) (80 + 2 * r 12 + 1) w') e := by
  have c3 := w.2.2.2.1
  have c2 := w.2.2.1
  have f1 := w.2.2.2.2.2.2.1
  have f2 := w.2.2.2.2.2.2.2.1
  have f3 := w.2.2.2.2.2.2.2.2.1
  have f10 := w.2.2.2.2.2.2.2.2.2.2.2.2.2.2.2
  have o : ∀ y, y ≠ 12 → y ≠ 80 + 2 * r 12 → y ≠ 80 + 2 * r 12 + 1 → rs (rs (rs r 12 (r 12 + 1)) (80 + 2 * r 12) v) (80 + 2 * r 12 + 1) w' y = r y := fun y h1 h2 h3 => by rw [rs_ne h3, rs_ne h2, rs_ne h1]
  have o1 : rs (rs (rs r 12 (r 12 + 1)) (80 + 2 * r 12) v) (80 + 2 * r 12 + 1) w' 12 = r 12 + 1 := by rw [rs_ne (by omega), rs_ne (by omega), rs_eq]
  have o2 : rs (rs (rs r 12 (r 12 + 1)) (80 + 2 * r 12) v) (80 + 2 * r 12 + 1) w' (80 + 2 * r 12) = v := by rw [rs_ne (by omega), rs_eq]
  have o3 : rs (rs (rs r 12 (r 12 + 1)) (80 + 2 * r 12) v) (80 + 2 * r 12 + 1) w' (80 + 2 * r 12 + 1) = w' := by rw [rs_eq]
  refine RW_cfg w (fun y h4 _ _ h12 hy => o y h12 (by omega) (by omega)) (by rw [o 4 (by omega) (by omega) (by omega)]; exact c2) (by rw [o1, o 11 (by omega) (by omega) (by omega), o 10 (by omega) (by omega) (by omega)]; omega) ?_ ?_ ?_ (rs_32 (rs_32 (rs_32 f10 (by omega)) (by omega)) (by omega))
  · intro f h0 h1
    rw [o 10 (by omega) (by omega) (by omega)] at h1
    rw [o _ (by omega) (by omega) (by omega), o _ (by omega) (by omega) (by omega)]
    exact f1 f h0 h1
  · intro f h0 h1
    rw [o 11 (by omega) (by omega) (by omega)] at h1
    rw [o _ (by omega) (by omega) (by omega), o _ (by omega) (by omega) (by omega), o _ (by omega) (by omega) (by omega)]
    exact f2 f h0 h1
  · intro f h0 h1
    rw [o1] at h1
    by_cases hf : f = r 12
    · subst hf
      rw [o2, o3]
      omega
    · rw [o _ (by omega) (by omega) (by omega), o _ (by omega) (by omega) (by omega)]
      exact f3 f h0 (by omega)
theorem RW_br {r : Int → Int} {e v w' x : Int} (w : RW r e) (hm : r 11 ≤ 11) (hv : 1 ≤ v ∧ v ≤ 999) (hw : 0 ≤ w' ∧ w' ≤ 47) (hx : 1 ≤ x ∧ x ≤ 255) : RW (rs (rs (rs (rs r 11 (r 11 + 1)) (44 + 3 * r 11) v) (44 + 3 * r 11 + 1) w') (44 + 3 * r 11 + 2) x) e := by
  have c3 := w.2.2.2.1
  have c2 := w.2.2.1
  have f1 := w.2.2.2.2.2.2.1
  have f2 := w.2.2.2.2.2.2.2.1
  have f3 := w.2.2.2.2.2.2.2.2.1
  have f10 := w.2.2.2.2.2.2.2.2.2.2.2.2.2.2.2
  have o : ∀ y, y ≠ 11 → y ≠ 44 + 3 * r 11 → y ≠ 44 + 3 * r 11 + 1 → y ≠ 44 + 3 * r 11 + 2 → rs (rs (rs (rs r 11 (r 11 + 1)) (44 + 3 * r 11) v) (44 + 3 * r 11 + 1) w') (44 + 3 * r 11 + 2) x y = r y := fun y h1 h2 h3 h4 => by rw [rs_ne h4, rs_ne h3, rs_ne h2, rs_ne h1]
  have o1 : rs (rs (rs (rs r 11 (r 11 + 1)) (44 + 3 * r 11) v) (44 + 3 * r 11 + 1) w') (44 + 3 * r 11 + 2) x 11 = r 11 + 1 := by rw [rs_ne (by omega), rs_ne (by omega), rs_ne (by omega), rs_eq]
  have o2 : rs (rs (rs (rs r 11 (r 11 + 1)) (44 + 3 * r 11) v) (44 + 3 * r 11 + 1) w') (44 + 3 * r 11 + 2) x (44 + 3 * r 11) = v := by rw [rs_ne (by omega), rs_ne (by omega), rs_eq]
  have o3 : rs (rs (rs (rs r 11 (r 11 + 1)) (44 + 3 * r 11) v) (44 + 3 * r 11 + 1) w') (44 + 3 * r 11 + 2) x (44 + 3 * r 11 + 1) = w' := by rw [rs_ne (by omega), rs_eq]
  have o4 : rs (rs (rs (rs r 11 (r 11 + 1)) (44 + 3 * r 11) v) (44 + 3 * r 11 + 1) w') (44 + 3 * r 11 + 2) x (44 + 3 * r 11 + 2) = x := by rw [rs_eq]
  refine RW_cfg w (fun y h4 _ h11 _ hy => o y h11 (by omega) (by omega) (by omega)) (by rw [o 4 (by omega) (by omega) (by omega) (by omega)]; exact c2) (by rw [o1, o 10 (by omega) (by omega) (by omega) (by omega), o 12 (by omega) (by omega) (by omega) (by omega)]; omega) ?_ ?_ ?_ (rs_32 (rs_32 (rs_32 (rs_32 f10 (by omega)) (by omega)) (by omega)) (by omega))
  · intro f h0 h1
    rw [o 10 (by omega) (by omega) (by omega) (by omega)] at h1
    rw [o _ (by omega) (by omega) (by omega) (by omega), o _ (by omega) (by omega) (by omega) (by omega)]
    exact f1 f h0 h1
  · intro f h0 h1
    rw [o1] at h1
    by_cases hf : f = r 11
    · subst hf
      rw [o2, o3, o4]
      omega
    · rw [o _ (by omega) (by omega) (by omega) (by omega), o _ (by omega) (by omega) (by omega) (by omega), o _ (by omega) (by omega) (by omega) (by omega)]
      exact f2 f h0 (by omega)
  · intro f h0 h1
    rw [o 12 (by omega) (by omega) (by omega) (by omega)] at h1
    rw [o _ (by omega) (by omega) (by omega) (by omega), o _ (by omega) (by omega) (by omega) (by omega)]
    exact f3 f h0 h1
theorem RW_WF {r : Int → Int} {e : Int} (w : RW r e) : WF r := by
  have c3 := w.2.2.2.1
  have g := w.1
  exact ⟨⟨g.1, g.2.1⟩, by omega, by omega, by omega⟩
/-- where a statement did not fail: what was laid -/
theorem lay_ok {t : Int → Int} {n : Int} {s : PS} {to lo hi : Int} (h : TI n s.2) (hz : (fLay t n s to lo hi).2.2.2.2.2.1 = 0) : s.2.2.2.2.2.1 = 0 ∧ ∃ v, lo ≤ v ∧ v ≤ hi ∧ (fLay t n s to lo hi).1 = rs s.1 to v ∧ v = s.2.2.2.2.1 := by
  obtain ⟨a1, a2, a3, a4⟩ := TI_tk (t := t) (lo := lo) (hi := hi) h
  have hz2 : (fTk t n s.2 lo hi).2.2.2.2.1 = 0 := hz
  obtain ⟨b1, b2, b3⟩ := a4 hz2
  refine ⟨b1, fTkV s.2 lo hi, b2, b3, ?_, ?_⟩
  · unfold fLay
    rw [if_pos hz2]
  · obtain ⟨y1, y2, y3, y4⟩ := TI_tk1 (lo := lo) (hi := hi) h
    have hz3 : (fTk1 s.2 lo hi).2.2.2.2.1 = 0 := a3.symm.trans hz2
    obtain ⟨p1, -⟩ := y4 hz3
    unfold fTkV
    rw [if_pos hz3, p1]
theorem beg_ok {t : Int → Int} {n : Int} {s : PS} {many most : Int} (h : TI n s.2) (hz : (fBeg t n s many most).2.2.2.2.2.1 = 0) : s.2.2.2.2.2.1 = 0 ∧ ¬ s.1 many = most ∧ (fBeg t n s many most).1 = rs s.1 many (s.1 many + 1) := by
  obtain ⟨a1, a2, a3⟩ := TI_beg (t := t) (many := many) (most := most) h
  obtain ⟨b1, b2, b3⟩ := a3 hz
  refine ⟨b1, b2, ?_⟩
  have hz2 : (fMust t n (fB1 s many most) 1).2.2.2.2.1 = 0 := hz
  unfold fBeg
  rw [if_pos hz2]
theorem fStm_RW {t : Int → Int} {n : Int} {s : PS} (h : TI n s.2) (w : RW s.1 0) (hz : (fStm t n s).2.2.2.2.2.1 = 0) : RW (fStm t n s).1 0 := by
  have hw := RW_WF w
  obtain ⟨z1, z2, z3, z4⟩ := fS0_w (t := t) h hw
  obtain ⟨x1, x2, x3⟩ := TI_end (t := t) z1
  have hz0 : (fS0 t n s).2.2.2.2.2.1 = 0 := x3 hz
  have c3 := w.2.2.2.1
  have g2 := w.1.2.1
  show RW (fS0 t n s).1 0
  revert hz0
  unfold fS0
  by_cases h1 : fWd t 8 s.2 = 0
  · rw [if_neg fun q => q h1]
    by_cases h2 : fWd t 9 s.2 = 0
    · rw [if_neg fun q => q h2]
      by_cases h3 : fWd t 10 s.2 = 0
      · rw [if_neg fun q => q h3]
        by_cases h4 : fWd t 11 s.2 = 0
        · rw [if_neg fun q => q h4]
          exact fun _ => w
        · rw [if_pos h4]
          intro hz0
          obtain ⟨a1, a2, a3, a4⟩ := TI_must (t := t) (v := 1) h
          obtain ⟨b1, v, b2, b3, b4, -⟩ := lay_ok (s := (s.1, fMust t n s.2 1)) a1 hz0
          show RW (fLay t n (s.1, fMust t n s.2 1) 4 1 99).1 0
          rw [b4]
          exact RW_bl w ⟨b2, b3⟩
      · rw [if_pos h3]
        intro hz0
        obtain ⟨a1, a2, a3⟩ := TI_beg (t := t) (many := 12) (most := 8) h
        obtain ⟨b1, -⟩ := TI_lay (t := t) (s := fBeg t n s 12 8) (to := 80 + 2 * s.1 12) (lo := 0) (hi := 1) a1
        obtain ⟨k1, v2, k2, k3, k4, -⟩ := lay_ok b1 hz0
        obtain ⟨j1, v1, j2, j3, j4, -⟩ := lay_ok a1 k1
        obtain ⟨i1, i2, i3⟩ := beg_ok h j1
        show RW (fLay t n (fLay t n (fBeg t n s 12 8) (80 + 2 * s.1 12) 0 1) (80 + 2 * s.1 12 + 1) 1 999).1 0
        rw [k4, j4, i3]
        exact RW_cu w (by omega) ⟨j2, j3⟩ ⟨k2, k3⟩
    · rw [if_pos h2]
      intro hz0
      obtain ⟨a1, a2, a3⟩ := TI_beg (t := t) (many := 11) (most := 12) h
      obtain ⟨b1, -⟩ := TI_lay (t := t) (s := fBeg t n s 11 12) (to := 44 + 3 * s.1 11) (lo := 1) (hi := 999) a1
      obtain ⟨d1, -⟩ := TI_lay (t := t) (s := fLay t n (fBeg t n s 11 12) (44 + 3 * s.1 11) 1 999) (to := 44 + 3 * s.1 11 + 1) (lo := 0) (hi := 47) b1
      obtain ⟨l1, v3, l2, l3, l4, -⟩ := lay_ok d1 hz0
      obtain ⟨k1, v2, k2, k3, k4, -⟩ := lay_ok b1 l1
      obtain ⟨j1, v1, j2, j3, j4, -⟩ := lay_ok a1 k1
      obtain ⟨i1, i2, i3⟩ := beg_ok h j1
      show RW (fLay t n (fLay t n (fLay t n (fBeg t n s 11 12) (44 + 3 * s.1 11) 1 999) (44 + 3 * s.1 11 + 1) 0 47) (44 + 3 * s.1 11 + 2) 1 255).1 0
      rw [l4, k4, j4, i3]
      exact RW_br w (by omega) ⟨j2, j3⟩ ⟨k2, k3⟩ ⟨l2, l3⟩
  · rw [if_pos h1]
    intro hz0
    obtain ⟨a1, a2, a3⟩ := TI_beg (t := t) (many := 10) (most := 12) h
    obtain ⟨d1, d2⟩ := beg_fr (t := t) (many := 10) (most := 12) h hw.2.1
    have d0 := d2 0 (by omega)
    obtain ⟨b1, -⟩ := TI_lay (t := t) (s := fBeg t n s 10 12) (to := 20 + 2 * s.1 10) (lo := 0) (hi := (fBeg t n s 10 12).1 0 - 1) a1
    obtain ⟨k1, v2, k2, k3, k4, -⟩ := lay_ok b1 hz0
    obtain ⟨j1, v1, j2, j3, j4, -⟩ := lay_ok a1 k1
    obtain ⟨i1, i2, i3⟩ := beg_ok h j1
    show RW (fLay t n (fLay t n (fBeg t n s 10 12) (20 + 2 * s.1 10) 0 ((fBeg t n s 10 12).1 0 - 1)) (20 + 2 * s.1 10 + 1) 1 255).1 0
    rw [k4, j4, i3]
    exact RW_fl w (by omega) ⟨j2, by omega⟩ ⟨k2, k3⟩
theorem hd_RW {t : Int → Int} {n : Int} {s : PS} (h : TI n s.2) (h32 : True) (hz : (fHead t n s).2.2.2.2.2.1 = 0) : RW (fHead t n s).1 0 := by
  obtain ⟨a1, a2, a3, a4⟩ := TI_must (t := t) (v := fWd t 6 s.2) h
  obtain ⟨b1, b2, b3, b4⟩ := TI_tk (t := t) (q := hd1 t n s.2) (lo := 1) (hi := 240) a1
  obtain ⟨c1, c2, c3, c4⟩ := TI_tk (t := t) (q := hd2 t n s.2) (lo := 0) (hi := 999) b1
  obtain ⟨d1, d2, d3, d4⟩ := TI_must (t := t) (v := fWd t 7 (hd3 t n s.2)) c1
  obtain ⟨e1, e2, e3, e4⟩ := TI_tk (t := t) (q := hd4 t n s.2) (lo := 4) (hi := 48) d1
  obtain ⟨f1, f2, f3, f4⟩ := TI_tk (t := t) (q := hd5 t n s.2) (lo := 1) (hi := fTkV (hd4 t n s.2) 4 48) e1
  obtain ⟨g1, g2, g3⟩ := TI_end (t := t) (q := hd6 t n s.2) f1
  have hz : (hd7 t n s.2).2.2.2.2.1 = 0 := hz
  have h6 := f4 (g3 hz)
  have h5 := e4 h6.1
  have h4 := d3 h5.1
  have h3 := c4 h4.1
  have h2 := b4 h3.1
  obtain ⟨q, hq⟩ : ∃ q, q = (fHead t n s).1 := ⟨_, rfl⟩
  obtain ⟨vL, hL⟩ : ∃ v, v = fTkV (hd1 t n s.2) 1 240 := ⟨_, rfl⟩
  obtain ⟨vS, hS⟩ : ∃ v, v = fTkV (hd2 t n s.2) 0 999 := ⟨_, rfl⟩
  obtain ⟨vP, hP⟩ : ∃ v, v = fTkV (hd4 t n s.2) 4 48 := ⟨_, rfl⟩
  obtain ⟨vQ, hQ⟩ : ∃ v, v = fTkV (hd5 t n s.2) 1 (fTkV (hd4 t n s.2) 4 48) := ⟨_, rfl⟩
  have eq : q = rs (rs (rs (rs (rs (rs (rs (zer s.1 1664) 0 vL) 1 vS) 4 3) 14 1) 15 1) 2 vP) 3 vQ := by
    rw [hq, hL, hS, hP, hQ]
    unfold fHead
    rw [if_pos hz]
    rfl
  rw [← hL] at h2
  rw [← hS] at h3
  rw [← hP] at h5 h6
  rw [← hP] at hQ
  rw [← hQ] at h6
  rw [← hq]
  have z : ∀ y, 0 ≤ y → y < 1664 → y ≠ 0 → y ≠ 1 → y ≠ 2 → y ≠ 3 → y ≠ 4 → y ≠ 14 → y ≠ 15 → q y = 0 := fun y y0 y1 h0 h1 h2 h3 h4 h14 h15 => by
    rw [eq, rs_ne h3, rs_ne h2, rs_ne h15, rs_ne h14, rs_ne h4, rs_ne h1, rs_ne h0]
    exact if_pos ⟨y0, y1⟩
  have q0 : q 0 = vL := by rw [eq, rs_ne (by omega), rs_ne (by omega), rs_ne (by omega), rs_ne (by omega), rs_ne (by omega), rs_ne (by omega), rs_eq]
  have q1 : q 1 = vS := by rw [eq, rs_ne (by omega), rs_ne (by omega), rs_ne (by omega), rs_ne (by omega), rs_ne (by omega), rs_eq]
  have q2 : q 2 = vP := by rw [eq, rs_ne (by omega), rs_eq]
  have q3 : q 3 = vQ := by rw [eq, rs_eq]
  have q4 : q 4 = 3 := by rw [eq, rs_ne (by omega), rs_ne (by omega), rs_ne (by omega), rs_ne (by omega), rs_eq]
  have q14 : q 14 = 1 := by rw [eq, rs_ne (by omega), rs_ne (by omega), rs_ne (by omega), rs_eq]
  have q15 : q 15 = 1 := by rw [eq, rs_ne (by omega), rs_ne (by omega), rs_eq]
  have zz : ∀ y, 0 ≤ y → y < 1664 → y = 5 ∨ y = 6 ∨ y = 7 ∨ y = 8 ∨ y = 9 ∨ y = 10 ∨ y = 11 ∨ y = 12 ∨ y = 13 ∨ 15 < y → q y = 0 := fun y y0 y1 hy => z y y0 y1 (by omega) (by omega) (by omega) (by omega) (by omega) (by omega) (by omega)
  refine ⟨⟨by omega, by omega, by omega, by omega, by omega, by omega⟩, by omega, by omega, ?_, ?_, ?_, ?_, ?_, ?_, ?_, ?_, ?_, ?_, ?_, by omega, ?_⟩
  · rw [zz 9 (by omega) (by omega) (by omega), zz 10 (by omega) (by omega) (by omega), zz 11 (by omega) (by omega) (by omega), zz 12 (by omega) (by omega) (by omega)]
    decide
  · rw [zz 13 (by omega) (by omega) (by omega), q14, q15]
    decide
  · rw [zz 5 (by omega) (by omega) (by omega), zz 6 (by omega) (by omega) (by omega), zz 7 (by omega) (by omega) (by omega), zz 8 (by omega) (by omega) (by omega), zz 16 (by omega) (by omega) (by omega), zz 17 (by omega) (by omega) (by omega), zz 18 (by omega) (by omega) (by omega), zz 19 (by omega) (by omega) (by omega)]
    decide
  · intro f f0 hf
    rw [zz 10 (by omega) (by omega) (by omega)] at hf
    omega
  · intro f f0 hf
    rw [zz 11 (by omega) (by omega) (by omega)] at hf
    omega
  · intro f f0 hf
    rw [zz 12 (by omega) (by omega) (by omega)] at hf
    omega
  · intro p p0 hp
    rw [zz _ (by omega) (by omega) (by omega)]
    decide
  · intro p p0 hp
    rw [zz _ (by omega) (by omega) (by omega)]
    decide
  · intro p p0 hp
    rw [zz _ (by omega) (by omega) (by omega), zz _ (by omega) (by omega) (by omega), zz _ (by omega) (by omega) (by omega)]
    decide
  · intro i i0 hi
    rw [zz 9 (by omega) (by omega) (by omega)] at hi
    omega
  · intro i k i0 hi k0 k1
    rw [zz _ (by omega) (by omega) (by omega)]
    decide
  · intro k k0 k1
    by_cases hk : k = 5 ∨ k = 6 ∨ k = 7 ∨ k = 8 ∨ k = 9 ∨ k = 10 ∨ k = 11 ∨ k = 12 ∨ k = 13 ∨ 15 < k
    · rw [zz k k0 k1 hk]
      decide
    · have : k = 0 ∨ k = 1 ∨ k = 2 ∨ k = 3 ∨ k = 4 ∨ k = 14 ∨ k = 15 := by omega
      rcases this with rfl | rfl | rfl | rfl | rfl | rfl | rfl
      · omega
      · omega
      · omega
      · omega
      · omega
      · omega
      · omega
