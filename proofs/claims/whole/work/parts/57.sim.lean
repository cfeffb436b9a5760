/-! both readers: a Reader's state against a token's -/
def TOK (t : Int → Int) (n : Int) (q : TK) : Prop :=
  (0 ≤ q.1 ∧ q.1 ≤ n ∧ gSee t n q.1 ≠ 32) ∧ (n ≤ q.1 → q.2.1 = q.1 ∧ q.2.2.1 = 3) ∧
  (q.1 < n → 97 ≤ gSee t n q.1 ∧ gSee t n q.1 ≤ 122 → q.2.1 = kLe t n (n - q.1).toNat q.1 ∧ q.2.2.1 = 0) ∧
  (q.1 < n → 48 ≤ gSee t n q.1 ∧ gSee t n q.1 ≤ 57 → q.2.1 = (kDi t n (n - q.1).toNat q.1 0).1 ∧ q.2.2.1 = 1 ∧ q.2.2.2.1 = (kDi t n (n - q.1).toNat q.1 0).2) ∧
  (q.1 < n → ¬ (97 ≤ gSee t n q.1 ∧ gSee t n q.1 ≤ 122) → ¬ (48 ≤ gSee t n q.1 ∧ gSee t n q.1 ≤ 57) → q.2.1 = q.1 + 1 ∧ q.2.2.1 = 2)
def SM (t : Int → Int) (n : Int) (z : RZ) (q : TK) : Prop :=
  ZI n z ∧ TI n q ∧ (q.2.2.2.2.1 = 0 → z.2.2.1 = 0 ∧ sk t n z.1 = q.1 ∧ TOK t n q) ∧ (q.2.2.2.2.1 ≠ 0 → z.2.2.1 = q.2.2.2.2.1 ∧ z.2.2.2 = q.2.2.2.2.2)
theorem nx_TOK {t : Int → Int} {n : Int} {q : TK} (hb : 0 ≤ q.2.1 ∧ q.2.1 ≤ n) : TOK t n (nx t n q) ∧ (nx t n q).1 = sk t n q.2.1 ∧ (nx t n q).2.2.2.2 = q.2.2.2.2 := by
  obtain ⟨b1, b2, b3⟩ := sk_b (t := t) (n := n) (p := q.2.1) hb.2
  obtain ⟨s, hs⟩ : ∃ s, s = sk t n q.2.1 := ⟨_, rfl⟩
  have e : nx t n q = (if n ≤ s then (s, s, 3, q.2.2.2) else if 97 ≤ gSee t n s ∧ gSee t n s ≤ 122 then (s, kLe t n (n - s).toNat s, 0, q.2.2.2) else if 48 ≤ gSee t n s ∧ gSee t n s ≤ 57 then (s, (kDi t n (n - s).toNat s 0).1, 1, (kDi t n (n - s).toNat s 0).2, q.2.2.2.2) else (s, s + 1, 2, q.2.2.2)) := by rw [hs]; rfl
  rw [← hs] at b1 b2 b3
  rw [e, ← hs]
  have h0 : 0 ≤ s := by omega
  by_cases h1 : n ≤ s
  · rw [if_pos h1]
    refine ⟨⟨⟨h0, b2, b3⟩, fun _ => ⟨rfl, rfl⟩, fun h => ?_, fun h => ?_, fun h => ?_⟩, rfl, rfl⟩
    · exact absurd h (show ¬ s < n by omega)
    · exact absurd h (show ¬ s < n by omega)
    · exact absurd h (show ¬ s < n by omega)
  rw [if_neg h1]
  by_cases h2 : 97 ≤ gSee t n s ∧ gSee t n s ≤ 122
  · rw [if_pos h2]
    refine ⟨⟨⟨h0, b2, b3⟩, fun h => absurd h h1, fun _ _ => ⟨rfl, rfl⟩, fun _ h => ?_, fun _ h => absurd h2 h⟩, rfl, rfl⟩
    have h' : 48 ≤ gSee t n s ∧ gSee t n s ≤ 57 := h
    omega
  rw [if_neg h2]
  by_cases h3 : 48 ≤ gSee t n s ∧ gSee t n s ≤ 57
  · rw [if_pos h3]
    exact ⟨⟨⟨h0, b2, b3⟩, fun h => absurd h h1, fun _ h => absurd h h2, fun _ _ => ⟨rfl, rfl, rfl⟩, fun _ _ h => absurd h3 h⟩, rfl, rfl⟩
  rw [if_neg h3]
  exact ⟨⟨⟨h0, b2, b3⟩, fun h => absurd h h1, fun _ h => absurd h h2, fun _ h => absurd h h3, fun _ _ _ => ⟨rfl, rfl⟩⟩, rfl, rfl⟩
/-- both go on behind the token -/
theorem SM_nx {t : Int → Int} {n : Int} {z z' : RZ} {q : TK} (h : SM t n z q) (hz : ZI n z') (hw : q.2.2.2.2.1 = 0) (h1 : z'.1 = q.2.1) (he : z'.2.2.1 = 0) : SM t n z' (fNx t n q) := by
  obtain ⟨a, b, c, d⟩ := h
  have hb := b.1
  obtain ⟨x1, x2, x3⟩ := nx_TOK (t := t) (n := n) (q := q) (by omega)
  have e : fNx t n q = nx t n q := if_pos hw
  have ti := (TI_fnx (t := t) b).1
  rw [e] at ti
  rw [e]
  refine ⟨hz, ti, fun _ => ⟨he, ?_, x1⟩, fun hn => ?_⟩
  · rw [h1, x2]
  · rw [x3] at hn
    exact absurd hw hn
theorem SM_fail {t : Int → Int} {n : Int} {z y : RZ} {q : TK} {c s : Int} (h : SM t n z q) (hy : ZI n y) (h2 : y.2.2 = z.2.2) (hc : -4 ≤ c ∧ c < 0) (hs : q.2.2.2.2.1 = 0 → s = q.1) : SM t n (zFail y c s) (fNx t n (fFail q c)) := by
  obtain ⟨a, b, cc, d⟩ := h
  obtain ⟨x1, x2, x3⟩ := ZI_fail (c := c) (w := s) hy (by omega)
  have ti := TI_fail (c := c) b (by omega)
  have tw := fFail_w (q := q) (c := c)
  by_cases hw : q.2.2.2.2.1 = 0
  · rw [if_pos hw] at tw
    have e : fNx t n (fFail q c) = fFail q c := if_neg (by omega)
    rw [e]
    refine ⟨x1, ti, fun h => absurd h (by omega), fun _ => ?_⟩
    have ez : y.2.2.1 = 0 := by rw [h2]; exact (cc hw).1
    have e1 : zFail y c s = (y.1, y.2.1, c, s) := if_pos ez
    have e2 : fFail q c = (q.1, q.2.1, q.2.2.1, q.2.2.2.1, c, q.1) := if_pos hw
    rw [e1, e2]
    exact ⟨rfl, hs hw⟩
  · rw [if_neg hw] at tw
    have e : fNx t n (fFail q c) = fFail q c := if_neg (by omega)
    have e2 : fFail q c = q := if_neg hw
    rw [e, e2]
    obtain ⟨d1, d2⟩ := d hw
    have e1 : zFail y c s = y := if_neg (by rw [h2, d1]; exact hw)
    rw [e1]
    exact ⟨hy, b, fun h => absurd h hw, fun _ => by rw [h2]; exact ⟨d1, d2⟩⟩
/-- an error stays -/
theorem SM_err {t : Int → Int} {n : Int} {z y : RZ} {q : TK} (h : SM t n z q) (hw : q.2.2.2.2.1 ≠ 0) (hy : ZI n y) (h2 : y.2.2 = z.2.2) : SM t n y q := by
  obtain ⟨a, b, cc, d⟩ := h
  exact ⟨hy, b, fun h => absurd h hw, fun _ => by rw [h2]; exact d hw⟩
theorem di_rel {t : Int → Int} {n : Int} : ∀ (m : Nat) (p c v : Int), 0 ≤ v → (v < 10000 ∧ c = v) ∨ (10000 ≤ v ∧ 10000 ≤ c) → (cDi t n m p c).1 = (kDi t n m p v).1 ∧ (((kDi t n m p v).2 < 10000 ∧ (cDi t n m p c).2 = (kDi t n m p v).2) ∨ (10000 ≤ (kDi t n m p v).2 ∧ 10000 ≤ (cDi t n m p c).2)) := by
  intro m
  induction m with
  | zero => intro p c v h0 h; exact ⟨rfl, h⟩
  | succ m ih =>
    intro p c v h0 h
    unfold cDi kDi
    by_cases hd : 48 ≤ gSee t n p ∧ gSee t n p ≤ 57
    · rw [if_pos hd, if_pos hd]
      refine ih (p + 1) _ _ ?_ ?_
      · split <;> omega
      · split <;> split <;> omega
    · rw [if_neg hd, if_neg hd]
      exact ⟨rfl, h⟩
theorem SM_num {t : Int → Int} {n lo hi : Int} {z : RZ} {q : TK} (h : SM t n z q) (h0 : 0 ≤ lo ∧ lo ≤ hi ∧ hi ≤ 999) : SM t n (cNum t n z lo hi).1 (fTk t n q lo hi) ∧ ((fTk t n q lo hi).2.2.2.2.1 = 0 → (cNum t n z lo hi).2 = fTkV q lo hi) := by
  obtain ⟨a, b, cc, d⟩ := id h
  obtain ⟨y1, y2, y3⟩ := cNum_b (t := t) (lo := lo) (hi := hi) a h0.2.1
  obtain ⟨b1, b2, b3⟩ := sk_b (t := t) (n := n) (p := z.1) a.1.2
  have a1 := a.1
  obtain ⟨s, hs⟩ : ∃ s, s = sk t n z.1 := ⟨_, rfl⟩
  rw [← hs] at b1 b2 b3 cc
  obtain ⟨c1, c2, c3, c4⟩ := cDi_b (t := t) (n := n) (n - s).toNat s 0 (by omega) (by omega) (by omega)
  obtain ⟨w, hw⟩ : ∃ w, w = cDi t n (n - s).toNat s 0 := ⟨_, rfl⟩
  have e : cNum t n z lo hi = if w.1 = s then (zFail (w.1, z.2) (-2) s, lo) else if w.2 < lo ∨ hi < w.2 then (zFail (w.1, z.2) (-3) s, lo) else ((w.1, z.2), w.2) := by rw [hw, hs]; rfl
  rw [← hw] at c1 c2 c3 c4
  have hzi : ZI n (w.1, z.2) := ⟨⟨by show 0 ≤ w.1; omega, c2⟩, a.2.1, a.2.2⟩
  by_cases hq : q.2.2.2.2.1 = 0
  · obtain ⟨f1, f2, f3, f4, f5, f6, f7⟩ := cc hq
    by_cases hk : q.2.2.1 = 1
    · -- a number
      have hn : q.1 < n := by
        by_cases hh : n ≤ q.1
        · have := (f4 hh).2
          omega
        · omega
      have hdg : 48 ≤ gSee t n q.1 ∧ gSee t n q.1 ≤ 57 := by
        by_cases hh : 48 ≤ gSee t n q.1 ∧ gSee t n q.1 ≤ 57
        · exact hh
        · by_cases h2 : 97 ≤ gSee t n q.1 ∧ gSee t n q.1 ≤ 122
          · have := (f5 hn h2).2
            omega
          · have := (f7 hn h2 hh).2
            omega
      obtain ⟨g1, g2, g3⟩ := f6 hn hdg
      obtain ⟨r1, r2⟩ := di_rel (t := t) (n := n) (n - s).toNat s 0 0 (by omega) (Or.inl ⟨by omega, rfl⟩)
      rw [← f2] at g1 g3
      rw [← hw, ← g1] at r1
      rw [← hw, ← g3] at r2
      have hne : ¬ w.1 = s := by
        obtain ⟨m, hm⟩ : ∃ m, (n - s).toNat = m + 1 := ⟨(n - s).toNat - 1, by omega⟩
        have e2 : w = cDi t n m (s + 1) (if 100000 < 10 * 0 + gSee t n s - 48 then 100000 else 10 * 0 + gSee t n s - 48) := by
          rw [hw, hm]
          exact if_pos (by rw [f2]; exact hdg)
        have := (cDi_b (t := t) (n := n) m (s + 1) (if 100000 < 10 * 0 + gSee t n s - 48 then 100000 else 10 * 0 + gSee t n s - 48) (by omega) (by rw [f2]; split <;> omega) (by split <;> omega)).1
        rw [← e2] at this
        omega
      rw [if_neg hne] at e
      by_cases hr : lo ≤ q.2.2.2.1 ∧ q.2.2.2.1 ≤ hi
      · have e1 : fTk1 q lo hi = q := (if_pos hq).trans ((if_pos hk).trans (if_pos hr))
        rw [if_neg (by omega)] at e
        unfold fTk fTkV
        rw [e1, e]
        refine ⟨SM_nx h hzi hq r1 f1, fun _ => ?_⟩
        rw [if_pos hq]
        show w.2 = _
        omega
      · have e1 : fTk1 q lo hi = fFail q (-3) := (if_pos hq).trans ((if_pos hk).trans (if_neg hr))
        rw [if_pos (by omega)] at e
        have sf := SM_fail (y := (w.1, z.2)) (c := -3) (s := s) h hzi rfl (by omega) fun _ => f2
        unfold fTk
        rw [e1, e]
        refine ⟨sf, fun hz => ?_⟩
        have tw := fFail_w (q := q) (c := -3)
        rw [if_pos hq] at tw
        have ee : fNx t n (fFail q (-3)) = fFail q (-3) := if_neg (by omega)
        rw [ee] at hz
        omega
    · -- none
      have hw0 : w.1 = s := by
        have hnd : ¬ (48 ≤ gSee t n s ∧ gSee t n s ≤ 57) := by
          intro hd
          have hn : q.1 < n := by
            by_cases hh : n ≤ q.1
            · have : gSee t n s = -1 := if_pos (by omega)
              omega
            · omega
          rw [f2] at hd
          exact hk (f6 hn hd).2.1
        rw [hw]
        cases (n - s).toNat with
        | zero => rfl
        | succ m =>
          unfold cDi
          rw [if_neg hnd]
      rw [if_pos hw0] at e
      have e1 : fTk1 q lo hi = fFail q (-2) := (if_pos hq).trans (if_neg hk)
      have sf := SM_fail (y := (w.1, z.2)) (c := -2) (s := s) h hzi rfl (by omega) fun _ => f2
      unfold fTk
      rw [e1, e]
      refine ⟨sf, fun hz => ?_⟩
      have tw := fFail_w (q := q) (c := -2)
      rw [if_pos hq] at tw
      have ee : fNx t n (fFail q (-2)) = fFail q (-2) := if_neg (by omega)
      rw [ee] at hz
      omega
  · have e1 : fTk1 q lo hi = q := if_neg hq
    have e2 : fTk t n q lo hi = q := by
      unfold fTk
      rw [e1]
      exact if_neg hq
    rw [e2]
    refine ⟨SM_err h hq y1 ?_, fun hz => absurd hz hq⟩
    have ez : ¬ z.2.2.1 = 0 := by rw [(d hq).1]; exact hq
    have ef : ∀ c s', zFail (w.1, z.2) c s' = (w.1, z.2) := fun c s' => if_neg ez
    rw [e]
    split
    · rw [ef]
    · split
      · rw [ef]
      · rfl
theorem SM_semi {t : Int → Int} {n : Int} {z : RZ} {q : TK} (h : SM t n z q) : SM t n (cSe t n z) (fEnd t n q) := by
  obtain ⟨a, b, cc, d⟩ := id h
  obtain ⟨b1, b2, b3⟩ := sk_b (t := t) (n := n) (p := z.1) a.1.2
  have a1 := a.1
  obtain ⟨y1, y2⟩ := cSe_b (t := t) a
  obtain ⟨s, hs⟩ : ∃ s, s = sk t n z.1 := ⟨_, rfl⟩
  have e : cSe t n z = if gSee t n s = 59 then (s + 1, z.2) else zFail (s, z.2) (-2) s := by rw [hs]; rfl
  rw [← hs] at b1 b2 b3 cc
  have hzi : ZI n (s, z.2) := ⟨⟨by show 0 ≤ s; omega, b2⟩, a.2.1, a.2.2⟩
  by_cases hq : q.2.2.2.2.1 = 0
  · obtain ⟨f1, f2, f3, f4, f5, f6, f7⟩ := cc hq
    by_cases hc : gSee t n s = 59
    · have hn : q.1 < n := by
        by_cases hh : n ≤ q.1
        · have : gSee t n s = -1 := if_pos (by omega)
          omega
        · omega
      rw [f2] at hc
      obtain ⟨g1, g2⟩ := f7 hn (by omega) (by omega)
      have ee : fEnd t n q = fNx t n q := by
        unfold fEnd fMust
        rw [if_pos g2, if_pos hc, if_neg (by decide)]
      rw [e, f2, if_pos hc]
      rw [e, f2, if_pos hc] at y1
      rw [ee]
      exact SM_nx h y1 hq g1.symm f1
    · have ee : fEnd t n q = fNx t n (fFail q (-2)) := by
        unfold fEnd fMust
        rw [← f2, if_neg hc, ite_self, if_pos rfl]
      rw [e, if_neg hc, ee]
      exact SM_fail h hzi rfl (by omega) fun _ => f2
  · have e2 : fEnd t n q = q := by
      unfold fEnd fMust
      have e3 : ∀ v : Int, (if v = 0 then fFail q (-2) else q) = q := fun v => by
        split
        · exact if_neg hq
        · rfl
      rw [e3]
      exact if_neg hq
    rw [e2]
    refine SM_err h hq y1 ?_
    have ez : ¬ z.2.2.1 = 0 := by rw [(d hq).1]; exact hq
    rw [e]
    split
    · rfl
    · have ef : zFail (s, z.2) (-2) s = (s, z.2) := if_neg ez
      rw [ef]
