/-! both readers: words -/
theorem kLe_sp {t : Int → Int} {n : Int} : ∀ (m : Nat) (p : Int), p + m = n → (∀ k, p ≤ k → k < kLe t n m p → 97 ≤ gSee t n k ∧ gSee t n k ≤ 122) ∧ ¬ (97 ≤ gSee t n (kLe t n m p) ∧ gSee t n (kLe t n m p) ≤ 122) := by
  intro m
  induction m with
  | zero =>
    intro p h
    refine ⟨fun k k0 k1 => ?_, fun hh => ?_⟩
    · have : k < p := k1
      omega
    · have e : gSee t n p = -1 := if_pos (by omega)
      have hh' : 97 ≤ gSee t n p ∧ gSee t n p ≤ 122 := hh
      omega
  | succ m ih =>
    intro p h
    obtain ⟨i1, i2⟩ := ih (p + 1) (by omega)
    unfold kLe
    split
    · rename_i hl
      refine ⟨fun k k0 k1 => ?_, i2⟩
      by_cases hk : k = p
      · rw [hk]; exact hl
      · exact i1 k (by omega) k1
    · rename_i hl
      exact ⟨fun k k0 k1 => by omega, hl⟩
theorem kLe_is {t : Int → Int} {n p e : Int} (h0 : p ≤ n) (h1 : p ≤ e) (hl : ∀ k, p ≤ k → k < e → 97 ≤ gSee t n k ∧ gSee t n k ≤ 122) (hn : ¬ (97 ≤ gSee t n e ∧ gSee t n e ≤ 122)) : kLe t n (n - p).toNat p = e := by
  obtain ⟨a, b⟩ := kLe_sp (t := t) (n := n) (n - p).toNat p (by omega)
  obtain ⟨c1, c2⟩ := kLe_b (t := t) (n := n) (n - p).toNat p (by omega)
  by_cases h2 : kLe t n (n - p).toNat p < e
  · exact absurd (hl _ c1 h2) b
  · by_cases h3 : e < kLe t n (n - p).toNat p
    · exact absurd (a e h1 h3) hn
    · omega
theorem wdS_sp {t : Int → Int} {n p : Int} {i : Nat} : ∀ (m : Nat) (j : Int), wdS t n p i m j = 1 ↔ ∀ k, j ≤ k → k < j + m → gSee t n (p + k) = tC i k := by
  intro m
  induction m with
  | zero => intro j; exact ⟨fun _ k k0 k1 => by omega, fun _ => rfl⟩
  | succ m ih =>
    intro j
    unfold wdS
    by_cases h : gSee t n (p + j) = tC i j
    · rw [if_pos h, ih (j + 1)]
      refine ⟨fun a k k0 k1 => ?_, fun a k k0 k1 => a k (by omega) (by omega)⟩
      by_cases hk : k = j
      · rw [hk]; exact h
      · exact a k (by omega) (by omega)
    · rw [if_neg h]
      exact ⟨fun a => absurd a (by decide), fun a => absurd (a j (Int.le_refl _) (by omega)) h⟩
theorem wdEq_sp {t : Int → Int} {p : Int} {i : Nat} : ∀ (m : Nat) (j : Int), ¬ wdEq t p i m j = 0 ↔ ∀ k, j ≤ k → k < j + m → t (p + k) = tC i k := by
  intro m
  induction m with
  | zero => intro j; exact ⟨fun _ k k0 k1 => by omega, fun _ => by show ¬ (1 : Int) = 0; decide⟩
  | succ m ih =>
    intro j
    unfold wdEq
    by_cases h : t (p + j) = tC i j
    · rw [if_pos h, ih (j + 1)]
      refine ⟨fun a k k0 k1 => ?_, fun a k k0 k1 => a k (by omega) (by omega)⟩
      by_cases hk : k = j
      · rw [hk]; exact h
      · exact a k (by omega) (by omega)
    · rw [if_neg h]
      exact ⟨fun a => absurd rfl a, fun a => absurd (a j (Int.le_refl _) (by omega)) h⟩
/-- the word at a token: both say the same -/
theorem wd_eq {t : Int → Int} {n : Int} {q : TK} {i : Nat} (hi : i < 6) (h : TOK t n q) (hw : q.2.2.2.2.1 = 0) : (cIs t n i q.1 = 1 ↔ ¬ fWd t (i + 6) q = 0) ∧ (cIs t n i q.1 = 1 → q.2.1 = q.1 + tL i) := by
  obtain ⟨f3, f4, f5, f6, f7⟩ := h
  have hL := tL_b i (by omega)
  have hn := tL_n i (by omega)
  obtain ⟨s1, s2⟩ := tC_same i hi
  have cb : ∀ k, 0 ≤ k → k < tL i → (97 ≤ tC i k ∧ tC i k ≤ 122) ∧ tC (i + 6) k = tC i k := fun k k0 k1 => by
    have a := tC_b i (by omega) k.toNat (by omega)
    have b := s2 k.toNat (by omega)
    rw [show ((k.toNat : Nat) : Int) = k by omega] at a b
    exact ⟨a, b⟩
  have c1 : cIs t n i q.1 = 1 ↔ (∀ k, 0 ≤ k → k < tL i → gSee t n (q.1 + k) = tC i k) ∧ ¬ (97 ≤ gSee t n (q.1 + tL i) ∧ gSee t n (q.1 + tL i) ≤ 122) := by
    have a := wdS_sp (t := t) (n := n) (p := q.1) (i := i) (tL i).toNat 0
    rw [show (0 : Int) + ((tL i).toNat : Nat) = tL i by omega] at a
    unfold cIs cIsR
    rw [← a]
    by_cases hd : wdS t n q.1 i (tL i).toNat 0 = 1
    · rw [if_pos hd]
      by_cases hb : 97 ≤ gSee t n (q.1 + tL i) ∧ gSee t n (q.1 + tL i) ≤ 122
      · rw [if_pos hb]
        exact ⟨fun x => absurd x (by decide), fun x => absurd hb x.2⟩
      · rw [if_neg hb]
        exact ⟨fun _ => ⟨hd, hb⟩, fun _ => rfl⟩
    · rw [if_neg hd]
      exact ⟨fun x => absurd x (by decide), fun x => absurd x.1 hd⟩
  have c2 : ¬ fWd t (i + 6) q = 0 ↔ q.2.2.1 = 0 ∧ q.2.1 - q.1 = tL i ∧ ∀ k, 0 ≤ k → k < tL i → t (q.1 + k) = tC i k := by
    have a := wdEq_sp (t := t) (p := q.1) (i := i + 6) (tL i).toNat 0
    rw [show (0 : Int) + ((tL i).toNat : Nat) = tL i by omega] at a
    unfold fWd
    rw [if_pos hw, s1]
    by_cases h1 : q.2.2.1 = 0
    · rw [if_pos h1]
      by_cases h2 : q.2.1 - q.1 = tL i
      · rw [if_pos h2, a]
        exact ⟨fun x => ⟨h1, h2, fun k k0 k1 => (x k k0 k1).trans (cb k k0 k1).2⟩, fun x k k0 k1 => (x.2.2 k k0 k1).trans (cb k k0 k1).2.symm⟩
      · rw [if_neg h2]
        exact ⟨fun x => absurd rfl x, fun x => absurd x.2.1 h2⟩
    · rw [if_neg h1]
      exact ⟨fun x => absurd rfl x, fun x => absurd x.1 h1⟩
  have see : ∀ k, k < n → gSee t n k = t k := fun k hk => if_neg (by omega)
  have fwd : cIs t n i q.1 = 1 → q.2.2.1 = 0 ∧ q.2.1 = q.1 + tL i ∧ ∀ k, 0 ≤ k → k < tL i → t (q.1 + k) = tC i k := by
    intro hc
    obtain ⟨d1, d2⟩ := c1.mp hc
    have lt : ∀ k, 0 ≤ k → k < tL i → q.1 + k < n := fun k k0 k1 => by
      by_cases hh : n ≤ q.1 + k
      · have e : gSee t n (q.1 + k) = -1 := if_pos hh
        have := d1 k k0 k1
        have := (cb k k0 k1).1
        omega
      · omega
    have l0 := lt 0 (by omega) (by omega)
    rw [Int.add_zero] at l0
    have d0 := d1 0 (by omega) (by omega)
    rw [Int.add_zero] at d0
    have b0 := (cb 0 (by omega) (by omega)).1
    obtain ⟨g1, g2⟩ := f5 l0 (by omega)
    have e := kLe_is (t := t) (n := n) (p := q.1) (e := q.1 + tL i) f3.2.1 (by omega) (fun k k0 k1 => by
      have x := d1 (k - q.1) (by omega) (by omega)
      rw [show q.1 + (k - q.1) = k by omega] at x
      have := (cb (k - q.1) (by omega) (by omega)).1
      omega) d2
    refine ⟨g2, by omega, fun k k0 k1 => ?_⟩
    rw [← see _ (lt k k0 k1)]
    exact d1 k k0 k1
  refine ⟨⟨fun hc => ?_, fun hc => ?_⟩, fun hc => (fwd hc).2.1⟩
  · obtain ⟨x1, x2, x3⟩ := fwd hc
    exact c2.mpr ⟨x1, by omega, x3⟩
  · obtain ⟨x1, x2, x3⟩ := c2.mp hc
    have l0 : q.1 < n := by
      by_cases hh : n ≤ q.1
      · have := (f4 hh).2
        omega
      · omega
    have hlet : 97 ≤ gSee t n q.1 ∧ gSee t n q.1 ≤ 122 := by
      have := x3 0 (by omega) (by omega)
      rw [Int.add_zero] at this
      rw [see _ l0, this]
      exact (cb 0 (by omega) (by omega)).1
    obtain ⟨g1, g2⟩ := f5 l0 hlet
    obtain ⟨k1, k2⟩ := kLe_b (t := t) (n := n) (n - q.1).toNat q.1 (by omega)
    obtain ⟨a, b⟩ := kLe_sp (t := t) (n := n) (n - q.1).toNat q.1 (by omega)
    rw [← g1] at k1 k2 a b
    refine c1.mpr ⟨fun k k0 k1 => ?_, ?_⟩
    · rw [see _ (by omega)]
      exact x3 k k0 k1
    · rw [show q.1 + tL i = q.2.1 by omega]
      exact b
theorem SM_word {t : Int → Int} {n : Int} {z : RZ} {q : TK} {i : Nat} (hi : i < 6) (h : SM t n z q) : SM t n (cWd t n i z) (fMust t n q (fWd t (i + 6) q)) := by
  obtain ⟨a, b, cc, d⟩ := id h
  obtain ⟨b1, b2, b3⟩ := sk_b (t := t) (n := n) (p := z.1) a.1.2
  have a1 := a.1
  obtain ⟨y1, y2⟩ := cWd_b (t := t) (i := i) (by omega) a
  obtain ⟨s, hs⟩ : ∃ s, s = sk t n z.1 := ⟨_, rfl⟩
  have e : cWd t n i z = if cIs t n i s = 1 then (s + tL i, z.2) else zFail (s, z.2) (-2) s := by rw [hs]; rfl
  rw [← hs] at b1 b2 b3 cc
  have hzi : ZI n (s, z.2) := ⟨⟨by show 0 ≤ s; omega, b2⟩, a.2.1, a.2.2⟩
  by_cases hq : q.2.2.2.2.1 = 0
  · obtain ⟨f1, f2, f3⟩ := cc hq
    obtain ⟨w1, w2⟩ := wd_eq hi f3 hq
    rw [← f2] at w1 w2
    by_cases hc : cIs t n i s = 1
    · have hf := w1.mp hc
      have ee : fMust t n q (fWd t (i + 6) q) = fNx t n q := by
        unfold fMust
        rw [if_neg hf]
      rw [e, if_pos hc]
      rw [e, if_pos hc] at y1
      rw [ee]
      exact SM_nx h y1 hq (w2 hc).symm f1
    · have hf : fWd t (i + 6) q = 0 := Classical.byContradiction fun x => hc (w1.mpr x)
      have ee : fMust t n q (fWd t (i + 6) q) = fNx t n (fFail q (-2)) := by
        unfold fMust
        rw [if_pos hf]
      rw [e, if_neg hc, ee]
      exact SM_fail h hzi rfl (by omega) fun _ => f2
  · have e2 : fMust t n q (fWd t (i + 6) q) = q := by
      unfold fMust
      have e3 : ∀ v : Int, (if v = 0 then fFail q (-2) else q) = q := fun v => by
        split
        · exact if_neg hq
        · rfl
      rw [e3]
      exact if_neg hq
    rw [e2]
    refine SM_err h hq y1 ?_
    have ez : ¬ z.2.2.1 = 0 := by rw [(d hq).1]; exact hq
    rw [e]
    split
    · rfl
    · have ef : zFail (s, z.2) (-2) s = (s, z.2) := if_neg ez
      rw [ef]
theorem fNx_err {t : Int → Int} {n : Int} {q : TK} (h : q.2.2.2.2.1 ≠ 0) : fNx t n q = q := if_neg h
theorem fFail_err {q : TK} {c : Int} (h : q.2.2.2.2.1 ≠ 0) : fFail q c = q := if_neg h
theorem fMust_err {t : Int → Int} {n v : Int} {q : TK} (h : q.2.2.2.2.1 ≠ 0) : fMust t n q v = q := by
  unfold fMust
  rw [fFail_err h, ite_self, fNx_err h]
theorem fTk_err {t : Int → Int} {n lo hi : Int} {q : TK} (h : q.2.2.2.2.1 ≠ 0) : fTk t n q lo hi = q := by
  have e : fTk1 q lo hi = q := if_neg h
  unfold fTk
  rw [e, fNx_err h]
theorem fEnd_err {t : Int → Int} {n : Int} {q : TK} (h : q.2.2.2.2.1 ≠ 0) : fEnd t n q = q := fMust_err h
theorem SM_num2 {t : Int → Int} {n lo hi hi' : Int} {z : RZ} {q : TK} (h : SM t n z q) (h0 : 0 ≤ lo ∧ lo ≤ hi ∧ hi ≤ 999) (he : q.2.2.2.2.1 = 0 → hi' = hi) : SM t n (cNum t n z lo hi).1 (fTk t n q lo hi') ∧ ((fTk t n q lo hi').2.2.2.2.1 = 0 → (cNum t n z lo hi).2 = fTkV q lo hi') := by
  have a := SM_num (lo := lo) (hi := hi) h h0
  by_cases hw : q.2.2.2.2.1 = 0
  · rw [he hw]
    exact a
  · rw [fTk_err hw] at a
    rw [fTk_err hw]
    exact ⟨a.1, fun x => absurd x hw⟩
/-- both heads -/
theorem SM_head {t : Int → Int} {n : Int} {z : RZ} {q : TK} (h : SM t n z q) : SM t n (ch7 t n z) (hd7 t n q) ∧ ((hd7 t n q).2.2.2.2.1 = 0 → (ch2 t n z).2 = fTkV (hd1 t n q) 1 240 ∧ (ch3 t n z).2 = fTkV (hd2 t n q) 0 999 ∧ (ch5 t n z).2 = fTkV (hd4 t n q) 4 48 ∧ (ch6 t n z).2 = fTkV (hd5 t n q) 1 (fTkV (hd4 t n q) 4 48)) := by
  obtain ⟨-, -, -, -, ⟨-, c5⟩, -⟩ := ch_b (t := t) h.1
  have a1 : SM t n (ch1 t n z) (hd1 t n q) := SM_word (i := 0) (by decide) h
  obtain ⟨a2, b2⟩ : SM t n (ch2 t n z).1 (hd2 t n q) ∧ ((hd2 t n q).2.2.2.2.1 = 0 → (ch2 t n z).2 = fTkV (hd1 t n q) 1 240) := SM_num a1 (by omega)
  obtain ⟨a3, b3⟩ : SM t n (ch3 t n z).1 (hd3 t n q) ∧ ((hd3 t n q).2.2.2.2.1 = 0 → (ch3 t n z).2 = fTkV (hd2 t n q) 0 999) := SM_num a2 (by omega)
  have a4 : SM t n (ch4 t n z) (hd4 t n q) := SM_word (i := 1) (by decide) a3
  obtain ⟨a5, b5⟩ : SM t n (ch5 t n z).1 (hd5 t n q) ∧ ((hd5 t n q).2.2.2.2.1 = 0 → (ch5 t n z).2 = fTkV (hd4 t n q) 4 48) := SM_num a4 (by omega)
  obtain ⟨a6, b6⟩ : SM t n (ch6 t n z).1 (hd6 t n q) ∧ ((hd6 t n q).2.2.2.2.1 = 0 → (ch6 t n z).2 = fTkV (hd5 t n q) 1 (fTkV (hd4 t n q) 4 48)) := SM_num2 a5 (by omega) fun hw => (b5 hw).symm
  have a7 : SM t n (ch7 t n z) (hd7 t n q) := SM_semi a6
  refine ⟨a7, fun h7 => ?_⟩
  have w6 : (hd6 t n q).2.2.2.2.1 = 0 := Classical.byContradiction fun x => by
    have e : hd7 t n q = hd6 t n q := fEnd_err x
    rw [e] at h7
    exact x h7
  have w5 : (hd5 t n q).2.2.2.2.1 = 0 := Classical.byContradiction fun x => by
    have e : hd6 t n q = hd5 t n q := fTk_err x
    rw [e] at w6
    exact x w6
  have w4 : (hd4 t n q).2.2.2.2.1 = 0 := Classical.byContradiction fun x => by
    have e : hd5 t n q = hd4 t n q := fTk_err x
    rw [e] at w5
    exact x w5
  have w3 : (hd3 t n q).2.2.2.2.1 = 0 := Classical.byContradiction fun x => by
    have e : hd4 t n q = hd3 t n q := fMust_err x
    rw [e] at w4
    exact x w4
  have w2 : (hd2 t n q).2.2.2.2.1 = 0 := Classical.byContradiction fun x => by
    have e : hd3 t n q = hd2 t n q := fTk_err x
    rw [e] at w3
    exact x w3
  exact ⟨b2 w2, b3 w3, b5 w5, b6 w6⟩
