/-! rows that agree on their places; a Download, owned -/
theorem RW_EQ {r q : Int → Int} {e : Int} (w : RW r e) (h : EQ r q) : RW q e := by
  obtain ⟨a1, a2, a3, a4, a5, a6, a7, a8, a9, b1, b2, b3, b4, b5, b6, b7⟩ := w
  have k0 := h 0 (by decide) (by decide)
  have k9 := h 9 (by decide) (by decide)
  have k10 := h 10 (by decide) (by decide)
  have k11 := h 11 (by decide) (by decide)
  have k12 := h 12 (by decide) (by decide)
  refine ⟨?_, ?_, ?_, ?_, ?_, ?_, ?_, ?_, ?_, ?_, ?_, ?_, ?_, ?_, b6, ?_⟩
  · unfold GW
    rw [k0, h 2 (by decide) (by decide), h 3 (by decide) (by decide)]
    exact a1
  · rw [h 1 (by decide) (by decide)]
    exact a2
  · rw [h 4 (by decide) (by decide)]
    exact a3
  · rw [k9, k10, k11, k12]
    exact a4
  · rw [h 13 (by decide) (by decide), h 14 (by decide) (by decide), h 15 (by decide) (by decide)]
    exact a5
  · rw [h 5 (by decide) (by decide), h 6 (by decide) (by decide), h 7 (by decide) (by decide), h 8 (by decide) (by decide), h 16 (by decide) (by decide), h 17 (by decide) (by decide), h 18 (by decide) (by decide), h 19 (by decide) (by decide)]
    exact a6
  · intro f f0 f1
    rw [k10] at f1
    rw [h _ (by omega) (by omega), h _ (by omega) (by omega)]
    exact a7 f f0 f1
  · intro f f0 f1
    rw [k11] at f1
    rw [h _ (by omega) (by omega), h _ (by omega) (by omega), h _ (by omega) (by omega)]
    exact a8 f f0 f1
  · intro f f0 f1
    rw [k12] at f1
    rw [h _ (by omega) (by omega), h _ (by omega) (by omega)]
    exact a9 f f0 f1
  · intro p p0 p1
    rw [h _ (by omega) (by omega)]
    exact b1 p p0 p1
  · intro p p0 p1
    rw [h _ (by omega) (by omega)]
    exact b2 p p0 p1
  · intro p p0 p1
    rw [h _ (by omega) (by omega), h _ (by omega) (by omega), h _ (by omega) (by omega)]
    exact b3 p p0 p1
  · intro i i0 i1
    rw [k9] at i1
    rw [h _ (by omega) (by omega), h _ (by omega) (by omega)]
    exact b4 i i0 i1
  · intro i k i0 i1 k0 k1
    rw [h _ (by omega) (by omega)]
    exact b5 i k i0 i1 k0 k1
  · intro k k0 k1
    rw [h k k0 k1]
    exact b7 k k0 k1
theorem EQ_cf {r q : Int → Int} (h : EQ r q) : ∀ y, cf y → q y = r y := fun y hy => h y (by unfold cf at hy; omega) (by unfold cf at hy; omega)
theorem PR_EQ {r q : Int → Int} {P : Nat → Int → Int} {e : Int} (w : RW r e) (h : EQ r q) (p : PR P r) : PR P q := PR_c w (EQ_cf h) p
theorem DR_EQ {D : Nat → Int → Int} {r q : Int → Int} {e : Int} (w : RW r e) (he : EQ r q) (h : DR D r) : DR D q := by
  obtain ⟨a1, a2, a3, a4, a5, a6, a7, a8⟩ := id h
  have hcf := EQ_cf he
  obtain ⟨h0, h2, h3, hB⟩ := cfg_c w hcf
  have hc := geo_c h0 h2 h3
  obtain ⟨t1, t2⟩ := gT_b w.1
  have lg := w.1.2.1
  have hM : ∀ k, 0 ≤ k → k < gN r → gMi q k = gMi r k := fun k k0 k1 => by
    obtain ⟨f1, f2⟩ := gF_b w.1 k0 k1
    exact gMi_c h0 h2 h3 fun i i0 i1 => by rw [he _ (by omega) (by omega)]
  have hV : ∀ k, 0 ≤ k → k < gN r → gV q k = gV r k := fun k k0 k1 => by
    obtain ⟨l1, l2, l3, l4⟩ := gLen_b w.1 k0 k1
    exact gV_c w hcf (hM k k0 k1) fun _ j j0 j1 => he _ (by omega) (by omega)
  have hMs : gMs q = gMs r := gMs_c w.1 h0 h2 h3 fun i i0 i1 => he _ (by omega) (by omega)
  refine ⟨?_, ?_, ?_, ?_, ?_, ?_, ?_, a8⟩
  · intro p p0 p1 hp j j0 j1
    rw [hc.2.2.2.2.2.1] at p1
    rw [he _ (by omega) (by omega)] at hp
    rw [hc.2.2.2.2.2.2.2.2] at j1
    obtain ⟨b1, b2, b3, b4, b5, b6⟩ := gPl_b w.1 p0 p1
    rw [hc.2.2.2.2.2.2.2.1, he _ (by omega) (by omega)]
    exact a1 p p0 p1 hp j j0 j1
  · intro p p0 p1
    rw [hc.2.2.2.2.2.1] at p1
    rw [he _ (by omega) (by omega)]
    exact a2 p p0 p1
  · intro k k0 k1
    rw [hc.1] at k1
    rw [hM k k0 k1, hV k k0 k1]
    exact a3 k k0 k1
  · rw [hMs, hc.1]
    obtain ⟨b1, b2, b3⟩ := a4
    refine ⟨b1, ?_, ?_⟩
    · rw [b2]
      refine sg_congr fun k hk => ?_
      rw [hV k (by omega) (by omega)]
    · rw [b3]
      refine sg_congr fun k hk => ?_
      rw [hV k (by omega) (by omega)]
  · rw [he 5 (by decide) (by decide), he 6 (by decide) (by decide), he 8 (by decide) (by decide), he 13 (by decide) (by decide), he 7 (by decide) (by decide)]
    exact a5
  · intro s s0 s1
    rw [he _ (by omega) (by omega), he _ (by omega) (by omega), he _ (by omega) (by omega)]
    exact a6 s s0 s1
  · intro j j0 j1 j2
    rw [he 7 (by decide) (by decide)] at j2
    rw [he _ (by omega) (by omega), he _ (by omega) (by omega), he _ (by omega) (by omega)]
    exact a7 j j0 j1 j2
/-- the partial files of a row -/
def PT (X : XT) (A : AH) (w : Nat → Nat) (g : Nat → Option Nat) (r : Int → Int) : Prop :=
  ∀ i : Nat, (i : Int) < r 9 → ∃ (y z : Nat) (h : Int → Int), g i = some y ∧ (y < A.1 ∧ w y = 0 ∧ z < A.1 ∧ w z = 0) ∧ A.2 y = some (ob 3 [.int (I (r (696 + 242 * i))), .ref z]) ∧ A.2 z = some (ia X (r (696 + 242 * i + 1)).toNat (fun k => I (h k))) ∧ (∀ k, 0 ≤ k → k < r (696 + 242 * i + 1) → h k = r (696 + 242 * i + 2 + k)) ∧ r (696 + 242 * i + 1) ≤ r 0
/-- who owns what: a Download at a its cells (owner a + 1), what never changes nobody (0) -/
def OW (X : XT) (A : AH) (w : Nat → Nat) (a la : Nat) : Prop := a + 12 < A.1 ∧ (∀ b, a ≤ b → b ≤ a + 12 → w b = a + 1) ∧ (la = xE X ∨ w la = a + 1) ∧ la < A.1 ∧ (la < a ∨ a + 12 < la) ∧ xE X < A.1 ∧ w (xE X) = 0
def OP (A : AH) (w : Nat → Nat) (p : Nat) : Prop := p + 10 < A.1 ∧ ∀ b, p ≤ b → b ≤ p + 10 → w b = 0
/-- a Download that holds a row -/
def DAt (X : XT) (A : AH) (w : Nat → Nat) (a : Nat) (r : Int → Int) : Prop := ∃ (p : Nat) (D P : Nat → Int → Int) (la : Nat) (g : Nat → Option Nat) (m : Int32),
  DlA X A a p D ∧ PlanAt X A p P ∧ PR P r ∧ DR D r ∧ LST X A (a + 8) la (r 9) g m ∧ PT X A w g r ∧ OW X A w a la ∧ OP A w p
/-- a Download that holds anything -/
def DSh (X : XT) (A : AH) (w : Nat → Nat) (a : Nat) : Prop := ∃ (p : Nat) (D : Nat → Int → Int) (la : Nat) (n : Int) (g : Nat → Option Nat) (m : Int32),
  DlA X A a p D ∧ LST X A (a + 8) la n g m ∧ OW X A w a la
/-- a change of what the owner s has -/
def Chg (w w' : Nat → Nat) (s : Nat) (A A' : AH) : Prop := A.1 ≤ A'.1 ∧ (∀ b, b < A.1 → w' b = w b) ∧ ∀ b, b < A.1 → w b ≠ s → A'.2 b = A.2 b
theorem DAt.sh {X : XT} {A : AH} {w : Nat → Nat} {a : Nat} {r : Int → Int} (h : DAt X A w a r) : DSh X A w a := by
  obtain ⟨p, D, P, la, g, m, h1, h2, h3, h4, h5, h6, h7, h8⟩ := h
  exact ⟨p, D, la, r 9, g, m, h1, h5, h7⟩
theorem OW.of {X : XT} {A A' : AH} {w w' : Nat → Nat} {a la : Nat} (h : OW X A w a la) (h0 : A.1 ≤ A'.1) (h1 : ∀ b, b < A.1 → w' b = w b) : OW X A' w' a la := by
  obtain ⟨a1, a2, a3, a4, a5, a6, a7⟩ := h
  refine ⟨by omega, fun b b0 b1 => (h1 b (by omega)).trans (a2 b b0 b1), ?_, by omega, a5, by omega, (h1 _ a6).trans a7⟩
  rcases a3 with x | x
  · exact Or.inl x
  · exact Or.inr ((h1 la a4).trans x)
theorem OP.of {A A' : AH} {w w' : Nat → Nat} {p : Nat} (h : OP A w p) (h0 : A.1 ≤ A'.1) (h1 : ∀ b, b < A.1 → w' b = w b) : OP A' w' p := by
  obtain ⟨a1, a2⟩ := h
  exact ⟨by omega, fun b b0 b1 => (h1 b (by omega)).trans (a2 b b0 b1)⟩
theorem PT.of {X : XT} {A A' : AH} {w w' : Nat → Nat} {g : Nat → Option Nat} {r : Int → Int} {s : Nat} (h : PT X A w g r) (c : Chg w w' s A A') (hs : s ≠ 0) : PT X A' w' g r := by
  obtain ⟨c0, c1, c2⟩ := c
  intro i hi
  obtain ⟨y, z, f, e1, ⟨e2, e3, e4, e5⟩, e6, e7, e8⟩ := h i hi
  exact ⟨y, z, f, e1, ⟨by omega, (c1 y e2).trans e3, by omega, (c1 z e4).trans e5⟩, (c2 y e2 (by omega)).trans e6, (c2 z e4 (by omega)).trans e7, e8⟩
theorem LST.chg {X : XT} {A A' : AH} {w w' : Nat → Nat} {a la s : Nat} {n : Int} {g : Nat → Option Nat} {m : Int32} (h : LST X A (a + 8) la n g m) (o : OW X A w a la) (c : Chg w w' s A A') (hs : s ≠ 0) (ha : s ≠ a + 1) : LST X A' (a + 8) la n g m := by
  obtain ⟨c0, c1, c2⟩ := c
  obtain ⟨a1, a2, a3, a4, a5, a6, a7⟩ := o
  have hE := c2 _ a6 (by omega)
  refine h.of (c2 _ (by omega) (by rw [a2 _ (by omega) (by omega)]; omega)) ?_ hE
  rcases a3 with x | x
  · rw [x]
    exact hE
  · exact c2 la a4 (by omega)
theorem DAt.chg {X : XT} {A A' : AH} {w w' : Nat → Nat} {a s : Nat} {r : Int → Int} (h : DAt X A w a r) (c : Chg w w' s A A') (hs : s ≠ 0) (ha : s ≠ a + 1) : DAt X A' w' a r := by
  obtain ⟨p, D, P, la, g, m, h1, h2, h3, h4, h5, h6, h7, h8⟩ := h
  refine ⟨p, D, P, la, g, m, ?_, ?_, h3, h4, h5.chg h7 c hs ha, h6.of c hs, h7.of c.1 c.2.1, h8.of c.1 c.2.1⟩
  · exact h1.of fun b b0 b1 _ => c.2.2 b (by have := h7.1; omega) (by rw [h7.2.1 b b0 b1]; omega)
  · exact h2.of fun b b0 b1 => c.2.2 b (by have := h8.1; omega) (by rw [h8.2 b b0 b1]; omega)
theorem DSh.chg {X : XT} {A A' : AH} {w w' : Nat → Nat} {a s : Nat} (h : DSh X A w a) (c : Chg w w' s A A') (hs : s ≠ 0) (ha : s ≠ a + 1) : DSh X A' w' a := by
  obtain ⟨p, D, la, n, g, m, h1, h5, h7⟩ := h
  refine ⟨p, D, la, n, g, m, ?_, h5.chg h7 c hs ha, h7.of c.1 c.2.1⟩
  exact h1.of fun b b0 b1 _ => c.2.2 b (by have := h7.1; omega) (by rw [h7.2.1 b b0 b1]; omega)
theorem DAt.eq {X : XT} {A : AH} {w : Nat → Nat} {a : Nat} {r q : Int → Int} {e : Int} (h : DAt X A w a r) (hw : RW r e) (he : EQ r q) : DAt X A w a q := by
  obtain ⟨p, D, P, la, g, m, h1, h2, h3, h4, h5, h6, h7, h8⟩ := h
  have h9 := hw.2.2.2.1
  have e9 := he 9 (by decide) (by decide)
  have f7 := hw.2.2.2.2.2.2.2.2.2.2.2.2.1
  refine ⟨p, D, P, la, g, m, h1, h2, PR_EQ hw he h3, DR_EQ hw he h4, by rw [e9]; exact h5, ?_, h7, h8⟩
  intro i hi
  rw [e9] at hi
  have b := f7 i (by omega) hi
  rw [he _ (by omega) (by omega), he (696 + 242 * (i : Int) + 1) (by omega) (by omega)]
  obtain ⟨y, z, f, x1, x2, x3, x4, x5, x6⟩ := h6 i hi
  refine ⟨y, z, f, x1, x2, x3, x4, fun k k0 k1 => ?_, ?_⟩
  · rw [he _ (by omega) (by omega)]
    exact x5 k k0 k1
  · rw [he 0 (by decide) (by decide)]
    exact x6
