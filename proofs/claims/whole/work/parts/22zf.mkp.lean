/-! the reference: rename, spoil, discard, keep -/
def tRen (r : Int → Int) (p x : Int) : Int := tr2 (0 ≤ p ∧ p ≤ r 9 - 1) (0 ≤ x ∧ x ≤ 999)
def tSpo (r : Int → Int) (p y d : Int) : Int := tr2 ((0 ≤ p ∧ p ≤ r 9 - 1) ∧ 0 ≤ y ∧ y ≤ r (696 + 242 * p + 1) - 1) (1 ≤ d ∧ d ≤ 255)
def rSpo (r : Int → Int) (p y d : Int) : Int → Int := rs r (696 + 242 * p + 2 + y) (r (696 + 242 * p + 2 + y) + d - (r (696 + 242 * p + 2 + y) + d) / 256 * 256)
def rGo (r : Int → Int) (p : Int) : Int → Int := cpy (rs r 9 (r 9 - 1)) (rs r 9 (r 9 - 1)) (696 + 242 * p + 242) (696 + 242 * p) (242 * (r 9 - 1 - p))
def tKee (r : Int → Int) (x : Int) : Int := tr2 (0 ≤ x ∧ x ≤ 999) (¬ r 96 = 0 ∧ ¬ r 9 = 4)
def gKl (r : Int → Int) : Int := if gLo r = -1 then r 0 else gPl r (gLo r)
/-- n numbers from f on, made 0 -/
def zr (r : Int → Int) (f n : Int) : Int → Int := fun b => if f ≤ b ∧ b < f + n then 0 else r b
theorem zr_z {r : Int → Int} {f : Int} : zr r f 0 = r := by
  funext b
  exact if_neg (by omega)
theorem zr_s {r : Int → Int} {f n : Int} (h : 0 ≤ n) : rs (zr r f n) (f + n) 0 = zr r f (n + 1) := by
  funext b
  unfold rs zr
  by_cases h1 : b = f + n
  · subst h1
    rw [if_pos rfl, if_pos (by omega)]
  · rw [if_neg h1]
    by_cases h2 : f ≤ b ∧ b < f + n
    · rw [if_pos h2, if_pos (by omega)]
    · rw [if_neg h2, if_neg (by omega)]
def rKa (r : Int → Int) (x : Int) : Int → Int := rs (rs r (696 + 242 * r 9) x) (696 + 242 * r 9 + 1) (gKl r)
def rKb (r : Int → Int) (x : Int) : Int → Int := cpy (rKa r x) (rKa r x) 336 (696 + 242 * r 9 + 2) (gKl r)
def rKc (r : Int → Int) (x : Int) : Int → Int := zr (rs (rKb r x) 9 (rKb r x 9 + 1)) 96 (gT r)
def rKeep (r : Int → Int) (x : Int) : Int → Int := rTell (rKc r x) 7 x (gKl r)
theorem gKl_b {r : Int → Int} (g : GW r) (h : ¬ r 96 = 0) : 1 ≤ gKl r ∧ gKl r ≤ r 0 ∧ gKl r ≤ 240 := by
  have lg := g.2.1
  have lg0 := g.1
  unfold gKl
  split
  · omega
  · rename_i hn
    rcases gLo_b g with a | ⟨a1, a2, a3, a4⟩
    · exact absurd a.1 hn
    · obtain ⟨b1, b2, b3, b4, b5, b6⟩ := gPl_b g a1 a2
      have h1 : 1 ≤ gLo r := by
        by_cases hz : gLo r = 0
        · rw [hz] at a3
          exact absurd a3 h
        · omega
      obtain ⟨c1, c2, c3, c4⟩ := gPc_b g a1 a2
      have g3 := g.2.2.2.2.1
      have g2 := g.2.2.1
      have e : gPl r (gLo r) = r 2 * gPc r (gLo r) + r 3 * (gLo r - gF r (gPc r (gLo r))) := rfl
      by_cases hp : 1 ≤ gPc r (gLo r)
      · have m : r 2 * 1 ≤ r 2 * gPc r (gLo r) := Int.mul_le_mul_of_nonneg_left hp (by omega)
        have m2 : 0 ≤ r 3 * (gLo r - gF r (gPc r (gLo r))) := Int.mul_nonneg (by omega) (by omega)
        omega
      · have hz : gPc r (gLo r) = 0 := by omega
        have hf : gF r 0 = 0 := Int.mul_zero _
        have m : r 3 * 1 ≤ r 3 * (gLo r - gF r (gPc r (gLo r))) := Int.mul_le_mul_of_nonneg_left (by rw [hz, hf]; omega) (by omega)
        omega
theorem cpy_w {r q : Int → Int} {e f t : Int} : ∀ n : Nat, RW r e → 698 ≤ t → t + n ≤ 1664 → (∀ i, 0 ≤ i → i < n → 0 ≤ q (f + i) ∧ q (f + i) ≤ 255) → (∀ i, 0 ≤ i → i < 4 → t ≤ 696 + 242 * i + 1 → 696 + 242 * i < t + n → False) → RW (cpy r q f t n) e := by
  intro n
  induction n with
  | zero => intro w _ _ _ _; rw [show ((0 : Nat) : Int) = 0 from rfl, cpy_z]; exact w
  | succ n ih =>
    intro w ht hn hq hi
    have i1 := ih w ht (by omega) (fun i h0 h1 => hq i h0 (by omega)) (fun i h0 h1 h2 h3 => hi i h0 h1 h2 (by omega))
    have hqn := hq n (by omega) (by omega)
    rw [show ((n + 1 : Nat) : Int) = (n : Int) + 1 from rfl, ← cpy_s (by omega)]
    refine RW_set i1 (by omega) (by omega) (by omega) (by omega) (by omega) (by omega) (by omega) (by omega) (by omega) ?_ ?_ (by omega)
    · intro i h0 h1 h2
      exact (hi i h0 h1 (by omega) (by omega)).elim
    · intro i h0 h1 h2
      exact (hi i h0 h1 (by omega) (by omega)).elim
theorem zr_w {r : Int → Int} {e : Int} (w : RW r e) : ∀ n : Nat, n ≤ 240 → RW (zr r 96 n) e := by
  intro n
  induction n with
  | zero => intro _; rw [show ((0 : Nat) : Int) = 0 from rfl, zr_z]; exact w
  | succ n ih =>
    intro hn
    rw [show ((n + 1 : Nat) : Int) = (n : Int) + 1 from rfl, ← zr_s (by omega)]
    exact RW_set (ih (by omega)) (by omega) (by omega) (by omega) (by omega) (by omega) (by omega) (by omega) (by omega) (by omega) (by omega) (by omega) (by omega)
theorem RW_9 {r : Int → Int} {e : Int} (w : RW r e) (h : r 9 ≤ 3) (h1 : 0 ≤ r (696 + 242 * r 9) ∧ r (696 + 242 * r 9) ≤ 999) (h2 : 0 ≤ r (696 + 242 * r 9 + 1) ∧ r (696 + 242 * r 9 + 1) ≤ 240) : RW (rs r 9 (r 9 + 1)) e := by
  obtain ⟨g, c1, c2, c3, c4, c5, f1, f2, f3, f4, f5, f6, f7, f8, f9, f10⟩ := w
  have o : ∀ b, b ≠ 9 → rs r 9 (r 9 + 1) b = r b := fun b hb => rs_ne hb
  have e9 : rs r 9 (r 9 + 1) 9 = r 9 + 1 := rs_eq
  refine ⟨?_, ?_, ?_, ?_, ?_, ?_, ?_, ?_, ?_, ?_, ?_, ?_, ?_, ?_, f9, ?_⟩
  · unfold GW
    rw [o 0 (by omega), o 2 (by omega), o 3 (by omega)]
    exact g
  · rw [o 1 (by omega)]; exact c1
  · rw [o 4 (by omega)]; exact c2
  · rw [e9, o 10 (by omega), o 11 (by omega), o 12 (by omega)]
    omega
  · rw [o 13 (by omega), o 14 (by omega), o 15 (by omega)]; exact c4
  · rw [o 5 (by omega), o 6 (by omega), o 7 (by omega), o 8 (by omega), o 16 (by omega), o 17 (by omega), o 18 (by omega), o 19 (by omega)]; exact c5
  · intro f h0 hf
    rw [o 10 (by omega)] at hf
    rw [o _ (by omega), o _ (by omega)]
    exact f1 f h0 hf
  · intro f h0 hf
    rw [o 11 (by omega)] at hf
    rw [o _ (by omega), o _ (by omega), o _ (by omega)]
    exact f2 f h0 hf
  · intro f h0 hf
    rw [o 12 (by omega)] at hf
    rw [o _ (by omega), o _ (by omega)]
    exact f3 f h0 hf
  · intro p h0 hp
    rw [o _ (by omega)]
    exact f4 p h0 hp
  · intro p h0 hp
    rw [o _ (by omega)]
    exact f5 p h0 hp
  · intro p h0 hp
    rw [o _ (by omega), o _ (by omega), o _ (by omega)]
    exact f6 p h0 hp
  · intro i h0 hi
    rw [e9] at hi
    rw [o _ (by omega), o _ (by omega)]
    by_cases hz : i = r 9
    · subst hz
      exact ⟨h1.1, h1.2, h2.1, h2.2⟩
    · exact f7 i h0 (by omega)
  · intro i k h0 hi k0 k1
    rw [o _ (by omega)]
    exact f8 i k h0 hi k0 k1
  · intro b b0 b1
    unfold rs
    split
    · omega
    · exact f10 b b0 b1
theorem RW_dn {r : Int → Int} {e v : Int} (w : RW r e) (h0 : 0 ≤ v) (h : v ≤ r 9) : RW (rs r 9 v) e := by
  obtain ⟨g, c1, c2, c3, c4, c5, f1, f2, f3, f4, f5, f6, f7, f8, f9, f10⟩ := w
  have o : ∀ b, b ≠ 9 → rs r 9 v b = r b := fun b hb => rs_ne hb
  have e9 : rs r 9 v 9 = v := rs_eq
  refine ⟨?_, ?_, ?_, ?_, ?_, ?_, ?_, ?_, ?_, ?_, ?_, ?_, ?_, ?_, f9, ?_⟩
  · unfold GW
    rw [o 0 (by omega), o 2 (by omega), o 3 (by omega)]
    exact g
  · rw [o 1 (by omega)]; exact c1
  · rw [o 4 (by omega)]; exact c2
  · rw [e9, o 10 (by omega), o 11 (by omega), o 12 (by omega)]
    omega
  · rw [o 13 (by omega), o 14 (by omega), o 15 (by omega)]; exact c4
  · rw [o 5 (by omega), o 6 (by omega), o 7 (by omega), o 8 (by omega), o 16 (by omega), o 17 (by omega), o 18 (by omega), o 19 (by omega)]; exact c5
  · intro f h0 hf
    rw [o 10 (by omega)] at hf
    rw [o _ (by omega), o _ (by omega)]
    exact f1 f h0 hf
  · intro f h0 hf
    rw [o 11 (by omega)] at hf
    rw [o _ (by omega), o _ (by omega), o _ (by omega)]
    exact f2 f h0 hf
  · intro f h0 hf
    rw [o 12 (by omega)] at hf
    rw [o _ (by omega), o _ (by omega)]
    exact f3 f h0 hf
  · intro p h0 hp
    rw [o _ (by omega)]
    exact f4 p h0 hp
  · intro p h0 hp
    rw [o _ (by omega)]
    exact f5 p h0 hp
  · intro p h0 hp
    rw [o _ (by omega), o _ (by omega), o _ (by omega)]
    exact f6 p h0 hp
  · intro i h0 hi
    rw [e9] at hi
    rw [o _ (by omega), o _ (by omega)]
    exact f7 i h0 (by omega)
  · intro i k h0 hi k0 k1
    rw [o _ (by omega)]
    exact f8 i k h0 hi k0 k1
  · intro b b0 b1
    unfold rs
    split
    · omega
    · exact f10 b b0 b1
theorem rGo_sl {r : Int → Int} {p i y : Int} (hp : 0 ≤ p) (hi : 0 ≤ i) (y0 : 0 ≤ y) (y1 : y < 242) : rGo r p (696 + 242 * i + y) = if p ≤ i ∧ i < r 9 - 1 then r (696 + 242 * (i + 1) + y) else r (696 + 242 * i + y) := by
  unfold rGo cpy
  by_cases h : p ≤ i ∧ i < r 9 - 1
  · rw [if_pos h, if_pos (by omega), rs_ne (by omega)]
    congr 1
    omega
  · rw [if_neg h, if_neg (by omega), rs_ne (by omega)]
theorem rGo_lo {r : Int → Int} {p b : Int} (hp : 0 ≤ p) (hb : b < 696) : rGo r p b = if b = 9 then r 9 - 1 else r b := by
  unfold rGo cpy
  rw [if_neg (by omega)]
  unfold rs
  rfl
theorem rGo_hi {r : Int → Int} {p b : Int} (hp : 0 ≤ p) (h9 : r 9 ≤ 4) (hb : 1664 ≤ b) : rGo r p b = r b := by
  unfold rGo cpy
  rw [if_neg (by omega), rs_ne (by omega)]
theorem rGo_w {r : Int → Int} {e p : Int} (w : RW r e) (h0 : 0 ≤ p) (h1 : p < r 9) : RW (rGo r p) e := by
  obtain ⟨g, c1, c2, c3, c4, c5, f1, f2, f3, f4, f5, f6, f7, f8, f9, f10⟩ := RW_dn w (v := r 9 - 1) (by omega) (by omega)
  have c3r := w.2.2.2.1
  have f7r := w.2.2.2.2.2.2.2.2.2.2.2.2.1
  have f8r := w.2.2.2.2.2.2.2.2.2.2.2.2.2.1
  have f10r := w.2.2.2.2.2.2.2.2.2.2.2.2.2.2.2
  have o : ∀ b, b < 696 → rGo r p b = rs r 9 (r 9 - 1) b := fun b hb => by unfold rGo cpy; rw [if_neg (by omega)]
  have e9 : rs r 9 (r 9 - 1) 9 = r 9 - 1 := rs_eq
  refine ⟨?_, ?_, ?_, ?_, ?_, ?_, ?_, ?_, ?_, ?_, ?_, ?_, ?_, ?_, f9, ?_⟩
  · unfold GW
    rw [o 0 (by omega), o 2 (by omega), o 3 (by omega)]
    exact g
  · rw [o 1 (by omega)]; exact c1
  · rw [o 4 (by omega)]; exact c2
  · rw [o 9 (by omega), o 10 (by omega), o 11 (by omega), o 12 (by omega)]
    exact c3
  · rw [o 13 (by omega), o 14 (by omega), o 15 (by omega)]; exact c4
  · rw [o 5 (by omega), o 6 (by omega), o 7 (by omega), o 8 (by omega), o 16 (by omega), o 17 (by omega), o 18 (by omega), o 19 (by omega)]; exact c5
  · intro f h0 hf
    rw [o 10 (by omega)] at hf
    rw [o _ (by omega), o _ (by omega)]
    exact f1 f h0 hf
  · intro f h0 hf
    rw [o 11 (by omega)] at hf
    rw [o _ (by omega), o _ (by omega), o _ (by omega)]
    exact f2 f h0 hf
  · intro f h0 hf
    rw [o 12 (by omega)] at hf
    rw [o _ (by omega), o _ (by omega)]
    exact f3 f h0 hf
  · intro p h0 hp
    rw [o _ (by omega)]
    exact f4 p h0 hp
  · intro p h0 hp
    rw [o _ (by omega)]
    exact f5 p h0 hp
  · intro p h0 hp
    rw [o _ (by omega), o _ (by omega), o _ (by omega)]
    exact f6 p h0 hp
  · intro i i0 hi
    rw [o 9 (by omega), e9] at hi
    have a := rGo_sl (r := r) (p := p) (i := i) (y := 0) h0 i0 (by omega) (by omega)
    have b := rGo_sl (r := r) (p := p) (i := i) (y := 1) h0 i0 (by omega) (by omega)
    simp only [Int.add_zero] at a
    rw [a, b]
    split
    · exact f7r (i + 1) (by omega) (by omega)
    · exact f7r i (by omega) (by omega)
  · intro i k i0 hi k0 k1
    have a := rGo_sl (r := r) (p := p) (i := i) (y := 2 + k) h0 i0 (by omega) (by omega)
    rw [← Int.add_assoc, ← Int.add_assoc] at a
    rw [a]
    split
    · exact f8r (i + 1) k (by omega) (by omega) k0 k1
    · exact f8r i k (by omega) (by omega) k0 k1
  · intro b b0 b1
    by_cases hb : b < 696
    · rw [o b hb]
      exact f10 b b0 b1
    · have hi : b = 696 + 242 * ((b - 696) / 242) + (b - 696) % 242 := by omega
      have a := rGo_sl (r := r) (p := p) (i := (b - 696) / 242) (y := (b - 696) % 242) h0 (by omega) (by omega) (by omega)
      rw [← hi] at a
      rw [a]
      split
      · exact f10r _ (by omega) (by omega)
      · exact f10r _ (by omega) (by omega)
