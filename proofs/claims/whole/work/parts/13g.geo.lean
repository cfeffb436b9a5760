/-! pieces and parts: the numbers of the reference, as whole numbers of its row -/
theorem dvb {a b : Int} (h : 0 < b) : b * (a / b) ≤ a ∧ a < b * (a / b) + b := ⟨Int.mul_ediv_self_le (by omega), Int.lt_mul_ediv_self_add h⟩
def gN (r : Int → Int) : Int := (r 0 + r 2 - 1) / r 2
def gE (r : Int → Int) : Int := (r 2 + r 3 - 1) / r 3
def gLen (r : Int → Int) (k : Int) : Int := if r 2 ≤ r 0 - r 2 * k then r 2 else r 0 - r 2 * k
def gPo (r : Int → Int) (k : Int) : Int := (gLen r k + r 3 - 1) / r 3
def gF (r : Int → Int) (k : Int) : Int := gE r * k
def gT (r : Int → Int) : Int := gF r (gN r - 1) + gPo r (gN r - 1)
def gPc (r : Int → Int) (p : Int) : Int := p / gE r
def gPl (r : Int → Int) (p : Int) : Int := r 2 * gPc r p + r 3 * (p - gF r (gPc r p))
def gPt (r : Int → Int) (p : Int) : Int := if r 3 ≤ r 2 * gPc r p + gLen r (gPc r p) - gPl r p then r 3 else r 2 * gPc r p + gLen r (gPc r p) - gPl r p
def gAt (r : Int → Int) (x : Int) : Int := gF r (x / r 2) + (x - r 2 * (x / r 2)) / r 3
def GW (r : Int → Int) : Prop := 1 ≤ r 0 ∧ r 0 ≤ 240 ∧ 4 ≤ r 2 ∧ r 2 ≤ 48 ∧ 1 ≤ r 3 ∧ r 3 ≤ r 2
section GE
variable {r : Int → Int} (g : GW r)
theorem gN_b (g : GW r) : 1 ≤ gN r ∧ gN r ≤ 60 ∧ r 2 * (gN r - 1) < r 0 ∧ r 0 ≤ r 2 * gN r := by
  obtain ⟨g1, g2, g3, g4, g5, g6⟩ := g
  have h := dvb (a := r 0 + r 2 - 1) (b := r 2) (by omega)
  have e : r 2 * (gN r - 1) = r 2 * gN r - r 2 := by rw [Int.mul_sub, Int.mul_one]
  have h1 : 1 ≤ gN r := Int.le_ediv_of_mul_le (by omega) (by omega)
  have h2 : gN r < 61 := Int.ediv_lt_of_lt_mul (by omega) (by omega)
  have h3 : r 2 * gN r ≤ r 0 + r 2 - 1 := h.1
  have h4 : r 0 + r 2 - 1 < r 2 * gN r + r 2 := h.2
  exact ⟨h1, by omega, by omega, by omega⟩
theorem gLen_b (g : GW r) {k : Int} (h0 : 0 ≤ k) (h1 : k < gN r) : 0 ≤ r 2 * k ∧ 1 ≤ gLen r k ∧ gLen r k ≤ r 2 ∧ r 2 * k + gLen r k ≤ r 0 := by
  obtain ⟨n1, n2, n3, n4⟩ := gN_b g
  obtain ⟨g1, g2, g3, g4, g5, g6⟩ := g
  have e1 : 0 ≤ r 2 * k := Int.mul_nonneg (by omega) h0
  have e2 : r 2 * k ≤ r 2 * (gN r - 1) := Int.mul_le_mul_of_nonneg_left (by omega) (by omega)
  unfold gLen
  split
  · exact ⟨e1, by omega, by omega, by omega⟩
  · exact ⟨e1, by omega, by omega, by omega⟩
theorem gLen_in (g : GW r) {k : Int} (h0 : 0 ≤ k) (h1 : k + 1 < gN r) : gLen r k = r 2 := by
  obtain ⟨n1, n2, n3, n4⟩ := gN_b g
  obtain ⟨g1, g2, g3, g4, g5, g6⟩ := g
  have e2 : r 2 * (k + 1) ≤ r 2 * (gN r - 1) := Int.mul_le_mul_of_nonneg_left (by omega) (by omega)
  have e3 : r 2 * (k + 1) = r 2 * k + r 2 := by rw [Int.mul_add, Int.mul_one]
  unfold gLen
  rw [if_pos (by omega)]
theorem gLen_last (g : GW r) : r 2 * (gN r - 1) + gLen r (gN r - 1) = r 0 := by
  obtain ⟨n1, n2, n3, n4⟩ := gN_b g
  obtain ⟨g1, g2, g3, g4, g5, g6⟩ := g
  have e : r 2 * (gN r - 1) = r 2 * gN r - r 2 := by rw [Int.mul_sub, Int.mul_one]
  unfold gLen
  split
  · omega
  · omega
theorem gE_b (g : GW r) : 1 ≤ gE r ∧ gE r ≤ 48 ∧ gE r ≤ r 2 := by
  obtain ⟨g1, g2, g3, g4, g5, g6⟩ := g
  have h1 : 1 ≤ gE r := Int.le_ediv_of_mul_le (by omega) (by omega)
  have h2 : gE r < r 2 + 1 := by
    refine Int.ediv_lt_of_lt_mul (by omega) ?_
    have e1 : r 2 * 1 ≤ r 2 * r 3 := Int.mul_le_mul_of_nonneg_left g5 (by omega)
    have e2 : (r 2 + 1) * r 3 = r 2 * r 3 + r 3 := by rw [Int.add_mul, Int.one_mul]
    omega
  exact ⟨h1, by omega, by omega⟩
theorem gPo_b (g : GW r) {k : Int} (h0 : 0 ≤ k) (h1 : k < gN r) : 1 ≤ gPo r k ∧ gPo r k ≤ gE r ∧ r 3 * gPo r k - r 3 < gLen r k ∧ gLen r k ≤ r 3 * gPo r k ∧ gPo r k ≤ gLen r k := by
  obtain ⟨l1, l2, l3, l4⟩ := gLen_b g h0 h1
  obtain ⟨g1, g2, g3, g4, g5, g6⟩ := g
  have h := dvb (a := gLen r k + r 3 - 1) (b := r 3) (by omega)
  have p1 : 1 ≤ gPo r k := Int.le_ediv_of_mul_le (by omega) (by omega)
  have p2 : gPo r k ≤ gE r := Int.ediv_le_ediv (by omega) (by omega)
  have p3 : r 3 * gPo r k ≤ gLen r k + r 3 - 1 := h.1
  have p4 : gLen r k + r 3 - 1 < r 3 * gPo r k + r 3 := h.2
  have p5 : 1 * gPo r k - 1 ≤ r 3 * gPo r k - r 3 := by
    have e1 : 1 * (gPo r k - 1) ≤ r 3 * (gPo r k - 1) := Int.mul_le_mul_of_nonneg_right g5 (by omega)
    have e2 : r 3 * (gPo r k - 1) = r 3 * gPo r k - r 3 := by rw [Int.mul_sub, Int.mul_one]
    omega
  exact ⟨p1, p2, by omega, by omega, by omega⟩
theorem gPo_in (g : GW r) {k : Int} (h0 : 0 ≤ k) (h1 : k + 1 < gN r) : gPo r k = gE r := by
  unfold gPo gE
  rw [gLen_in g h0 h1]
theorem gF_mono (g : GW r) {a b : Int} (h : a ≤ b) : gF r a ≤ gF r b := Int.mul_le_mul_of_nonneg_left h (by have := (gE_b g).1; omega)
theorem gF_one {a : Int} : gF r (a + 1) = gF r a + gE r := by unfold gF; rw [Int.mul_add, Int.mul_one]
theorem gF_nn (g : GW r) {a : Int} (h : 0 ≤ a) : 0 ≤ gF r a := Int.mul_nonneg (by have := (gE_b g).1; omega) h
theorem gF_b (g : GW r) {k : Int} (h0 : 0 ≤ k) (h1 : k < gN r) : 0 ≤ gF r k ∧ gF r k + gPo r k ≤ gT r := by
  refine ⟨gF_nn g h0, ?_⟩
  by_cases h : k + 1 < gN r
  · have e1 := gF_mono g (a := k + 1) (b := gN r - 1) (by omega)
    have e2 := gF_one (r := r) (a := k)
    have e3 := gPo_in g h0 h
    have e4 := (gPo_b g (k := gN r - 1) (by omega) (by omega)).1
    unfold gT
    omega
  · have : k = gN r - 1 := by omega
    subst this
    exact Int.le_refl _
theorem gF_next (g : GW r) {k : Int} (h0 : 0 ≤ k) (h1 : k + 1 < gN r) : gF r (k + 1) = gF r k + gPo r k := by
  rw [gF_one, gPo_in g h0 h1]
theorem gT_b (g : GW r) : 1 ≤ gT r ∧ gT r ≤ r 0 := by
  obtain ⟨n1, n2, n3, n4⟩ := gN_b g
  have l := gLen_last g
  obtain ⟨p1, p2, p3, p4, p5⟩ := gPo_b g (k := gN r - 1) (by omega) (by omega)
  obtain ⟨e1, e2, e3⟩ := gE_b g
  have q1 : gF r (gN r - 1) ≤ r 2 * (gN r - 1) := Int.mul_le_mul_of_nonneg_right e3 (by omega)
  have q2 := gF_nn g (a := gN r - 1) (by omega)
  unfold gT
  omega
theorem gPc_b (g : GW r) {p : Int} (h0 : 0 ≤ p) (h1 : p < gT r) : 0 ≤ gPc r p ∧ gPc r p < gN r ∧ gF r (gPc r p) ≤ p ∧ p < gF r (gPc r p) + gPo r (gPc r p) := by
  obtain ⟨e1, e2, e3⟩ := gE_b g
  obtain ⟨n1, n2, n3, n4⟩ := gN_b g
  have d : gE r * (p / gE r) ≤ p ∧ p < gE r * (p / gE r) + gE r := dvb (by omega)
  have q0 : 0 ≤ gPc r p := Int.ediv_nonneg h0 (by omega)
  have q1 : gPc r p < gN r := by
    refine Int.ediv_lt_of_lt_mul (by omega) ?_
    have e4 := (gPo_b g (k := gN r - 1) (by omega) (by omega)).2.1
    have e5 := gF_one (r := r) (a := gN r - 1)
    have e6 : gF r (gN r - 1 + 1) = gN r * gE r := by unfold gF; rw [Int.mul_comm]; congr 1; omega
    unfold gT at h1
    omega
  refine ⟨q0, q1, d.1, ?_⟩
  by_cases h : gPc r p + 1 < gN r
  · rw [gPo_in g q0 h]
    exact d.2
  · have e : gPc r p = gN r - 1 := by omega
    rw [e]
    exact h1
theorem gPl_b (g : GW r) {p : Int} (h0 : 0 ≤ p) (h1 : p < gT r) : 0 ≤ r 2 * gPc r p ∧ r 2 * gPc r p ≤ gPl r p ∧ 1 ≤ gPt r p ∧ gPt r p ≤ r 3 ∧ gPl r p + gPt r p ≤ r 2 * gPc r p + gLen r (gPc r p) ∧ gPl r p + gPt r p ≤ r 0 := by
  obtain ⟨c1, c2, c3, c4⟩ := gPc_b g h0 h1
  obtain ⟨l1, l2, l3, l4⟩ := gLen_b g c1 c2
  obtain ⟨p1, p2, p3, p4, p5⟩ := gPo_b g c1 c2
  obtain ⟨g1, g2, g3, g4, g5, g6⟩ := g
  have e1 : 0 ≤ r 3 * (p - gF r (gPc r p)) := Int.mul_nonneg (by omega) (by omega)
  have e2 : r 3 * (p - gF r (gPc r p)) ≤ r 3 * (gPo r (gPc r p) - 1) := Int.mul_le_mul_of_nonneg_left (by omega) (by omega)
  have e3 : r 3 * (gPo r (gPc r p) - 1) = r 3 * gPo r (gPc r p) - r 3 := by rw [Int.mul_sub, Int.mul_one]
  have e4 : gPl r p = r 2 * gPc r p + r 3 * (p - gF r (gPc r p)) := rfl
  unfold gPt
  split
  · exact ⟨l1, by omega, by omega, by omega, by omega, by omega⟩
  · exact ⟨l1, by omega, by omega, by omega, by omega, by omega⟩
theorem gPc_of (g : GW r) {k j : Int} (h0 : 0 ≤ k) (h1 : k < gN r) (h2 : 0 ≤ j) (h3 : j < gPo r k) : gPc r (gF r k + j) = k := by
  obtain ⟨p1, p2, p3, p4, p5⟩ := gPo_b g h0 h1
  have e := (gE_b g).1
  unfold gPc gF
  rw [Int.add_comm, Int.add_mul_ediv_left _ _ (by omega), Int.ediv_eq_zero_of_lt h2 (by omega), Int.zero_add]
theorem gPl_of (g : GW r) {k j : Int} (h0 : 0 ≤ k) (h1 : k < gN r) (h2 : 0 ≤ j) (h3 : j < gPo r k) : gPl r (gF r k + j) = r 2 * k + r 3 * j := by
  unfold gPl
  rw [gPc_of g h0 h1 h2 h3]
  congr 2
  omega
theorem gPt_of (g : GW r) {k j : Int} (h0 : 0 ≤ k) (h1 : k < gN r) (h2 : 0 ≤ j) (h3 : j < gPo r k) : gPt r (gF r k + j) = if r 3 ≤ gLen r k - r 3 * j then r 3 else gLen r k - r 3 * j := by
  unfold gPt
  rw [gPl_of g h0 h1 h2 h3, gPc_of g h0 h1 h2 h3]
  have : r 2 * k + gLen r k - (r 2 * k + r 3 * j) = gLen r k - r 3 * j := by omega
  rw [this]
/-- within a piece, where a part ends the next one starts -/
theorem gPl_in (g : GW r) {k j : Int} (h0 : 0 ≤ k) (h1 : k < gN r) (h2 : 0 ≤ j) (h3 : j + 1 < gPo r k) : gPl r (gF r k + j) + gPt r (gF r k + j) = r 2 * k + r 3 * (j + 1) := by
  obtain ⟨p1, p2, p3, p4, p5⟩ := gPo_b g h0 h1
  rw [gPl_of g h0 h1 h2 (by omega), gPt_of g h0 h1 h2 (by omega)]
  have g5 := g.2.2.2.2.1
  have e2 : r 3 * (j + 1) ≤ r 3 * (gPo r k - 1) := Int.mul_le_mul_of_nonneg_left (by omega) (by omega)
  have e3 : r 3 * (gPo r k - 1) = r 3 * gPo r k - r 3 := by rw [Int.mul_sub, Int.mul_one]
  have e4 : r 3 * (j + 1) = r 3 * j + r 3 := by rw [Int.mul_add, Int.mul_one]
  rw [if_pos (by omega)]
  omega
/-- the last part of a piece ends where the piece ends -/
theorem gPl_end (g : GW r) {k : Int} (h0 : 0 ≤ k) (h1 : k < gN r) : gPl r (gF r k + (gPo r k - 1)) + gPt r (gF r k + (gPo r k - 1)) = r 2 * k + gLen r k := by
  obtain ⟨p1, p2, p3, p4, p5⟩ := gPo_b g h0 h1
  rw [gPl_of g h0 h1 (by omega) (by omega), gPt_of g h0 h1 (by omega) (by omega)]
  have e3 : r 3 * (gPo r k - 1) = r 3 * gPo r k - r 3 := by rw [Int.mul_sub, Int.mul_one]
  split
  · omega
  · omega
end GE
