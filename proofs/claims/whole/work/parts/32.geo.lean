/-! the class: pieces and parts by their starts; sums with one place changed -/
def gPs (r : Int → Int) (k : Int) : Int := if k < gN r then r 2 * k else r 0
def gFs (r : Int → Int) (k : Int) : Int := if k < gN r then gF r k else gT r
def gLs (r : Int → Int) (p : Int) : Int := if p < gT r then gPl r p else r 0
theorem gPs_d {r : Int → Int} (g : GW r) {k : Int} (h0 : 0 ≤ k) (h1 : k < gN r) : gPs r (k + 1) - gPs r k = gLen r k := by
  unfold gPs
  rw [if_pos h1]
  by_cases h : k + 1 < gN r
  · rw [if_pos h, gLen_in g h0 h, Int.mul_add]
    omega
  · have e : k = gN r - 1 := by omega
    have l := gLen_last g
    rw [if_neg h, e]
    omega
theorem gFs_d {r : Int → Int} (g : GW r) {k : Int} (h0 : 0 ≤ k) (h1 : k < gN r) : gFs r (k + 1) - gFs r k = gPo r k := by
  unfold gFs
  rw [if_pos h1]
  by_cases h : k + 1 < gN r
  · rw [if_pos h, gF_next g h0 h]
    omega
  · have e : k = gN r - 1 := by omega
    rw [if_neg h, e]
    unfold gT
    omega
theorem gLs_n {r : Int → Int} (g : GW r) {p : Int} (h0 : 0 ≤ p) (h1 : p < gT r) : gPl r p + gPt r p = gLs r (p + 1) := by
  obtain ⟨c1, c2, c3, c4⟩ := gPc_b g h0 h1
  obtain ⟨k, hk⟩ : ∃ k, k = gPc r p := ⟨_, rfl⟩
  rw [← hk] at c1 c2 c3 c4
  obtain ⟨j, hj⟩ : ∃ j, j = p - gF r k := ⟨_, rfl⟩
  have ep : p = gF r k + j := by omega
  unfold gLs
  by_cases h : j + 1 < gPo r k
  · have e1 := gPl_in g c1 c2 (j := j) (by omega) h
    have e2 := gPl_of g c1 c2 (j := j + 1) (by omega) h
    have f := (gF_b g c1 c2).2
    rw [if_pos (by omega), ep, e1, Int.add_assoc, e2]
  · have ej : j = gPo r k - 1 := by omega
    have e1 := gPl_end g c1 c2
    rw [← ej, ← ep] at e1
    rw [e1]
    by_cases hn : k + 1 < gN r
    · have e3 := gF_next g c1 hn
      obtain ⟨f1, f2⟩ := gF_b g (k := k + 1) (by omega) hn
      obtain ⟨q1, -⟩ := gPo_b g (k := k + 1) (by omega) hn
      have e2 := gPl_of g (k := k + 1) (j := 0) (by omega) hn (by omega) (by omega)
      have e4 : p + 1 = gF r (k + 1) + 0 := by omega
      rw [if_pos (by omega), e4, e2, gLen_in g c1 hn, Int.mul_add]
      omega
    · have ek : k = gN r - 1 := by omega
      have e3 : p + 1 = gT r := by unfold gT; rw [← ek]; omega
      rw [if_neg (by omega), ek]
      exact gLen_last g
theorem sg_mono {f : Int → Int} {n m : Nat} (h : ∀ k : Nat, k < m → 0 ≤ f k) (hn : n ≤ m) : sg f n ≤ sg f m := by
  induction m with
  | zero =>
    have e : n = 0 := by omega
    rw [e]
    exact Int.le_refl _
  | succ m ih =>
    by_cases he : n = m + 1
    · rw [he]
      exact Int.le_refl _
    · have i := ih (fun k hk => h k (by omega)) (by omega)
      have := h m (by omega)
      rw [sg_s]
      omega
/-- a sum with one place changed -/
theorem sg_one {f g : Int → Int} {n : Nat} {i : Int} (h0 : 0 ≤ i) (h1 : i < n) (h : ∀ k : Nat, k < n → (k : Int) ≠ i → f k = g k) : sg g n = sg f n - f i + g i := by
  induction n with
  | zero => omega
  | succ n ih =>
    rw [sg_s, sg_s]
    by_cases hn : (n : Int) = i
    · have e : sg g n = sg f n := sg_congr fun k hk => (h k (by omega) (by omega)).symm
      rw [e, hn]
      omega
    · have e := ih (by omega) fun k hk hne => h k (by omega) hne
      rw [e, h n (by omega) hn]
      omega
/-! .. of missing parts -/
theorem gMi_c {r q : Int → Int} (h0 : q 0 = r 0) (h2 : q 2 = r 2) (h3 : q 3 = r 3) {k : Int} (h : ∀ i, 0 ≤ i → i < gPo r k → (q (96 + (gF r k + i)) = 0 ↔ r (96 + (gF r k + i)) = 0)) : gMi q k = gMi r k := by
  have hc := geo_c h0 h2 h3
  unfold gMi
  rw [hc.2.2.2.1, hc.2.2.2.2.1]
  refine sg_congr fun i hi => ?_
  have := h i (by omega) (by omega)
  unfold bi
  by_cases hz : r (96 + (gF r k + i)) = 0
  · rw [if_pos hz, if_pos (this.mpr hz)]
  · rw [if_neg hz, if_neg fun q => hz (this.mp q)]
/-- one part of the piece changed -/
theorem gMi_1 {r q : Int → Int} (g : GW r) (h0 : q 0 = r 0) (h2 : q 2 = r 2) (h3 : q 3 = r 3) {p : Int} (p0 : 0 ≤ p) (p1 : p < gT r) (h : ∀ i, 0 ≤ i → i < gT r → i ≠ p → q (96 + i) = r (96 + i)) : gMi q (gPc r p) = gMi r (gPc r p) - bi (r (96 + p) = 0) + bi (q (96 + p) = 0) := by
  have hc := geo_c h0 h2 h3
  obtain ⟨c1, c2, c3, c4⟩ := gPc_b g p0 p1
  obtain ⟨f1, f2⟩ := gF_b g c1 c2
  unfold gMi
  rw [hc.2.2.2.1, hc.2.2.2.2.1]
  have e := sg_one (f := fun j => bi (r (96 + (gF r (gPc r p) + j)) = 0)) (g := fun j => bi (q (96 + (gF r (gPc r p) + j)) = 0)) (n := (gPo r (gPc r p)).toNat) (i := p - gF r (gPc r p)) (by omega) (by omega) fun k hk hne => by
    have := h (gF r (gPc r p) + k) (by omega) (by omega) (by omega)
    simp only [this]
  rw [e]
  have e2 : gF r (gPc r p) + (p - gF r (gPc r p)) = p := by omega
  simp only [e2]
theorem gMi_o {r q : Int → Int} (g : GW r) (h0 : q 0 = r 0) (h2 : q 2 = r 2) (h3 : q 3 = r 3) {p k : Int} (p0 : 0 ≤ p) (p1 : p < gT r) (k0 : 0 ≤ k) (k1 : k < gN r) (hk : k ≠ gPc r p) (h : ∀ i, 0 ≤ i → i < gT r → i ≠ p → q (96 + i) = r (96 + i)) : gMi q k = gMi r k := by
  obtain ⟨f1, f2⟩ := gF_b g k0 k1
  refine gMi_c h0 h2 h3 fun i i0 i1 => ?_
  have hne : gF r k + i ≠ p := by
    intro e
    have := gPc_of g k0 k1 i0 i1
    rw [e] at this
    exact hk this.symm
  rw [h _ (by omega) (by omega) hne]
theorem gMs_1 {r q : Int → Int} (g : GW r) (h0 : q 0 = r 0) (h2 : q 2 = r 2) (h3 : q 3 = r 3) {p : Int} (p0 : 0 ≤ p) (p1 : p < gT r) (h : ∀ i, 0 ≤ i → i < gT r → i ≠ p → q (96 + i) = r (96 + i)) : gMs q = gMs r - bi (r (96 + p) = 0) + bi (q (96 + p) = 0) := by
  have hc := geo_c h0 h2 h3
  unfold gMs
  rw [hc.2.2.2.2.2.1]
  exact sg_one (f := fun j => bi (r (96 + j) = 0)) (g := fun j => bi (q (96 + j) = 0)) p0 (by omega) fun k hk hne => by
    have := h k (by omega) (by omega) hne
    simp only [this]
theorem gMs_c {r q : Int → Int} (g : GW r) (h0 : q 0 = r 0) (h2 : q 2 = r 2) (h3 : q 3 = r 3) (h : ∀ i, 0 ≤ i → i < gT r → q (96 + i) = r (96 + i)) : gMs q = gMs r := by
  have hc := geo_c h0 h2 h3
  obtain ⟨t1, t2⟩ := gT_b g
  unfold gMs
  rw [hc.2.2.2.2.2.1]
  exact sg_congr fun k hk => by
    have := h k (by omega) (by omega)
    simp only [this]
/-! .. of bytes -/
theorem gB_c {r q : Int → Int} (h1 : q 1 = r 1) (h10 : q 10 = r 10) (hf : ∀ f, 0 ≤ f → f < r 10 → q (20 + 2 * f) = r (20 + 2 * f) ∧ q (20 + 2 * f + 1) = r (20 + 2 * f + 1)) {s x : Int} : gB q s x = gB r s x := by
  unfold gB
  rw [h1, h10]
  split
  · have e : sg (fun f => if q (20 + 2 * f) = x then q (20 + 2 * f + 1) else 0) (r 10).toNat = sg (fun f => if r (20 + 2 * f) = x then r (20 + 2 * f + 1) else 0) (r 10).toNat := sg_congr fun f hf1 => by
      obtain ⟨a, b⟩ := hf f (by omega) (by omega)
      rw [a, b]
    rw [e]
  · rfl
theorem gS_c {r q : Int → Int} (h : ∀ s x, gB q s x = gB r s x) {s x n : Int} : gS q s x n = gS r s x n := by
  unfold gS
  rw [sg_congr (g := fun j => (j + 1) * gB r s (x + j)) fun j _ => by rw [h]]
theorem gR'_c {r q : Int → Int} {x y n : Int} (h : ∀ j, 0 ≤ j → j < n → q (x + j) = r (y + j)) : gR' q x n = gR' r y n := by
  unfold gR'
  rw [sg_congr (g := fun j => (j + 1) * r (y + j)) fun j hj => by rw [h j (by omega) (by omega)]]
/-- the places of the configuration -/
def cf (y : Int) : Prop := (0 ≤ y ∧ y < 5) ∨ (9 < y ∧ y < 13) ∨ (19 < y ∧ y < 96)
theorem cfg_c {r q : Int → Int} {e : Int} (w : RW r e) (h : ∀ y, cf y → q y = r y) : q 0 = r 0 ∧ q 2 = r 2 ∧ q 3 = r 3 ∧ ∀ s x, gB q s x = gB r s x := by
  have c3 := w.2.2.2.1
  refine ⟨h 0 (by unfold cf; omega), h 2 (by unfold cf; omega), h 3 (by unfold cf; omega), fun s x => gB_c (h 1 (by unfold cf; omega)) (h 10 (by unfold cf; omega)) fun f f0 f1 => ⟨h _ (by unfold cf; omega), h _ (by unfold cf; omega)⟩⟩
theorem gV_c {r q : Int → Int} {e : Int} (w : RW r e) (h : ∀ y, cf y → q y = r y) {k : Int} (hm : gMi q k = gMi r k) (hb : gMi r k = 0 → ∀ j, 0 ≤ j → j < gLen r k → q (336 + r 2 * k + j) = r (336 + r 2 * k + j)) : gV q k = gV r k := by
  obtain ⟨h0, h2, h3, hB⟩ := cfg_c w h
  have hc := geo_c h0 h2 h3
  have hn : 0 ≤ gMi r k := sg_bi.1
  unfold gV
  rw [hm, hc.2.2.1, h2, gS_c hB]
  by_cases hz : 0 < gMi r k
  · rw [if_pos hz, if_pos hz]
  · rw [if_neg hz, if_neg hz, gR'_c fun j j0 j1 => hb (by omega) j j0 j1]
