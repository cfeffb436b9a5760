/-! the reference: an arrival -/
theorem geo_c {q r : Int → Int} (h0 : q 0 = r 0) (h2 : q 2 = r 2) (h3 : q 3 = r 3) : gN q = gN r ∧ gE q = gE r ∧ (∀ k, gLen q k = gLen r k) ∧ (∀ k, gPo q k = gPo r k) ∧ (∀ k, gF q k = gF r k) ∧ gT q = gT r ∧ (∀ p, gPc q p = gPc r p) ∧ (∀ p, gPl q p = gPl r p) ∧ (∀ p, gPt q p = gPt r p) := by
  have a1 : gN q = gN r := by unfold gN; rw [h0, h2]
  have a2 : gE q = gE r := by unfold gE; rw [h2, h3]
  have a3 : ∀ k, gLen q k = gLen r k := fun k => by unfold gLen; rw [h0, h2]
  have a4 : ∀ k, gPo q k = gPo r k := fun k => by unfold gPo; rw [a3, h3]
  have a5 : ∀ k, gF q k = gF r k := fun k => by unfold gF; rw [a2]
  have a6 : gT q = gT r := by unfold gT; rw [a5, a4, a1]
  have a7 : ∀ p, gPc q p = gPc r p := fun p => by unfold gPc; rw [a2]
  have a8 : ∀ p, gPl q p = gPl r p := fun p => by unfold gPl; rw [a7, a5, h2, h3]
  have a9 : ∀ p, gPt q p = gPt r p := fun p => by unfold gPt; rw [a7, a8, a3, h2, h3]
  exact ⟨a1, a2, a3, a4, a5, a6, a7, a8, a9⟩
def rJ (q : Int → Int) (k : Int) : Int → Int := if gV q k ≤ 0 then q else rTell q (gV q k) k 0
def rA1 (r : Int → Int) (s p : Int) : Int → Int := rGot (rArr0 r s) s (gPl r p) (gPt r p).toNat
def rA2 (r : Int → Int) (s p : Int) : Int → Int := rs (rBrs (rA1 r s p) (gPl r p) (gPt r p) (rA1 r s p 11).toNat) (96 + p) (s + 1)
def rA3 (r : Int → Int) (s p : Int) : Int → Int := rTell (rA2 r s p) 0 p s
def rA4 (r : Int → Int) (s p : Int) : Int → Int := rJ (rA3 r s p) (gPc (rA3 r s p) p)
def rArr (r : Int → Int) (s p : Int) : Int → Int := if gCut (rA4 r s p) s = 0 then rA4 r s p else rTell (rs (rA4 r s p) (14 + s) 0) 5 s (rs (rA4 r s p) (14 + s) 0 (16 + s))
theorem RW_gl {r : Int → Int} {e : Int} (w : RW r e) : 0 ≤ r 7 ∧ r 7 ≤ e ∧ e ≤ 2000000000 := by
  have c5 := w.2.2.2.2.2.1
  have f9 := w.2.2.2.2.2.2.2.2.2.2.2.2.2.2.1
  omega
theorem rJ_w {q : Int → Int} {e k : Int} (w : RW q e) (he : e < 2000000000) (hk : 0 ≤ k ∧ k ≤ 999) : RW (rJ q k) (e + 1) := by
  unfold rJ
  have hv := gV_b (r := q) (k := k)
  split
  · exact RW_e w (by omega) (by omega)
  · have := RW_gl w
    exact RW_tell w he (by omega) hk (by omega)
theorem rJ_o {q : Int → Int} {e k j : Int} (w : RW q e) (hj : j < 7 ∨ 7 < j ∧ j < 576 ∨ 696 ≤ j) : rJ q k j = q j := by
  unfold rJ
  split
  · rfl
  · exact rTell_g (RW_gl w).1 hj
/-- the rows of an arrival: what they keep, where they differ -/
theorem rA_w {r : Int → Int} {e s p : Int} (w : RW r e) (he : e + 10 ≤ 2000000000) (hs : 0 ≤ s ∧ s ≤ 1) (h0 : 0 ≤ p) (h1 : p < gT r) :
    (RW (rA1 r s p) (e + 1) ∧ ∀ j, j < 5 ∨ 5 < j ∧ j < 16 ∨ 17 < j ∧ j < 336 ∨ 576 ≤ j → rA1 r s p j = r j) ∧
    (RW (rA2 r s p) (e + 1) ∧ ∀ j, j < 5 ∨ 5 < j ∧ j < 16 ∨ 17 < j ∧ j < 336 ∧ j ≠ 96 + p ∨ 576 ≤ j → rA2 r s p j = r j) ∧
    (RW (rA3 r s p) (e + 2) ∧ ∀ j, j < 5 ∨ 5 < j ∧ j < 7 ∨ 7 < j ∧ j < 16 ∨ 17 < j ∧ j < 336 ∧ j ≠ 96 + p ∨ 696 ≤ j → rA3 r s p j = r j) ∧
    (RW (rA4 r s p) (e + 3) ∧ ∀ j, j < 5 ∨ 5 < j ∧ j < 7 ∨ 7 < j ∧ j < 16 ∨ 17 < j ∧ j < 336 ∧ j ≠ 96 + p ∨ 696 ≤ j → rA4 r s p j = r j) := by
  obtain ⟨l1, l2, l3, l4, l5, l6⟩ := gPl_b w.1 h0 h1
  obtain ⟨t1, t2⟩ := gT_b w.1
  have g2 := w.1.2.1
  have hgl := RW_gl w
  have w0 := rArr0_w w (by omega) hs
  obtain ⟨a1, a2⟩ := rGot_w (s := s) (x := gPl r p) w0 (by omega) (m := (gPt r p).toNat) (by omega)
  have b1 : RW (rA1 r s p) (e + 1) := a1
  have b2 : ∀ j, j < 5 ∨ 5 < j ∧ j < 16 ∨ 17 < j ∧ j < 336 ∨ 576 ≤ j → rA1 r s p j = r j := fun j hj => (a2 j (by omega)).trans (rArr0_o hs (by omega))
  obtain ⟨c1, c2⟩ := rBrs_w (x := gPl r p) (n := gPt r p) b1 (by omega) (by omega) (Nat.le_refl _)
  have d1 : RW (rA2 r s p) (e + 1) := RW_set c1 (by omega) (by omega) (by omega) (by omega) (by omega) (by omega) (by omega) (by omega) (by omega) (by omega) (by omega) (by omega)
  have d2 : ∀ j, j < 5 ∨ 5 < j ∧ j < 16 ∨ 17 < j ∧ j < 336 ∧ j ≠ 96 + p ∨ 576 ≤ j → rA2 r s p j = r j := fun j hj => (rs_ne (by omega)).trans ((c2 j (by omega)).trans (b2 j (by omega)))
  have e1 : RW (rA3 r s p) (e + 1 + 1) := RW_tell d1 (by omega) (by omega) (by omega) (by omega)
  have e2 : ∀ j, j < 5 ∨ 5 < j ∧ j < 7 ∨ 7 < j ∧ j < 16 ∨ 17 < j ∧ j < 336 ∧ j ≠ 96 + p ∨ 696 ≤ j → rA3 r s p j = r j := fun j hj => (rTell_g (RW_gl d1).1 (by omega)).trans (d2 j (by omega))
  have hc := (geo_c (e2 0 (by omega)) (e2 2 (by omega)) (e2 3 (by omega))).2.2.2.2.2.2.1 p
  obtain ⟨p1, p2, -, -⟩ := gPc_b w.1 h0 h1
  obtain ⟨n1, n2, -⟩ := gN_b w.1
  have f1 : RW (rA4 r s p) (e + 1 + 1 + 1) := rJ_w e1 (by omega) (by rw [hc]; omega)
  have f2 : ∀ j, j < 5 ∨ 5 < j ∧ j < 7 ∨ 7 < j ∧ j < 16 ∨ 17 < j ∧ j < 336 ∧ j ≠ 96 + p ∨ 696 ≤ j → rA4 r s p j = r j := fun j hj => (rJ_o e1 (by omega)).trans (e2 j hj)
  exact ⟨⟨b1, b2⟩, ⟨d1, d2⟩, ⟨RW_e e1 (by omega) (by omega), e2⟩, ⟨RW_e f1 (by omega) (by omega), f2⟩⟩
theorem rArr_w {r : Int → Int} {e s p : Int} (w : RW r e) (he : e + 10 ≤ 2000000000) (hs : 0 ≤ s ∧ s ≤ 1) (h0 : 0 ≤ p) (h1 : p < gT r) : RW (rArr r s p) (e + 4) ∧ ∀ j, j < 5 ∨ 5 < j ∧ j < 7 ∨ 7 < j ∧ j < 14 ∨ 17 < j ∧ j < 336 ∧ j ≠ 96 + p ∨ 696 ≤ j → rArr r s p j = r j := by
  obtain ⟨-, -, -, a1, a2⟩ := rA_w w he hs h0 h1
  have hg := RW_gl a1
  have g2 := (gT_b w.1).2
  have g3 := w.1.2.1
  have hw := RW_gl w
  unfold rArr
  split
  · exact ⟨RW_e a1 (by omega) (by omega), fun j hj => a2 j (by omega)⟩
  · have w1 : RW (rs (rA4 r s p) (14 + s) 0) (e + 3) := RW_set a1 (by omega) (by omega) (by omega) (by omega) (by omega) (by omega) (by omega) (by omega) (by omega) (by omega) (by omega) (by omega)
    have h16 := RW_16 w1 hs
    have w2 := RW_tell w1 (k := 5) (a := s) (b := rs (rA4 r s p) (14 + s) 0 (16 + s)) (by omega) (by omega) (by omega) (by omega)
    exact ⟨RW_e w2 (by omega) (by omega), fun j hj => (rTell_g (RW_gl w1).1 (by omega)).trans ((rs_ne (by omega)).trans (a2 j (by omega)))⟩
section MJ
variable {l : Launch} {X : XT} {o : Nat} {B A : AH} {S : Nat → Int → Int} {e : Int}
theorem c_X6_judges2 (hl : l.stackTraces = false) {q : Int → Int} (w : RW q e) {k : Int} (h0 : 0 ≤ k) (h1 : k < gN q) : Fn l X 4 M_X6_judges [.ref o, .int (I k)] (mp X o B (sr S q)) 0 0 Rv (mp X o B (sr S (rJ q k))) := by
  have h := c_X6_judges (B := B) (X := X) (o := o) (S := sr S q) hl w h0 h1
  rw [sr_sr] at h
  exact h
end MJ
