/-! the class: an arrival, as rows -/
theorem gPl_mono {r : Int → Int} (g : GW r) : ∀ (m : Nat) (p : Int), 0 ≤ p → p + m < gT r → gPl r p ≤ gPl r (p + m) := by
  intro m
  induction m with
  | zero => intro p _ _; rw [show p + ((0 : Nat) : Int) = p by omega]; exact Int.le_refl _
  | succ m ih =>
    intro p p0 p1
    have i := ih p p0 (by omega)
    have n := gLs_n g (p := p + m) (by omega) (by omega)
    obtain ⟨b1, b2, b3, b4, b5, b6⟩ := gPl_b g (p := p + m) (by omega) (by omega)
    have e : gLs r (p + m + 1) = gPl r (p + m + 1) := if_pos (by omega)
    rw [show p + ((m + 1 : Nat) : Int) = p + m + 1 by omega]
    omega
theorem part_dj {r : Int → Int} (g : GW r) {p q : Int} (p0 : 0 ≤ p) (h : p < q) (q1 : q < gT r) : gPl r p + gPt r p ≤ gPl r q := by
  have n := gLs_n g (p := p) p0 (by omega)
  have e : gLs r (p + 1) = gPl r (p + 1) := if_pos (by omega)
  have m := gPl_mono g (q - (p + 1)).toNat (p + 1) (by omega) (by omega)
  rw [show p + 1 + (((q - (p + 1)).toNat : Nat) : Int) = q by omega] at m
  omega
theorem part_ne {r : Int → Int} (g : GW r) {p q i : Int} (p0 : 0 ≤ p) (p1 : p < gT r) (q0 : 0 ≤ q) (q1 : q < gT r) (h : q ≠ p) (i0 : 0 ≤ i) (i1 : i < gPt r q) : gPl r q + i < gPl r p ∨ gPl r p + gPt r p ≤ gPl r q + i := by
  by_cases hl : q < p
  · have := part_dj g q0 hl p1
    omega
  · have := part_dj g (p := p) (q := q) p0 (by omega) q1
    omega
theorem piece_dj {r : Int → Int} (g : GW r) {p k j : Int} (p0 : 0 ≤ p) (p1 : p < gT r) (k0 : 0 ≤ k) (k1 : k < gN r) (hk : k ≠ gPc r p) (j0 : 0 ≤ j) (j1 : j < gLen r k) : r 2 * k + j < gPl r p ∨ gPl r p + gPt r p ≤ r 2 * k + j := by
  obtain ⟨q, i, q0, q1, qc, i0, i1, e, -, -⟩ := place_part g k0 k1 j0 j1
  rw [← e]
  refine part_ne g p0 p1 q0 q1 ?_ i0 i1
  intro h
  rw [h] at qc
  exact hk qc.symm
theorem rGot_v {q : Int → Int} {e s x : Int} (w : RW q e) (hx : 0 ≤ x) : ∀ m : Nat, x + m ≤ 240 → ∀ y, rGot q s x m y = if 336 + x ≤ y ∧ y < 336 + x + m then gB q s (y - 336) else q y := by
  intro m
  induction m with
  | zero => intro _ y; rw [if_neg (by omega)]; rfl
  | succ m ih =>
    intro hm y
    have i := ih (by omega)
    obtain ⟨w1, o1⟩ := rGot_w (s := s) (x := x) w hx (m := m) (by omega)
    have hB := (cfg_c w (q := rGot q s x m) fun y hy => o1 y (by unfold cf at hy; omega)).2.2.2
    show rs (rGot q s x m) (336 + (x + m)) (gB (rGot q s x m) s (x + m)) y = _
    rw [hB]
    by_cases h : y = 336 + (x + m)
    · rw [h, rs_eq, if_pos (by omega)]
      congr 1
      omega
    · rw [rs_ne h, i y]
      by_cases h2 : 336 + x ≤ y ∧ y < 336 + x + m
      · rw [if_pos h2, if_pos (by omega)]
      · rw [if_neg h2, if_neg (by omega)]
/-- the breaks of both sides -/
theorem brk_eq {q r : Int → Int} {e x n : Int} {g : Int → Int} (w : RW q e) (hx : 0 ≤ x) (hn : x + n ≤ 240) (hcf : ∀ y, cf y → q y = r y) (hg : ∀ k, 0 ≤ k → k < 240 → 0 ≤ g k ∧ g k ≤ 255) (he : ∀ y, x ≤ y → y < x + n → g y = q (336 + y)) : ∀ m : Nat, m ≤ (q 11).toNat → (∀ y, x ≤ y → y < x + n → kBs r (q 5) x n g m y = rBrs q x n m (336 + y)) ∧ ∀ y, y < 336 + x ∨ 336 + x + n ≤ y → rBrs q x n m y = q y := by
  intro m
  induction m with
  | zero => intro _; exact ⟨he, fun _ _ => rfl⟩
  | succ m ih =>
    intro hm
    obtain ⟨i1, i2⟩ := ih (by omega)
    have c3 := w.2.2.2.1
    have f2 := w.2.2.2.2.2.2.2.1 m (by omega) (by omega)
    have r1 := hcf (44 + 3 * m) (by unfold cf; omega)
    have r2 := hcf (44 + 3 * m + 1) (by unfold cf; omega)
    have r3 := hcf (44 + 3 * m + 2) (by unfold cf; omega)
    have b1 := i2 (44 + 3 * m) (by omega)
    have b2 := i2 (44 + 3 * m + 1) (by omega)
    have b3 := i2 (44 + 3 * m + 2) (by omega)
    have b5 := i2 5 (by omega)
    show (∀ y, x ≤ y → y < x + n → kB1 r (q 5) x n (kBs r (q 5) x n g m) m y = rBr1 (rBrs q x n m) x n m (336 + y)) ∧ ∀ y, y < 336 + x ∨ 336 + x + n ≤ y → rBr1 (rBrs q x n m) x n m y = q y
    unfold kB1 rBr1
    rw [b1, b2, b3, b5, ← r1, ← r2, ← r3]
    by_cases h : q (44 + 3 * m) = q 5 ∧ q (44 + 3 * m + 1) < n
    · rw [if_pos h, if_pos h]
      constructor
      · intro y y0 y1
        have iy := i1 (x + q (44 + 3 * m + 1)) (by omega) (by omega)
        rw [← Int.add_assoc] at iy
        by_cases hy : y = x + q (44 + 3 * m + 1)
        · rw [hy, rs_eq, ← Int.add_assoc 336, rs_eq, iy, rem_e]
        · rw [rs_ne hy, rs_ne (by omega)]
          exact i1 y y0 y1
      · intro y hy
        rw [rs_ne (by omega)]
        exact i2 y hy
    · rw [if_neg h, if_neg h]
      exact ⟨i1, i2⟩
def kA1 (r : Int → Int) (D : Nat → Int → Int) (p s : Int) (q : Int → Int) : Nat → Int → Int := kPut r (st D 10 8 (D 10 8 + 1)) p s q
def kA2 (r : Int → Int) (D : Nat → Int → Int) (p s : Int) (q : Int → Int) : Nat → Int → Int := sw (kA1 r D p s q) 0 (kBs r (kA1 r D p s q 10 8) (gPl r p) (gPt r p) (kA1 r D p s q 0) (r 11).toNat)
def kA3 (r : Int → Int) (D : Nat → Int → Int) (p s : Int) (q : Int → Int) : Nat → Int → Int := st (kA2 r D p s q) 5 s (D 5 s + 1)
def kA4 (r : Int → Int) (D : Nat → Int → Int) (p s : Int) (q : Int → Int) : Nat → Int → Int := kTell (kA3 r D p s q) 0 p s
def kA5 (r : Int → Int) (D : Nat → Int → Int) (p s : Int) (q : Int → Int) : Nat → Int → Int := kJ r (kA4 r D p s q) (gPc r p)
def kArr (r : Int → Int) (D : Nat → Int → Int) (p s : Int) (q : Int → Int) : Nat → Int → Int := if cutN r s (D 5 s + 1) = 0 then kA5 r D p s q else kTell (st (kA5 r D p s q) 4 s 0) 5 s (D 5 s + 1)
section KA
variable {r : Int → Int} {D : Nat → Int → Int} {p s e : Int} {q : Int → Int}
theorem kPut_0 {D : Nat → Int → Int} : kPut r D p s q 0 = cpy (D 0) q (gPl r p) (gPl r p) (gPt r p) := by unfold kPut; rw [st_row (by decide), st_row (by decide), st_row (by decide), sw_i]
theorem kPut_1 {D : Nat → Int → Int} {y : Int} : kPut r D p s q 1 y = if y = p then s else D 1 y := by unfold kPut; rw [st_row (by decide), st_row (by decide), st_if, sw_j (by decide)]
theorem kPut_2 {D : Nat → Int → Int} {y : Int} : kPut r D p s q 2 y = if y = gPc r p then D 2 (gPc r p) - 1 else D 2 y := by unfold kPut; rw [st_row (by decide), st_if, st_row (by decide), sw_j (by decide)]
theorem kPut_10 {D : Nat → Int → Int} {y : Int} : kPut r D p s q 10 y = if y = 5 then D 10 5 - 1 else D 10 y := by unfold kPut; rw [st_if, st_row (by decide), st_row (by decide), sw_j (by decide)]
theorem kPut_j {D : Nat → Int → Int} {j : Nat} (h0 : j ≠ 0) (h1 : j ≠ 1) (h2 : j ≠ 2) (h10 : j ≠ 10) : kPut r D p s q j = D j := by unfold kPut; rw [st_row h10, st_row h2, st_row h1, sw_j h0]
theorem kA1_8 : kA1 r D p s q 10 8 = D 10 8 + 1 := by unfold kA1; rw [kPut_10, if_neg (by omega), st_eq]
theorem kA1_0 : kA1 r D p s q 0 = cpy (D 0) q (gPl r p) (gPl r p) (gPt r p) := by unfold kA1; rw [kPut_0, st_row (by decide)]
theorem kA3_j {j : Nat} (h0 : j ≠ 0) (h5 : j ≠ 5) : kA3 r D p s q j = kA1 r D p s q j := by unfold kA3 kA2; rw [st_row h5, sw_j h0]
theorem kA3_0 : kA3 r D p s q 0 = kBs r (D 10 8 + 1) (gPl r p) (gPt r p) (cpy (D 0) q (gPl r p) (gPl r p) (gPt r p)) (r 11).toNat := by unfold kA3 kA2; rw [st_row (by decide), sw_i, kA1_8, kA1_0]
theorem kA3_5 {y : Int} : kA3 r D p s q 5 y = if y = s then D 5 s + 1 else D 5 y := by unfold kA3 kA2 kA1; rw [st_if, sw_j (by decide), kPut_j (by decide) (by decide) (by decide) (by decide), st_row (by decide)]
/-- before it is told and judged -/
theorem DX_put (w : RW r e) (he : e + 10 ≤ 2000000000) (hs : 0 ≤ s ∧ s ≤ 1) (p0 : 0 ≤ p) (p1 : p < gT r) (hz : r (96 + p) = 0) (h : DR D r) (hq : ∀ k, 0 ≤ k → k < r 0 → q k = gB r s k) : DX (kA3 r D p s q) (rA2 r s p) (gPc r p) (gPc r p + 1) := by
  have g := w.1
  obtain ⟨l1, l2, l3, l4, l5, l6⟩ := gPl_b g p0 p1
  obtain ⟨t1, t2⟩ := gT_b g
  have lg := g.2.1
  obtain ⟨pc1, pc2, pc3, pc4⟩ := gPc_b g p0 p1
  have c3 := w.2.2.2.1
  obtain ⟨⟨wa1, oa1⟩, ⟨wa2, oa2⟩, -, -⟩ := rA_w w he hs p0 p1
  obtain ⟨h1, h2, h3, h4, h5, h6, h7, h8⟩ := id h
  have w0 := rArr0_w w (by omega) hs
  -- the row after the bytes
  have cf1 : ∀ y, cf y → rA1 r s p y = r y := fun y hy => oa1 y (by unfold cf at hy; omega)
  have cf0 : ∀ y, cf y → rArr0 r s y = r y := fun y hy => rArr0_o hs (by unfold cf at hy; omega)
  have hB0 := (cfg_c w cf0).2.2.2
  have cf2 : ∀ y, cf y → rA2 r s p y = r y := fun y hy => oa2 y (by unfold cf at hy; omega)
  obtain ⟨e0, e2, e3, hB⟩ := cfg_c w cf2
  have hc := geo_c e0 e2 e3
  have a11 : rA1 r s p 11 = r 11 := cf1 11 (by unfold cf; omega)
  have a5 : rA1 r s p 5 = r 5 + 1 := by
    unfold rA1
    rw [(rGot_w (s := s) (x := gPl r p) w0 (by omega) (m := (gPt r p).toNat) (by omega)).2 5 (by omega)]
    unfold rArr0
    rw [rs_ne (by omega), rs_eq]
  have gv : ∀ y, rA1 r s p y = if 336 + gPl r p ≤ y ∧ y < 336 + gPl r p + gPt r p then gB r s (y - 336) else rArr0 r s y := fun y => by
    unfold rA1
    rw [rGot_v w0 (by omega) _ (by omega), hB0, show (((gPt r p).toNat : Nat) : Int) = gPt r p by omega]
  have hg : ∀ k, 0 ≤ k → k < 240 → 0 ≤ cpy (D 0) q (gPl r p) (gPl r p) (gPt r p) k ∧ cpy (D 0) q (gPl r p) (gPl r p) (gPt r p) k ≤ 255 := fun k k0 k1 => by
    unfold cpy
    split
    · rw [show gPl r p + (k - gPl r p) = k by omega, hq k k0 (by omega)]
      exact gB_b
    · exact h8 k k0 k1
  obtain ⟨br1, br2⟩ := brk_eq (q := rA1 r s p) (r := r) (g := cpy (D 0) q (gPl r p) (gPl r p) (gPt r p)) wa1 (x := gPl r p) (n := gPt r p) (by omega) (by omega) cf1 hg (fun y y0 y1 => by
    rw [gv, if_pos (by omega)]
    unfold cpy
    rw [if_pos (by omega), show gPl r p + (y - gPl r p) = y by omega, hq y (by omega) (by omega)]
    congr 1
    omega) (rA1 r s p 11).toNat (Nat.le_refl _)
  obtain ⟨kb1, kb2⟩ := kBs_b (t := r 5 + 1) (g := cpy (D 0) q (gPl r p) (gPl r p) (gPt r p)) w (x := gPl r p) (n := gPt r p) (by omega) (by omega) hg (r 11).toNat (Nat.le_refl _)
  rw [a5, a11] at br1
  rw [a11] at br2
  have E0 : kA3 r D p s q 0 = kBs r (r 5 + 1) (gPl r p) (gPt r p) (cpy (D 0) q (gPl r p) (gPl r p) (gPt r p)) (r 11).toNat := by rw [kA3_0, h5.1]
  -- the new row, place by place
  have q2 : ∀ y, y ≠ 96 + p → rA2 r s p y = rBrs (rA1 r s p) (gPl r p) (gPt r p) (r 11).toNat y := fun y hy => by unfold rA2; rw [rs_ne hy, a11]
  have qp : rA2 r s p (96 + p) = s + 1 := by unfold rA2; rw [rs_eq]
  have qin : ∀ y, gPl r p ≤ y → y < gPl r p + gPt r p → kA3 r D p s q 0 y = rA2 r s p (336 + y) := fun y y0 y1 => by
    rw [E0, br1 y y0 y1, q2 _ (by omega)]
  have qout : ∀ y, 336 ≤ y → y < 576 → y < 336 + gPl r p ∨ 336 + gPl r p + gPt r p ≤ y → rA2 r s p y = r y := fun y y0 y1 hy => by
    rw [q2 _ (by omega), br2 y hy, gv, if_neg (by omega)]
    exact rArr0_o hs (by omega)
  have kout : ∀ y, y < gPl r p ∨ gPl r p + gPt r p ≤ y → kA3 r D p s q 0 y = D 0 y := fun y hy => by
    rw [E0, kb2 y hy]
    unfold cpy
    rw [if_neg (by omega)]
  have qor : ∀ i, 0 ≤ i → i < gT r → i ≠ p → rA2 r s p (96 + i) = r (96 + i) := fun i i0 i1 hi => oa2 _ (by omega)
  have bz : bi (r (96 + p) = 0) = 1 := bi_t hz
  have bq : bi (rA2 r s p (96 + p) = 0) = 0 := bi_f (by rw [qp]; omega)
  have m1 := gMi_1 g e0 e2 e3 p0 p1 qor
  have ms := gMs_1 g e0 e2 e3 p0 p1 qor
  rw [bz, bq] at m1 ms
  have mo : ∀ k, 0 ≤ k → k < gN r → k ≠ gPc r p → gMi (rA2 r s p) k = gMi r k := fun k k0 k1 hk => gMi_o g e0 e2 e3 p0 p1 k0 k1 hk qor
  have vo : ∀ k, 0 ≤ k → k < gN r → k ≠ gPc r p → gV (rA2 r s p) k = gV r k := fun k k0 k1 hk => by
    obtain ⟨b1, b2, b3, b4⟩ := gLen_b g k0 k1
    refine gV_c w cf2 (mo k k0 k1 hk) fun _ j j0 j1 => ?_
    have d := piece_dj g p0 p1 k0 k1 hk j0 j1
    exact qout _ (by omega) (by omega) (by omega)
  have hmk : 0 < gMi r (gPc r p) := by
    have : gMi (rA2 r s p) (gPc r p) ≥ 0 := sg_bi.1
    omega
  have vk : gV r (gPc r p) = 0 := if_pos hmk
  have dk := h3 (gPc r p) pc1 pc2
  have good := DR_good h
  have K10 : ∀ y, kA3 r D p s q 10 y = if y = 5 then D 10 5 - 1 else if y = 8 then D 10 8 + 1 else D 10 y := fun y => by
    rw [kA3_j (by decide) (by decide)]
    unfold kA1
    have a : st D 10 8 (D 10 8 + 1) 10 5 = D 10 5 := st_k (by decide)
    have b : st D 10 8 (D 10 8 + 1) 10 y = if y = 8 then D 10 8 + 1 else D 10 y := st_if
    rw [kPut_10, a, b]
  refine ⟨?_, ?_, ?_, ⟨?_, ?_, ?_⟩, ⟨?_, ?_, ?_, ?_, ?_⟩, ?_, ?_, ?_⟩
  · intro p' p'0 p'1 hp' j j0 j1
    rw [hc.2.2.2.2.2.1] at p'1
    rw [hc.2.2.2.2.2.2.2.2] at j1
    rw [hc.2.2.2.2.2.2.2.1]
    obtain ⟨b1, b2, b3, b4, b5, b6⟩ := gPl_b g p'0 p'1
    by_cases hpp : p' = p
    · subst hpp
      exact qin _ (by omega) (by omega)
    · have d := part_ne g p0 p1 p'0 p'1 hpp j0 j1
      rw [kout _ d, qout _ (by omega) (by omega) (by omega)]
      rw [qor p' p'0 p'1 hpp] at hp'
      exact h1 p' p'0 p'1 hp' j j0 j1
  · intro p' p'0 p'1
    rw [hc.2.2.2.2.2.1] at p'1
    rw [kA3_j (by decide) (by decide)]
    unfold kA1
    rw [kPut_1, st_row (by decide)]
    by_cases hpp : p' = p
    · rw [if_pos hpp, hpp, qp]
      omega
    · rw [if_neg hpp, qor p' p'0 p'1 hpp]
      exact h2 p' p'0 p'1
  · intro k k0 k1
    rw [hc.1] at k1
    rw [kA3_j (by decide) (by decide), kA3_j (by decide) (by decide)]
    unfold kA1
    rw [kPut_2, st_row (by decide), kPut_j (by decide) (by decide) (by decide) (by decide), st_row (by decide)]
    by_cases hk : k = gPc r p
    · rw [if_pos hk, if_pos (by omega), hk, m1, dk.1]
      exact ⟨by omega, by rw [DR_v h pc1 pc2, vk]⟩
    · rw [if_neg hk, if_neg (by omega), mo k k0 k1 hk, vo k k0 k1 hk]
      exact ⟨(h3 k k0 k1).1, DR_v h k0 k1⟩
  · rw [K10, if_pos rfl, ms, h4.1]
    omega
  · rw [K10, if_neg (by omega), if_neg (by omega), good.1, hc.1]
    refine sg_congr fun k hk => ?_
    by_cases hkk : (k : Int) = gPc r p
    · rw [if_pos (by omega), hkk, vk, bi_f (by decide)]
    · rw [if_neg (by omega), vo k (by omega) (by omega) hkk]
  · rw [K10, if_neg (by omega), if_neg (by omega), good.2, hc.1]
    refine sg_congr fun k hk => ?_
    by_cases hkk : (k : Int) = gPc r p
    · rw [if_pos (by omega), hkk, vk, bi_f (by decide)]
    · rw [if_neg (by omega), vo k (by omega) (by omega) hkk]
  · rw [K10, if_neg (by omega), if_pos rfl, h5.1, q2 5 (by omega), br2 5 (by omega), a5]
  · rw [K10, if_neg (by omega), if_neg (by omega), h5.2.1, oa2 6 (by omega)]
  · rw [K10, if_neg (by omega), if_neg (by omega), h5.2.2.1, oa2 8 (by omega)]
  · rw [K10, if_neg (by omega), if_neg (by omega), h5.2.2.2.1, oa2 13 (by omega)]
  · rw [kA3_j (by decide) (by decide)]
    unfold kA1
    rw [kPut_j (by decide) (by decide) (by decide) (by decide), st_row (by decide), h5.2.2.2.2, oa2 7 (by omega)]
  · intro s' s0 s1
    obtain ⟨b1, b2, b3⟩ := h6 s' s0 s1
    rw [kA3_5, kA3_j (by decide) (by decide), kA3_j (by decide) (by decide)]
    unfold kA1
    rw [kPut_j (by decide) (by decide) (by decide) (by decide), kPut_j (by decide) (by decide) (by decide) (by decide), st_row (by decide), st_row (by decide), oa2 (14 + s') (by omega), oa2 (18 + s') (by omega)]
    refine ⟨b1, ?_, b3⟩
    have e16 : rA2 r s p (16 + s') = rArr0 r s (16 + s') := by rw [q2 _ (by omega), br2 _ (by omega), gv, if_neg (by omega)]
    rw [e16]
    unfold rArr0
    by_cases hss : s' = s
    · rw [if_pos hss, hss, rs_eq, rs_ne (by omega), ← hss, b2]
    · rw [if_neg hss, rs_ne (by omega), rs_ne (by omega), b2]
  · intro j j0 j1 j2
    rw [oa2 7 (by omega)] at j2
    rw [kA3_j (by decide) (by decide), kA3_j (by decide) (by decide), kA3_j (by decide) (by decide), oa2 _ (by omega), oa2 _ (by omega), oa2 _ (by omega)]
    unfold kA1
    rw [kPut_j (by decide) (by decide) (by decide) (by decide), kPut_j (by decide) (by decide) (by decide) (by decide), kPut_j (by decide) (by decide) (by decide) (by decide), st_row (by decide), st_row (by decide), st_row (by decide)]
    exact h7 j j0 j1 j2
  · rw [E0]
    exact kb1
end KA
