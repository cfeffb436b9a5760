/-! both readers: what statements do to a Plan and to a row -/
theorem gB_0 {q r : Int → Int} (h1 : q 1 = r 1) {x : Int} : gB q 0 x = gB r 0 x := by
  unfold gB
  rw [if_neg (by decide), if_neg (by decide), h1]
theorem PR_upd {P P' : Nat → Int → Int} {r q : Int → Int} (p : PR P r) (h0 : q 0 = r 0) (h1 : q 1 = r 1) (h2 : q 2 = r 2) (h3 : q 3 = r 3) (hj : ∀ j : Nat, j = 0 ∨ (2 ≤ j ∧ j ≤ 7) → P' j = P j) (h10 : P' 10 0 = P 10 0 ∧ P' 10 2 = P 10 2 ∧ P' 10 3 = P 10 3) (k1 : P' 10 1 = q 4 ∧ P' 10 13 = q 11 ∧ P' 10 15 = q 12) (k2 : ∀ k, 0 ≤ k → k < r 0 → P' 1 k = gB q 1 k)
    (k8 : ∀ b, 0 ≤ b → b < q 11 → P' 8 (3 * b) = q (44 + 3 * b) ∧ P' 8 (3 * b + 1) = q (44 + 3 * b + 1) ∧ P' 8 (3 * b + 2) = q (44 + 3 * b + 2)) (k9 : ∀ c, 0 ≤ c → c < q 12 → P' 9 (2 * c) = q (80 + 2 * c) ∧ P' 9 (2 * c + 1) = q (80 + 2 * c + 1)) : PR P' q := by
  have hc := geo_c h0 h2 h3
  obtain ⟨a1, a2, a3, a4, a5, a6, a7, a8, a9⟩ := p
  refine ⟨?_, ?_, ?_, ?_, ?_, ?_, ?_, k8, k9⟩
  · rw [h10.1, h10.2.1, h10.2.2, h0, hc.1, hc.2.2.2.2.2.1]
    exact ⟨a1.1, k1.1, a1.2.2.1, a1.2.2.2.1, k1.2⟩
  · rw [h0, hj 0 (by omega)]
    intro k k0 k1'
    exact ⟨by rw [gB_0 h1]; exact (a2 k k0 k1').1, k2 k k0 k1'⟩
  · rw [hc.1, hj 2 (by omega)]
    intro k k0 k1'
    rw [a3 k k0 k1', h2, hc.2.2.1]
    unfold gS
    refine congrArg (· % 9973) (sg_congr fun j _ => ?_)
    show ((j : Int) + 1) * gB r 0 (r 2 * k + j) = ((j : Int) + 1) * gB q 0 (r 2 * k + j)
    rw [gB_0 h1]
  · rw [hc.1, hj 3 (by omega), hj 4 (by omega)]
    intro k k0 k1'
    unfold gPs gFs
    rw [hc.1, h2, h0, hc.2.2.2.2.1, hc.2.2.2.2.2.1]
    exact a4 k k0 k1'
  · rw [hc.2.2.2.2.2.1, hj 5 (by omega)]
    intro k k0 k1'
    unfold gLs
    rw [hc.2.2.2.2.2.1, hc.2.2.2.2.2.2.2.1, h0]
    exact a5 k k0 k1'
  · rw [hc.2.2.2.2.2.1, hj 6 (by omega)]
    intro k k0 k1'
    rw [hc.2.2.2.2.2.2.1]
    exact a6 k k0 k1'
  · rw [h0, hj 7 (by omega)]
    intro k k0 k1'
    rw [a7 k k0 k1']
    unfold gAt
    rw [h2, h3, hc.2.2.2.2.1]
theorem PR_AF {P : Nat → Int → Int} {r : Int → Int} {x v : Int} (p : PR P r) (w : WF r) (h : r 10 < 12) : PR (kAF P x v) (rs (rs (rs r 10 (r 10 + 1)) (20 + 2 * r 10) x) (20 + 2 * r 10 + 1) v) := by
  obtain ⟨w0, w1, w2, w3⟩ := w
  obtain ⟨q, hq⟩ : ∃ q, q = rs (rs (rs r 10 (r 10 + 1)) (20 + 2 * r 10) x) (20 + 2 * r 10 + 1) v := ⟨_, rfl⟩
  have o : ∀ y, y ≠ 10 → y ≠ 20 + 2 * r 10 → y ≠ 20 + 2 * r 10 + 1 → q y = r y := fun y a b c => by rw [hq, rs_ne c, rs_ne b, rs_ne a]
  have q10 : q 10 = r 10 + 1 := by rw [hq, rs_ne (by omega), rs_ne (by omega), rs_eq]
  have qa : q (20 + 2 * r 10) = x := by rw [hq, rs_ne (by omega), rs_eq]
  have qb : q (20 + 2 * r 10 + 1) = v := by rw [hq, rs_eq]
  rw [← hq]
  have e10 : kAF P x v 10 = P 10 := st_row (by decide)
  have a1 := p.1
  refine PR_upd p (o 0 (by omega) (by omega) (by omega)) (o 1 (by omega) (by omega) (by omega)) (o 2 (by omega) (by omega) (by omega)) (o 3 (by omega) (by omega) (by omega)) (fun j hj => st_row (by omega)) (by rw [e10]; exact ⟨rfl, rfl, rfl⟩) ?_ ?_ ?_ ?_
  · rw [e10, o 4 (by omega) (by omega) (by omega), o 11 (by omega) (by omega) (by omega), o 12 (by omega) (by omega) (by omega)]
    exact ⟨a1.2.1, a1.2.2.2.2.1, a1.2.2.2.2.2⟩
  · intro k k0 k1
    have hk := (p.2.1 k k0 k1).2
    have hs : sg (fun f => if q (20 + 2 * f) = k then q (20 + 2 * f + 1) else 0) (q 10).toNat = sg (fun f => if r (20 + 2 * f) = k then r (20 + 2 * f + 1) else 0) (r 10).toNat + (if x = k then v else 0) := by
      rw [q10, show (r 10 + 1).toNat = (r 10).toNat + 1 by omega, sg_s]
      rw [show (((r 10).toNat : Nat) : Int) = r 10 by omega, qa, qb]
      congr 1
      refine sg_congr fun f hf => ?_
      show (if q (20 + 2 * (f : Int)) = k then q (20 + 2 * (f : Int) + 1) else 0) = if r (20 + 2 * (f : Int)) = k then r (20 + 2 * (f : Int) + 1) else 0
      rw [o _ (by omega) (by omega) (by omega), o _ (by omega) (by omega) (by omega)]
    have e : ∀ r' : Int → Int, gB r' 1 k = ((r' 1 + 37 * k + k * k / 5) % 251 + sg (fun f => if r' (20 + 2 * f) = k then r' (20 + 2 * f + 1) else 0) (r' 10).toNat) % 256 := fun r' => by
      unfold gB
      rw [if_pos rfl]
    rw [e r] at hk
    rw [e q, hs, o 1 (by omega) (by omega) (by omega)]
    unfold kAF
    rw [st_if]
    by_cases hx : k = x
    · subst hx
      rw [if_pos rfl, if_pos rfl, hk]
      omega
    · rw [if_neg hx, if_neg (Ne.symm hx), hk, Int.add_zero]
  · intro b b0 b1
    rw [o 11 (by omega) (by omega) (by omega)] at b1
    rw [o _ (by omega) (by omega) (by omega), o _ (by omega) (by omega) (by omega), o _ (by omega) (by omega) (by omega), show kAF P x v 8 = P 8 from st_row (by decide)]
    exact p.2.2.2.2.2.2.2.1 b b0 b1
  · intro b b0 b1
    rw [o 12 (by omega) (by omega) (by omega)] at b1
    rw [o _ (by omega) (by omega) (by omega), o _ (by omega) (by omega) (by omega), show kAF P x v 9 = P 9 from st_row (by decide)]
    exact p.2.2.2.2.2.2.2.2 b b0 b1
theorem gB_1 {q r : Int → Int} (h1 : q 1 = r 1) (h10 : q 10 = r 10) (hf : ∀ f, 0 ≤ f → f < r 10 → q (20 + 2 * f) = r (20 + 2 * f) ∧ q (20 + 2 * f + 1) = r (20 + 2 * f + 1)) {x : Int} : gB q 1 x = gB r 1 x := gB_c h1 h10 hf
theorem PR_AB {P : Nat → Int → Int} {r : Int → Int} {a b c : Int} (p : PR P r) (w : WF r) (h : r 11 < 12) : PR (kAB P a b c) (rs (rs (rs (rs r 11 (r 11 + 1)) (44 + 3 * r 11) a) (44 + 3 * r 11 + 1) b) (44 + 3 * r 11 + 2) c) := by
  obtain ⟨w0, w1, w2, w3⟩ := w
  obtain ⟨q, hq⟩ : ∃ q, q = rs (rs (rs (rs r 11 (r 11 + 1)) (44 + 3 * r 11) a) (44 + 3 * r 11 + 1) b) (44 + 3 * r 11 + 2) c := ⟨_, rfl⟩
  have o : ∀ y, y ≠ 11 → y < 44 + 3 * r 11 ∨ 44 + 3 * r 11 + 2 < y → q y = r y := fun y a b => by rw [hq, rs_ne (by omega), rs_ne (by omega), rs_ne (by omega), rs_ne a]
  have q11 : q 11 = r 11 + 1 := by rw [hq, rs_ne (by omega), rs_ne (by omega), rs_ne (by omega), rs_eq]
  have qa : q (44 + 3 * r 11) = a := by rw [hq, rs_ne (by omega), rs_ne (by omega), rs_eq]
  have qb : q (44 + 3 * r 11 + 1) = b := by rw [hq, rs_ne (by omega), rs_eq]
  have qc : q (44 + 3 * r 11 + 2) = c := by rw [hq, rs_eq]
  rw [← hq]
  have a1 := p.1
  have e13 := a1.2.2.2.2.1
  have e10 : ∀ y, kAB P a b c 10 y = if y = 13 then P 10 13 + 1 else P 10 y := fun y => by
    unfold kAB
    rw [st_if, st_row (by decide), st_row (by decide), st_row (by decide)]
  have ej : ∀ j : Nat, j ≠ 8 → j ≠ 10 → kAB P a b c j = P j := fun j h8 h10 => by
    unfold kAB
    rw [st_row h10, st_row h8, st_row h8, st_row h8]
  have e8 : ∀ y, kAB P a b c 8 y = if y = 3 * r 11 + 2 then c else if y = 3 * r 11 + 1 then b else if y = 3 * r 11 then a else P 8 y := fun y => by
    unfold kAB
    rw [st_row (by decide), st_if, st_if, st_if, e13]
  refine PR_upd p (o 0 (by omega) (by omega)) (o 1 (by omega) (by omega)) (o 2 (by omega) (by omega)) (o 3 (by omega) (by omega)) (fun j hj => ej j (by omega) (by omega)) ⟨by rw [e10, if_neg (by decide)], by rw [e10, if_neg (by decide)], by rw [e10, if_neg (by decide)]⟩ ?_ ?_ ?_ ?_
  · rw [e10, e10, e10, if_neg (by decide), if_pos rfl, if_neg (by decide), o 4 (by omega) (by omega), q11, o 12 (by omega) (by omega), e13]
    exact ⟨a1.2.1, rfl, a1.2.2.2.2.2⟩
  · intro k k0 k1
    rw [ej 1 (by decide) (by decide), gB_1 (r := r) (o 1 (by omega) (by omega)) (o 10 (by omega) (by omega)) fun f f0 f1 => ⟨o _ (by omega) (by omega), o _ (by omega) (by omega)⟩]
    exact (p.2.1 k k0 k1).2
  · intro k k0 k1
    rw [q11] at k1
    rw [e8, e8, e8]
    by_cases hk : k = r 11
    · rw [hk, qa, qb, qc, if_neg (by omega), if_neg (by omega), if_pos rfl, if_neg (by omega), if_pos rfl, if_pos rfl]
      exact ⟨rfl, rfl, rfl⟩
    · rw [if_neg (by omega), if_neg (by omega), if_neg (by omega), if_neg (by omega), if_neg (by omega), if_neg (by omega), if_neg (by omega), if_neg (by omega), if_neg (by omega), o _ (by omega) (by omega), o _ (by omega) (by omega), o _ (by omega) (by omega)]
      exact p.2.2.2.2.2.2.2.1 k k0 (by omega)
  · intro k k0 k1
    rw [o 12 (by omega) (by omega)] at k1
    rw [o _ (by omega) (by omega), o _ (by omega) (by omega), ej 9 (by decide) (by decide)]
    exact p.2.2.2.2.2.2.2.2 k k0 k1
theorem PR_AC {P : Nat → Int → Int} {r : Int → Int} {a b : Int} (p : PR P r) (w : WF r) (h : r 12 < 8) : PR (kAC P a b) (rs (rs (rs r 12 (r 12 + 1)) (80 + 2 * r 12) a) (80 + 2 * r 12 + 1) b) := by
  obtain ⟨w0, w1, w2, w3⟩ := w
  obtain ⟨q, hq⟩ : ∃ q, q = rs (rs (rs r 12 (r 12 + 1)) (80 + 2 * r 12) a) (80 + 2 * r 12 + 1) b := ⟨_, rfl⟩
  have o : ∀ y, y ≠ 12 → y < 80 + 2 * r 12 ∨ 80 + 2 * r 12 + 1 < y → q y = r y := fun y a b => by rw [hq, rs_ne (by omega), rs_ne (by omega), rs_ne a]
  have q12 : q 12 = r 12 + 1 := by rw [hq, rs_ne (by omega), rs_ne (by omega), rs_eq]
  have qa : q (80 + 2 * r 12) = a := by rw [hq, rs_ne (by omega), rs_eq]
  have qb : q (80 + 2 * r 12 + 1) = b := by rw [hq, rs_eq]
  rw [← hq]
  have a1 := p.1
  have e15 := a1.2.2.2.2.2
  have e10 : ∀ y, kAC P a b 10 y = if y = 15 then P 10 15 + 1 else P 10 y := fun y => by
    unfold kAC
    rw [st_if, st_row (by decide), st_row (by decide)]
  have ej : ∀ j : Nat, j ≠ 9 → j ≠ 10 → kAC P a b j = P j := fun j h9 h10 => by
    unfold kAC
    rw [st_row h10, st_row h9, st_row h9]
  have e9 : ∀ y, kAC P a b 9 y = if y = 2 * r 12 + 1 then b else if y = 2 * r 12 then a else P 9 y := fun y => by
    unfold kAC
    rw [st_row (by decide), st_if, st_if, e15]
  refine PR_upd p (o 0 (by omega) (by omega)) (o 1 (by omega) (by omega)) (o 2 (by omega) (by omega)) (o 3 (by omega) (by omega)) (fun j hj => ej j (by omega) (by omega)) ⟨by rw [e10, if_neg (by decide)], by rw [e10, if_neg (by decide)], by rw [e10, if_neg (by decide)]⟩ ?_ ?_ ?_ ?_
  · rw [e10, e10, e10, if_neg (by decide), if_neg (by decide), if_pos rfl, o 4 (by omega) (by omega), q12, o 11 (by omega) (by omega), e15]
    exact ⟨a1.2.1, a1.2.2.2.2.1, rfl⟩
  · intro k k0 k1
    rw [ej 1 (by decide) (by decide), gB_1 (r := r) (o 1 (by omega) (by omega)) (o 10 (by omega) (by omega)) fun f f0 f1 => ⟨o _ (by omega) (by omega), o _ (by omega) (by omega)⟩]
    exact (p.2.1 k k0 k1).2
  · intro k k0 k1
    rw [o 11 (by omega) (by omega)] at k1
    rw [o _ (by omega) (by omega), o _ (by omega) (by omega), o _ (by omega) (by omega), ej 8 (by decide) (by decide)]
    exact p.2.2.2.2.2.2.2.1 k k0 k1
  · intro k k0 k1
    rw [q12] at k1
    rw [e9, e9]
    by_cases hk : k = r 12
    · rw [hk, qa, qb, if_neg (by omega), if_pos rfl, if_pos rfl]
      exact ⟨rfl, rfl⟩
    · rw [if_neg (by omega), if_neg (by omega), if_neg (by omega), if_neg (by omega), o _ (by omega) (by omega), o _ (by omega) (by omega)]
      exact p.2.2.2.2.2.2.2.2 k k0 (by omega)
theorem PR_bl {P : Nat → Int → Int} {r : Int → Int} {v : Int} (p : PR P r) : PR (st P 10 1 v) (rs r 4 v) := by
  have a1 := p.1
  refine PR_upd p (rs_ne (by omega)) (rs_ne (by omega)) (rs_ne (by omega)) (rs_ne (by omega)) (fun j hj => st_row (by omega)) ⟨st_k (by decide), st_k (by decide), st_k (by decide)⟩ ?_ ?_ ?_ ?_
  · rw [st_eq, st_k (by decide), st_k (by decide), rs_eq, rs_ne (by omega), rs_ne (by omega)]
    exact ⟨rfl, a1.2.2.2.2.1, a1.2.2.2.2.2⟩
  · intro k k0 k1
    rw [st_row (by decide), gB_1 (r := r) (rs_ne (by omega)) (rs_ne (by omega)) fun f f0 f1 => ⟨rs_ne (by omega), rs_ne (by omega)⟩]
    exact (p.2.1 k k0 k1).2
  · intro k k0 k1
    rw [rs_ne (by omega)] at k1
    rw [rs_ne (by omega), rs_ne (by omega), rs_ne (by omega), st_row (by decide)]
    exact p.2.2.2.2.2.2.2.1 k k0 k1
  · intro k k0 k1
    rw [rs_ne (by omega)] at k1
    rw [rs_ne (by omega), rs_ne (by omega), st_row (by decide)]
    exact p.2.2.2.2.2.2.2.2 k k0 k1
