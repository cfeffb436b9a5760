/-! the class: searches that drop -/
theorem mark_v : ∀ (L : List Int) (fd : Int → Int) (i : Int), mark fd L i = if i ∈ L then 1 else fd i := by
  intro L
  induction L with
  | nil => intro fd i; rw [if_neg List.not_mem_nil]; rfl
  | cons x L ih =>
    intro fd i
    show mark (rs fd x 1) L i = _
    rw [ih]
    by_cases h : i ∈ L
    · rw [if_pos h, if_pos (List.mem_cons_of_mem _ h)]
    · rw [if_neg h]
      by_cases hx : i = x
      · rw [hx, rs_eq, if_pos List.mem_cons_self]
      · rw [rs_ne hx, if_neg fun q => (List.mem_cons.mp q).elim hx h]
theorem rDs_fold {fd : Int → Int} {c f : Int} (hc : c ≠ 0) : ∀ (m : Nat) (j : Int) (L : List Int) (r : Int → Int), L.Pairwise (· < ·) → (∀ x ∈ L, j ≤ x ∧ x < j + m) → (∀ i, j ≤ i → i < j + m → (fd i = 0 ↔ i ∉ L)) → rDs fd c f m j r = fD r f L := by
  intro m
  induction m with
  | zero =>
    intro j L r hp hr hf
    cases L with
    | nil => rfl
    | cons x L =>
      have := hr x List.mem_cons_self
      omega
  | succ m ih =>
    intro j L r hp hr hf
    show rDs fd c f m (j + 1) (if c = 0 then rDr r (f + j) 4 else if fd j = 0 then r else rDr r (f + j) 3) = _
    rw [if_neg hc]
    have hj := hf j (Int.le_refl _) (by omega)
    by_cases hm : j ∈ L
    · rw [if_neg fun q => (hj.mp q) hm]
      cases L with
      | nil => exact absurd hm List.not_mem_nil
      | cons x L =>
        have hpc := List.pairwise_cons.mp hp
        have hx : x = j := by
          rcases List.mem_cons.mp hm with h | h
          · exact h.symm
          · have h1 := hpc.1 j h
            have h2 := (hr x List.mem_cons_self).1
            omega
        subst hx
        show _ = fD (rDr r (f + x) 3) f L
        refine ih (x + 1) L _ hpc.2 (fun y hy => ?_) (fun i i0 i1 => ?_)
        · have h1 := hpc.1 y hy
          have h2 := (hr y (List.mem_cons_of_mem _ hy)).2
          omega
        · have h := hf i (by omega) (by omega)
          rw [h]
          constructor
          · exact fun q y => q (List.mem_cons_of_mem _ y)
          · intro q y
            rcases List.mem_cons.mp y with h3 | h3
            · omega
            · exact q h3
    · rw [if_pos (hj.mpr hm)]
      refine ih (j + 1) L r hp (fun y hy => ?_) (fun i i0 i1 => hf i (by omega) (by omega))
      have h2 := hr y hy
      have h3 : y ≠ j := fun e => hm (e ▸ hy)
      omega
theorem rs_cm {r : Int → Int} {a b v w : Int} (h : a ≠ b) : rs (rs r a v) b w = rs (rs r b w) a v := by
  funext y
  unfold rs
  by_cases h1 : y = b
  · rw [if_pos h1, if_neg (by omega), if_pos h1]
  · rw [if_neg h1, if_neg h1]
theorem rD2_6 {r : Int → Int} {p v : Int} (h : 0 ≤ p) : rD2 (rs r 6 v) p = rs (rD2 r p) 6 v := by
  unfold rD2
  rw [rs_cm (r := r) (a := 6) (b := 96 + p) (v := v) (w := 0) (by omega), rs_ne (r := rs r (96 + p) 0) (k := 6) (b := 8) (by omega), rs_cm (a := 6) (b := 8) (by omega)]
theorem rDs_6 {fd : Int → Int} {f v : Int} : ∀ (m : Nat) (j : Int) (r : Int → Int), 0 ≤ f + j → rDs fd 0 f m j (rs r 6 v) = rs (rDs fd 0 f m j r) 6 v := by
  intro m
  induction m with
  | zero => intro j r _; rfl
  | succ m ih =>
    intro j r h
    show rDs fd 0 f m (j + 1) (if (0 : Int) = 0 then rDr (rs r 6 v) (f + j) 4 else _) = rs (rDs fd 0 f m (j + 1) (if (0 : Int) = 0 then rDr r (f + j) 4 else _)) 6 v
    rw [if_pos rfl, if_pos rfl]
    have e : rDr (rs r 6 v) (f + j) 4 = rs (rDr r (f + j) 4) 6 v := by
      unfold rDr
      rw [if_neg (by decide), if_neg (by decide)]
      exact rD2_6 h
    rw [e]
    exact ih (j + 1) _ (by omega)
theorem rTell_6 {r : Int → Int} {k a b v : Int} (h : 0 ≤ r 7) : rTell (rs r 6 v) k a b = rs (rTell r k a b) 6 v := by
  unfold rTell
  rw [rs_ne (r := r) (k := 6) (b := 7) (by omega)]
  rw [rs_cm (r := r) (a := 6) (by omega), rs_cm (a := 6) (by omega), rs_cm (a := 6) (by omega), rs_cm (a := 6) (by omega)]
theorem rDs_z {fd fd' : Int → Int} {f : Int} : ∀ (m : Nat) (j : Int) (r : Int → Int), rDs fd 0 f m j r = rDs fd' 0 f m j r := by
  intro m
  induction m with
  | zero => intro j r; rfl
  | succ m ih => intro j r; exact ih (j + 1) _
section CN
variable {l : Launch} {X : XT} {a p : Nat} {B : AH} {P : Nat → Int → Int}
theorem c_X1_range1 (hl : l.stackTraces = false) (hd : p + 10 < a ∨ a + 12 < p) (hP : PlanAt X B p P) {k f : Int} : ∀ (d : Nat) (dep i n : Int) (D : Nat → Int → Int) (r : Int → Int) (e : Int), PR P r → RW r e → e + 1000 + 20 * n ≤ 2000000000 → DR D r → 0 ≤ k → k < gN r → f = gF r k → 0 ≤ dep → dep + d ≤ 8 → 0 ≤ i → 1 ≤ n → n ≤ 2 ^ d → i + n ≤ gPo r k → (∀ j, i ≤ j → j < i + n → r (96 + (f + j)) ≠ 0) →
    Ct l X (d + 3) M_X1_searchRange [.ref a, .int (I (f + i)), .int (I n), .int (I 1), .int (I dep)] (dp X a p B D) 0 0 (fun o' A1 => o' = Ri (I (look r f d i n).2) ∧ ∃ D', A1 = dp X a p B D' ∧ DR D' (fD r f (look r f d i n).1)) := by
  have one : ∀ (d : Nat) (dep i : Int) (D : Nat → Int → Int) (r : Int → Int) (e : Int), PR P r → RW r e → e + 1000 ≤ 2000000000 → DR D r → 0 ≤ k → k < gN r → f = gF r k → 0 ≤ i → i < gPo r k → r (96 + (f + i)) ≠ 0 → Ct l X (d + 3) M_X1_searchRange [.ref a, .int (I (f + i)), .int (I 1), .int (I 1), .int (I dep)] (dp X a p B D) 0 0 (fun o' A1 => o' = Ri (I 0) ∧ ∃ D', A1 = dp X a p B D' ∧ DR D' (fD r f [i])) := by
    intro d dep i D r e hR w he h k0 k1 hf i0 i1 hz
    obtain ⟨f1, f2⟩ := gF_b w.1 k0 k1
    refine Ct.of hl rfl rfl (Nat.le_of_ble_eq_true rfl) (k_X1_searchRange_0 ?_)
    simp (disch := omega) only [true_implies, false_implies, not_true_eq_false, not_false_eq_true, I_n, I_neg, I_add, I_sub, I_mul, I_le4, I_lt4, I_eq4, I_div4, I_bi0, I_bi01, I_bi1, nor_em, rI_of, rV_of, zI_of, zV_of, nz_and, br_T, br_F, br_T2, br_F2, st_eq, st9_0, st_k, st_i, true_and, and_true, Classical.not_not, or_true, true_or, or_false, false_or, rR_of, dp_gI5, dp_gI6, dp_gI7, dp_gI8, dp_gI9, dp_gI10, dp_gI14, dp_pI5, dp_pI6, dp_pI7, dp_pI8, dp_pI9, dp_pI10, dp_pI14, dp_gR0, dp_gR1, dp_gR2, dp_gR3, dp_gR4, dp_gR11, dp_gR12, dp_gR13, dp_gR15, dp_gR16, dp_gA3, dp_pA3, dp_gAR0, dp_gAR1, dp_gAR2, dp_isO, dp_isA]
    refine k_X1_searchRange_12 ?_
    simp (disch := omega) only [true_implies, false_implies, not_true_eq_false, not_false_eq_true, I_n, I_neg, I_add, I_sub, I_mul, I_le4, I_lt4, I_eq4, I_div4, I_bi0, I_bi01, I_bi1, nor_em, rI_of, rV_of, zI_of, zV_of, nz_and, br_T, br_F, br_T2, br_F2, st_eq, st9_0, st_k, st_i, true_and, and_true, Classical.not_not, or_true, true_or, or_false, false_or, rR_of, dp_gI5, dp_gI6, dp_gI7, dp_gI8, dp_gI9, dp_gI10, dp_gI14, dp_pI5, dp_pI6, dp_pI7, dp_pI8, dp_pI9, dp_pI10, dp_pI14, dp_gR0, dp_gR1, dp_gR2, dp_gR3, dp_gR4, dp_gR11, dp_gR12, dp_gR13, dp_gR15, dp_gR16, dp_gA3, dp_pA3, dp_gAR0, dp_gAR1, dp_gAR2, dp_isO, dp_isA]
    refine (c_X1_dropWrong hl hd hP hR w (by omega) h (by omega) (by omega) hz).cl0 (by omega) ?_
    simp (disch := omega) only [true_implies, false_implies, not_true_eq_false, not_false_eq_true, I_n, I_neg, I_add, I_sub, I_mul, I_le4, I_lt4, I_eq4, I_div4, I_bi0, I_bi01, I_bi1, nor_em, rI_of, rV_of, zI_of, zV_of, nz_and, br_T, br_F, br_T2, br_F2, st_eq, st9_0, st_k, st_i, true_and, and_true, Classical.not_not, or_true, true_or, or_false, false_or, rR_of, dp_gI5, dp_gI6, dp_gI7, dp_gI8, dp_gI9, dp_gI10, dp_gI14, dp_pI5, dp_pI6, dp_pI7, dp_pI8, dp_pI9, dp_pI10, dp_pI14, dp_gR0, dp_gR1, dp_gR2, dp_gR3, dp_gR4, dp_gR11, dp_gR12, dp_gR13, dp_gR15, dp_gR16, dp_gA3, dp_pA3, dp_gAR0, dp_gAR1, dp_gAR2, dp_isO, dp_isA]
    exact ⟨_, rfl, (DR_dw w (by omega) (by omega) (by omega) hz h).1⟩
  intro d
  induction d with
  | zero =>
    intro dep i n D r e hR w he h k0 k1 hf d0 d1 i0 n0 n1 hin hp
    have e1 : n = 1 := by
      have : (2 : Int) ^ 0 = 1 := rfl
      omega
    subst e1
    exact one 0 dep i D r e hR w (by omega) h k0 k1 hf i0 (by omega) (hp i (by omega) (by omega))
  | succ d ih =>
    intro dep i n D r e hR w he h k0 k1 hf d0 d1 i0 n0 n1 hin hp
    obtain ⟨q1, q2, -⟩ := gE_b w.1
    obtain ⟨p1, p2, -⟩ := gPo_b w.1 k0 k1
    obtain ⟨f1, f2⟩ := gF_b w.1 k0 k1
    obtain ⟨t1, t2⟩ := gT_b w.1
    have lg := w.1.2.1
    have hgl := RW_gl w
    by_cases h1 : n ≤ 1
    · have e1 : n = 1 := by omega
      subst e1
      exact one (d + 1) dep i D r e hR w (by omega) h k0 k1 hf i0 (by omega) (hp i (by omega) (by omega))
    · have hpw : (2 : Int) ^ (d + 1) = 2 ^ d * 2 := Int.pow_succ 2 d
      obtain ⟨L, hL⟩ : ∃ L, L = (if gRt r (f + i) ((n + 1) / 2) = 1 then ([], 0) else look r f d i ((n + 1) / 2)) := ⟨_, rfl⟩
      obtain ⟨R, hRR⟩ : ∃ R, R = (if gRt r (f + (i + (n + 1) / 2)) (n - (n + 1) / 2) = 1 then ([], 0) else look r f d (i + (n + 1) / 2) (n - (n + 1) / 2)) := ⟨_, rfl⟩
      have e3 : look r f (d + 1) i n = (L.1 ++ R.1, L.2 + 1 + (R.2 + 1)) := by
        rw [hL, hRR]
        exact if_neg h1
      have g1 := gRt_01 (r := r) (x := f + i) (n := (n + 1) / 2)
      have g2 := gRt_01 (r := r) (x := f + (i + (n + 1) / 2)) (n := n - (n + 1) / 2)
      have second : ∀ v D1, v = 2 + L.2 → DR D1 (fD r f L.1) → (L.1.Pairwise (· < ·) ∧ (∀ x ∈ L.1, i ≤ x ∧ x < i + (n + 1) / 2) ∧ (L.1.length : Int) ≤ (n + 1) / 2) → G l X M_X1_searchRange (d + 1 + 3) (fun o' A1 => o' = Ri (I (look r f (d + 1) i n).2) ∧ ∃ D', A1 = dp X a p B D' ∧ DR D' (fD r f (look r f (d + 1) i n).1)) 60 [(0, .ref a), (1, .int (I (f + i))), (2, .int (I n)), (3, .int (I 1)), (4, .int (I dep)), (5, .int (I ((n + 1) / 2))), (6, .int (I v))] [] (dp X a p B D1) 0 0 := by
        intro v D1 hv x1 ⟨hpw1, hrn, hln⟩
        obtain ⟨w1, o1, o8⟩ := fD_w (f := f) L.1 r e w (by omega) (fun x hx => by
          have := hrn x hx
          exact ⟨by omega, by omega, hp x (by omega) (by omega)⟩) hpw1
        have cf1 : ∀ y, cf y ∨ 336 ≤ y ∧ y < 576 → fD r f L.1 y = r y := fun y hy => o1 y (fun x hx => by have := hrn x hx; unfold cf at hy; omega) (by unfold cf at hy; omega) (by unfold cf at hy; omega) (by unfold cf at hy; omega) (by unfold cf at hy; omega) (by unfold cf at hy; omega)
        obtain ⟨c0, c2, c3, hB⟩ := cfg_c w fun y hy => cf1 y (Or.inl hy)
        have hc := geo_c c0 c2 c3
        have hp1 : ∀ j, i + (n + 1) / 2 ≤ j → j < i + (n + 1) / 2 + (n - (n + 1) / 2) → fD r f L.1 (96 + (f + j)) ≠ 0 := fun j j0 j1 => by
          rw [o1 _ (fun x hx => by have := hrn x hx; omega) (by omega) (by omega) (by omega) (by omega) (by omega)]
          exact hp j (by omega) (by omega)
        have s2 := c_X1_isSame (a := a) hl hd hP (PR_c w (fun y hy => cf1 y (Or.inl hy)) hR) w1 x1 k0 (by rw [hc.1]; exact k1) (i := i + (n + 1) / 2) (n := n - (n + 1) / 2) (by omega) (by omega) (by rw [hc.2.2.2.1]; omega) (fun j j0 j1 => by rw [hc.2.2.2.2.1, ← hf]; exact hp1 j j0 j1)
        have eg := gRt_c w cf1 k0 k1 (i := i + (n + 1) / 2) (n := n - (n + 1) / 2) (by omega) (by omega) (by omega)
        rw [hc.2.2.2.2.1, eg, ← hf] at s2
        refine k_X1_searchRange_60 ?_
        simp (disch := omega) only [true_implies, false_implies, not_true_eq_false, not_false_eq_true, I_n, I_neg, I_add, I_sub, I_mul, I_le4, I_lt4, I_eq4, I_div4, I_bi0, I_bi01, I_bi1, nor_em, rI_of, rV_of, zI_of, zV_of, nz_and, br_T, br_F, br_T2, br_F2, st_eq, st9_0, st_k, st_i, true_and, and_true, Classical.not_not, or_true, true_or, or_false, false_or, rR_of, dp_gI5, dp_gI6, dp_gI7, dp_gI8, dp_gI9, dp_gI10, dp_gI14, dp_pI5, dp_pI6, dp_pI7, dp_pI8, dp_pI9, dp_pI10, dp_pI14, dp_gR0, dp_gR1, dp_gR2, dp_gR3, dp_gR4, dp_gR11, dp_gR12, dp_gR13, dp_gR15, dp_gR16, dp_gA3, dp_pA3, dp_gAR0, dp_gAR1, dp_gAR2, dp_isO, dp_isA]
        rw [Int.add_assoc f]
        refine s2.cl0 (by omega) ?_
        simp (disch := omega) only [true_implies, false_implies, not_true_eq_false, not_false_eq_true, I_n, I_neg, I_add, I_sub, I_mul, I_le4, I_lt4, I_eq4, I_div4, I_bi0, I_bi01, I_bi1, nor_em, rI_of, rV_of, zI_of, zV_of, nz_and, br_T, br_F, br_T2, br_F2, st_eq, st9_0, st_k, st_i, true_and, and_true, Classical.not_not, or_true, true_or, or_false, false_or, rR_of, dp_gI5, dp_gI6, dp_gI7, dp_gI8, dp_gI9, dp_gI10, dp_gI14, dp_pI5, dp_pI6, dp_pI7, dp_pI8, dp_pI9, dp_pI10, dp_pI14, dp_gR0, dp_gR1, dp_gR2, dp_gR3, dp_gR4, dp_gR11, dp_gR12, dp_gR13, dp_gR15, dp_gR16, dp_gA3, dp_pA3, dp_gAR0, dp_gAR1, dp_gAR2, dp_isO, dp_isA]
        refine ⟨fun hz => ?_, fun hz => ?_⟩
        · have e : gRt r (f + (i + (n + 1) / 2)) (n - (n + 1) / 2) = 1 := by omega
          rw [if_pos e] at hRR
          rw [e3, hv, hRR]
          refine ⟨congrArg (fun z => Ri (I z)) ?_, D1, rfl, ?_⟩
          · show 2 + L.2 = L.2 + 1 + (0 + 1)
            omega
          · show DR D1 (fD r f (L.1 ++ []))
            rw [List.append_nil]
            exact x1
        · rw [if_neg (by omega)] at hRR
          have lk := look_c w cf1 k0 k1 d (i + (n + 1) / 2) (n - (n + 1) / 2) (by omega) (by omega) (by omega)
          rw [← hf] at lk
          have i2 := ih (dep + 1) (i + (n + 1) / 2) (n - (n + 1) / 2) D1 (fD r f L.1) (e + 2 * L.1.length) (PR_c w (fun y hy => cf1 y (Or.inl hy)) hR) w1 (by omega) x1 k0 (by rw [hc.1]; exact k1) (by rw [hc.2.2.2.2.1]; exact hf) (by omega) (by omega) (by omega) (by omega) (by omega) (by rw [hc.2.2.2.1]; omega) hp1
          rw [lk, ← hRR] at i2
          refine i2.cl0 (by omega) ?_
          rintro o2 A2 ⟨rfl, D2, rfl, x2⟩
          simp (disch := omega) only [true_implies, false_implies, not_true_eq_false, not_false_eq_true, I_n, I_neg, I_add, I_sub, I_mul, I_le4, I_lt4, I_eq4, I_div4, I_bi0, I_bi01, I_bi1, nor_em, rI_of, rV_of, zI_of, zV_of, nz_and, br_T, br_F, br_T2, br_F2, st_eq, st9_0, st_k, st_i, true_and, and_true, Classical.not_not, or_true, true_or, or_false, false_or, rR_of, dp_gI5, dp_gI6, dp_gI7, dp_gI8, dp_gI9, dp_gI10, dp_gI14, dp_pI5, dp_pI6, dp_pI7, dp_pI8, dp_pI9, dp_pI10, dp_pI14, dp_gR0, dp_gR1, dp_gR2, dp_gR3, dp_gR4, dp_gR11, dp_gR12, dp_gR13, dp_gR15, dp_gR16, dp_gA3, dp_pA3, dp_gAR0, dp_gAR1, dp_gAR2, dp_isO, dp_isA]
          rw [e3, hv]
          refine ⟨congrArg (fun z => Ri (I z)) ?_, D2, rfl, ?_⟩
          · show 2 + L.2 + R.2 = L.2 + 1 + (R.2 + 1)
            omega
          · show DR D2 (fD r f (L.1 ++ R.1))
            rw [fD_app]
            exact x2
      have s1 := c_X1_isSame (a := a) hl hd hP hR w h k0 k1 i0 (n := (n + 1) / 2) (by omega) (by omega) (fun j j0 j1 => by rw [← hf]; exact hp j (by omega) (by omega))
      rw [← hf] at s1
      refine Ct.of hl rfl rfl (Nat.le_of_ble_eq_true rfl) (k_X1_searchRange_0 ?_)
      simp (disch := omega) only [true_implies, false_implies, not_true_eq_false, not_false_eq_true, I_n, I_neg, I_add, I_sub, I_mul, I_le4, I_lt4, I_eq4, I_div4, I_bi0, I_bi01, I_bi1, nor_em, rI_of, rV_of, zI_of, zV_of, nz_and, br_T, br_F, br_T2, br_F2, st_eq, st9_0, st_k, st_i, true_and, and_true, Classical.not_not, or_true, true_or, or_false, false_or, rR_of, dp_gI5, dp_gI6, dp_gI7, dp_gI8, dp_gI9, dp_gI10, dp_gI14, dp_pI5, dp_pI6, dp_pI7, dp_pI8, dp_pI9, dp_pI10, dp_pI14, dp_gR0, dp_gR1, dp_gR2, dp_gR3, dp_gR4, dp_gR11, dp_gR12, dp_gR13, dp_gR15, dp_gR16, dp_gA3, dp_pA3, dp_gAR0, dp_gAR1, dp_gAR2, dp_isO, dp_isA]
      refine s1.cl0 (by omega) ?_
      simp (disch := omega) only [true_implies, false_implies, not_true_eq_false, not_false_eq_true, I_n, I_neg, I_add, I_sub, I_mul, I_le4, I_lt4, I_eq4, I_div4, I_bi0, I_bi01, I_bi1, nor_em, rI_of, rV_of, zI_of, zV_of, nz_and, br_T, br_F, br_T2, br_F2, st_eq, st9_0, st_k, st_i, true_and, and_true, Classical.not_not, or_true, true_or, or_false, false_or, rR_of, dp_gI5, dp_gI6, dp_gI7, dp_gI8, dp_gI9, dp_gI10, dp_gI14, dp_pI5, dp_pI6, dp_pI7, dp_pI8, dp_pI9, dp_pI10, dp_pI14, dp_gR0, dp_gR1, dp_gR2, dp_gR3, dp_gR4, dp_gR11, dp_gR12, dp_gR13, dp_gR15, dp_gR16, dp_gA3, dp_pA3, dp_gAR0, dp_gAR1, dp_gAR2, dp_isO, dp_isA]
      refine ⟨fun hz => ?_, fun hz => ?_⟩
      · have e : gRt r (f + i) ((n + 1) / 2) = 1 := by omega
        rw [if_pos e] at hL
        refine second 2 D (by rw [hL]; rfl) (by rw [hL]; exact h) ?_
        rw [hL]
        exact ⟨List.Pairwise.nil, fun x hx => absurd hx List.not_mem_nil, by show (0 : Int) ≤ _; omega⟩
      · rw [if_neg (by omega)] at hL
        have i1 := ih (dep + 1) i ((n + 1) / 2) D r e hR w (by omega) h k0 k1 hf (by omega) (by omega) i0 (by omega) (by omega) (by omega) (fun j j0 j1 => hp j j0 (by omega))
        rw [← hL] at i1
        refine i1.cl0 (by omega) ?_
        rintro o1 A1 ⟨rfl, D1, rfl, x1⟩
        simp (disch := omega) only [true_implies, false_implies, not_true_eq_false, not_false_eq_true, I_n, I_neg, I_add, I_sub, I_mul, I_le4, I_lt4, I_eq4, I_div4, I_bi0, I_bi01, I_bi1, nor_em, rI_of, rV_of, zI_of, zV_of, nz_and, br_T, br_F, br_T2, br_F2, st_eq, st9_0, st_k, st_i, true_and, and_true, Classical.not_not, or_true, true_or, or_false, false_or, rR_of, dp_gI5, dp_gI6, dp_gI7, dp_gI8, dp_gI9, dp_gI10, dp_gI14, dp_pI5, dp_pI6, dp_pI7, dp_pI8, dp_pI9, dp_pI10, dp_pI14, dp_gR0, dp_gR1, dp_gR2, dp_gR3, dp_gR4, dp_gR11, dp_gR12, dp_gR13, dp_gR15, dp_gR16, dp_gA3, dp_pA3, dp_gAR0, dp_gAR1, dp_gAR2, dp_isO, dp_isA]
        have lb := look_b (r := r) (f := f) d i ((n + 1) / 2) (by omega)
        rw [← hL] at lb
        exact second _ D1 rfl x1 ⟨lb.2.2.2, lb.2.2.1, lb.2.1⟩
theorem L_dropWhole (hl : l.stackTraces = false) (hd : p + 10 < a ∨ a + 12 < p) (hP : PlanAt X B p P) {k f size : Int} {Q : Ot → AH → Prop} : ∀ (m : Nat) (j : Int) (D : Nat → Int → Int) (r : Int → Int) (e : Int), PR P r → RW r e → e + 1000 + 20 * m ≤ 2000000000 → DR D r → 0 ≤ f → 0 ≤ j → j + m = size → f + size ≤ gT r → (∀ i, j ≤ i → i < size → r (96 + (f + i)) ≠ 0) →
    (∀ D', DR D' (rTell (rDs (fun _ => 0) 0 f m j r) 4 k 0) → Q Rv (dp X a p B D')) →
    G l X M_X1_dropWhole 3 Q 3 [(0, .ref a), (1, .int (I k)), (2, .int (I f)), (3, .int (I size)), (4, .int (I (f + j)))] [] (dp X a p B D) 0 0 := by
  intro m
  induction m with
  | zero =>
    intro j D r e hR w he h f0 j0 hj hT hp K
    obtain ⟨t1, t2⟩ := gT_b w.1
    have lg := w.1.2.1
    have hgl := RW_gl w
    have h11 := h.2.2.2.2.1.2.2.2.2
    refine k_X1_dropWhole_3 ?_
    simp (disch := omega) only [true_implies, false_implies, not_true_eq_false, not_false_eq_true, I_n, I_neg, I_add, I_sub, I_mul, I_le4, I_lt4, I_eq4, I_div4, I_bi0, I_bi01, I_bi1, nor_em, rI_of, rV_of, zI_of, zV_of, nz_and, br_T, br_F, br_T2, br_F2, st_eq, st9_0, st_k, st_i, true_and, and_true, Classical.not_not, or_true, true_or, or_false, false_or, rR_of, dp_gI5, dp_gI6, dp_gI7, dp_gI8, dp_gI9, dp_gI10, dp_gI14, dp_pI5, dp_pI6, dp_pI7, dp_pI8, dp_pI9, dp_pI10, dp_pI14, dp_gR0, dp_gR1, dp_gR2, dp_gR3, dp_gR4, dp_gR11, dp_gR12, dp_gR13, dp_gR15, dp_gR16, dp_gA3, dp_pA3, dp_gAR0, dp_gAR1, dp_gAR2, dp_isO, dp_isA]
    refine (c_X0_write (D := D) hl (by omega)).cl0 (by decide) ?_
    simp (disch := omega) only [true_implies, false_implies, not_true_eq_false, not_false_eq_true, I_n, I_neg, I_add, I_sub, I_mul, I_le4, I_lt4, I_eq4, I_div4, I_bi0, I_bi01, I_bi1, nor_em, rI_of, rV_of, zI_of, zV_of, nz_and, br_T, br_F, br_T2, br_F2, st_eq, st9_0, st_k, st_i, true_and, and_true, Classical.not_not, or_true, true_or, or_false, false_or, rR_of, dp_gI5, dp_gI6, dp_gI7, dp_gI8, dp_gI9, dp_gI10, dp_gI14, dp_pI5, dp_pI6, dp_pI7, dp_pI8, dp_pI9, dp_pI10, dp_pI14, dp_gR0, dp_gR1, dp_gR2, dp_gR3, dp_gR4, dp_gR11, dp_gR12, dp_gR13, dp_gR15, dp_gR16, dp_gA3, dp_pA3, dp_gAR0, dp_gAR1, dp_gAR2, dp_isO, dp_isA]
    exact K _ (DX_tell w h)
  | succ m ih =>
    intro j D r e hR w he h f0 j0 hj hT hp K
    obtain ⟨t1, t2⟩ := gT_b w.1
    have lg := w.1.2.1
    have hz := hp j (Int.le_refl _) (by omega)
    have w2 := rD2_w w (p := f + j) (by omega) (by omega) (by omega)
    have x2 := DR_da w (p := f + j) (by omega) (by omega) hz h
    have o2 : ∀ y, y ≠ 96 + (f + j) → y ≠ 8 → rD2 r (f + j) y = r y := fun y h1 h8 => rD2_o h1 h8
    have cf1 : ∀ y, cf y → rD2 r (f + j) y = r y := fun y hy => o2 y (by unfold cf at hy; omega) (by unfold cf at hy; omega)
    obtain ⟨c0, c2, c3, hB⟩ := cfg_c w cf1
    have hc := geo_c c0 c2 c3
    have K10 : kLo r D (f + j) 10 10 = D 10 10 := kLo_y (by omega) (by omega) (by omega)
    refine k_X1_dropWhole_3 ?_
    simp (disch := omega) only [true_implies, false_implies, not_true_eq_false, not_false_eq_true, I_n, I_neg, I_add, I_sub, I_mul, I_le4, I_lt4, I_eq4, I_div4, I_bi0, I_bi01, I_bi1, nor_em, rI_of, rV_of, zI_of, zV_of, nz_and, br_T, br_F, br_T2, br_F2, st_eq, st9_0, st_k, st_i, true_and, and_true, Classical.not_not, or_true, true_or, or_false, false_or, rR_of, dp_gI5, dp_gI6, dp_gI7, dp_gI8, dp_gI9, dp_gI10, dp_gI14, dp_pI5, dp_pI6, dp_pI7, dp_pI8, dp_pI9, dp_pI10, dp_pI14, dp_gR0, dp_gR1, dp_gR2, dp_gR3, dp_gR4, dp_gR11, dp_gR12, dp_gR13, dp_gR15, dp_gR16, dp_gA3, dp_pA3, dp_gAR0, dp_gAR1, dp_gAR2, dp_isO, dp_isA]
    refine (c_X1_lose hl hd hP hR w h (by omega) (by omega)).cl0 (by decide) ?_
    simp (disch := omega) only [true_implies, false_implies, not_true_eq_false, not_false_eq_true, I_n, I_neg, I_add, I_sub, I_mul, I_le4, I_lt4, I_eq4, I_div4, I_bi0, I_bi01, I_bi1, nor_em, rI_of, rV_of, zI_of, zV_of, nz_and, br_T, br_F, br_T2, br_F2, st_eq, st9_0, st_k, st_i, true_and, and_true, Classical.not_not, or_true, true_or, or_false, false_or, rR_of, dp_gI5, dp_gI6, dp_gI7, dp_gI8, dp_gI9, dp_gI10, dp_gI14, dp_pI5, dp_pI6, dp_pI7, dp_pI8, dp_pI9, dp_pI10, dp_pI14, dp_gR0, dp_gR1, dp_gR2, dp_gR3, dp_gR4, dp_gR11, dp_gR12, dp_gR13, dp_gR15, dp_gR16, dp_gA3, dp_pA3, dp_gAR0, dp_gAR1, dp_gAR2, dp_isO, dp_isA]
    rw [K10, show st (kLo r D (f + j)) 10 10 (D 10 10 + 1) = kDa r D (f + j) from rfl, Int.add_assoc f]
    refine ih (j + 1) (kDa r D (f + j)) (rD2 r (f + j)) (e + 1) (PR_c w cf1 hR) w2 (by omega) x2 f0 (by omega) (by omega) (by rw [hc.2.2.2.2.2.1]; exact hT) (fun i i0 i1 => by rw [o2 _ (by omega) (by omega)]; exact hp i (by omega) i1) fun D' x => K D' ?_
    have e4 : rDs (fun _ => 0) 0 f (m + 1) j r = rDs (fun _ => 0) 0 f m (j + 1) (rD2 r (f + j)) := by
      show rDs (fun _ => 0) 0 f m (j + 1) (if (0 : Int) = 0 then rDr r (f + j) 4 else _) = _
      rw [if_pos rfl]
      unfold rDr
      rw [if_neg (by decide)]
    rw [e4]
    exact x
theorem c_X1_searchPiece (hl : l.stackTraces = false) (hd : p + 10 < a ∨ a + 12 < p) (hP : PlanAt X B p P) {D : Nat → Int → Int} {r : Int → Int} {e : Int} (hR : PR P r) (w : RW r e) (he : e + 4000 ≤ 2000000000) (h : DR D r) {k : Int} (k0 : 0 ≤ k) (k1 : k < gN r) (hv : gV r k = 2) : Ct l X 10 M_X1_searchPiece [.ref a, .int (I k)] (dp X a p B D) 0 0 (fun o' A1 => o' = Ri (I (lk0 r k).2) ∧ ∃ D', A1 = dp X a p B D' ∧ DR D' (rSe r k)) := by
  obtain ⟨q1, q2, -⟩ := gE_b w.1
  obtain ⟨p1, p2, -⟩ := gPo_b w.1 k0 k1
  obtain ⟨f1, f2⟩ := gF_b w.1 k0 k1
  obtain ⟨t1, t2⟩ := gT_b w.1
  have lg := w.1.2.1
  have hgl := RW_gl w
  have hp := fun D => dp_pl (D := D) hd hP
  obtain ⟨b1, b2, b3, b4⟩ := look_b (r := r) (f := gF r k) 6 0 (gPo r k) p1
  have elk : look r (gF r k) 6 0 (gPo r k) = lk0 r k := rfl
  rw [elk] at b1 b2 b3 b4
  have hpres : ∀ j, 0 ≤ j → j < gPo r k → r (96 + (gF r k + j)) ≠ 0 := fun j j0 j1 => gV_2 hv j0 j1
  obtain ⟨w1, o1, o8⟩ := fD_w (f := gF r k) (lk0 r k).1 r e w (by omega) (fun x hx => by
    have := b3 x hx
    exact ⟨by omega, by omega, hpres x (by omega) (by omega)⟩) b4
  have cf1 : ∀ y, cf y → fD r (gF r k) (lk0 r k).1 y = r y := fun y hy => o1 y (fun x hx => by have := b3 x hx; unfold cf at hy; omega) (by unfold cf at hy; omega) (by unfold cf at hy; omega) (by unfold cf at hy; omega) (by unfold cf at hy; omega) (by unfold cf at hy; omega)
  obtain ⟨c0, c2, c3, hB⟩ := cfg_c w cf1
  have hc := geo_c c0 c2 c3
  have e6 := o1 6 (fun x hx => by have := b3 x hx; omega) (by omega) (by omega) (by omega) (by omega) (by omega)
  have c5 := w.2.2.2.2.2.1
  have d8 := h.2.2.2.2.1.2.2.1
  -- the ban, at the end
  have fin : ∀ D' r' e', DR D' r' → RW r' e' → PR P r' → rBan r' = rSe r k → G l X M_X1_searchPiece 10 (fun o' A1 => o' = Ri (I (lk0 r k).2) ∧ ∃ D', A1 = dp X a p B D' ∧ DR D' (rSe r k)) 61 [(0, .ref a), (5, .int (I (lk0 r k).2))] [] (dp X a p B D') 0 0 := by
    intro D' r' e' x w' hR' hb
    refine k_X1_searchPiece_61 ⟨dp_isO, (c_X1_ban hl hd hP hR' w' x).cl0 (by decide) ?_⟩
    simp (disch := omega) only [true_implies, false_implies, not_true_eq_false, not_false_eq_true, I_n, I_neg, I_add, I_sub, I_mul, I_le4, I_lt4, I_eq4, I_div4, I_bi0, I_bi01, I_bi1, nor_em, rI_of, rV_of, zI_of, zV_of, nz_and, br_T, br_F, br_T2, br_F2, st_eq, st9_0, st_k, st_i, true_and, and_true, Classical.not_not, or_true, true_or, or_false, false_or, rR_of, dp_gI5, dp_gI6, dp_gI7, dp_gI8, dp_gI9, dp_gI10, dp_gI14, dp_pI5, dp_pI6, dp_pI7, dp_pI8, dp_pI9, dp_pI10, dp_pI14, dp_gR0, dp_gR1, dp_gR2, dp_gR3, dp_gR4, dp_gR11, dp_gR12, dp_gR13, dp_gR15, dp_gR16, dp_gA3, dp_pA3, dp_gAR0, dp_gAR1, dp_gAR2, dp_isO, dp_isA]
    exact ⟨_, rfl, by rw [← hb]; exact DR_ban w' x⟩
  refine Ct.of hl rfl rfl (Nat.le_of_ble_eq_true rfl) (k_X1_searchPiece_0 ?_)
  simp (disch := omega) only [true_implies, false_implies, not_true_eq_false, not_false_eq_true, I_n, I_neg, I_add, I_sub, I_mul, I_le4, I_lt4, I_eq4, I_div4, I_bi0, I_bi01, I_bi1, nor_em, rI_of, rV_of, zI_of, zV_of, nz_and, br_T, br_F, br_T2, br_F2, st_eq, st9_0, st_k, st_i, true_and, and_true, Classical.not_not, or_true, true_or, or_false, false_or, rR_of, dp_gI5, dp_gI6, dp_gI7, dp_gI8, dp_gI9, dp_gI10, dp_gI14, dp_pI5, dp_pI6, dp_pI7, dp_pI8, dp_pI9, dp_pI10, dp_pI14, dp_gR0, dp_gR1, dp_gR2, dp_gR3, dp_gR4, dp_gR11, dp_gR12, dp_gR13, dp_gR15, dp_gR16, dp_gA3, dp_pA3, dp_gAR0, dp_gAR1, dp_gAR2, dp_isO, dp_isA]
  refine ⟨(hp _).isO, (c_X3_firstPart hl (hp _) hR w.1 k0 k1).cl0 (by decide) ?_⟩
  simp (disch := omega) only [true_implies, false_implies, not_true_eq_false, not_false_eq_true, I_n, I_neg, I_add, I_sub, I_mul, I_le4, I_lt4, I_eq4, I_div4, I_bi0, I_bi01, I_bi1, nor_em, rI_of, rV_of, zI_of, zV_of, nz_and, br_T, br_F, br_T2, br_F2, st_eq, st9_0, st_k, st_i, true_and, and_true, Classical.not_not, or_true, true_or, or_false, false_or, rR_of, dp_gI5, dp_gI6, dp_gI7, dp_gI8, dp_gI9, dp_gI10, dp_gI14, dp_pI5, dp_pI6, dp_pI7, dp_pI8, dp_pI9, dp_pI10, dp_pI14, dp_gR0, dp_gR1, dp_gR2, dp_gR3, dp_gR4, dp_gR11, dp_gR12, dp_gR13, dp_gR15, dp_gR16, dp_gA3, dp_pA3, dp_gAR0, dp_gAR1, dp_gAR2, dp_isO, dp_isA]
  refine ⟨(hp _).isO, (c_X3_partsOf hl (hp _) hR w.1 k0 k1).cl0 (by decide) ?_⟩
  simp (disch := omega) only [true_implies, false_implies, not_true_eq_false, not_false_eq_true, I_n, I_neg, I_add, I_sub, I_mul, I_le4, I_lt4, I_eq4, I_div4, I_bi0, I_bi01, I_bi1, nor_em, rI_of, rV_of, zI_of, zV_of, nz_and, br_T, br_F, br_T2, br_F2, st_eq, st9_0, st_k, st_i, true_and, and_true, Classical.not_not, or_true, true_or, or_false, false_or, rR_of, dp_gI5, dp_gI6, dp_gI7, dp_gI8, dp_gI9, dp_gI10, dp_gI14, dp_pI5, dp_pI6, dp_pI7, dp_pI8, dp_pI9, dp_pI10, dp_pI14, dp_gR0, dp_gR1, dp_gR2, dp_gR3, dp_gR4, dp_gR11, dp_gR12, dp_gR13, dp_gR15, dp_gR16, dp_gA3, dp_pA3, dp_gAR0, dp_gAR1, dp_gAR2, dp_isO, dp_isA]
  have ar := c_X1_range1 (a := a) hl hd hP (k := k) (f := gF r k) 6 0 0 (gPo r k) D r e hR w (by omega) h k0 k1 rfl (by omega) (by omega) (by omega) p1 (by have : (2 : Int) ^ 6 = 64 := rfl; omega) (by omega) (fun j j0 j1 => hpres j j0 (by omega))
  rw [Int.add_zero, elk] at ar
  refine ar.cl0 (by decide) ?_
  rintro o2 A2 ⟨rfl, D2, rfl, x2⟩
  obtain ⟨y1, y2, y3, y4, y5, y6, y7, y8⟩ := id x2
  have x3 : DR (st D2 10 9 (D2 10 9 + (lk0 r k).2)) (rs (fD r (gF r k) (lk0 r k).1) 6 (r 6 + (lk0 r k).2)) := by
    refine DX_cnt w1 x2 (fun y _ h6 _ _ => rs_ne h6) (fun j _ _ _ h10 => st_row h10) (fun y hy => st_k (by omega)) ?_ ?_
    · rw [st_k (by omega), st_eq, st_k (by omega), st_k (by omega), rs_ne (by omega), rs_eq, rs_ne (by omega), rs_ne (by omega), y5.2.1, e6]
      exact ⟨y5.1, rfl, y5.2.2.1, y5.2.2.2.1⟩
    · intro s s0 s1
      rw [st_i (by decide), st_i (by decide), st_i (by decide), rs_ne (by omega), rs_ne (by omega), rs_ne (by omega)]
      exact y6 s s0 s1
  have w3 : RW (rs (fD r (gF r k) (lk0 r k).1) 6 (r 6 + (lk0 r k).2)) (e + 200) := RW_set (RW_e w1 (e' := e + 200) (by omega) (by omega)) (by omega) (by omega) (by omega) (by omega) (by omega) (by omega) (by omega) (by omega) (by omega) (by omega) (by omega) (by omega)
  have o3 : ∀ y, y ≠ 6 → rs (fD r (gF r k) (lk0 r k).1) 6 (r 6 + (lk0 r k).2) y = fD r (gF r k) (lk0 r k).1 y := fun y hy => rs_ne hy
  have cf3 : ∀ y, cf y → rs (fD r (gF r k) (lk0 r k).1) 6 (r 6 + (lk0 r k).2) y = r y := fun y hy => (o3 y (by unfold cf at hy; omega)).trans (cf1 y hy)
  have e10 : st D2 10 9 (D2 10 9 + (lk0 r k).2) 10 10 = r 8 + (lk0 r k).1.length := by rw [st_k (by omega), y5.2.2.1, o8]
  simp (disch := omega) only [true_implies, false_implies, not_true_eq_false, not_false_eq_true, I_n, I_neg, I_add, I_sub, I_mul, I_le4, I_lt4, I_eq4, I_div4, I_bi0, I_bi01, I_bi1, nor_em, rI_of, rV_of, zI_of, zV_of, nz_and, br_T, br_F, br_T2, br_F2, st_eq, st9_0, st_k, st_i, true_and, and_true, Classical.not_not, or_true, true_or, or_false, false_or, rR_of, dp_gI5, dp_gI6, dp_gI7, dp_gI8, dp_gI9, dp_gI10, dp_gI14, dp_pI5, dp_pI6, dp_pI7, dp_pI8, dp_pI9, dp_pI10, dp_pI14, dp_gR0, dp_gR1, dp_gR2, dp_gR3, dp_gR4, dp_gR11, dp_gR12, dp_gR13, dp_gR15, dp_gR16, dp_gA3, dp_pA3, dp_gAR0, dp_gAR1, dp_gAR2, dp_isO, dp_isA]
  rw [st_k (by omega)] at e10
  rw [e10, d8]
  refine ⟨fun hne => ?_, fun heq => ?_⟩
  · have hlen : ((lk0 r k).1.length : Int) ≠ 0 := by omega
    refine fin _ _ _ x3 w3 (PR_c w cf3 hR) ?_
    have es0 : rSe0 r k = fD r (gF r k) (lk0 r k).1 := by
      unfold rSe0
      refine rDs_fold hlen _ 0 _ r b4 (fun x hx => by have := b3 x hx; omega) fun i i0 i1 => ?_
      rw [mark_v]
      by_cases hm : i ∈ (lk0 r k).1
      · rw [if_pos hm]
        exact ⟨fun q => absurd q (by decide), fun q => absurd hm q⟩
      · rw [if_neg hm]
        exact ⟨fun _ => hm, fun _ => rfl⟩
    unfold rSe rSe1
    rw [if_neg hlen, es0, e6]
  · have hlen : ((lk0 r k).1.length : Int) = 0 := by omega
    have hnil : (lk0 r k).1 = [] := List.eq_nil_of_length_eq_zero (by omega)
    have er : fD r (gF r k) (lk0 r k).1 = r := by rw [hnil]; rfl
    rw [er] at x3 w3 cf3 o3
    obtain ⟨d1, d2, d3, dB⟩ := cfg_c w cf3
    have hc3 := geo_c d1 d2 d3
    refine Cal.of (Ct.of (mc := 0) (ms := 0) hl rfl rfl (Nat.le_of_ble_eq_true rfl) (k_X1_dropWhole_0 ?_)) (d' := 3) (Q := fun o' A1 => o' = Rv ∧ ∃ D', A1 = dp X a p B D' ∧ DR D' (rTell (rDs (fun _ => 0) 0 (gF r k) (gPo r k).toNat 0 (rs r 6 (r 6 + (lk0 r k).2))) 4 k 0)) (by decide) (Nat.le_refl _) (Nat.le_refl _) ?_
    · have a0 := L_dropWhole (l := l) (X := X) (a := a) (p := p) (B := B) hl hd hP (k := k) (f := gF r k) (size := gPo r k) (Q := fun o' A1 => o' = Rv ∧ ∃ D', A1 = dp X a p B D' ∧ DR D' (rTell (rDs (fun _ => 0) 0 (gF r k) (gPo r k).toNat 0 (rs r 6 (r 6 + (lk0 r k).2))) 4 k 0)) (gPo r k).toNat 0 (st D2 10 9 (D2 10 9 + (lk0 r k).2)) (rs r 6 (r 6 + (lk0 r k).2)) (e + 200) (PR_c w cf3 hR) w3 (by omega) x3 f1 (by omega) (by omega) (by rw [hc3.2.2.2.2.2.1]; exact f2) (fun i i0 i1 => by rw [o3 _ (by omega)]; exact hpres i i0 i1) (fun D' x => ⟨rfl, D', rfl, x⟩)
      rw [Int.add_zero] at a0
      exact a0
    rintro o4 A4 ⟨rfl, D4, rfl, x4⟩
    simp (disch := omega) only [true_implies, false_implies, not_true_eq_false, not_false_eq_true, I_n, I_neg, I_add, I_sub, I_mul, I_le4, I_lt4, I_eq4, I_div4, I_bi0, I_bi01, I_bi1, nor_em, rI_of, rV_of, zI_of, zV_of, nz_and, br_T, br_F, br_T2, br_F2, st_eq, st9_0, st_k, st_i, true_and, and_true, Classical.not_not, or_true, true_or, or_false, false_or, rR_of, dp_gI5, dp_gI6, dp_gI7, dp_gI8, dp_gI9, dp_gI10, dp_gI14, dp_pI5, dp_pI6, dp_pI7, dp_pI8, dp_pI9, dp_pI10, dp_pI14, dp_gR0, dp_gR1, dp_gR2, dp_gR3, dp_gR4, dp_gR11, dp_gR12, dp_gR13, dp_gR15, dp_gR16, dp_gA3, dp_pA3, dp_gAR0, dp_gAR1, dp_gAR2, dp_isO, dp_isA]
    obtain ⟨w4, o4⟩ := rDs_w (fd := fun _ => 0) (c := 0) (f := gF r k) (gPo r k).toNat 0 (rs r 6 (r 6 + (lk0 r k).2)) (e + 200) w3 (by omega) (by omega) (by omega) (fun i i0 i1 => by rw [o3 _ (by omega)]; exact hpres i i0 (by omega))
    have w4g := RW_gl w4
    have w5 := RW_tell (k := 4) (a := k) (b := 0) w4 (by omega) (by omega) (by obtain ⟨n1, n2, -⟩ := gN_b w.1; omega) (by omega)
    have cf5 : ∀ y, cf y → rTell (rDs (fun _ => 0) 0 (gF r k) (gPo r k).toNat 0 (rs r 6 (r 6 + (lk0 r k).2))) 4 k 0 y = r y := fun y hy => (rTell_g w4g.1 (by unfold cf at hy; omega)).trans ((o4 y (by unfold cf at hy; omega) (by unfold cf at hy; omega) (by unfold cf at hy; omega) (by unfold cf at hy; omega) (by unfold cf at hy; omega) (by unfold cf at hy; omega)).trans (cf3 y hy))
    refine fin _ _ _ x4 w5 (PR_c w cf5 hR) ?_
    obtain ⟨w6, o6⟩ := rDs_w (fd := fun _ => 0) (c := 0) (f := gF r k) (gPo r k).toNat 0 r e w (by omega) (by omega) (by omega) (fun i i0 i1 => hpres i i0 (by omega))
    have w6g := RW_gl w6
    have e66 : rDs (fun _ => 0) 0 (gF r k) (gPo r k).toNat 0 r 6 = r 6 := o6 6 (by omega) (by omega) (by omega) (by omega) (by omega) (by omega)
    have es0 : rSe0 r k = rDs (fun _ => 0) 0 (gF r k) (gPo r k).toNat 0 r := by
      unfold rSe0
      rw [hlen]
      exact rDs_z _ _ _
    unfold rSe rSe1
    rw [if_pos hlen, es0, rDs_6 _ _ _ (by omega), rTell_6 w6g.1, rTell_g w6g.1 (by omega), e66]
end CN
