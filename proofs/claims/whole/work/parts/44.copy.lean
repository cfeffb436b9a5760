/-! the class: rows filled and copied; a Download's cells; copyFrom -/
def DlA (X : XT) (A : AH) (a p : Nat) (D : Nat → Int → Int) : Prop := A.2 (a) = some (ob 2 (dfs a p (D 10))) ∧ A.2 (a + 1) = some (ia X 240 (fun k => I (D 0 k))) ∧ A.2 (a + 2) = some (ia X 240 (fun k => I (D 1 k))) ∧ A.2 (a + 3) = some (ia X 60 (fun k => I (D 2 k))) ∧ A.2 (a + 4) = some (ia X 60 (fun k => I (D 3 k))) ∧ A.2 (a + 5) = some (ia X 2 (fun k => I (D 4 k))) ∧ A.2 (a + 6) = some (ia X 2 (fun k => I (D 5 k))) ∧ A.2 (a + 7) = some (ia X 2 (fun k => I (D 6 k))) ∧ A.2 (a + 9) = some (ob 1 (afs a (D 11))) ∧ A.2 (a + 10) = some (ia X 40 (fun k => I (D 7 k))) ∧ A.2 (a + 11) = some (ia X 40 (fun k => I (D 8 k))) ∧ A.2 (a + 12) = some (ia X 40 (fun k => I (D 9 k)))
section DLA
variable {X : XT} {A A' B : AH} {a p : Nat} {D : Nat → Int → Int}
theorem DlA.k0 (h : DlA X A a p D) : A.2 (a) = some (ob 2 (dfs a p (D 10))) := h.1
theorem DlA.k1 (h : DlA X A a p D) : A.2 (a + 1) = some (ia X 240 (fun k => I (D 0 k))) := h.2.1
theorem DlA.k2 (h : DlA X A a p D) : A.2 (a + 2) = some (ia X 240 (fun k => I (D 1 k))) := h.2.2.1
theorem DlA.k3 (h : DlA X A a p D) : A.2 (a + 3) = some (ia X 60 (fun k => I (D 2 k))) := h.2.2.2.1
theorem DlA.k4 (h : DlA X A a p D) : A.2 (a + 4) = some (ia X 60 (fun k => I (D 3 k))) := h.2.2.2.2.1
theorem DlA.k5 (h : DlA X A a p D) : A.2 (a + 5) = some (ia X 2 (fun k => I (D 4 k))) := h.2.2.2.2.2.1
theorem DlA.k6 (h : DlA X A a p D) : A.2 (a + 6) = some (ia X 2 (fun k => I (D 5 k))) := h.2.2.2.2.2.2.1
theorem DlA.k7 (h : DlA X A a p D) : A.2 (a + 7) = some (ia X 2 (fun k => I (D 6 k))) := h.2.2.2.2.2.2.2.1
theorem DlA.k9 (h : DlA X A a p D) : A.2 (a + 9) = some (ob 1 (afs a (D 11))) := h.2.2.2.2.2.2.2.2.1
theorem DlA.k10 (h : DlA X A a p D) : A.2 (a + 10) = some (ia X 40 (fun k => I (D 7 k))) := h.2.2.2.2.2.2.2.2.2.1
theorem DlA.k11 (h : DlA X A a p D) : A.2 (a + 11) = some (ia X 40 (fun k => I (D 8 k))) := h.2.2.2.2.2.2.2.2.2.2.1
theorem DlA.k12 (h : DlA X A a p D) : A.2 (a + 12) = some (ia X 40 (fun k => I (D 9 k))) := h.2.2.2.2.2.2.2.2.2.2.2
theorem dp_dl : DlA X (dp X a p B D) a p D := ⟨dp_k0, dp_k1, dp_k2, dp_k3, dp_k4, dp_k5, dp_k6, dp_k7, dp_k9, dp_k10, dp_k11, dp_k12⟩
theorem DlA.of (h : DlA X A a p D) (e : ∀ b, a ≤ b → b ≤ a + 12 → b ≠ a + 8 → A'.2 b = A.2 b) : DlA X A' a p D :=
  ⟨(e _ (by omega) (by omega) (by omega)).trans h.k0, (e _ (by omega) (by omega) (by omega)).trans h.k1, (e _ (by omega) (by omega) (by omega)).trans h.k2, (e _ (by omega) (by omega) (by omega)).trans h.k3, (e _ (by omega) (by omega) (by omega)).trans h.k4, (e _ (by omega) (by omega) (by omega)).trans h.k5, (e _ (by omega) (by omega) (by omega)).trans h.k6, (e _ (by omega) (by omega) (by omega)).trans h.k7, (e _ (by omega) (by omega) (by omega)).trans h.k9, (e _ (by omega) (by omega) (by omega)).trans h.k10, (e _ (by omega) (by omega) (by omega)).trans h.k11, (e _ (by omega) (by omega) (by omega)).trans h.k12⟩
theorem dp_of (h : DlA X A a p D) : dp X a p A D = A := by
  refine Prod.ext rfl (funext fun b => ?_)
  by_cases h0 : b = a
  · rw [h0]
    exact dp_k0.trans h.k0.symm
  by_cases h1 : b = a + 1
  · rw [h1]
    exact dp_k1.trans h.k1.symm
  by_cases h2 : b = a + 2
  · rw [h2]
    exact dp_k2.trans h.k2.symm
  by_cases h3 : b = a + 3
  · rw [h3]
    exact dp_k3.trans h.k3.symm
  by_cases h4 : b = a + 4
  · rw [h4]
    exact dp_k4.trans h.k4.symm
  by_cases h5 : b = a + 5
  · rw [h5]
    exact dp_k5.trans h.k5.symm
  by_cases h6 : b = a + 6
  · rw [h6]
    exact dp_k6.trans h.k6.symm
  by_cases h7 : b = a + 7
  · rw [h7]
    exact dp_k7.trans h.k7.symm
  by_cases h9 : b = a + 9
  · rw [h9]
    exact dp_k9.trans h.k9.symm
  by_cases h10 : b = a + 10
  · rw [h10]
    exact dp_k10.trans h.k10.symm
  by_cases h11 : b = a + 11
  · rw [h11]
    exact dp_k11.trans h.k11.symm
  by_cases h12 : b = a + 12
  · rw [h12]
    exact dp_k12.trans h.k12.symm
  by_cases h8 : b = a + 8
  · rw [h8]
    exact dp_li
  exact dp_out (by omega)
end DLA
theorem up_self {A : AH} {b : Nat} {e : va_E} (h : A.2 b = some e) : up A b e = A := by
  refine Prod.ext rfl (funext fun c => ?_)
  by_cases hc : c = b
  · rw [hc]
    exact up_q.trans h.symm
  · exact up_b hc
theorem up_up {A : AH} {b : Nat} {e e' : va_E} : up (up A b e) b e' = up A b e' := by
  refine Prod.ext rfl (funext fun c => ?_)
  by_cases hc : c = b
  · rw [hc]
    exact up_q.trans up_q.symm
  · exact ((up_b hc).trans (up_b hc)).trans (up_b hc).symm
/-- a Download holds on its places what the other holds -/
def AG (D E : Nat → Int → Int) : Prop :=
  (∀ k, 0 ≤ k → k < 240 → E 0 k = D 0 k ∧ E 1 k = D 1 k) ∧ (∀ k, 0 ≤ k → k < 60 → E 2 k = D 2 k ∧ E 3 k = D 3 k) ∧ (∀ k, 0 ≤ k → k < 2 → E 4 k = D 4 k ∧ E 5 k = D 5 k ∧ E 6 k = D 6 k) ∧ (∀ k, 0 ≤ k → k < 40 → E 7 k = D 7 k ∧ E 8 k = D 8 k ∧ E 9 k = D 9 k) ∧ (∀ k, 5 ≤ k → k ≤ 10 ∨ k = 14 → E 10 k = D 10 k) ∧ E 11 3 = D 11 3
theorem DR_AG {D E : Nat → Int → Int} {r : Int → Int} (g : GW r) (h : DR D r) (hg : AG D E) : DR E r := by
  obtain ⟨a1, a2, a3, a4, a5, a6, a7, a8⟩ := h
  obtain ⟨g0, g2, g4, g7, g10, g11⟩ := hg
  obtain ⟨t1, t2⟩ := gT_b g
  obtain ⟨n1, n2, n3⟩ := gN_b g
  have lg := g.2.1
  refine ⟨?_, ?_, ?_, ?_, ?_, ?_, ?_, ?_⟩
  · intro p p0 p1 hp j j0 j1
    obtain ⟨b1, b2, b3, b4, b5, b6⟩ := gPl_b g p0 p1
    rw [(g0 _ (by omega) (by omega)).1]
    exact a1 p p0 p1 hp j j0 j1
  · intro p p0 p1
    rw [(g0 _ (by omega) (by omega)).2]
    exact a2 p p0 p1
  · intro k k0 k1
    rw [(g2 _ (by omega) (by omega)).1, (g2 _ (by omega) (by omega)).2]
    exact a3 k k0 k1
  · rw [g10 5 (by omega) (by omega), g10 6 (by omega) (by omega), g10 7 (by omega) (by omega)]
    exact a4
  · rw [g10 8 (by omega) (by omega), g10 9 (by omega) (by omega), g10 10 (by omega) (by omega), g10 14 (by omega) (by omega), g11]
    exact a5
  · intro s s0 s1
    obtain ⟨x1, x2, x3⟩ := g4 s (by omega) (by omega)
    rw [x1, x2, x3]
    exact a6 s s0 s1
  · intro j j0 j1 j2
    obtain ⟨x1, x2, x3⟩ := g7 j (by omega) (by omega)
    rw [x1, x2, x3]
    exact a7 j j0 j1 j2
  · intro k k0 k1
    rw [(g0 _ (by omega) (by omega)).1]
    exact a8 k k0 k1
section CF
variable {l : Launch} {X : XT} {A B : AH} {a p b n : Nat} {D : Nat → Int → Int} {g g0 : Int → Int}
theorem c_fill (hl : l.stackTraces = false) (h : A.2 b = some (ia X n (fun k => I (g k)))) (hn : n ≤ 100000) {v : Int} : Fn l X 0 M_J7_fill_53178 [.ref b, .int (I v)] A 0 0 Rv (up A b (ia X n (fun k => I (cpy g (fun _ => v) 0 0 n k)))) := by
  refine Fn.of hl rfl rfl (Nat.le_of_ble_eq_true rfl) (k_J7_fill_53178_0 ?_)
  rw [nI_iff h, I_ofNat]
  simp only [I_n]
  have e0 : up A b (ia X n (fun k => I (cpy g (fun _ => v) 0 0 ((0 : Nat) : Int) k))) = A := by
    rw [show ((0 : Nat) : Int) = 0 from rfl, cpy_z]
    exact up_self h
  rw [← e0]
  have key := up_to (n := n) (P := fun j => G l X M_J7_fill_53178 0 (fun o' A1 => o' = Rv ∧ A1 = up A b (ia X n (fun k => I (cpy g (fun _ => v) 0 0 n k)))) 5 [(0, .ref b), (1, .int (I v)), (2, .int (I (j : Int))), (3, .int (I (n : Int)))] [] (up A b (ia X n (fun k => I (cpy g (fun _ => v) 0 0 (j : Int) k)))) 0 0) ?_ ?_
  · rw [e0]
    rw [e0] at key
    exact key
  · refine k_J7_fill_53178_5 ?_
    simp (disch := omega) only [true_implies, false_implies, not_true_eq_false, not_false_eq_true, I_n, I_neg, I_add, I_sub, I_mul, I_le4, I_lt4, I_eq4, I_div4, I_bi0, I_bi01, I_bi1, nor_em, rI_of, rV_of, zI_of, zV_of, nz_and, br_T, br_F, br_T2, br_F2, st_eq, st9_0, st_k, st_i, true_and, and_true, Classical.not_not]
    all_goals first | rfl | exact ⟨rfl, rfl⟩
  · intro j hj ih
    refine k_J7_fill_53178_5 ?_
    simp (disch := omega) only [true_implies, false_implies, not_true_eq_false, not_false_eq_true, I_n, I_neg, I_add, I_sub, I_mul, I_le4, I_lt4, I_eq4, I_div4, I_bi0, I_bi01, I_bi1, nor_em, rI_of, rV_of, zI_of, zV_of, nz_and, br_T, br_F, br_T2, br_F2, st_eq, st9_0, st_k, st_i, true_and, and_true, Classical.not_not]
    rw [sI_iff up_q (in_I (by omega) (by omega) (by omega)), up_up]
    have e : upd (fun k => I (cpy g (fun _ => v) 0 0 (j : Int) k)) (I (j : Int)).toNatClampNeg (I v) = fun k : Nat => I (cpy g (fun _ => v) 0 0 ((j + 1 : Nat) : Int) k) := by
      funext k
      unfold upd cpy
      rw [cl_I ⟨by omega, by omega⟩]
      by_cases hk : k = (j : Int).toNat
      · rw [if_pos hk, if_pos (by omega)]
      · rw [if_neg hk]
        refine (show I (if (0 : Int) ≤ (k : Int) ∧ (k : Int) < 0 + (j : Int) then v else g k) = I (if (0 : Int) ≤ (k : Int) ∧ (k : Int) < 0 + ((j + 1 : Nat) : Int) then v else g k) from ?_)
        by_cases hk2 : k < j
        · rw [if_pos (by omega), if_pos (by omega)]
        · rw [if_neg (by omega), if_neg (by omega)]
    rw [e]
    exact ih
theorem c_copyRow (hl : l.stackTraces = false) {c : Nat} (h0 : A.2 c = some (ia X n (fun k => I (g0 k)))) (h : A.2 b = some (ia X n (fun k => I (g k)))) (hn : n ≤ 100000) : Fn l X 0 M_X5_copyRow [.ref c, .ref b] A 0 0 Rv (up A b (ia X n (fun k => I (cpy g g0 0 0 n k)))) := by
  refine Fn.of hl rfl rfl (Nat.le_of_ble_eq_true rfl) (k_X5_copyRow_0 ?_)
  rw [nI_iff h0, nI_iff h, I_ofNat]
  simp only [ite_self]
  have z : (0 : Int32).toNatClampNeg = 0 := by decide
  have zn : (I (n : Int)).toNatClampNeg = n := by
    rw [cl_I ⟨by omega, by omega⟩]
    omega
  have nn : ¬ I (n : Int) < 0 := by
    rw [show (0 : Int32) = I 0 from rfl, I_lt4 (by omega) (by omega) (by omega) (by omega)]
    omega
  refine ⟨n, n, _, _, h0, h, by decide, by decide, nn, by rw [z, zn]; omega, by rw [z, zn]; omega, trivial, ?_⟩
  rw [z, zn]
  have e : va_cpy (fun k => I (g0 k)) (fun k => I (g k)) 0 0 n = fun k : Nat => I (cpy g g0 0 0 n k) := by
    funext k
    unfold va_cpy cpy
    by_cases hk : k < n
    · rw [if_pos (by omega), if_pos (by omega)]
      exact congrArg (fun z => I (g0 z)) (by omega)
    · rw [if_neg (by omega), if_neg (by omega)]
  rw [e]
theorem fi_d0 (hl : l.stackTraces = false) {v : Int} : Fn l X 0 M_J7_fill_53178 [.ref (a + 1), .int (I v)] (dp X a p B D) 0 0 Rv (dp X a p B (sw D 0 (cpy (D 0) (fun _ => v) 0 0 240))) := by
  have h := c_fill (l := l) hl (dp_k1 (X := X) (a := a) (p := p) (B := B) (D := D)) (by decide) (v := v)
  rw [dp_w0] at h
  exact h
theorem cp_d0 (hl : l.stackTraces = false) {c : Nat} (h0 : (dp X a p B D).2 c = some (ia X 240 (fun k => I (g0 k)))) : Fn l X 0 M_X5_copyRow [.ref c, .ref (a + 1)] (dp X a p B D) 0 0 Rv (dp X a p B (sw D 0 (cpy (D 0) g0 0 0 240))) := by
  have h := c_copyRow (l := l) hl h0 (dp_k1 (X := X) (a := a) (p := p) (B := B) (D := D)) (by decide)
  rw [dp_w0] at h
  exact h
theorem fi_d1 (hl : l.stackTraces = false) {v : Int} : Fn l X 0 M_J7_fill_53178 [.ref (a + 2), .int (I v)] (dp X a p B D) 0 0 Rv (dp X a p B (sw D 1 (cpy (D 1) (fun _ => v) 0 0 240))) := by
  have h := c_fill (l := l) hl (dp_k2 (X := X) (a := a) (p := p) (B := B) (D := D)) (by decide) (v := v)
  rw [dp_w1] at h
  exact h
theorem cp_d1 (hl : l.stackTraces = false) {c : Nat} (h0 : (dp X a p B D).2 c = some (ia X 240 (fun k => I (g0 k)))) : Fn l X 0 M_X5_copyRow [.ref c, .ref (a + 2)] (dp X a p B D) 0 0 Rv (dp X a p B (sw D 1 (cpy (D 1) g0 0 0 240))) := by
  have h := c_copyRow (l := l) hl h0 (dp_k2 (X := X) (a := a) (p := p) (B := B) (D := D)) (by decide)
  rw [dp_w1] at h
  exact h
theorem fi_d2 (hl : l.stackTraces = false) {v : Int} : Fn l X 0 M_J7_fill_53178 [.ref (a + 3), .int (I v)] (dp X a p B D) 0 0 Rv (dp X a p B (sw D 2 (cpy (D 2) (fun _ => v) 0 0 60))) := by
  have h := c_fill (l := l) hl (dp_k3 (X := X) (a := a) (p := p) (B := B) (D := D)) (by decide) (v := v)
  rw [dp_w2] at h
  exact h
theorem cp_d2 (hl : l.stackTraces = false) {c : Nat} (h0 : (dp X a p B D).2 c = some (ia X 60 (fun k => I (g0 k)))) : Fn l X 0 M_X5_copyRow [.ref c, .ref (a + 3)] (dp X a p B D) 0 0 Rv (dp X a p B (sw D 2 (cpy (D 2) g0 0 0 60))) := by
  have h := c_copyRow (l := l) hl h0 (dp_k3 (X := X) (a := a) (p := p) (B := B) (D := D)) (by decide)
  rw [dp_w2] at h
  exact h
theorem fi_d3 (hl : l.stackTraces = false) {v : Int} : Fn l X 0 M_J7_fill_53178 [.ref (a + 4), .int (I v)] (dp X a p B D) 0 0 Rv (dp X a p B (sw D 3 (cpy (D 3) (fun _ => v) 0 0 60))) := by
  have h := c_fill (l := l) hl (dp_k4 (X := X) (a := a) (p := p) (B := B) (D := D)) (by decide) (v := v)
  rw [dp_w3] at h
  exact h
theorem cp_d3 (hl : l.stackTraces = false) {c : Nat} (h0 : (dp X a p B D).2 c = some (ia X 60 (fun k => I (g0 k)))) : Fn l X 0 M_X5_copyRow [.ref c, .ref (a + 4)] (dp X a p B D) 0 0 Rv (dp X a p B (sw D 3 (cpy (D 3) g0 0 0 60))) := by
  have h := c_copyRow (l := l) hl h0 (dp_k4 (X := X) (a := a) (p := p) (B := B) (D := D)) (by decide)
  rw [dp_w3] at h
  exact h
theorem fi_d4 (hl : l.stackTraces = false) {v : Int} : Fn l X 0 M_J7_fill_53178 [.ref (a + 5), .int (I v)] (dp X a p B D) 0 0 Rv (dp X a p B (sw D 4 (cpy (D 4) (fun _ => v) 0 0 2))) := by
  have h := c_fill (l := l) hl (dp_k5 (X := X) (a := a) (p := p) (B := B) (D := D)) (by decide) (v := v)
  rw [dp_w4] at h
  exact h
theorem cp_d4 (hl : l.stackTraces = false) {c : Nat} (h0 : (dp X a p B D).2 c = some (ia X 2 (fun k => I (g0 k)))) : Fn l X 0 M_X5_copyRow [.ref c, .ref (a + 5)] (dp X a p B D) 0 0 Rv (dp X a p B (sw D 4 (cpy (D 4) g0 0 0 2))) := by
  have h := c_copyRow (l := l) hl h0 (dp_k5 (X := X) (a := a) (p := p) (B := B) (D := D)) (by decide)
  rw [dp_w4] at h
  exact h
theorem fi_d5 (hl : l.stackTraces = false) {v : Int} : Fn l X 0 M_J7_fill_53178 [.ref (a + 6), .int (I v)] (dp X a p B D) 0 0 Rv (dp X a p B (sw D 5 (cpy (D 5) (fun _ => v) 0 0 2))) := by
  have h := c_fill (l := l) hl (dp_k6 (X := X) (a := a) (p := p) (B := B) (D := D)) (by decide) (v := v)
  rw [dp_w5] at h
  exact h
theorem cp_d5 (hl : l.stackTraces = false) {c : Nat} (h0 : (dp X a p B D).2 c = some (ia X 2 (fun k => I (g0 k)))) : Fn l X 0 M_X5_copyRow [.ref c, .ref (a + 6)] (dp X a p B D) 0 0 Rv (dp X a p B (sw D 5 (cpy (D 5) g0 0 0 2))) := by
  have h := c_copyRow (l := l) hl h0 (dp_k6 (X := X) (a := a) (p := p) (B := B) (D := D)) (by decide)
  rw [dp_w5] at h
  exact h
theorem fi_d6 (hl : l.stackTraces = false) {v : Int} : Fn l X 0 M_J7_fill_53178 [.ref (a + 7), .int (I v)] (dp X a p B D) 0 0 Rv (dp X a p B (sw D 6 (cpy (D 6) (fun _ => v) 0 0 2))) := by
  have h := c_fill (l := l) hl (dp_k7 (X := X) (a := a) (p := p) (B := B) (D := D)) (by decide) (v := v)
  rw [dp_w6] at h
  exact h
theorem cp_d6 (hl : l.stackTraces = false) {c : Nat} (h0 : (dp X a p B D).2 c = some (ia X 2 (fun k => I (g0 k)))) : Fn l X 0 M_X5_copyRow [.ref c, .ref (a + 7)] (dp X a p B D) 0 0 Rv (dp X a p B (sw D 6 (cpy (D 6) g0 0 0 2))) := by
  have h := c_copyRow (l := l) hl h0 (dp_k7 (X := X) (a := a) (p := p) (B := B) (D := D)) (by decide)
  rw [dp_w6] at h
  exact h
theorem fi_d7 (hl : l.stackTraces = false) {v : Int} : Fn l X 0 M_J7_fill_53178 [.ref (a + 10), .int (I v)] (dp X a p B D) 0 0 Rv (dp X a p B (sw D 7 (cpy (D 7) (fun _ => v) 0 0 40))) := by
  have h := c_fill (l := l) hl (dp_k10 (X := X) (a := a) (p := p) (B := B) (D := D)) (by decide) (v := v)
  rw [dp_w7] at h
  exact h
theorem cp_d7 (hl : l.stackTraces = false) {c : Nat} (h0 : (dp X a p B D).2 c = some (ia X 40 (fun k => I (g0 k)))) : Fn l X 0 M_X5_copyRow [.ref c, .ref (a + 10)] (dp X a p B D) 0 0 Rv (dp X a p B (sw D 7 (cpy (D 7) g0 0 0 40))) := by
  have h := c_copyRow (l := l) hl h0 (dp_k10 (X := X) (a := a) (p := p) (B := B) (D := D)) (by decide)
  rw [dp_w7] at h
  exact h
theorem fi_d8 (hl : l.stackTraces = false) {v : Int} : Fn l X 0 M_J7_fill_53178 [.ref (a + 11), .int (I v)] (dp X a p B D) 0 0 Rv (dp X a p B (sw D 8 (cpy (D 8) (fun _ => v) 0 0 40))) := by
  have h := c_fill (l := l) hl (dp_k11 (X := X) (a := a) (p := p) (B := B) (D := D)) (by decide) (v := v)
  rw [dp_w8] at h
  exact h
theorem cp_d8 (hl : l.stackTraces = false) {c : Nat} (h0 : (dp X a p B D).2 c = some (ia X 40 (fun k => I (g0 k)))) : Fn l X 0 M_X5_copyRow [.ref c, .ref (a + 11)] (dp X a p B D) 0 0 Rv (dp X a p B (sw D 8 (cpy (D 8) g0 0 0 40))) := by
  have h := c_copyRow (l := l) hl h0 (dp_k11 (X := X) (a := a) (p := p) (B := B) (D := D)) (by decide)
  rw [dp_w8] at h
  exact h
theorem fi_d9 (hl : l.stackTraces = false) {v : Int} : Fn l X 0 M_J7_fill_53178 [.ref (a + 12), .int (I v)] (dp X a p B D) 0 0 Rv (dp X a p B (sw D 9 (cpy (D 9) (fun _ => v) 0 0 40))) := by
  have h := c_fill (l := l) hl (dp_k12 (X := X) (a := a) (p := p) (B := B) (D := D)) (by decide) (v := v)
  rw [dp_w9] at h
  exact h
theorem cp_d9 (hl : l.stackTraces = false) {c : Nat} (h0 : (dp X a p B D).2 c = some (ia X 40 (fun k => I (g0 k)))) : Fn l X 0 M_X5_copyRow [.ref c, .ref (a + 12)] (dp X a p B D) 0 0 Rv (dp X a p B (sw D 9 (cpy (D 9) g0 0 0 40))) := by
  have h := c_copyRow (l := l) hl h0 (dp_k12 (X := X) (a := a) (p := p) (B := B) (D := D)) (by decide)
  rw [dp_w9] at h
  exact h
end CF
