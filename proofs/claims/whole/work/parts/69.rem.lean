/-! the class: remember -/
/-- what the class's methods leave alone: what never changes, and the cells of the reference at o -/
def Fr (w w' : Nat → Nat) (o : Nat) (A A' : AH) : Prop := A.1 ≤ A'.1 ∧ (∀ b, b < A.1 → w' b = w b) ∧ ∀ b, b < A.1 → (w b = 0 ∨ w b = o + 1) → A'.2 b = A.2 b
theorem Fr.trans {w w1 w2 : Nat → Nat} {o : Nat} {A A1 A2 : AH} (h : Fr w w1 o A A1) (k : Fr w1 w2 o A1 A2) : Fr w w2 o A A2 := by
  obtain ⟨a1, a2, a3⟩ := h
  obtain ⟨b1, b2, b3⟩ := k
  refine ⟨by omega, fun b hb => (b2 b (by omega)).trans (a2 b hb), fun b hb hw => ?_⟩
  rw [b3 b (by omega) (by rw [a2 b hb]; exact hw)]
  exact a3 b hb hw
theorem Chg.fr {w w' : Nat → Nat} {o s : Nat} {A A' : AH} (h : Chg w w' s A A') (h0 : s ≠ 0) (h1 : s ≠ o + 1) : Fr w w' o A A' := ⟨h.1, h.2.1, fun b hb hw => h.2.2 b hb (by omega)⟩
theorem Fr.refl {w : Nat → Nat} {o : Nat} {A : AH} : Fr w w o A A := ⟨Nat.le_refl _, fun _ _ => rfl, fun _ _ _ => rfl⟩
theorem DSh.no {X : XT} {A : AH} {w : Nat → Nat} {d o : Nat} {fs : List Value} (h : DSh X A w d) (ho : A.2 o = some (ob 7 fs)) : d ≠ o := by
  rintro rfl
  obtain ⟨p, D, la, n, g, m, h1, -⟩ := h
  exact absurd (h1.k0.symm.trans ho) (by simp)
section RM
variable {l : Launch} {X : XT} {A : AH} {w : Nat → Nat} {t a : Nat} {V : Nat → Int → Int} {f : Nat → Option Nat} {c : Option Nat} {S : Nat → Int → Int} {e : Int}
/-- the transfer's own cells written -/
theorem TlA.chg {V' : Nat → Int → Int} {a' : Nat} {f' : Nat → Option Nat} {c' : Option Nat} (ow : t + 3 < A.1 ∧ ∀ b, t ≤ b → b ≤ t + 3 → w b = t + 1) : Chg w w (t + 1) A (tp X t A V' a' f' c') := by
  refine ⟨Nat.le_refl _, fun _ _ => rfl, fun b b0 b1 => tp_out ?_⟩
  by_cases hb : t ≤ b ∧ b ≤ t + 3
  · exact absurd (ow.2 b hb.1 hb.2) b1
  · omega
theorem RG.chg {A' : AH} {w' : Nat → Nat} {np n : Int} {S3 : Int → Int} (h : RG X A w t a f np n S3) (k : Chg w w' (t + 1) A A') : RG X A' w' t a f np n S3 := by
  obtain ⟨h0, h1, h2, h3⟩ := h
  refine ⟨h0, fun i i0 i1 => ?_, fun j j0 b hb => ?_, h3⟩
  · obtain ⟨b, b1, b2⟩ := h1 i i0 i1
    obtain ⟨-, -, x3⟩ := h2 _ (by omega) b b1
    exact ⟨b, b1, b2.chg k (by omega) (by omega)⟩
  · obtain ⟨x1, x2, x3⟩ := h2 j j0 b hb
    exact ⟨x1.chg k (by omega) (by omega), x2, x3⟩
/-- a place of the ring read -/
theorem c_X5_pastAt (hl : l.stackTraces = false) {B : AH} {i : Int} (h0 : 0 ≤ i) (h1 : i < 8) : Fn l X 0 M_X5_pastAt [.ref t, .int (I i)] (tp X t B V a f c) 0 0 (Rq (f i.toNat)) (tp X t B V a f c) := by
  refine Fn.of hl rfl rfl (Nat.le_of_ble_eq_true rfl) (k_X5_pastAt_0 ?_)
  simp (disch := omega) only [true_implies, false_implies, not_true_eq_false, not_false_eq_true, rR_of, I_n, I_neg, I_add, I_sub, I_mul, I_le4, I_lt4, I_eq4, I_div4, I_bi0, I_bi01, I_bi1, nor_em, rI_of, rV_of, zI_of, zV_of, nz_and, br_T, br_F, br_T2, br_F2, st_eq, st9_0, st_k, st_i, true_and, and_true, Classical.not_not, tp_gI1, tp_gI2, tp_gI4, tp_gI7, tp_gI8, tp_pI1, tp_pI2, tp_pI4, tp_pI7, tp_pI8, tp_gR0, tp_gR3, tp_gR6, tp_gR5, tp_pR5, tp_pR9, tp_o]
  refine tp_nQ ?_
  simp (disch := omega) only [true_implies, false_implies, not_true_eq_false, not_false_eq_true, rR_of, I_n, I_neg, I_add, I_sub, I_mul, I_le4, I_lt4, I_eq4, I_div4, I_bi0, I_bi01, I_bi1, nor_em, rI_of, rV_of, zI_of, zV_of, nz_and, br_T, br_F, br_T2, br_F2, st_eq, st9_0, st_k, st_i, true_and, and_true, Classical.not_not, tp_gI1, tp_gI2, tp_gI4, tp_gI7, tp_gI8, tp_pI1, tp_pI2, tp_pI4, tp_pI7, tp_pI8, tp_gR0, tp_gR3, tp_gR6, tp_gR5, tp_pR5, tp_pR9, tp_o]
  refine tp_aQ h0 h1 ?_
  all_goals first | rfl | exact ⟨rfl, rfl⟩
/-- a place of the ring written -/
theorem c_X5_putPast (hl : l.stackTraces = false) {B : AH} {i : Int} {v : Nat} {vs : List Value} (hv : (tp X t B V a f c).2 v = some (ob 2 vs)) (h0 : 0 ≤ i) (h1 : i < 8) : Fn l X 0 M_X5_putPast [.ref t, .int (I i), .ref v] (tp X t B V a f c) 0 0 Rv (tp X t B V a (va_up f i.toNat (some v)) c) := by
  refine Fn.of hl rfl rfl (Nat.le_of_ble_eq_true rfl) (k_X5_putPast_0 ?_)
  simp (disch := omega) only [true_implies, false_implies, not_true_eq_false, not_false_eq_true, rR_of, I_n, I_neg, I_add, I_sub, I_mul, I_le4, I_lt4, I_eq4, I_div4, I_bi0, I_bi01, I_bi1, nor_em, rI_of, rV_of, zI_of, zV_of, nz_and, br_T, br_F, br_T2, br_F2, st_eq, st9_0, st_k, st_i, true_and, and_true, Classical.not_not, tp_gI1, tp_gI2, tp_gI4, tp_gI7, tp_gI8, tp_pI1, tp_pI2, tp_pI4, tp_pI7, tp_pI8, tp_gR0, tp_gR3, tp_gR6, tp_gR5, tp_pR5, tp_pR9, tp_o]
  refine tp_nQ ?_
  simp (disch := omega) only [true_implies, false_implies, not_true_eq_false, not_false_eq_true, rR_of, I_n, I_neg, I_add, I_sub, I_mul, I_le4, I_lt4, I_eq4, I_div4, I_bi0, I_bi01, I_bi1, nor_em, rI_of, rV_of, zI_of, zV_of, nz_and, br_T, br_F, br_T2, br_F2, st_eq, st9_0, st_k, st_i, true_and, and_true, Classical.not_not, tp_gI1, tp_gI2, tp_gI4, tp_gI7, tp_gI8, tp_pI1, tp_pI2, tp_pI4, tp_pI7, tp_pI8, tp_gR0, tp_gR3, tp_gR6, tp_gR5, tp_pR5, tp_pR9, tp_o]
  refine tp_sD hv h0 h1 ?_
  all_goals first | rfl | exact ⟨rfl, rfl⟩
theorem L_rem (hl : l.stackTraces = false) {o b : Nat} {fs : List Value} {Q : Ot → AH → Prop} {bc bs : Nat} (h : TAt X A w t V a f c S) (ri : RI S e) (ho : A.2 o = some (ob 7 fs)) (hto : t ≠ o) (hb : f (V 2 7).toNat = some b) (hbc : 4 ≤ bc) (hbs : 40 ≤ bs) (K : ∀ A' w' V', TAt X A' w' t V' a f c (kS S) → Fr w w' o A A' → Q Rv A') :
    G l X M_X5_remember 5 Q 37 [(0, .ref t), (1, .ref b)] [] A bc bs := by
  obtain ⟨hT, hO, ⟨hN, hat⟩, ⟨hG, hn⟩, hc, h15, h4, h23, h8⟩ := h
  obtain ⟨n0, n1, n2, n3⟩ := hG.1
  obtain ⟨d1, d2, d3⟩ := hG.2.2.1 _ (by omega) b hb
  obtain ⟨B, hB⟩ : ∃ B, B = A := ⟨_, rfl⟩
  have eA : A = tp X t B V a f c := by rw [hB]; exact (tp_of hT).symm
  have hsh := d1
  obtain ⟨p, D, la, n, g, m, hD, hL, hOw⟩ := d1
  refine k_X5_remember_37 ?_
  rw [eA]
  simp (disch := omega) only [true_implies, false_implies, not_true_eq_false, not_false_eq_true, rR_of, I_n, I_neg, I_add, I_sub, I_mul, I_le4, I_lt4, I_eq4, I_div4, I_bi0, I_bi01, I_bi1, nor_em, rI_of, rV_of, zI_of, zV_of, nz_and, br_T, br_F, br_T2, br_F2, st_eq, st9_0, st_k, st_i, true_and, and_true, Classical.not_not, tp_gI1, tp_gI2, tp_gI4, tp_gI7, tp_gI8, tp_pI1, tp_pI2, tp_pI4, tp_pI7, tp_pI8, tp_gR0, tp_gR3, tp_gR6, tp_gR5, tp_pR5, tp_pR9, tp_o]
  rw [← eA]
  refine ⟨⟨_, hD.k0⟩, ?_⟩
  refine Cal.of (c_copyD hl d2 hsh hN ri.1) (by decide) hbc hbs ?_
  rintro o1 A1 ⟨rfl, w', x1, x2⟩
  rw [rV_of]
  have hT1 : TlA X A1 t V a f c := hT.of fun y y0 y1 => x2.2.2 y (by have := hO.1; omega) (by rw [hO.2 y y0 y1]; omega)
  have ow1 : t + 3 < A1.1 ∧ ∀ y, t ≤ y → y ≤ t + 3 → w' y = t + 1 := ⟨by have := hO.1; have := x2.1; omega, fun y y0 y1 => (x2.2.1 y (by have := hO.1; omega)).trans (hO.2 y y0 y1)⟩
  obtain ⟨B1, hB1⟩ : ∃ B1, B1 = A1 := ⟨_, rfl⟩
  have eA1 : A1 = tp X t B1 V a f c := by rw [hB1]; exact (tp_of hT1).symm
  rw [hn] at hG
  have rg := RG_push hG hb ri x2 x1
  have hbo := hsh.no ho
  have e94 : kS S 9 4 = kM S + 1 := by
    unfold kS
    exact st_eq
  have hm : kM S = if S 9 4 = 8 then 7 else S 9 4 := rfl
  have fin : Q Rv (tp X t A1 (st (st V 2 7 ((V 2 7 + 1) % 8)) 2 8 (kS S 9 4)) a f c) := by
    have cg : Chg w' w' (t + 1) A1 (tp X t A1 (st (st V 2 7 ((V 2 7 + 1) % 8)) 2 8 (kS S 9 4)) a f c) := TlA.chg ow1
    have k9 : ∀ y, y ≠ 4 → kS S 9 y = S 9 y := fun y hy => by
      unfold kS
      rw [st_k hy, sw_j (by decide)]
    have kj : ∀ j : Nat, j ≠ 3 → j ≠ 9 → kS S j = S j := fun j h3 h9 => by
      unfold kS
      rw [st_row h9, sw_j h3]
    have v2 : ∀ y, y ≠ 7 → y ≠ 8 → st (st V 2 7 ((V 2 7 + 1) % 8)) 2 8 (kS S 9 4) 2 y = V 2 y := fun y h7 h8 => by rw [st_k h8, st_k h7]
    have vj : ∀ j : Nat, j ≠ 2 → st (st V 2 7 ((V 2 7 + 1) % 8)) 2 8 (kS S 9 4) j = V j := fun j hj => by rw [st_row hj, st_row hj]
    refine K _ w' _ ⟨tp_tl, ow1, ⟨?_, hat⟩, ⟨?_, st_eq⟩, ?_, ?_, ?_, ?_, ?_⟩ ((x2.fr (by omega) (by omega)).trans (cg.fr (by omega) (by omega)))
    · rw [kj 0 (by decide) (by decide)]
      exact (hN.chg x2 (by omega) (by omega)).chg cg (by omega) (by omega)
    · rw [st_k (show (7 : Int) ≠ 8 by decide), st_eq, st_eq]
      exact rg.chg cg
    · intro d hd
      obtain ⟨y1, y2, y3, y4⟩ := hc d hd
      have hdb : d ≠ b := by
        rintro rfl
        exact y4 _ (by omega) hb
      exact ⟨(y1.chg x2 (by omega) (by omega)).chg cg (by omega) (by omega), y2, y3, y4⟩
    · rw [v2 2 (by decide) (by decide), k9 15 (by decide)]
      exact h15
    · unfold TY
      rw [v2 1 (by decide) (by decide), vj 0 (by decide), k9 7 (by decide), kj 4 (by decide) (by decide)]
      exact h4
    · rw [v2 4 (by decide) (by decide), k9 23 (by decide)]
      exact h23
    · rw [vj 1 (by decide), k9 23 (by decide), kj 8 (by decide) (by decide)]
      exact h8
  rw [eA1]
  simp (disch := omega) only [true_implies, false_implies, not_true_eq_false, not_false_eq_true, rR_of, I_n, I_neg, I_add, I_sub, I_mul, I_le4, I_lt4, I_eq4, I_div4, I_bi0, I_bi01, I_bi1, nor_em, rI_of, rV_of, zI_of, zV_of, nz_and, br_T, br_F, br_T2, br_F2, st_eq, st9_0, st_k, st_i, true_and, and_true, Classical.not_not, tp_gI1, tp_gI2, tp_gI4, tp_gI7, tp_gI8, tp_pI1, tp_pI2, tp_pI4, tp_pI7, tp_pI8, tp_gR0, tp_gR3, tp_gR6, tp_gR5, tp_pR5, tp_pR9, tp_o]
  have em : V 2 7 + 1 - (V 2 7 + 1) / 8 * 8 = (V 2 7 + 1) % 8 := by omega
  have e8 : (if 8 < V 2 8 + 1 then I 8 else I (V 2 8 + 1)) = I (kS S 9 4) := by
    rw [e94, hm, hn]
    by_cases h8' : S 9 4 = 8
    · rw [if_pos h8', if_pos (by omega)]
      rfl
    · rw [if_neg h8', if_neg (by omega)]
  rw [em, e8, tp_pI8, hB1]
  exact fin
theorem DSh.lt {d : Nat} (h : DSh X A w d) : d + 12 < A.1 := by
  obtain ⟨p, D, la, n, g, m, h1, h5, h7⟩ := h
  exact h7.1
/-- the state under a change of something else -/
theorem TAt.chg {A' : AH} {w' : Nat → Nat} {s : Nat} (h : TAt X A w t V a f c S) (k : Chg w w' s A A') (h0 : s ≠ 0) (ht : s ≠ t + 1) (hd : ∀ d, DSh X A w d → s ≠ d + 1) : TAt X A' w' t V a f c S := by
  obtain ⟨hT, hO, ⟨hN, hat⟩, ⟨⟨g0, g1, g2, g3⟩, hn⟩, hc, h15, h4, h23, h8⟩ := h
  refine ⟨hT.of fun y y0 y1 => k.2.2 y (by have := hO.1; omega) (by rw [hO.2 y y0 y1]; omega), ⟨by have := hO.1; have := k.1; omega, fun y y0 y1 => (k.2.1 y (by have := hO.1; omega)).trans (hO.2 y y0 y1)⟩, ⟨hN.chg k h0 (hd a hN.sh), hat⟩, ⟨⟨g0, fun i i0 i1 => ?_, fun j j0 b hb => ?_, g3⟩, hn⟩, fun b hb => ?_, h15, h4, h23, h8⟩
  · obtain ⟨b, b1, b2⟩ := g1 i i0 i1
    exact ⟨b, b1, b2.chg k h0 (hd b b2.sh)⟩
  · obtain ⟨x1, x2, x3⟩ := g2 j j0 b hb
    exact ⟨x1.chg k h0 (hd b x1), x2, x3⟩
  · obtain ⟨x1, x2, x3, x4⟩ := hc b hb
    exact ⟨x1.chg k h0 (hd b x1), x2, x3, x4⟩
/-- an empty place of the ring filled -/
theorem TAt.slot {b : Nat} {f' : Nat → Option Nat} (h : TAt X A w t V a f c S) (hb : DSh X A w b) (hba : b ≠ a) (hbt : b ≠ t) (hbf : ∀ k : Nat, k < 8 → f k ≠ some b) (hbc : c ≠ some b) {n : Nat} (hn8 : n = (V 2 7).toNat) (hno : f n = none) (h1 : f' n = some b) (h2 : ∀ k, k ≠ n → f' k = f k) : TAt X (tp X t A V a f' c) w t V a f' c S := by
  obtain ⟨hT, hO, ⟨hN, hat⟩, ⟨⟨g0, g1, g2, g3⟩, hn⟩, hc, h15, h4, h23, h8⟩ := h
  have cg : Chg w w (t + 1) A (tp X t A V a f' c) := TlA.chg hO
  refine ⟨tp_tl, hO, ⟨hN.chg cg (by omega) (by omega), hat⟩, ⟨⟨g0, fun i i0 i1 => ?_, fun k k0 d hd => ?_, fun j k j0 k0 d hj hk => ?_⟩, hn⟩, fun d hd => ?_, h15, h4, h23, h8⟩
  · obtain ⟨d, d1, d2⟩ := g1 i i0 i1
    obtain ⟨x1, x2, x3⟩ := g2 _ (by omega) d d1
    have hk : ((V 2 7 - V 2 8 + i) % 8).toNat ≠ n := fun hk => by
      rw [hk, hno] at d1
      cases d1
    exact ⟨d, (h2 _ hk).trans d1, d2.chg cg (by omega) (by omega)⟩
  · by_cases hk : k = n
    · rw [hk, h1] at hd
      injection hd with hd
      rw [← hd]
      exact ⟨hb.chg cg (by omega) (by omega), hba, hbt⟩
    · rw [h2 k hk] at hd
      obtain ⟨x1, x2, x3⟩ := g2 k k0 d hd
      exact ⟨x1.chg cg (by omega) (by omega), x2, x3⟩
  · by_cases e1 : j = n
    · by_cases e2 : k = n
      · omega
      · rw [e1, h1] at hj
        rw [h2 k e2, ← hj] at hk
        exact absurd hk (hbf k k0)
    · by_cases e2 : k = n
      · rw [e2, h1] at hk
        rw [h2 j e1, ← hk] at hj
        exact absurd hj (hbf j j0)
      · rw [h2 j e1] at hj
        rw [h2 k e2] at hk
        exact g3 j k j0 k0 d hj hk
  · obtain ⟨x1, x2, x3, x4⟩ := hc d hd
    refine ⟨x1.chg cg (by omega) (by omega), x2, x3, fun k k0 hk => ?_⟩
    by_cases e2 : k = n
    · rw [e2, h1, ← hd] at hk
      exact hbc hk.symm
    · rw [h2 k e2] at hk
      exact x4 k k0 hk
/-- a new Download, its cells owned by itself -/
theorem DSh.mk {C : AH} {p : Nat} {D : Nat → Int → Int} (hN : DSh X A w a) (c1 : C.1 = A.1 + 13) (same : ∀ b, b < A.1 → C.2 b = A.2 b) (hD : DlA X C A.1 p D) (hL : LST X C (A.1 + 8) (xE X) 0 (fun _ => none) 0) : ∃ w', DSh X C w' A.1 ∧ Chg w w' (A.1 + 1) A C := by
  obtain ⟨p', D', la, n, g, m, h1, h5, h7⟩ := hN
  obtain ⟨w', hw⟩ : ∃ w' : Nat → Nat, w' = fun b => if b < A.1 then w b else A.1 + 1 := ⟨_, rfl⟩
  have wn : ∀ b, b < A.1 → w' b = w b := fun b hb' => by rw [hw]; exact if_pos hb'
  have wN : ∀ b, A.1 ≤ b → w' b = A.1 + 1 := fun b hb' => by rw [hw]; exact if_neg (by omega)
  have e6 := h7.2.2.2.2.2.1
  have e7 := h7.2.2.2.2.2.2
  exact ⟨w', ⟨p, D, xE X, 0, _, 0, hD, hL, by omega, fun b b0 _ => wN b b0, Or.inl rfl, by omega, Or.inl e6, by omega, (wn _ e6).trans e7⟩, by omega, wn, fun b b0 _ => same b b0⟩
theorem DSh.E {d : Nat} (h : DSh X A w d) : xE X < A.1 ∧ A.2 (xE X) = some (ra X 4 0 (fun _ => none)) := by
  obtain ⟨p, D, la, n, g, m, h1, h5, h7⟩ := h
  exact ⟨h7.2.2.2.2.2.1, h5.2.2.2⟩
theorem c_X5_remember (hl : l.stackTraces = false) {o : Nat} {fs : List Value} (h : TAt X A w t V a f c S) (ri : RI S e) (ho : A.2 o = some (ob 7 fs)) (hto : t ≠ o) (hol : o < A.1) : Ct l X 5 M_X5_remember [.ref t] A 17 790 (fun o' A' => o' = Rv ∧ ∃ w' V' f', TAt X A' w' t V' a f' c (kS S) ∧ Fr w w' o A A') := by
  obtain ⟨hT, hO, ⟨hN, hat⟩, ⟨hG, hn⟩, hc, -⟩ := id h
  obtain ⟨n0, n1, n2, n3⟩ := hG.1
  obtain ⟨Q, hQ⟩ : ∃ Q : Ot → AH → Prop, Q = (fun o' A' => o' = Rv ∧ ∃ w' V' f', TAt X A' w' t V' a f' c (kS S) ∧ Fr w w' o A A') := ⟨_, rfl⟩
  rw [← hQ]
  obtain ⟨B, hB⟩ : ∃ B, B = A := ⟨_, rfl⟩
  have eA : A = tp X t B V a f c := by rw [hB]; exact (tp_of hT).symm
  refine Ct.of hl rfl rfl (Nat.le_of_ble_eq_true rfl) (k_X5_remember_0 ?_)
  rw [eA]
  simp (disch := omega) only [true_implies, false_implies, not_true_eq_false, not_false_eq_true, rR_of, I_n, I_neg, I_add, I_sub, I_mul, I_le4, I_lt4, I_eq4, I_div4, I_bi0, I_bi01, I_bi1, nor_em, rI_of, rV_of, zI_of, zV_of, nz_and, br_T, br_F, br_T2, br_F2, st_eq, st9_0, st_k, st_i, true_and, and_true, Classical.not_not, tp_gI1, tp_gI2, tp_gI4, tp_gI7, tp_gI8, tp_pI1, tp_pI2, tp_pI4, tp_pI7, tp_pI8, tp_gR0, tp_gR3, tp_gR6, tp_gR5, tp_pR5, tp_pR9, tp_o]
  refine (c_X5_pastAt hl n0 n1).cl0 (by decide) (rQ_of ⟨fun b hb => ?_, fun hb => ?_⟩)
  · rw [← eA]
    refine L_rem hl h ri ho hto hb (by decide) (by decide) fun A' w' V' k1 k2 => ?_
    rw [hQ]
    exact ⟨rfl, w', V', f, k1, k2⟩
  · rw [← eA]
    have tA := hO.1
    obtain ⟨eE1, eE⟩ := hN.sh.E
    have haA := hN.sh.lt
    obtain ⟨p, D, P, la, g, m, hD, -⟩ := id hN
    refine mk_i (b := A.1) rfl (by decide) (by decide) ?_
    intro C c1 cq co
    have hT1 : TlA X C t V a f c := hT.of fun y y0 y1 => co y (by omega)
    have hD1 : DlA X C a p D := hD.of fun y y0 y1 _ => co y (by omega)
    show gR C t 6 5 _
    rw [gR_iff hT1.1 rfl, gR_iff hD1.k0 rfl]
    refine Cal.of (c_X1_init (a := A.1) hl cq c1 ((co _ (by omega)).trans eE) eE1) (by decide) (by decide) (by decide) ?_
    rintro o1 C2 ⟨rfl, y1, y2, y3, y4⟩
    rw [zV_of]
    have same : ∀ b, b < A.1 → C2.2 b = A.2 b := fun b hb' => (y4 b hb').trans (co b (by omega))
    obtain ⟨w1, dN, ch⟩ := hN.sh.mk y1 same y2 y3
    have tat := h.chg ch (by omega) (by omega) (fun d hd => by have := hd.lt; omega)
    have tat2 := tat.slot (f' := va_up f (V 2 7).toNat (some A.1)) dN (by omega) (by omega) (fun k k0 hk => by have := (hG.2.2.1 k k0 _ hk).1.lt; omega) (fun hk => by have := (hc _ hk).1.lt; omega) rfl hb (if_pos rfl) (fun k hk => if_neg hk)
    obtain ⟨B2, hB2⟩ : ∃ B2, B2 = C2 := ⟨_, rfl⟩
    have eC2 : C2 = tp X t B2 V a f c := by rw [hB2]; exact (tp_of tat.1).symm
    rw [eC2]
    simp (disch := omega) only [true_implies, false_implies, not_true_eq_false, not_false_eq_true, rR_of, I_n, I_neg, I_add, I_sub, I_mul, I_le4, I_lt4, I_eq4, I_div4, I_bi0, I_bi01, I_bi1, nor_em, rI_of, rV_of, zI_of, zV_of, nz_and, br_T, br_F, br_T2, br_F2, st_eq, st9_0, st_k, st_i, true_and, and_true, Classical.not_not, tp_gI1, tp_gI2, tp_gI4, tp_gI7, tp_gI8, tp_pI1, tp_pI2, tp_pI4, tp_pI7, tp_pI8, tp_gR0, tp_gR3, tp_gR6, tp_gR5, tp_pR5, tp_pR9, tp_o]
    refine (c_X5_putPast hl (vs := dfs A.1 p ((fun _ _ => 0 : Nat → Int → Int) 10)) ?_ n0 n1).cl0 (by decide) ?_
    · rw [← eC2]
      exact y2.k0
    · rw [rV_of, hB2]
      have wo : o < t ∨ t + 3 < o := by
        by_cases hh : t ≤ o ∧ o ≤ t + 3
        · have e1 : o = t + 1 ∨ o = t + 2 ∨ o = t + 3 := by omega
          rcases e1 with e1 | e1 | e1
          · rw [e1] at ho
            exact absurd (ho.symm.trans hT.2.1) (by simp)
          · rw [e1] at ho
            exact absurd (ho.symm.trans hT.2.2.1) (by simp)
          · rw [e1] at ho
            exact absurd (ho.symm.trans hT.2.2.2) (by simp)
        · omega
      refine L_rem hl tat2 ri ((tp_out wo).trans ((same o hol).trans ho)) hto (if_pos rfl) (by decide) (by decide) fun A' w' V' k1 k2 => ?_
      rw [hQ]
      have cg : Chg w1 w1 (t + 1) C2 (tp X t C2 V a (va_up f (V 2 7).toNat (some A.1)) c) := TlA.chg tat.2.1
      exact ⟨rfl, w', V', _, k1, ((ch.fr (by omega) (by omega)).trans (cg.fr (by omega) (by omega))).trans k2⟩
end RM
