/-! the class: copyFrom -/
section CP
variable {l : Launch} {X : XT} {A B : AH} {a p a2 p2 : Nat} {D E : Nat → Int → Int}
theorem c_X0_copyFrom (hl : l.stackTraces = false) (hs : DlA X B a2 p2 E) (hd : a2 + 12 < a ∨ a + 12 < a2) : Fn l X 1 M_X0_copyFrom [.ref (a + 9), .ref (a2 + 9)] (dp X a p B D) 0 0 Rv (dp X a p B (st (sw (sw (sw D 7 (cpy (D 7) (E 7) 0 0 40)) 8 (cpy (D 8) (E 8) 0 0 40)) 9 (cpy (D 9) (E 9) 0 0 40)) 11 3 (E 11 3))) := by
  have o : ∀ q F b, a2 ≤ b → b ≤ a2 + 12 → (dp X a q B F).2 b = B.2 b := fun q F b b0 b1 => dp_out (by omega)
  have t0 : ∀ F (K : Nat → Prop), gR (dp X a p B F) (a2 + 9) 1 0 K ↔ K (a2 + 10) := fun F K => gR_iff ((o p F _ (by omega) (by omega)).trans hs.k9) rfl
  have t1 : ∀ F (K : Nat → Prop), gR (dp X a p B F) (a2 + 9) 1 1 K ↔ K (a2 + 11) := fun F K => gR_iff ((o p F _ (by omega) (by omega)).trans hs.k9) rfl
  have t2 : ∀ F (K : Nat → Prop), gR (dp X a p B F) (a2 + 9) 1 2 K ↔ K (a2 + 12) := fun F K => gR_iff ((o p F _ (by omega) (by omega)).trans hs.k9) rfl
  have t3 : ∀ F (K : Int32 → Prop), gI (dp X a p B F) (a2 + 9) 1 3 K ↔ K (I (E 11 3)) := fun F K => gI_iff ((o p F _ (by omega) (by omega)).trans hs.k9) rfl
  refine Fn.of hl rfl rfl (Nat.le_of_ble_eq_true rfl) (k_X0_copyFrom_0 ?_)
  rw [t0]
  simp (disch := omega) only [true_implies, false_implies, not_true_eq_false, not_false_eq_true, I_n, I_neg, I_add, I_sub, I_mul, I_le4, I_lt4, I_eq4, I_div4, I_bi0, I_bi01, I_bi1, nor_em, rI_of, rV_of, zI_of, zV_of, nz_and, br_T, br_F, br_T2, br_F2, st_eq, st9_0, st_k, st_i, true_and, and_true, Classical.not_not, or_true, true_or, or_false, false_or, rR_of, dp_gI5, dp_gI6, dp_gI7, dp_gI8, dp_gI9, dp_gI10, dp_gI14, dp_pI5, dp_pI6, dp_pI7, dp_pI8, dp_pI9, dp_pI10, dp_pI14, dp_gR0, dp_gR1, dp_gR2, dp_gR3, dp_gR4, dp_gR11, dp_gR12, dp_gR13, dp_gR15, dp_gR16, dp_gA3, dp_pA3, dp_gAR0, dp_gAR1, dp_gAR2, dp_isO, dp_isA]
  refine (cp_d7 hl ((o p _ _ (by omega) (by omega)).trans hs.k10)).cl0 (by decide) ?_
  simp only [zV_of]
  rw [t1]
  simp (disch := omega) only [true_implies, false_implies, not_true_eq_false, not_false_eq_true, I_n, I_neg, I_add, I_sub, I_mul, I_le4, I_lt4, I_eq4, I_div4, I_bi0, I_bi01, I_bi1, nor_em, rI_of, rV_of, zI_of, zV_of, nz_and, br_T, br_F, br_T2, br_F2, st_eq, st9_0, st_k, st_i, true_and, and_true, Classical.not_not, or_true, true_or, or_false, false_or, rR_of, dp_gI5, dp_gI6, dp_gI7, dp_gI8, dp_gI9, dp_gI10, dp_gI14, dp_pI5, dp_pI6, dp_pI7, dp_pI8, dp_pI9, dp_pI10, dp_pI14, dp_gR0, dp_gR1, dp_gR2, dp_gR3, dp_gR4, dp_gR11, dp_gR12, dp_gR13, dp_gR15, dp_gR16, dp_gA3, dp_pA3, dp_gAR0, dp_gAR1, dp_gAR2, dp_isO, dp_isA]
  refine (cp_d8 hl ((o p _ _ (by omega) (by omega)).trans hs.k11)).cl0 (by decide) ?_
  simp only [zV_of]
  rw [t2]
  simp (disch := omega) only [true_implies, false_implies, not_true_eq_false, not_false_eq_true, I_n, I_neg, I_add, I_sub, I_mul, I_le4, I_lt4, I_eq4, I_div4, I_bi0, I_bi01, I_bi1, nor_em, rI_of, rV_of, zI_of, zV_of, nz_and, br_T, br_F, br_T2, br_F2, st_eq, st9_0, st_k, st_i, true_and, and_true, Classical.not_not, or_true, true_or, or_false, false_or, rR_of, dp_gI5, dp_gI6, dp_gI7, dp_gI8, dp_gI9, dp_gI10, dp_gI14, dp_pI5, dp_pI6, dp_pI7, dp_pI8, dp_pI9, dp_pI10, dp_pI14, dp_gR0, dp_gR1, dp_gR2, dp_gR3, dp_gR4, dp_gR11, dp_gR12, dp_gR13, dp_gR15, dp_gR16, dp_gA3, dp_pA3, dp_gAR0, dp_gAR1, dp_gAR2, dp_isO, dp_isA]
  refine (cp_d9 hl ((o p _ _ (by omega) (by omega)).trans hs.k12)).cl0 (by decide) ?_
  simp only [zV_of]
  rw [t3]
  simp (disch := omega) only [true_implies, false_implies, not_true_eq_false, not_false_eq_true, I_n, I_neg, I_add, I_sub, I_mul, I_le4, I_lt4, I_eq4, I_div4, I_bi0, I_bi01, I_bi1, nor_em, rI_of, rV_of, zI_of, zV_of, nz_and, br_T, br_F, br_T2, br_F2, st_eq, st9_0, st_k, st_i, true_and, and_true, Classical.not_not, or_true, true_or, or_false, false_or, rR_of, dp_gI5, dp_gI6, dp_gI7, dp_gI8, dp_gI9, dp_gI10, dp_gI14, dp_pI5, dp_pI6, dp_pI7, dp_pI8, dp_pI9, dp_pI10, dp_pI14, dp_gR0, dp_gR1, dp_gR2, dp_gR3, dp_gR4, dp_gR11, dp_gR12, dp_gR13, dp_gR15, dp_gR16, dp_gA3, dp_pA3, dp_gAR0, dp_gAR1, dp_gAR2, dp_isO, dp_isA]
  simp only [sw_j (show (8 : Nat) ≠ 7 by decide), sw_j (show (9 : Nat) ≠ 7 by decide), sw_j (show (9 : Nat) ≠ 8 by decide)]
def kCp (D E : Nat → Int → Int) : Nat → Int → Int :=
  fun j k => if j ≤ 6 then cpy (D j) (E j) 0 0 (if j ≤ 1 then 240 else if j ≤ 3 then 60 else 2) k else st (st (st (st (st (st (st D 10 5 (E 10 5)) 10 6 (E 10 6)) 10 7 (E 10 7)) 10 8 (E 10 8)) 10 9 (E 10 9)) 10 10 (E 10 10)) 10 14 (E 10 14) j k
theorem kCp_sw {D E F : Nat → Int → Int} (h : F = st (st (st (st (st (st (st D 10 5 (E 10 5)) 10 6 (E 10 6)) 10 7 (E 10 7)) 10 8 (E 10 8)) 10 9 (E 10 9)) 10 10 (E 10 10)) 10 14 (E 10 14)) :
    sw (sw (sw (sw (sw (sw (sw F 0 (cpy (D 0) (E 0) 0 0 240)) 1 (cpy (D 1) (E 1) 0 0 240)) 2 (cpy (D 2) (E 2) 0 0 60)) 3 (cpy (D 3) (E 3) 0 0 60)) 4 (cpy (D 4) (E 4) 0 0 2)) 5 (cpy (D 5) (E 5) 0 0 2)) 6 (cpy (D 6) (E 6) 0 0 2) = kCp D E := by
  funext j k
  unfold kCp sw
  rw [← h]
  by_cases h6 : j = 6
  · subst h6; rfl
  by_cases h5 : j = 5
  · subst h5; rfl
  by_cases h4 : j = 4
  · subst h4; rfl
  by_cases h3 : j = 3
  · subst h3; rfl
  by_cases h2 : j = 2
  · subst h2; rfl
  by_cases h1 : j = 1
  · subst h1; rfl
  by_cases h0 : j = 0
  · subst h0; rfl
  rw [if_neg h6, if_neg h5, if_neg h4, if_neg h3, if_neg h2, if_neg h1, if_neg h0, if_neg (by omega)]
theorem cpy_in (r q : Int → Int) (n k : Int) (k0 : 0 ≤ k) (k1 : k < n) : cpy r q 0 0 n k = q k := by
  unfold cpy
  rw [if_pos (by omega)]
  exact congrArg q (by omega)
/-- what a copy holds, its events apart -/
theorem kCp_ag {D E F : Nat → Int → Int} (hF : ∀ j : Nat, j ≤ 6 ∨ j = 10 → F j = kCp D E j) (h7 : ∀ k, 0 ≤ k → k < 40 → F 7 k = E 7 k ∧ F 8 k = E 8 k ∧ F 9 k = E 9 k) (h11 : F 11 3 = E 11 3) : AG E F := by
  have c := @cpy_in
  refine ⟨fun k k0 k1 => ?_, fun k k0 k1 => ?_, fun k k0 k1 => ?_, h7, fun k k0 k1 => ?_, h11⟩
  · rw [hF 0 (by omega), hF 1 (by omega)]
    exact ⟨c _ _ 240 k k0 k1, c _ _ 240 k k0 k1⟩
  · rw [hF 2 (by omega), hF 3 (by omega)]
    exact ⟨c _ _ 60 k k0 k1, c _ _ 60 k k0 k1⟩
  · rw [hF 4 (by omega), hF 5 (by omega), hF 6 (by omega)]
    exact ⟨c _ _ 2 k k0 k1, c _ _ 2 k k0 k1, c _ _ 2 k k0 k1⟩
  · rw [hF 10 (by omega)]
    have hk : k = 5 ∨ k = 6 ∨ k = 7 ∨ k = 8 ∨ k = 9 ∨ k = 10 ∨ k = 14 := by omega
    rcases hk with rfl | rfl | rfl | rfl | rfl | rfl | rfl <;> rfl
/-- the list's elements are partial files -/
def PE (A : AH) (n : Int) (g : Nat → Option Nat) : Prop := ∀ j : Nat, j < n.toNat → ∃ (y : Nat) (fs : List Value), g j = some y ∧ y < A.1 ∧ A.2 y = some (ob 3 fs)
/-- what copyFrom changes: the cells of the Download, its list's array -/
def CH (A A' : AH) (a la : Nat) : Prop := A.1 ≤ A'.1 ∧ ∀ b, b < A.1 → b < a ∨ a + 12 < b → b ≠ la → A'.2 b = A.2 b
theorem c_X1_copyFrom (hl : l.stackTraces = false) (h : DlA X A a p D) (hs : DlA X A a2 p2 E) (hd : a2 + 12 < a ∨ a + 12 < a2) (ha : a + 12 < A.1) (ha2 : a2 + 12 < A.1) (h14 : E 10 14 = 0 ∨ E 10 14 = 1)
    {la la2 : Nat} {n n2 : Int} {g g2 : Nat → Option Nat} {m m2 : Int32} (L : LST X A (a + 8) la n g m) (L2 : LST X A (a2 + 8) la2 n2 g2 m2) (hla : la < a ∨ a + 12 < la) (hla0 : la < a2 ∨ a2 + 12 < la) (hla1 : la < A.1) (hla2 : la2 < a ∨ a + 12 < la2) (hla3 : la2 < A.1) (hE : xE X < a ∨ a + 12 < xE X) (hE1 : xE X < A.1) (hll : la2 ≠ la ∨ la2 = xE X) (hp : PE A n2 g2) (hpd : ∀ (j : Nat) (y : Nat), j < n2.toNat → g2 j = some y → (y < a ∨ a + 12 < y)) :
    Ct l X 4 M_X1_copyFrom [.ref a, .ref a2] A 4 40 (fun o' A' => o' = Rv ∧ ∃ (F : Nat → Int → Int) (la' : Nat) (g' : Nat → Option Nat) (m' : Int32), DlA X A' a p2 F ∧ AG E F ∧ LST X A' (a + 8) la' n2 g' m' ∧ (∀ j : Nat, j < n2.toNat → g' j = g2 j) ∧ (la' = la ∨ A.1 ≤ la') ∧ la' < A'.1 ∧ A.1 ≤ A'.1 ∧ ∀ b, b < A.1 → (b < a ∨ a + 12 < b) → (b ≠ la ∨ la = xE X) → A'.2 b = A.2 b) := by
  have nn2 := L2.2.1
  obtain ⟨B, hB⟩ : ∃ B, B = A := ⟨_, rfl⟩
  have eA : A = dp X a p B D := by rw [hB]; exact (dp_of h).symm
  have hsB : DlA X B a2 p2 E := by rw [hB]; exact hs
  have o : ∀ q F b, a2 ≤ b → b ≤ a2 + 12 → (dp X a q B F).2 b = B.2 b := fun q F b b0 b1 => dp_out (by omega)
  have s5 : ∀ q F (K : Int32 → Prop), gI (dp X a q B F) a2 2 5 K ↔ K (I (E 10 5)) := fun q F K => gI_iff ((o q F _ (by omega) (by omega)).trans hsB.k0) rfl
  have s6 : ∀ q F (K : Int32 → Prop), gI (dp X a q B F) a2 2 6 K ↔ K (I (E 10 6)) := fun q F K => gI_iff ((o q F _ (by omega) (by omega)).trans hsB.k0) rfl
  have s7 : ∀ q F (K : Int32 → Prop), gI (dp X a q B F) a2 2 7 K ↔ K (I (E 10 7)) := fun q F K => gI_iff ((o q F _ (by omega) (by omega)).trans hsB.k0) rfl
  have s8 : ∀ q F (K : Int32 → Prop), gI (dp X a q B F) a2 2 8 K ↔ K (I (E 10 8)) := fun q F K => gI_iff ((o q F _ (by omega) (by omega)).trans hsB.k0) rfl
  have s9 : ∀ q F (K : Int32 → Prop), gI (dp X a q B F) a2 2 9 K ↔ K (I (E 10 9)) := fun q F K => gI_iff ((o q F _ (by omega) (by omega)).trans hsB.k0) rfl
  have s10 : ∀ q F (K : Int32 → Prop), gI (dp X a q B F) a2 2 10 K ↔ K (I (E 10 10)) := fun q F K => gI_iff ((o q F _ (by omega) (by omega)).trans hsB.k0) rfl
  have s14 : ∀ q F (K : Int32 → Prop), gI (dp X a q B F) a2 2 14 K ↔ K (I (E 10 14)) := fun q F K => gI_iff ((o q F _ (by omega) (by omega)).trans hsB.k0) rfl
  have s1 : ∀ q F (K : Nat → Prop), gR (dp X a q B F) a2 2 1 K ↔ K (a2 + 1) := fun q F K => gR_iff ((o q F _ (by omega) (by omega)).trans hsB.k0) rfl
  have s2 : ∀ q F (K : Nat → Prop), gR (dp X a q B F) a2 2 2 K ↔ K (a2 + 2) := fun q F K => gR_iff ((o q F _ (by omega) (by omega)).trans hsB.k0) rfl
  have s3 : ∀ q F (K : Nat → Prop), gR (dp X a q B F) a2 2 3 K ↔ K (a2 + 3) := fun q F K => gR_iff ((o q F _ (by omega) (by omega)).trans hsB.k0) rfl
  have s4 : ∀ q F (K : Nat → Prop), gR (dp X a q B F) a2 2 4 K ↔ K (a2 + 4) := fun q F K => gR_iff ((o q F _ (by omega) (by omega)).trans hsB.k0) rfl
  have s11 : ∀ q F (K : Nat → Prop), gR (dp X a q B F) a2 2 11 K ↔ K (a2 + 5) := fun q F K => gR_iff ((o q F _ (by omega) (by omega)).trans hsB.k0) rfl
  have s12 : ∀ q F (K : Nat → Prop), gR (dp X a q B F) a2 2 12 K ↔ K (a2 + 6) := fun q F K => gR_iff ((o q F _ (by omega) (by omega)).trans hsB.k0) rfl
  have s13 : ∀ q F (K : Nat → Prop), gR (dp X a q B F) a2 2 13 K ↔ K (a2 + 7) := fun q F K => gR_iff ((o q F _ (by omega) (by omega)).trans hsB.k0) rfl
  have s15 : ∀ q F (K : Nat → Prop), gR (dp X a q B F) a2 2 15 K ↔ K (a2 + 8) := fun q F K => gR_iff ((o q F _ (by omega) (by omega)).trans hsB.k0) rfl
  have s16 : ∀ q F (K : Nat → Prop), gR (dp X a q B F) a2 2 16 K ↔ K (a2 + 9) := fun q F K => gR_iff ((o q F _ (by omega) (by omega)).trans hsB.k0) rfl
  have s0 : ∀ q F (K : Nat → Prop), gR (dp X a q B F) a2 2 0 K ↔ K p2 := fun q F K => gR_iff ((o q F _ (by omega) (by omega)).trans hsB.k0) rfl
  obtain ⟨Q, hQ⟩ : ∃ Q : Ot → AH → Prop, Q = (fun o' A' => o' = Rv ∧ ∃ (F : Nat → Int → Int) (la' : Nat) (g' : Nat → Option Nat) (m' : Int32), DlA X A' a p2 F ∧ AG E F ∧ LST X A' (a + 8) la' n2 g' m' ∧ (∀ j : Nat, j < n2.toNat → g' j = g2 j) ∧ (la' = la ∨ A.1 ≤ la') ∧ la' < A'.1 ∧ A.1 ≤ A'.1 ∧ ∀ b, b < A.1 → (b < a ∨ a + 12 < b) → (b ≠ la ∨ la = xE X) → A'.2 b = A.2 b) := ⟨_, rfl⟩
  rw [← hQ]
  have loop : ∀ (k : Nat) (i : Int) (C : AH) (la' : Nat) (g' : Nat → Option Nat) (m' : Int32) (F : Nat → Int → Int), 0 ≤ i → i + k = n2 → DlA X C a p2 F → (∀ j : Nat, j ≤ 6 ∨ j = 10 → F j = kCp D E j) → LST X C (a + 8) la' i g' m' → (∀ j : Nat, j < i.toNat → g' j = g2 j) → (la' = la ∨ A.1 ≤ la') → la' < C.1 → A.1 ≤ C.1 → (∀ b, b < A.1 → (b < a ∨ a + 12 < b) → (b ≠ la ∨ la = xE X) → C.2 b = A.2 b) →
      ∀ bc bs, k ≤ bc → 10 * k ≤ bs → G l X M_X1_copyFrom 4 Q 150 [(0, .ref a), (1, .ref a2), (2, .int (I i))] [] C bc bs := by
    intro k
    induction k with
    | zero =>
      intro i C la' g' m' F i0 ik hC hF LC hg h1 h2 h3 fr bc bs hbc hbs
      have hCs : DlA X C a2 p2 E := hs.of fun b b0 b1 b2 => fr b (by omega) (by omega) (Or.inl (by omega))
      have LsC : LST X C (a2 + 8) la2 n2 g2 m2 := L2.of (fr _ (by omega) (by omega) (Or.inl (by omega))) (fr _ hla3 hla2 (by rcases hll with h | h; exact Or.inl h; by_cases hz : la = xE X; exact Or.inr hz; exact Or.inl fun z => hz (z.symm.trans h))) (fr _ hE1 hE (by by_cases hz : la = xE X; exact Or.inr hz; exact Or.inl (Ne.symm hz)))
      refine k_X1_copyFrom_150 ?_
      rw [gR_iff hCs.k0 rfl]
      refine ⟨⟨_, LsC.1⟩, (c_li_size hl LsC).cl0 (by decide) ?_⟩
      rw [rI_of]
      refine ⟨fun _ => ?_, fun hz => absurd ?_ hz⟩
      · rw [gR_iff hC.k0 rfl, gR_iff hCs.k0 rfl]
        refine ⟨⟨_, hC.k9⟩, ?_⟩
        obtain ⟨B', hB'⟩ : ∃ B', B' = C := ⟨_, rfl⟩
        have eC : C = dp X a p2 B' F := by rw [hB']; exact (dp_of hC).symm
        have hCs' : DlA X B' a2 p2 E := by rw [hB']; exact hCs
        rw [eC]
        refine (c_X0_copyFrom hl hCs' hd).cl0 (by decide) ?_
        rw [rV_of, hQ]
        have oo : ∀ b G', b < a ∨ a + 12 < b ∨ b = a + 8 → (dp X a p2 B' G').2 b = C.2 b := fun b G' hb => by
          rw [← hB']
          rcases hb with h | h | h
          · exact dp_out (Or.inl h)
          · exact dp_out (Or.inr h)
          · rw [h]
            exact dp_li
        have hla' : la' < a ∨ a + 12 < la' := by omega
        refine ⟨rfl, _, la', g', m', dp_dl, kCp_ag (D := D) ?_ ?_ ?_, ?_, ?_, h1, ?_, ?_, ?_⟩
        · intro j hj
          rw [st_row (by omega), sw_j (by omega), sw_j (by omega), sw_j (by omega)]
          exact hF j hj
        · intro k k0 k1
          rw [st_row (show (7 : Nat) ≠ 11 by decide), st_row (show (8 : Nat) ≠ 11 by decide), st_row (show (9 : Nat) ≠ 11 by decide), sw_j (show (7 : Nat) ≠ 9 by decide), sw_j (show (7 : Nat) ≠ 8 by decide), sw_i, sw_j (show (8 : Nat) ≠ 9 by decide), sw_i, sw_i]
          exact ⟨cpy_in _ _ _ _ k0 k1, cpy_in _ _ _ _ k0 k1, cpy_in _ _ _ _ k0 k1⟩
        · exact st_eq
        · have : n2 = i := by omega
          rw [this]
          exact LC.of (oo _ _ (Or.inr (Or.inr rfl))) (oo _ _ (by omega)) (oo _ _ (by omega))
        · intro j hj
          exact hg j (by omega)
        · show la' < B'.1
          rw [hB']
          exact h2
        · show A.1 ≤ B'.1
          rw [hB']
          exact h3
        · intro b b0 b1 b2
          exact (oo b _ (by omega)).trans (fr b b0 b1 b2)
      · rw [I_le4 (by omega) (by omega) (by omega) (by omega)]
        omega
    | succ k ih =>
      intro i C la' g' m' F i0 ik hC hF LC hg h1 h2 h3 fr bc bs hbc hbs
      have hCs : DlA X C a2 p2 E := hs.of fun b b0 b1 b2 => fr b (by omega) (by omega) (Or.inl (by omega))
      have LsC : LST X C (a2 + 8) la2 n2 g2 m2 := L2.of (fr _ (by omega) (by omega) (Or.inl (by omega))) (fr _ hla3 hla2 (by rcases hll with h | h; exact Or.inl h; by_cases hz : la = xE X; exact Or.inr hz; exact Or.inl fun z => hz (z.symm.trans h))) (fr _ hE1 hE (by by_cases hz : la = xE X; exact Or.inr hz; exact Or.inl (Ne.symm hz)))
      obtain ⟨y, fs, y1, y2, y3⟩ := hp i.toNat (by omega)
      have y4 := hpd i.toNat y (by omega) y1
      have hyl : y ≠ la := by
        rintro rfl
        rcases L.2.2.1 with ⟨-, -, z⟩ | z
        · exact absurd (z.symm.trans y3) (by simp)
        · exact absurd (z.symm.trans y3) (by simp)
      have y5 : C.2 y = some (ob 3 fs) := (fr y y2 y4 (Or.inl hyl)).trans y3
      refine k_X1_copyFrom_150 ?_
      rw [gR_iff hCs.k0 rfl]
      refine ⟨⟨_, LsC.1⟩, (c_li_size hl LsC).cl0 (by decide) ?_⟩
      rw [rI_of]
      refine ⟨fun hz => absurd hz ?_, fun _ => ?_⟩
      · rw [I_le4 (by omega) (by omega) (by omega) (by omega)]
        omega
      · rw [gR_iff hC.k0 rfl, gR_iff hCs.k0 rfl]
        refine ⟨⟨_, LsC.1⟩, (c_li_get hl LsC i0 (by omega)).cl0 (by decide) (rQ_of ⟨y, y1, ⟨_, y5⟩, ⟨_, LC.1⟩, ?_⟩)⟩
        refine Cal.of (c_li_add hl LC (by omega) y5 (by omega) h2 (by omega) (by omega)) (by decide) (by omega) (by omega) ?_
        rintro o1 C2 ⟨rfl, la3, g3, x1, x2, x3, x4, x5, x6, x7⟩
        rw [rI_of, show (I i + 1 : Int32) = I (i + 1) from I_add i 1]
        have hla' : la' < a ∨ a + 12 < la' := by omega
        refine ih (i + 1) C2 la3 g3 (m' + 1) F (by omega) (by omega) (hC.of fun b b0 b1 b2 => x7 b b2 (by omega)) hF x1 (fun j hj => ?_) (by omega) x4 (by omega) (fun b b0 b1 b2 => ?_) _ _ (by omega) (by omega)
        · by_cases hj2 : j = i.toNat
          · rw [hj2, x2, y1]
          · rw [x3 j (by omega)]
            exact hg j (by omega)
        · by_cases hb3 : b = la3
          · rcases x6 with ⟨z1, z2⟩ | z
            · rcases h1 with z3 | z3
              · rcases b2 with z4 | z4
                · omega
                · exact absurd (z3.trans z4) z2
              · omega
            · omega
          · exact (x7 b (by omega) hb3).trans (fr b b0 b1 b2)
  refine Ct.of hl rfl rfl (Nat.le_of_ble_eq_true rfl) (k_X1_copyFrom_0 ?_)
  rw [eA]
  simp (disch := omega) only [true_implies, false_implies, not_true_eq_false, not_false_eq_true, I_n, I_neg, I_add, I_sub, I_mul, I_le4, I_lt4, I_eq4, I_div4, I_bi0, I_bi01, I_bi1, nor_em, rI_of, rV_of, zI_of, zV_of, nz_and, br_T, br_F, br_T2, br_F2, st_eq, st9_0, st_k, st_i, true_and, and_true, Classical.not_not, or_true, true_or, or_false, false_or, rR_of, dp_gI5, dp_gI6, dp_gI7, dp_gI8, dp_gI9, dp_gI10, dp_gI14, dp_pI5, dp_pI6, dp_pI7, dp_pI8, dp_pI9, dp_pI10, dp_pI14, dp_gR0, dp_gR1, dp_gR2, dp_gR3, dp_gR4, dp_gR11, dp_gR12, dp_gR13, dp_gR15, dp_gR16, dp_gA3, dp_pA3, dp_gAR0, dp_gAR1, dp_gAR2, dp_isO, dp_isA, dp_pR0, zV_of, s0, s1, s2, s3, s4, s5, s6, s7, s8, s9, s10, s11, s12, s13, s14, s15, s16]
  refine ⟨by rcases h14 with h | h <;> rw [h] <;> decide, ?_⟩
  obtain ⟨F0, hF0⟩ : ∃ F, F = st (st (st (st (st (st (st D 10 5 (E 10 5)) 10 6 (E 10 6)) 10 7 (E 10 7)) 10 8 (E 10 8)) 10 9 (E 10 9)) 10 10 (E 10 10)) 10 14 (E 10 14) := ⟨_, rfl⟩
  have r0 : F0 0 = D 0 := by rw [hF0]; rfl
  have r1 : F0 1 = D 1 := by rw [hF0]; rfl
  have r2 : F0 2 = D 2 := by rw [hF0]; rfl
  have r3 : F0 3 = D 3 := by rw [hF0]; rfl
  have r4 : F0 4 = D 4 := by rw [hF0]; rfl
  have r5 : F0 5 = D 5 := by rw [hF0]; rfl
  have r6 : F0 6 = D 6 := by rw [hF0]; rfl
  rw [← hF0]
  refine (cp_d0 hl ((o p2 _ _ (by omega) (by omega)).trans hsB.k1)).cl0 (by decide) ?_
  simp (disch := omega) only [true_implies, false_implies, not_true_eq_false, not_false_eq_true, I_n, I_neg, I_add, I_sub, I_mul, I_le4, I_lt4, I_eq4, I_div4, I_bi0, I_bi01, I_bi1, nor_em, rI_of, rV_of, zI_of, zV_of, nz_and, br_T, br_F, br_T2, br_F2, st_eq, st9_0, st_k, st_i, true_and, and_true, Classical.not_not, or_true, true_or, or_false, false_or, rR_of, dp_gI5, dp_gI6, dp_gI7, dp_gI8, dp_gI9, dp_gI10, dp_gI14, dp_pI5, dp_pI6, dp_pI7, dp_pI8, dp_pI9, dp_pI10, dp_pI14, dp_gR0, dp_gR1, dp_gR2, dp_gR3, dp_gR4, dp_gR11, dp_gR12, dp_gR13, dp_gR15, dp_gR16, dp_gA3, dp_pA3, dp_gAR0, dp_gAR1, dp_gAR2, dp_isO, dp_isA, dp_pR0, zV_of, s0, s1, s2, s3, s4, s5, s6, s7, s8, s9, s10, s11, s12, s13, s14, s15, s16]
  refine (cp_d1 hl ((o p2 _ _ (by omega) (by omega)).trans hsB.k2)).cl0 (by decide) ?_
  simp (disch := omega) only [true_implies, false_implies, not_true_eq_false, not_false_eq_true, I_n, I_neg, I_add, I_sub, I_mul, I_le4, I_lt4, I_eq4, I_div4, I_bi0, I_bi01, I_bi1, nor_em, rI_of, rV_of, zI_of, zV_of, nz_and, br_T, br_F, br_T2, br_F2, st_eq, st9_0, st_k, st_i, true_and, and_true, Classical.not_not, or_true, true_or, or_false, false_or, rR_of, dp_gI5, dp_gI6, dp_gI7, dp_gI8, dp_gI9, dp_gI10, dp_gI14, dp_pI5, dp_pI6, dp_pI7, dp_pI8, dp_pI9, dp_pI10, dp_pI14, dp_gR0, dp_gR1, dp_gR2, dp_gR3, dp_gR4, dp_gR11, dp_gR12, dp_gR13, dp_gR15, dp_gR16, dp_gA3, dp_pA3, dp_gAR0, dp_gAR1, dp_gAR2, dp_isO, dp_isA, dp_pR0, zV_of, s0, s1, s2, s3, s4, s5, s6, s7, s8, s9, s10, s11, s12, s13, s14, s15, s16]
  refine (cp_d2 hl ((o p2 _ _ (by omega) (by omega)).trans hsB.k3)).cl0 (by decide) ?_
  simp (disch := omega) only [true_implies, false_implies, not_true_eq_false, not_false_eq_true, I_n, I_neg, I_add, I_sub, I_mul, I_le4, I_lt4, I_eq4, I_div4, I_bi0, I_bi01, I_bi1, nor_em, rI_of, rV_of, zI_of, zV_of, nz_and, br_T, br_F, br_T2, br_F2, st_eq, st9_0, st_k, st_i, true_and, and_true, Classical.not_not, or_true, true_or, or_false, false_or, rR_of, dp_gI5, dp_gI6, dp_gI7, dp_gI8, dp_gI9, dp_gI10, dp_gI14, dp_pI5, dp_pI6, dp_pI7, dp_pI8, dp_pI9, dp_pI10, dp_pI14, dp_gR0, dp_gR1, dp_gR2, dp_gR3, dp_gR4, dp_gR11, dp_gR12, dp_gR13, dp_gR15, dp_gR16, dp_gA3, dp_pA3, dp_gAR0, dp_gAR1, dp_gAR2, dp_isO, dp_isA, dp_pR0, zV_of, s0, s1, s2, s3, s4, s5, s6, s7, s8, s9, s10, s11, s12, s13, s14, s15, s16]
  refine (cp_d3 hl ((o p2 _ _ (by omega) (by omega)).trans hsB.k4)).cl0 (by decide) ?_
  simp (disch := omega) only [true_implies, false_implies, not_true_eq_false, not_false_eq_true, I_n, I_neg, I_add, I_sub, I_mul, I_le4, I_lt4, I_eq4, I_div4, I_bi0, I_bi01, I_bi1, nor_em, rI_of, rV_of, zI_of, zV_of, nz_and, br_T, br_F, br_T2, br_F2, st_eq, st9_0, st_k, st_i, true_and, and_true, Classical.not_not, or_true, true_or, or_false, false_or, rR_of, dp_gI5, dp_gI6, dp_gI7, dp_gI8, dp_gI9, dp_gI10, dp_gI14, dp_pI5, dp_pI6, dp_pI7, dp_pI8, dp_pI9, dp_pI10, dp_pI14, dp_gR0, dp_gR1, dp_gR2, dp_gR3, dp_gR4, dp_gR11, dp_gR12, dp_gR13, dp_gR15, dp_gR16, dp_gA3, dp_pA3, dp_gAR0, dp_gAR1, dp_gAR2, dp_isO, dp_isA, dp_pR0, zV_of, s0, s1, s2, s3, s4, s5, s6, s7, s8, s9, s10, s11, s12, s13, s14, s15, s16]
  refine (cp_d4 hl ((o p2 _ _ (by omega) (by omega)).trans hsB.k5)).cl0 (by decide) ?_
  simp (disch := omega) only [true_implies, false_implies, not_true_eq_false, not_false_eq_true, I_n, I_neg, I_add, I_sub, I_mul, I_le4, I_lt4, I_eq4, I_div4, I_bi0, I_bi01, I_bi1, nor_em, rI_of, rV_of, zI_of, zV_of, nz_and, br_T, br_F, br_T2, br_F2, st_eq, st9_0, st_k, st_i, true_and, and_true, Classical.not_not, or_true, true_or, or_false, false_or, rR_of, dp_gI5, dp_gI6, dp_gI7, dp_gI8, dp_gI9, dp_gI10, dp_gI14, dp_pI5, dp_pI6, dp_pI7, dp_pI8, dp_pI9, dp_pI10, dp_pI14, dp_gR0, dp_gR1, dp_gR2, dp_gR3, dp_gR4, dp_gR11, dp_gR12, dp_gR13, dp_gR15, dp_gR16, dp_gA3, dp_pA3, dp_gAR0, dp_gAR1, dp_gAR2, dp_isO, dp_isA, dp_pR0, zV_of, s0, s1, s2, s3, s4, s5, s6, s7, s8, s9, s10, s11, s12, s13, s14, s15, s16]
  refine (cp_d5 hl ((o p2 _ _ (by omega) (by omega)).trans hsB.k6)).cl0 (by decide) ?_
  simp (disch := omega) only [true_implies, false_implies, not_true_eq_false, not_false_eq_true, I_n, I_neg, I_add, I_sub, I_mul, I_le4, I_lt4, I_eq4, I_div4, I_bi0, I_bi01, I_bi1, nor_em, rI_of, rV_of, zI_of, zV_of, nz_and, br_T, br_F, br_T2, br_F2, st_eq, st9_0, st_k, st_i, true_and, and_true, Classical.not_not, or_true, true_or, or_false, false_or, rR_of, dp_gI5, dp_gI6, dp_gI7, dp_gI8, dp_gI9, dp_gI10, dp_gI14, dp_pI5, dp_pI6, dp_pI7, dp_pI8, dp_pI9, dp_pI10, dp_pI14, dp_gR0, dp_gR1, dp_gR2, dp_gR3, dp_gR4, dp_gR11, dp_gR12, dp_gR13, dp_gR15, dp_gR16, dp_gA3, dp_pA3, dp_gAR0, dp_gAR1, dp_gAR2, dp_isO, dp_isA, dp_pR0, zV_of, s0, s1, s2, s3, s4, s5, s6, s7, s8, s9, s10, s11, s12, s13, s14, s15, s16]
  refine (cp_d6 hl ((o p2 _ _ (by omega) (by omega)).trans hsB.k7)).cl0 (by decide) ?_
  simp (disch := omega) only [true_implies, false_implies, not_true_eq_false, not_false_eq_true, I_n, I_neg, I_add, I_sub, I_mul, I_le4, I_lt4, I_eq4, I_div4, I_bi0, I_bi01, I_bi1, nor_em, rI_of, rV_of, zI_of, zV_of, nz_and, br_T, br_F, br_T2, br_F2, st_eq, st9_0, st_k, st_i, true_and, and_true, Classical.not_not, or_true, true_or, or_false, false_or, rR_of, dp_gI5, dp_gI6, dp_gI7, dp_gI8, dp_gI9, dp_gI10, dp_gI14, dp_pI5, dp_pI6, dp_pI7, dp_pI8, dp_pI9, dp_pI10, dp_pI14, dp_gR0, dp_gR1, dp_gR2, dp_gR3, dp_gR4, dp_gR11, dp_gR12, dp_gR13, dp_gR15, dp_gR16, dp_gA3, dp_pA3, dp_gAR0, dp_gAR1, dp_gAR2, dp_isO, dp_isA, dp_pR0, zV_of, s0, s1, s2, s3, s4, s5, s6, s7, s8, s9, s10, s11, s12, s13, s14, s15, s16]
  simp only [sw_j (show (1 : Nat) ≠ 0 by decide), sw_j (show (2 : Nat) ≠ 0 by decide), sw_j (show (2 : Nat) ≠ 1 by decide), sw_j (show (3 : Nat) ≠ 0 by decide), sw_j (show (3 : Nat) ≠ 1 by decide), sw_j (show (3 : Nat) ≠ 2 by decide), sw_j (show (4 : Nat) ≠ 0 by decide), sw_j (show (4 : Nat) ≠ 1 by decide), sw_j (show (4 : Nat) ≠ 2 by decide), sw_j (show (4 : Nat) ≠ 3 by decide), sw_j (show (5 : Nat) ≠ 0 by decide), sw_j (show (5 : Nat) ≠ 1 by decide), sw_j (show (5 : Nat) ≠ 2 by decide), sw_j (show (5 : Nat) ≠ 3 by decide), sw_j (show (5 : Nat) ≠ 4 by decide), sw_j (show (6 : Nat) ≠ 0 by decide), sw_j (show (6 : Nat) ≠ 1 by decide), sw_j (show (6 : Nat) ≠ 2 by decide), sw_j (show (6 : Nat) ≠ 3 by decide), sw_j (show (6 : Nat) ≠ 4 by decide), sw_j (show (6 : Nat) ≠ 5 by decide), r0, r1, r2, r3, r4, r5, r6]
  rw [kCp_sw hF0]
  have L' : LST X (dp X a p2 B (kCp D E)) (a + 8) la n g m := by
    refine L.of ?_ ?_ ?_
    · rw [← hB]
      exact dp_li
    · rw [← hB]
      exact dp_out hla
    · rw [← hB]
      exact dp_out hE
  refine ⟨⟨_, L'.1⟩, (c_li_clear hl L').cl0 (by decide) ?_⟩
  rintro o1 A2 ⟨rfl, g3, L3, e1, e2⟩
  rw [rV_of]
  have e3 : A2.1 = A.1 := by rw [e1, ← hB]; rfl
  refine loop n2.toNat 0 A2 la g3 (m + 1) (kCp D E) (by omega) (by omega) (dp_dl.of fun b b0 b1 b2 => e2 b b2 (Or.inl (by omega))) (fun _ _ => rfl) L3 (fun j hj => absurd hj (by omega)) (Or.inl rfl) (by omega) (by omega) (fun b b0 b1 b2 => ?_) 4 40 (by omega) (by omega)
  rw [e2 b (by omega) b2, ← hB]
  exact dp_out b1
end CP
