/-! the reference: load -/
theorem pLd_w {S : Nat → Int → Int} {k : Int} (hk : 0 ≤ k) : TI k (nx (S 4) k (S 9 9, 0, S 9 11, S 9 12, 0, S 9 14)) ∧ TI k (pLd S k).2 ∧ ((pLd S k).2.2.2.2.2.1 = 0 → RW (pLd S k).1 0) := by
  obtain ⟨a1, a2, a3⟩ := TI_nx (t := S 4) (n := k) (q := (S 9 9, 0, S 9 11, S 9 12, 0, S 9 14)) ⟨by show (0 : Int) ≤ 0; omega, by show (0 : Int) ≤ k; omega⟩ ⟨by show (-4 : Int) ≤ 0; omega, by show (0 : Int) ≤ 0; omega⟩
  refine ⟨a1, ?_⟩
  obtain ⟨b1, b2⟩ := hd_w (t := S 4) (s := (S 1, nx (S 4) k (S 9 9, 0, S 9 11, S 9 12, 0, S 9 14))) a1 (Or.inr trivial)
  have w : (fHead (S 4) k (S 1, nx (S 4) k (S 9 9, 0, S 9 11, S 9 12, 0, S 9 14))).2.2.2.2.2.1 = 0 → RW (fHead (S 4) k (S 1, nx (S 4) k (S 9 9, 0, S 9 11, S 9 12, 0, S 9 14))).1 0 := hd_RW a1 trivial
  by_cases hz : (fHead (S 4) k (S 1, nx (S 4) k (S 9 9, 0, S 9 11, S 9 12, 0, S 9 14))).2.2.2.2.2.1 = 0
  · by_cases hm : k - (fHead (S 4) k (S 1, nx (S 4) k (S 9 9, 0, S 9 11, S 9 12, 0, S 9 14))).2.1 < (401 : Nat)
    · obtain ⟨c1, c2⟩ := fStms_w 401 _ b1 w hm
      exact ⟨c1, fun q => (c2 q).1⟩
    · -- a text of more than 400 bytes: not asked for, but true all the same
      have gen : ∀ (m : Nat) (s : PS), TI k s.2 → (s.2.2.2.2.2.1 = 0 → RW s.1 0) → TI k (fStms (S 4) k m s).2 ∧ ((fStms (S 4) k m s).2.2.2.2.2.1 = 0 → RW (fStms (S 4) k m s).1 0) := by
        intro m
        induction m with
        | zero => intro s h w; exact ⟨h, w⟩
        | succ m ih =>
          intro s h w
          by_cases hc : s.2.2.2.2.2.1 = 0 ∧ ¬ s.2.2.2.1 = 3
          · have e : fStms (S 4) k (m + 1) s = fStms (S 4) k m (fStm (S 4) k s) := if_pos hc
            rw [e]
            obtain ⟨a1, a2, a3⟩ := fStm_w (t := S 4) h (RW_WF (w hc.1))
            exact ih _ a1 fun hz => fStm_RW h (w hc.1) hz
          · have e : fStms (S 4) k (m + 1) s = s := if_neg hc
            rw [e]
            exact ⟨h, w⟩
      exact gen 401 _ b1 w
  · have e : pLd S k = fHead (S 4) k (S 1, nx (S 4) k (S 9 9, 0, S 9 11, S 9 12, 0, S 9 14)) := if_neg fun q => hz q.1
    rw [e]
    exact ⟨b1, fun q => absurd q hz⟩
section MZQ
variable {l : Launch} {X : XT} {o : Nat} {B A : AH} {S : Nat → Int → Int}
theorem L_load (hl : l.stackTraces = false) {Q : Ot → AH → Prop} (hn : 0 ≤ S 9 8 ∧ S 9 8 ≤ 400) (hB : ∀ k, 0 ≤ k → k < 400 → 0 ≤ S 4 k ∧ S 4 k ≤ 255) : ∀ (m : Nat) (s : PS), TI (S 9 8) s.2 → (s.2.2.2.2.2.1 = 0 → RW s.1 0) → S 9 8 - s.2.1 < m →
    G l X M_X6_load 6 Q 80 [(0, .ref o)] [] (mp X o B (tkS S (fStms (S 4) (S 9 8) m s).1 (fStms (S 4) (S 9 8) m s).2)) 0 0 →
    G l X M_X6_load 6 Q 58 [(0, .ref o)] [] (mp X o B (tkS S s.1 s.2)) 0 0 := by
  intro m
  induction m with
  | zero => intro s h w hm K; have := h.1; omega
  | succ m ih =>
    intro s h w hm K
    obtain ⟨a1, a2, a3, a4, a5⟩ := id h
    refine k_X6_load_58 ?_
    simp (disch := omega) only [tk_0, tk_1, tk_4, tk_4n, tk_8, tk_9, tk_10, tk_11, tk_12, tk_13, tk_14, tk_7, tk_s9, tk_s10, tk_s11, tk_s12, tk_s13, tk_s14, tk_s1, true_implies, false_implies, not_true_eq_false, not_false_eq_true, I_n, I_neg, I_add, I_sub, I_mul, I_le4, I_lt4, I_eq4, I_div4, I_bi0, I_bi01, I_bi1, nor_em, rI_of, rV_of, zI_of, zV_of, nz_and, br_T, br_F, br_T2, br_F2, st_eq, st9_0, st_k, st_i, true_and, and_true, Classical.not_not, mp_isO, mp_gI4, mp_gI5, mp_gI7, mp_gI8, mp_gI9, mp_gI10, mp_gI11, mp_gI12, mp_gI13, mp_gI14, mp_gI15, mp_gI19, mp_gI20, mp_gI21, mp_gI23, mp_pI4, mp_pI5, mp_pI7, mp_pI8, mp_pI9, mp_pI10, mp_pI11, mp_pI12, mp_pI13, mp_pI14, mp_pI15, mp_pI19, mp_pI20, mp_pI21, mp_pI23, mp_gR0, mp_gR1, mp_gR2, mp_gR3, mp_gR6, mp_gR16, mp_gR17, mp_gR18, mp_gR22, mp_aI0, mp_aI1, mp_aI2, mp_aI3, mp_aI4, mp_aI5, mp_aI6, mp_aZ7, mp_aI8, mp_sI0, mp_sI1, mp_sI2, mp_sI3, mp_sI4, mp_sI5, mp_sI6, mp_sI8, mp_sZ0, mp_sZ1]
    refine ⟨fun h0 => ?_, fun h0 => ⟨fun h3 => ?_, fun h3 => ?_⟩⟩
    · have e : fStms (S 4) (S 9 8) (m + 1) s = s := if_neg fun q => h0 q.1
      rw [e] at K
      exact K
    · have e : fStms (S 4) (S 9 8) (m + 1) s = s := if_neg fun q => q.2 h3
      rw [e] at K
      exact K
    · have e : fStms (S 4) (S 9 8) (m + 1) s = fStms (S 4) (S 9 8) m (fStm (S 4) (S 9 8) s) := if_pos ⟨h0, h3⟩
      rw [e] at K
      have hr := w h0
      obtain ⟨b1, b2, b3⟩ := fStm_w (t := S 4) h (RW_WF hr)
      refine (c_X6_readsStatement hl hn hB h (RW_WF hr)).cl0 (by decide) ?_
      simp (disch := omega) only [tk_0, tk_1, tk_4, tk_4n, tk_8, tk_9, tk_10, tk_11, tk_12, tk_13, tk_14, tk_7, tk_s9, tk_s10, tk_s11, tk_s12, tk_s13, tk_s14, tk_s1, true_implies, false_implies, not_true_eq_false, not_false_eq_true, I_n, I_neg, I_add, I_sub, I_mul, I_le4, I_lt4, I_eq4, I_div4, I_bi0, I_bi01, I_bi1, nor_em, rI_of, rV_of, zI_of, zV_of, nz_and, br_T, br_F, br_T2, br_F2, st_eq, st9_0, st_k, st_i, true_and, and_true, Classical.not_not, mp_isO, mp_gI4, mp_gI5, mp_gI7, mp_gI8, mp_gI9, mp_gI10, mp_gI11, mp_gI12, mp_gI13, mp_gI14, mp_gI15, mp_gI19, mp_gI20, mp_gI21, mp_gI23, mp_pI4, mp_pI5, mp_pI7, mp_pI8, mp_pI9, mp_pI10, mp_pI11, mp_pI12, mp_pI13, mp_pI14, mp_pI15, mp_pI19, mp_pI20, mp_pI21, mp_pI23, mp_gR0, mp_gR1, mp_gR2, mp_gR3, mp_gR6, mp_gR16, mp_gR17, mp_gR18, mp_gR22, mp_aI0, mp_aI1, mp_aI2, mp_aI3, mp_aI4, mp_aI5, mp_aI6, mp_aZ7, mp_aI8, mp_sI0, mp_sI1, mp_sI2, mp_sI3, mp_sI4, mp_sI5, mp_sI6, mp_sI8, mp_sZ0, mp_sZ1]
      by_cases hz : (fStm (S 4) (S 9 8) s).2.2.2.2.2.1 = 0
      · have := b3 hz
        exact ih _ b1 (fun _ => fStm_RW h hr hz) (by omega) K
      · have e2 : fStms (S 4) (S 9 8) m (fStm (S 4) (S 9 8) s) = fStm (S 4) (S 9 8) s := by
          cases m with
          | zero => rfl
          | succ m => exact if_neg fun q => hz q.1
        rw [e2] at K
        obtain ⟨c1, c2, c3, c4, c5⟩ := id b1
        refine k_X6_load_58 ?_
        simp (disch := omega) only [tk_0, tk_1, tk_4, tk_4n, tk_8, tk_9, tk_10, tk_11, tk_12, tk_13, tk_14, tk_7, tk_s9, tk_s10, tk_s11, tk_s12, tk_s13, tk_s14, tk_s1, true_implies, false_implies, not_true_eq_false, not_false_eq_true, I_n, I_neg, I_add, I_sub, I_mul, I_le4, I_lt4, I_eq4, I_div4, I_bi0, I_bi01, I_bi1, nor_em, rI_of, rV_of, zI_of, zV_of, nz_and, br_T, br_F, br_T2, br_F2, st_eq, st9_0, st_k, st_i, true_and, and_true, Classical.not_not, mp_isO, mp_gI4, mp_gI5, mp_gI7, mp_gI8, mp_gI9, mp_gI10, mp_gI11, mp_gI12, mp_gI13, mp_gI14, mp_gI15, mp_gI19, mp_gI20, mp_gI21, mp_gI23, mp_pI4, mp_pI5, mp_pI7, mp_pI8, mp_pI9, mp_pI10, mp_pI11, mp_pI12, mp_pI13, mp_pI14, mp_pI15, mp_pI19, mp_pI20, mp_pI21, mp_pI23, mp_gR0, mp_gR1, mp_gR2, mp_gR3, mp_gR6, mp_gR16, mp_gR17, mp_gR18, mp_gR22, mp_aI0, mp_aI1, mp_aI2, mp_aI3, mp_aI4, mp_aI5, mp_aI6, mp_aZ7, mp_aI8, mp_sI0, mp_sI1, mp_sI2, mp_sI3, mp_sI4, mp_sI5, mp_sI6, mp_sI8, mp_sZ0, mp_sZ1]
        exact K
/-- what load leaves behind -/
def LdS (S S' : Nat → Int → Int) (k : Int) : Prop :=
  S' 4 = S 4 ∧ S' 8 = S 8 ∧ S' 9 5 = 0 ∧ S' 9 7 = 0 ∧ S' 9 23 = S 9 23 ∧ S' 9 15 = (if (pLd S k).2.2.2.2.2.1 = 0 then -1 else (pLd S k).2.2.2.2.2.2) ∧
  (if (pLd S k).2.2.2.2.2.1 = 0 then EQ (pLd S k).1 (S' 0) ∧ S' 3 = kS S 3 ∧ S' 9 4 = kS S 9 4 else S' 0 = S 0 ∧ S' 3 = S 3 ∧ S' 9 4 = S 9 4)
theorem c_X6_load (hl : l.stackTraces = false) {e : Int} (w : RW (S 0) e) (hm : 0 ≤ S 9 4 ∧ S 9 4 ≤ 8) (hb : 0 ≤ S 9 7 ∧ S 9 7 ≤ 400) (hB : ∀ k, 0 ≤ k → k < 400 → 0 ≤ S 4 k ∧ S 4 k ≤ 255) {k : Int} (hk : sm k) : Ct l X 6 M_X6_load [.ref o, .int (I k)] (mp X o B S) 0 0 (fun ot A1 => ot = Ri (I (if 0 ≤ k ∧ k ≤ S 9 7 then (if (pLd S k).2.2.2.2.2.1 = 0 then gT (pLd S k).1 else (pLd S k).2.2.2.2.2.1) else 0)) ∧ ∃ S', A1 = mp X o B S' ∧ (if 0 ≤ k ∧ k ≤ S 9 7 then LdS S S' k else S' = st S 9 5 1)) := by
  refine Ct.of hl rfl rfl (Nat.le_of_ble_eq_true rfl) (k_X6_load_0 ?_)
  simp (disch := omega) only [I_n, I_neg, I_add, I_sub, I_mul, I_le4, I_lt4, I_eq4, I_div4, I_bi0, I_bi01, I_bi1, nor_em, rI_of, rV_of, zI_of, zV_of, nz_and, br_T, br_F, br_T2, br_F2, st_eq, st9_0, st_k, st_i, true_and, and_true, Classical.not_not, mp_isO, mp_gI4, mp_gI5, mp_gI7, mp_gI8, mp_gI9, mp_gI10, mp_gI11, mp_gI12, mp_gI13, mp_gI14, mp_gI15, mp_gI19, mp_gI20, mp_gI21, mp_gI23, mp_pI4, mp_pI5, mp_pI7, mp_pI8, mp_pI9, mp_pI10, mp_pI11, mp_pI12, mp_pI13, mp_pI14, mp_pI15, mp_pI19, mp_pI20, mp_pI21, mp_pI23, mp_gR0, mp_gR1, mp_gR2, mp_gR3, mp_gR6, mp_gR16, mp_gR17, mp_gR18, mp_gR22, mp_aI0, mp_aI1, mp_aI2, mp_aI3, mp_aI4, mp_aI5, mp_aI6, mp_aZ7, mp_aI8, mp_sI0, mp_sI1, mp_sI2, mp_sI3, mp_sI4, mp_sI5, mp_sI6, mp_sI8, mp_sZ0, mp_sZ1]
  refine (c_X6_isIn hl hk ⟨by omega, by omega⟩ ⟨by omega, by omega⟩).cl0 (by decide) ?_
  simp (disch := omega) only [I_n, I_neg, I_add, I_sub, I_mul, I_le4, I_lt4, I_eq4, I_div4, I_bi0, I_bi01, I_bi1, nor_em, rI_of, rV_of, zI_of, zV_of, nz_and, br_T, br_F, br_T2, br_F2, st_eq, st9_0, st_k, st_i, true_and, and_true, Classical.not_not, mp_isO, mp_gI4, mp_gI5, mp_gI7, mp_gI8, mp_gI9, mp_gI10, mp_gI11, mp_gI12, mp_gI13, mp_gI14, mp_gI15, mp_gI19, mp_gI20, mp_gI21, mp_gI23, mp_pI4, mp_pI5, mp_pI7, mp_pI8, mp_pI9, mp_pI10, mp_pI11, mp_pI12, mp_pI13, mp_pI14, mp_pI15, mp_pI19, mp_pI20, mp_pI21, mp_pI23, mp_gR0, mp_gR1, mp_gR2, mp_gR3, mp_gR6, mp_gR16, mp_gR17, mp_gR18, mp_gR22, mp_aI0, mp_aI1, mp_aI2, mp_aI3, mp_aI4, mp_aI5, mp_aI6, mp_aZ7, mp_aI8, mp_sI0, mp_sI1, mp_sI2, mp_sI3, mp_sI4, mp_sI5, mp_sI6, mp_sI8, mp_sZ0, mp_sZ1]
  refine ⟨fun h => k_X6_load_18 ?_, fun h => k_X6_load_18 ?_⟩
  · rw [if_neg h]
    simp (disch := omega) only [I_n, I_neg, I_add, I_sub, I_mul, I_le4, I_lt4, I_eq4, I_div4, I_bi0, I_bi01, I_bi1, nor_em, rI_of, rV_of, zI_of, zV_of, nz_and, br_T, br_F, br_T2, br_F2, st_eq, st9_0, st_k, st_i, true_and, and_true, Classical.not_not, mp_isO, mp_gI4, mp_gI5, mp_gI7, mp_gI8, mp_gI9, mp_gI10, mp_gI11, mp_gI12, mp_gI13, mp_gI14, mp_gI15, mp_gI19, mp_gI20, mp_gI21, mp_gI23, mp_pI4, mp_pI5, mp_pI7, mp_pI8, mp_pI9, mp_pI10, mp_pI11, mp_pI12, mp_pI13, mp_pI14, mp_pI15, mp_pI19, mp_pI20, mp_pI21, mp_pI23, mp_gR0, mp_gR1, mp_gR2, mp_gR3, mp_gR6, mp_gR16, mp_gR17, mp_gR18, mp_gR22, mp_aI0, mp_aI1, mp_aI2, mp_aI3, mp_aI4, mp_aI5, mp_aI6, mp_aZ7, mp_aI8, mp_sI0, mp_sI1, mp_sI2, mp_sI3, mp_sI4, mp_sI5, mp_sI6, mp_sI8, mp_sZ0, mp_sZ1]
    exact ⟨_, rfl, by rw [if_neg h]⟩
  · rw [if_pos h]
    simp (disch := omega) only [I_n, I_neg, I_add, I_sub, I_mul, I_le4, I_lt4, I_eq4, I_div4, I_bi0, I_bi01, I_bi1, nor_em, rI_of, rV_of, zI_of, zV_of, nz_and, br_T, br_F, br_T2, br_F2, st_eq, st9_0, st_k, st_i, true_and, and_true, Classical.not_not, mp_isO, mp_gI4, mp_gI5, mp_gI7, mp_gI8, mp_gI9, mp_gI10, mp_gI11, mp_gI12, mp_gI13, mp_gI14, mp_gI15, mp_gI19, mp_gI20, mp_gI21, mp_gI23, mp_pI4, mp_pI5, mp_pI7, mp_pI8, mp_pI9, mp_pI10, mp_pI11, mp_pI12, mp_pI13, mp_pI14, mp_pI15, mp_pI19, mp_pI20, mp_pI21, mp_pI23, mp_gR0, mp_gR1, mp_gR2, mp_gR3, mp_gR6, mp_gR16, mp_gR17, mp_gR18, mp_gR22, mp_aI0, mp_aI1, mp_aI2, mp_aI3, mp_aI4, mp_aI5, mp_aI6, mp_aZ7, mp_aI8, mp_sI0, mp_sI1, mp_sI2, mp_sI3, mp_sI4, mp_sI5, mp_sI6, mp_sI8, mp_sZ0, mp_sZ1]
    obtain ⟨T, hT⟩ : ∃ T, T = st (st (st (st (st S 9 5 0) 9 8 k) 9 7 0) 9 10 0) 9 13 0 := ⟨_, rfl⟩
    rw [← hT]
    have t9 : ∀ j : Int, j ≠ 5 → j ≠ 8 → j ≠ 7 → j ≠ 10 → j ≠ 13 → T 9 j = S 9 j := fun j h5 h8 h7 h10 h13 => by rw [hT, st_k h13, st_k h10, st_k h7, st_k h8, st_k h5]
    have tj : ∀ j : Nat, j ≠ 9 → T j = S j := fun j hj => by rw [hT, st9_j hj, st9_j hj, st9_j hj, st9_j hj, st9_j hj]
    have t8 : T 9 8 = k := by rw [hT, st_k (by omega), st_k (by omega), st_k (by omega), st_eq]
    have t10 : T 9 10 = 0 := by rw [hT, st_k (by omega), st_eq]
    have t13 : T 9 13 = 0 := by rw [hT, st_eq]
    have t7 : T 9 7 = 0 := by rw [hT, st_k (by omega), st_k (by omega), st_eq]
    have t5 : T 9 5 = 0 := by rw [hT, st_k (by omega), st_k (by omega), st_k (by omega), st_k (by omega), st_eq]
    have t4 := tj 4 (by decide)
    have t1 := tj 1 (by decide)
    have eself : T = tkS T (S 1) (S 9 9, 0, S 9 11, S 9 12, 0, S 9 14) := by
      have a := tk_self (T := T)
      rw [t1, t9 9 (by omega) (by omega) (by omega) (by omega) (by omega), t10, t9 11 (by omega) (by omega) (by omega) (by omega) (by omega), t9 12 (by omega) (by omega) (by omega) (by omega) (by omega), t13, t9 14 (by omega) (by omega) (by omega) (by omega) (by omega)] at a
      exact a.symm
    obtain ⟨p1, p2, p3⟩ := pLd_w (S := S) (k := k) h.1
    have hn : 0 ≤ T 9 8 ∧ T 9 8 ≤ 400 := by rw [t8]; omega
    have hB' : ∀ k, 0 ≤ k → k < 400 → 0 ≤ T 4 k ∧ T 4 k ≤ 255 := by rw [t4]; exact hB
    have an := c_X6_next (X := X) (o := o) (B := B) (S := T) (fr := S 1) (q := (S 9 9, 0, S 9 11, S 9 12, 0, S 9 14)) hl hn hB' (by rw [t8]; exact ⟨Int.le_refl _, h.1⟩)
    rw [← eself, t4, t8] at an
    refine an.cl0 (by decide) ?_
    simp (disch := omega) only [I_n, I_neg, I_add, I_sub, I_mul, I_le4, I_lt4, I_eq4, I_div4, I_bi0, I_bi01, I_bi1, nor_em, rI_of, rV_of, zI_of, zV_of, nz_and, br_T, br_F, br_T2, br_F2, st_eq, st9_0, st_k, st_i, true_and, and_true, Classical.not_not, mp_isO, mp_gI4, mp_gI5, mp_gI7, mp_gI8, mp_gI9, mp_gI10, mp_gI11, mp_gI12, mp_gI13, mp_gI14, mp_gI15, mp_gI19, mp_gI20, mp_gI21, mp_gI23, mp_pI4, mp_pI5, mp_pI7, mp_pI8, mp_pI9, mp_pI10, mp_pI11, mp_pI12, mp_pI13, mp_pI14, mp_pI15, mp_pI19, mp_pI20, mp_pI21, mp_pI23, mp_gR0, mp_gR1, mp_gR2, mp_gR3, mp_gR6, mp_gR16, mp_gR17, mp_gR18, mp_gR22, mp_aI0, mp_aI1, mp_aI2, mp_aI3, mp_aI4, mp_aI5, mp_aI6, mp_aZ7, mp_aI8, mp_sI0, mp_sI1, mp_sI2, mp_sI3, mp_sI4, mp_sI5, mp_sI6, mp_sI8, mp_sZ0, mp_sZ1]
    have ah := c_X6_readsHead (X := X) (o := o) (B := B) (S := T) (s := (S 1, nx (S 4) k (S 9 9, 0, S 9 11, S 9 12, 0, S 9 14))) hl hn hB' (by rw [t8]; exact p1)
    rw [t4, t8] at ah
    refine ah.cl0 (by decide) ?_
    simp (disch := omega) only [I_n, I_neg, I_add, I_sub, I_mul, I_le4, I_lt4, I_eq4, I_div4, I_bi0, I_bi01, I_bi1, nor_em, rI_of, rV_of, zI_of, zV_of, nz_and, br_T, br_F, br_T2, br_F2, st_eq, st9_0, st_k, st_i, true_and, and_true, Classical.not_not, mp_isO, mp_gI4, mp_gI5, mp_gI7, mp_gI8, mp_gI9, mp_gI10, mp_gI11, mp_gI12, mp_gI13, mp_gI14, mp_gI15, mp_gI19, mp_gI20, mp_gI21, mp_gI23, mp_pI4, mp_pI5, mp_pI7, mp_pI8, mp_pI9, mp_pI10, mp_pI11, mp_pI12, mp_pI13, mp_pI14, mp_pI15, mp_pI19, mp_pI20, mp_pI21, mp_pI23, mp_gR0, mp_gR1, mp_gR2, mp_gR3, mp_gR6, mp_gR16, mp_gR17, mp_gR18, mp_gR22, mp_aI0, mp_aI1, mp_aI2, mp_aI3, mp_aI4, mp_aI5, mp_aI6, mp_aZ7, mp_aI8, mp_sI0, mp_sI1, mp_sI2, mp_sI3, mp_sI4, mp_sI5, mp_sI6, mp_sI8, mp_sZ0, mp_sZ1]
    obtain ⟨b1, b2⟩ := hd_w (t := S 4) (s := (S 1, nx (S 4) k (S 9 9, 0, S 9 11, S 9 12, 0, S 9 14))) p1 (Or.inr trivial)
    refine L_load hl hn hB' 401 (fHead (S 4) k (S 1, nx (S 4) k (S 9 9, 0, S 9 11, S 9 12, 0, S 9 14))) (by rw [t8]; exact b1) (hd_RW p1 trivial) (by rw [t8]; have := b1.1; omega) ?_
    rw [t4, t8, show fStms (S 4) k 401 (fHead (S 4) k (S 1, nx (S 4) k (S 9 9, 0, S 9 11, S 9 12, 0, S 9 14))) = pLd S k from rfl]
    obtain ⟨q, hq⟩ : ∃ q, q = (pLd S k).2 := ⟨_, rfl⟩
    obtain ⟨fr, hfr⟩ : ∃ fr, fr = (pLd S k).1 := ⟨_, rfl⟩
    have eL : ∀ S', LdS S S' k ↔ (S' 4 = S 4 ∧ S' 8 = S 8 ∧ S' 9 5 = 0 ∧ S' 9 7 = 0 ∧ S' 9 23 = S 9 23 ∧ S' 9 15 = (if q.2.2.2.2.1 = 0 then -1 else q.2.2.2.2.2) ∧ (if q.2.2.2.2.1 = 0 then EQ fr (S' 0) ∧ S' 3 = kS S 3 ∧ S' 9 4 = kS S 9 4 else S' 0 = S 0 ∧ S' 3 = S 3 ∧ S' 9 4 = S 9 4)) := fun S' => by rw [hq, hfr]; exact Iff.rfl
    rw [← hq] at p2 p3 ⊢
    rw [← hfr] at p3 ⊢
    obtain ⟨x1, x2, x3, x4, x5⟩ := id p2
    have k9 : ∀ (v : Int) (j : Int), j < 9 ∨ 15 < j → st (tkS T fr q) 9 15 v 9 j = T 9 j := fun v j hj => by rw [st_k (by omega), tk_k (by omega)]
    have kj : ∀ (v : Int) (j : Nat), j ≠ 1 → j ≠ 9 → st (tkS T fr q) 9 15 v j = S j := fun v j h1 h9 => by rw [st9_j h9, tk_j h1 h9, tj j h9]
    refine k_X6_load_80 ?_
    simp (disch := omega) only [tk_0, tk_1, tk_4, tk_4n, tk_8, tk_9, tk_10, tk_11, tk_12, tk_13, tk_14, tk_7, tk_s9, tk_s10, tk_s11, tk_s12, tk_s13, tk_s14, tk_s1, true_implies, false_implies, not_true_eq_false, not_false_eq_true, I_n, I_neg, I_add, I_sub, I_mul, I_le4, I_lt4, I_eq4, I_div4, I_bi0, I_bi01, I_bi1, nor_em, rI_of, rV_of, zI_of, zV_of, nz_and, br_T, br_F, br_T2, br_F2, st_eq, st9_0, st_k, st_i, true_and, and_true, Classical.not_not, mp_isO, mp_gI4, mp_gI5, mp_gI7, mp_gI8, mp_gI9, mp_gI10, mp_gI11, mp_gI12, mp_gI13, mp_gI14, mp_gI15, mp_gI19, mp_gI20, mp_gI21, mp_gI23, mp_pI4, mp_pI5, mp_pI7, mp_pI8, mp_pI9, mp_pI10, mp_pI11, mp_pI12, mp_pI13, mp_pI14, mp_pI15, mp_pI19, mp_pI20, mp_pI21, mp_pI23, mp_gR0, mp_gR1, mp_gR2, mp_gR3, mp_gR6, mp_gR16, mp_gR17, mp_gR18, mp_gR22, mp_aI0, mp_aI1, mp_aI2, mp_aI3, mp_aI4, mp_aI5, mp_aI6, mp_aZ7, mp_aI8, mp_sI0, mp_sI1, mp_sI2, mp_sI3, mp_sI4, mp_sI5, mp_sI6, mp_sI8, mp_sZ0, mp_sZ1]
    refine ⟨fun h0 => k_X6_load_96 ?_, fun h0 => k_X6_load_96 ?_⟩
    · simp (disch := omega) only [I_n, I_neg, I_add, I_sub, I_mul, I_le4, I_lt4, I_eq4, I_div4, I_bi0, I_bi01, I_bi1, nor_em, rI_of, rV_of, zI_of, zV_of, nz_and, br_T, br_F, br_T2, br_F2, st_eq, st9_0, st_k, st_i, true_and, and_true, Classical.not_not, mp_isO, mp_gI4, mp_gI5, mp_gI7, mp_gI8, mp_gI9, mp_gI10, mp_gI11, mp_gI12, mp_gI13, mp_gI14, mp_gI15, mp_gI19, mp_gI20, mp_gI21, mp_gI23, mp_pI4, mp_pI5, mp_pI7, mp_pI8, mp_pI9, mp_pI10, mp_pI11, mp_pI12, mp_pI13, mp_pI14, mp_pI15, mp_pI19, mp_pI20, mp_pI21, mp_pI23, mp_gR0, mp_gR1, mp_gR2, mp_gR3, mp_gR6, mp_gR16, mp_gR17, mp_gR18, mp_gR22, mp_aI0, mp_aI1, mp_aI2, mp_aI3, mp_aI4, mp_aI5, mp_aI6, mp_aZ7, mp_aI8, mp_sI0, mp_sI1, mp_sI2, mp_sI3, mp_sI4, mp_sI5, mp_sI6, mp_sI8, mp_sZ0, mp_sZ1]
      rw [tk_13]
      simp (disch := omega) only [I_n, I_neg, I_add, I_sub, I_mul, I_le4, I_lt4, I_eq4, I_div4, I_bi0, I_bi01, I_bi1, nor_em, rI_of, rV_of, zI_of, zV_of, nz_and, br_T, br_F, br_T2, br_F2, st_eq, st9_0, st_k, st_i, true_and, and_true, Classical.not_not, mp_isO, mp_gI4, mp_gI5, mp_gI7, mp_gI8, mp_gI9, mp_gI10, mp_gI11, mp_gI12, mp_gI13, mp_gI14, mp_gI15, mp_gI19, mp_gI20, mp_gI21, mp_gI23, mp_pI4, mp_pI5, mp_pI7, mp_pI8, mp_pI9, mp_pI10, mp_pI11, mp_pI12, mp_pI13, mp_pI14, mp_pI15, mp_pI19, mp_pI20, mp_pI21, mp_pI23, mp_gR0, mp_gR1, mp_gR2, mp_gR3, mp_gR6, mp_gR16, mp_gR17, mp_gR18, mp_gR22, mp_aI0, mp_aI1, mp_aI2, mp_aI3, mp_aI4, mp_aI5, mp_aI6, mp_aZ7, mp_aI8, mp_sI0, mp_sI1, mp_sI2, mp_sI3, mp_sI4, mp_sI5, mp_sI6, mp_sI8, mp_sZ0, mp_sZ1]
      rw [if_neg h0]
      refine ⟨rfl, _, rfl, ?_⟩
      rw [if_pos h]
      refine (eL _).mpr ⟨kj _ 4 (by decide) (by decide), kj _ 8 (by decide) (by decide), ?_, ?_, ?_, ?_, ?_⟩
      · rw [k9 _ 5 (by omega), t5]
      · rw [k9 _ 7 (by omega), t7]
      · rw [k9 _ 23 (by omega), t9 23 (by omega) (by omega) (by omega) (by omega) (by omega)]
      · rw [if_neg h0, st_eq]
      · rw [if_neg h0]
        exact ⟨kj _ 0 (by decide) (by decide), kj _ 3 (by decide) (by decide), by rw [k9 _ 4 (by omega), t9 4 (by omega) (by omega) (by omega) (by omega) (by omega)]⟩
    · have hr := p3 h0
      simp (disch := omega) only [I_n, I_neg, I_add, I_sub, I_mul, I_le4, I_lt4, I_eq4, I_div4, I_bi0, I_bi01, I_bi1, nor_em, rI_of, rV_of, zI_of, zV_of, nz_and, br_T, br_F, br_T2, br_F2, st_eq, st9_0, st_k, st_i, true_and, and_true, Classical.not_not, mp_isO, mp_gI4, mp_gI5, mp_gI7, mp_gI8, mp_gI9, mp_gI10, mp_gI11, mp_gI12, mp_gI13, mp_gI14, mp_gI15, mp_gI19, mp_gI20, mp_gI21, mp_gI23, mp_pI4, mp_pI5, mp_pI7, mp_pI8, mp_pI9, mp_pI10, mp_pI11, mp_pI12, mp_pI13, mp_pI14, mp_pI15, mp_pI19, mp_pI20, mp_pI21, mp_pI23, mp_gR0, mp_gR1, mp_gR2, mp_gR3, mp_gR6, mp_gR16, mp_gR17, mp_gR18, mp_gR22, mp_aI0, mp_aI1, mp_aI2, mp_aI3, mp_aI4, mp_aI5, mp_aI6, mp_aZ7, mp_aI8, mp_sI0, mp_sI1, mp_sI2, mp_sI3, mp_sI4, mp_sI5, mp_sI6, mp_sI8, mp_sZ0, mp_sZ1]
      rw [tk_13]
      simp (disch := omega) only [I_n, I_neg, I_add, I_sub, I_mul, I_le4, I_lt4, I_eq4, I_div4, I_bi0, I_bi01, I_bi1, nor_em, rI_of, rV_of, zI_of, zV_of, nz_and, br_T, br_F, br_T2, br_F2, st_eq, st9_0, st_k, st_i, true_and, and_true, Classical.not_not, mp_isO, mp_gI4, mp_gI5, mp_gI7, mp_gI8, mp_gI9, mp_gI10, mp_gI11, mp_gI12, mp_gI13, mp_gI14, mp_gI15, mp_gI19, mp_gI20, mp_gI21, mp_gI23, mp_pI4, mp_pI5, mp_pI7, mp_pI8, mp_pI9, mp_pI10, mp_pI11, mp_pI12, mp_pI13, mp_pI14, mp_pI15, mp_pI19, mp_pI20, mp_pI21, mp_pI23, mp_gR0, mp_gR1, mp_gR2, mp_gR3, mp_gR6, mp_gR16, mp_gR17, mp_gR18, mp_gR22, mp_aI0, mp_aI1, mp_aI2, mp_aI3, mp_aI4, mp_aI5, mp_aI6, mp_aZ7, mp_aI8, mp_sI0, mp_sI1, mp_sI2, mp_sI3, mp_sI4, mp_sI5, mp_sI6, mp_sI8, mp_sZ0, mp_sZ1]
      obtain ⟨U, hU⟩ : ∃ U, U = st (tkS T fr q) 9 15 (-1) := ⟨_, rfl⟩
      rw [← hU]
      have u9 : ∀ j : Int, j < 9 ∨ 15 < j → U 9 j = T 9 j := fun j hj => by rw [hU, st_k (by omega), tk_k (by omega)]
      have uj : ∀ j : Nat, j ≠ 1 → j ≠ 9 → U j = S j := fun j h1 h9 => by rw [hU, st9_j h9, tk_j h1 h9, tj j h9]
      have u4 : U 9 4 = S 9 4 := by rw [u9 4 (by omega), t9 4 (by omega) (by omega) (by omega) (by omega) (by omega)]
      have u1 : U 1 = fr := by rw [hU, st9_j (by decide), tk_1]
      have u0 := uj 0 (by decide) (by decide)
      have u3 := uj 3 (by decide) (by decide)
      have u15 : U 9 15 = -1 := by rw [hU, st_eq]
      have ekM : kM U = kM S := by unfold kM; rw [u4]
      have ekT : kT U = kT S := by unfold kT; rw [u4, u3]
      refine (c_X6_keeps (S := U) hl (by rw [u4]; exact hm)).cl0 (by decide) ?_
      simp (disch := omega) only [I_n, I_neg, I_add, I_sub, I_mul, I_le4, I_lt4, I_eq4, I_div4, I_bi0, I_bi01, I_bi1, nor_em, rI_of, rV_of, zI_of, zV_of, nz_and, br_T, br_F, br_T2, br_F2, st_eq, st9_0, st_k, st_i, true_and, and_true, Classical.not_not, mp_isO, mp_gI4, mp_gI5, mp_gI7, mp_gI8, mp_gI9, mp_gI10, mp_gI11, mp_gI12, mp_gI13, mp_gI14, mp_gI15, mp_gI19, mp_gI20, mp_gI21, mp_gI23, mp_pI4, mp_pI5, mp_pI7, mp_pI8, mp_pI9, mp_pI10, mp_pI11, mp_pI12, mp_pI13, mp_pI14, mp_pI15, mp_pI19, mp_pI20, mp_pI21, mp_pI23, mp_gR0, mp_gR1, mp_gR2, mp_gR3, mp_gR6, mp_gR16, mp_gR17, mp_gR18, mp_gR22, mp_aI0, mp_aI1, mp_aI2, mp_aI3, mp_aI4, mp_aI5, mp_aI6, mp_aZ7, mp_aI8, mp_sI0, mp_sI1, mp_sI2, mp_sI3, mp_sI4, mp_sI5, mp_sI6, mp_sI8, mp_sZ0, mp_sZ1]
      have ab := c_X6_becomes1 (X := X) (o := o) (B := B) (S := kS U) hl (f := 0) (by omega) (by omega)
      rw [kS_0, kS_j (by decide) (by decide), u0, u1] at ab
      refine ab.cl0 (by decide) ?_
      simp (disch := omega) only [I_n, I_neg, I_add, I_sub, I_mul, I_le4, I_lt4, I_eq4, I_div4, I_bi0, I_bi01, I_bi1, nor_em, rI_of, rV_of, zI_of, zV_of, nz_and, br_T, br_F, br_T2, br_F2, st_eq, st9_0, st_k, st_i, true_and, and_true, Classical.not_not, mp_isO, mp_gI4, mp_gI5, mp_gI7, mp_gI8, mp_gI9, mp_gI10, mp_gI11, mp_gI12, mp_gI13, mp_gI14, mp_gI15, mp_gI19, mp_gI20, mp_gI21, mp_gI23, mp_pI4, mp_pI5, mp_pI7, mp_pI8, mp_pI9, mp_pI10, mp_pI11, mp_pI12, mp_pI13, mp_pI14, mp_pI15, mp_pI19, mp_pI20, mp_pI21, mp_pI23, mp_gR0, mp_gR1, mp_gR2, mp_gR3, mp_gR6, mp_gR16, mp_gR17, mp_gR18, mp_gR22, mp_aI0, mp_aI1, mp_aI2, mp_aI3, mp_aI4, mp_aI5, mp_aI6, mp_aZ7, mp_aI8, mp_sI0, mp_sI1, mp_sI2, mp_sI3, mp_sI4, mp_sI5, mp_sI6, mp_sI8, mp_sZ0, mp_sZ1]
      have eq : EQ fr (cpy (S 0) fr 0 0 1664) := fun j j0 j1 => by
        unfold cpy
        rw [if_pos (by omega)]
        congr 1
        omega
      have hc := geo_c (q := cpy (S 0) fr 0 0 1664) (r := fr) (eq 0 (by omega) (by omega)) (eq 2 (by omega) (by omega)) (eq 3 (by omega) (by omega))
      have g' : GW (cpy (S 0) fr 0 0 1664) := by
        unfold GW
        rw [eq 0 (by omega) (by omega), eq 2 (by omega) (by omega), eq 3 (by omega) (by omega)]
        exact hr.1
      have ap := c_X6_parts (X := X) (o := o) (B := B) (S := sr (kS U) (cpy (S 0) fr 0 0 1664)) hl g'
      rw [sr_0, hc.2.2.2.2.2.1] at ap
      refine ap.cl0 (by decide) ?_
      simp (disch := omega) only [I_n, I_neg, I_add, I_sub, I_mul, I_le4, I_lt4, I_eq4, I_div4, I_bi0, I_bi01, I_bi1, nor_em, rI_of, rV_of, zI_of, zV_of, nz_and, br_T, br_F, br_T2, br_F2, st_eq, st9_0, st_k, st_i, true_and, and_true, Classical.not_not, mp_isO, mp_gI4, mp_gI5, mp_gI7, mp_gI8, mp_gI9, mp_gI10, mp_gI11, mp_gI12, mp_gI13, mp_gI14, mp_gI15, mp_gI19, mp_gI20, mp_gI21, mp_gI23, mp_pI4, mp_pI5, mp_pI7, mp_pI8, mp_pI9, mp_pI10, mp_pI11, mp_pI12, mp_pI13, mp_pI14, mp_pI15, mp_pI19, mp_pI20, mp_pI21, mp_pI23, mp_gR0, mp_gR1, mp_gR2, mp_gR3, mp_gR6, mp_gR16, mp_gR17, mp_gR18, mp_gR22, mp_aI0, mp_aI1, mp_aI2, mp_aI3, mp_aI4, mp_aI5, mp_aI6, mp_aZ7, mp_aI8, mp_sI0, mp_sI1, mp_sI2, mp_sI3, mp_sI4, mp_sI5, mp_sI6, mp_sI8, mp_sZ0, mp_sZ1]
      rw [if_pos h0]
      refine ⟨rfl, _, rfl, ?_⟩
      rw [if_pos h]
      refine (eL _).mpr ⟨?_, ?_, ?_, ?_, ?_, ?_, ?_⟩
      · show kS U 4 = S 4
        rw [kS_j (by decide) (by decide), uj 4 (by decide) (by decide)]
      · show kS U 8 = S 8
        rw [kS_j (by decide) (by decide), uj 8 (by decide) (by decide)]
      · show kS U 9 5 = 0
        rw [kS_9 (by omega), u9 5 (by omega), t5]
      · show kS U 9 7 = 0
        rw [kS_9 (by omega), u9 7 (by omega), t7]
      · show kS U 9 23 = S 9 23
        rw [kS_9 (by omega), u9 23 (by omega), t9 23 (by omega) (by omega) (by omega) (by omega) (by omega)]
      · show kS U 9 15 = _
        rw [kS_9 (by omega), u15, if_pos h0]
      · rw [if_pos h0]
        refine ⟨eq, ?_, ?_⟩
        · show kS U 3 = kS S 3
          rw [kS_3, kS_3, ekM, ekT, u0]
        · show kS U 9 4 = kS S 9 4
          rw [kS_94, kS_94, ekM]
end MZQ
