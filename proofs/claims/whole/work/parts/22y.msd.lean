/-! the reference: the drops of a search -/
theorem sg_0 {f : Int → Int} {n : Nat} (h : ∀ k : Nat, k < n → 0 ≤ f k) (hz : sg f n = 0) : ∀ k : Nat, k < n → f k = 0 := by
  induction n with
  | zero => intro k hk; omega
  | succ n ih =>
    intro k hk
    have h1 := sg_nn (f := f) (n := n) fun k hk => h k (by omega)
    have h2 := h n (by omega)
    rw [sg_s] at hz
    by_cases hkn : k = n
    · subst hkn
      omega
    · exact ih (fun k hk => h k (by omega)) (by omega) k (by omega)
theorem gMi_0 {r : Int → Int} {k : Int} (h : ¬ 0 < gMi r k) {i : Int} (hi : 0 ≤ i) (hi2 : i < gPo r k) : r (96 + (gF r k + i)) ≠ 0 := by
  have hz : gMi r k = 0 := by
    have : 0 ≤ gMi r k := sg_bi.1
    omega
  have h1 := sg_0 (f := fun j => bi (r (96 + (gF r k + j)) = 0)) (n := (gPo r k).toNat) (fun _ _ => bi_b.1) hz i.toNat (by omega)
  have h2 : ((i.toNat : Nat) : Int) = i := by omega
  rw [h2] at h1
  intro h3
  rw [bi_t h3] at h1
  exact absurd h1 (by decide)
/-- the parts from j on of a piece whose first part is f, dropped: all of them (c = 0), or those that fd marks -/
def rDs (fd : Int → Int) (c f : Int) : Nat → Int → (Int → Int) → Int → Int
  | 0, _, r => r
  | m + 1, j, r => rDs fd c f m (j + 1) (if c = 0 then rDr r (f + j) 4 else if fd j = 0 then r else rDr r (f + j) 3)
section MY
variable {l : Launch} {X : XT} {o : Nat} {B A : AH} {T : Nat → Int → Int}
theorem L_drops (hl : l.stackTraces = false) {Q : Ot → AH → Prop} {k f c : Int} (hT : T 9 20 = c) (hc : 0 ≤ c ∧ c ≤ 48) (hfd : ∀ i, 0 ≤ i → i < 48 → 0 ≤ T 7 i ∧ T 7 i ≤ 1) : ∀ (m : Nat) (j : Int) (r : Int → Int) (e : Int), RW r e → e + 20 + 10 * m ≤ 2000000000 → 0 ≤ j → 0 ≤ k → k < gN r → j + m = gPo r k → f = gF r k → (∀ i, j ≤ i → i < gPo r k → r (96 + (f + i)) ≠ 0) →
    (∀ e', RW (rDs (T 7) c f m j r) e' → e' ≤ e + 2 * m → (if c = 0 then G l X M_X6_searches 6 Q 77 [(0, .ref o)] [] (mp X o B (sr T (rTell (rDs (T 7) c f m j r) 4 k 0))) 0 0 else G l X M_X6_searches 6 Q 77 [(0, .ref o)] [] (mp X o B (sr T (rDs (T 7) c f m j r))) 0 0)) →
    G l X M_X6_searches 6 Q 13 [(0, .ref o), (1, .int (I k)), (2, .int (I f)), (3, .int (I j))] [] (mp X o B (sr T r)) 0 0 := by
  intro m
  induction m with
  | zero =>
    intro j r e w he h0 hk hk1 hj hf hp K
    obtain ⟨p1, p2, -⟩ := gPo_b w.1 hk hk1
    obtain ⟨q1, q2, -⟩ := gE_b w.1
    have hg := RW_gl w
    have k1 := K e w (by omega)
    have ap := c_X6_partsOf (S := sr T r) (X := X) (o := o) (B := B) hl w.1 hk hk1
    rw [sr_0] at ap
    have eT : sr T r 9 20 = c := hT
    refine k_X6_searches_13 ⟨mp_isO, ap.cl0 (by decide) ?_⟩
    simp (disch := omega) only [sr_0, sr_sr, sr_st, true_implies, false_implies, not_true_eq_false, not_false_eq_true, I_n, I_neg, I_add, I_sub, I_mul, I_le4, I_lt4, I_eq4, I_div4, I_bi0, I_bi01, I_bi1, nor_em, rI_of, rV_of, zI_of, zV_of, nz_and, br_T, br_F, br_T2, br_F2, st_eq, st9_0, st_k, st_i, true_and, and_true, Classical.not_not, mp_isO, mp_gI4, mp_gI5, mp_gI7, mp_gI8, mp_gI9, mp_gI10, mp_gI11, mp_gI12, mp_gI13, mp_gI14, mp_gI15, mp_gI19, mp_gI20, mp_gI21, mp_gI23, mp_pI4, mp_pI5, mp_pI7, mp_pI8, mp_pI9, mp_pI10, mp_pI11, mp_pI12, mp_pI13, mp_pI14, mp_pI15, mp_pI19, mp_pI20, mp_pI21, mp_pI23, mp_gR0, mp_gR1, mp_gR2, mp_gR3, mp_gR6, mp_gR16, mp_gR17, mp_gR18, mp_gR22, mp_aI0, mp_aI1, mp_aI2, mp_aI3, mp_aI4, mp_aI5, mp_aI6, mp_aZ7, mp_aI8, mp_sI0, mp_sI1, mp_sI2, mp_sI3, mp_sI4, mp_sI5, mp_sI6, mp_sI8, mp_sZ0, mp_sZ1]
    rw [eT]
    by_cases hz : c = 0
    · rw [if_pos hz] at k1
      subst hz
      simp (disch := omega) only [sr_0, sr_sr, sr_st, true_implies, false_implies, not_true_eq_false, not_false_eq_true, I_n, I_neg, I_add, I_sub, I_mul, I_le4, I_lt4, I_eq4, I_div4, I_bi0, I_bi01, I_bi1, nor_em, rI_of, rV_of, zI_of, zV_of, nz_and, br_T, br_F, br_T2, br_F2, st_eq, st9_0, st_k, st_i, true_and, and_true, Classical.not_not, mp_isO, mp_gI4, mp_gI5, mp_gI7, mp_gI8, mp_gI9, mp_gI10, mp_gI11, mp_gI12, mp_gI13, mp_gI14, mp_gI15, mp_gI19, mp_gI20, mp_gI21, mp_gI23, mp_pI4, mp_pI5, mp_pI7, mp_pI8, mp_pI9, mp_pI10, mp_pI11, mp_pI12, mp_pI13, mp_pI14, mp_pI15, mp_pI19, mp_pI20, mp_pI21, mp_pI23, mp_gR0, mp_gR1, mp_gR2, mp_gR3, mp_gR6, mp_gR16, mp_gR17, mp_gR18, mp_gR22, mp_aI0, mp_aI1, mp_aI2, mp_aI3, mp_aI4, mp_aI5, mp_aI6, mp_aZ7, mp_aI8, mp_sI0, mp_sI1, mp_sI2, mp_sI3, mp_sI4, mp_sI5, mp_sI6, mp_sI8, mp_sZ0, mp_sZ1]
      refine (c_X6_tells (S := sr T r) hl hg.1 (by rw [sr_0]; omega)).cl0 (by decide) ?_
      simp (disch := omega) only [sr_0, sr_sr, sr_st, true_implies, false_implies, not_true_eq_false, not_false_eq_true, I_n, I_neg, I_add, I_sub, I_mul, I_le4, I_lt4, I_eq4, I_div4, I_bi0, I_bi01, I_bi1, nor_em, rI_of, rV_of, zI_of, zV_of, nz_and, br_T, br_F, br_T2, br_F2, st_eq, st9_0, st_k, st_i, true_and, and_true, Classical.not_not, mp_isO, mp_gI4, mp_gI5, mp_gI7, mp_gI8, mp_gI9, mp_gI10, mp_gI11, mp_gI12, mp_gI13, mp_gI14, mp_gI15, mp_gI19, mp_gI20, mp_gI21, mp_gI23, mp_pI4, mp_pI5, mp_pI7, mp_pI8, mp_pI9, mp_pI10, mp_pI11, mp_pI12, mp_pI13, mp_pI14, mp_pI15, mp_pI19, mp_pI20, mp_pI21, mp_pI23, mp_gR0, mp_gR1, mp_gR2, mp_gR3, mp_gR6, mp_gR16, mp_gR17, mp_gR18, mp_gR22, mp_aI0, mp_aI1, mp_aI2, mp_aI3, mp_aI4, mp_aI5, mp_aI6, mp_aZ7, mp_aI8, mp_sI0, mp_sI1, mp_sI2, mp_sI3, mp_sI4, mp_sI5, mp_sI6, mp_sI8, mp_sZ0, mp_sZ1]
      exact k1
    · rw [if_neg hz] at k1
      simp (disch := omega) only [sr_0, sr_sr, sr_st, true_implies, false_implies, not_true_eq_false, not_false_eq_true, I_n, I_neg, I_add, I_sub, I_mul, I_le4, I_lt4, I_eq4, I_div4, I_bi0, I_bi01, I_bi1, nor_em, rI_of, rV_of, zI_of, zV_of, nz_and, br_T, br_F, br_T2, br_F2, st_eq, st9_0, st_k, st_i, true_and, and_true, Classical.not_not, mp_isO, mp_gI4, mp_gI5, mp_gI7, mp_gI8, mp_gI9, mp_gI10, mp_gI11, mp_gI12, mp_gI13, mp_gI14, mp_gI15, mp_gI19, mp_gI20, mp_gI21, mp_gI23, mp_pI4, mp_pI5, mp_pI7, mp_pI8, mp_pI9, mp_pI10, mp_pI11, mp_pI12, mp_pI13, mp_pI14, mp_pI15, mp_pI19, mp_pI20, mp_pI21, mp_pI23, mp_gR0, mp_gR1, mp_gR2, mp_gR3, mp_gR6, mp_gR16, mp_gR17, mp_gR18, mp_gR22, mp_aI0, mp_aI1, mp_aI2, mp_aI3, mp_aI4, mp_aI5, mp_aI6, mp_aZ7, mp_aI8, mp_sI0, mp_sI1, mp_sI2, mp_sI3, mp_sI4, mp_sI5, mp_sI6, mp_sI8, mp_sZ0, mp_sZ1]
      exact k1
  | succ m ih =>
    intro j r e w he h0 hk hk1 hj hf hp K
    obtain ⟨p1, p2, -⟩ := gPo_b w.1 hk hk1
    obtain ⟨q1, q2, -⟩ := gE_b w.1
    obtain ⟨f1, f2⟩ := gF_b w.1 hk hk1
    obtain ⟨t1, t2⟩ := gT_b w.1
    have lg := w.1.2.1
    have hpj := hp j (Int.le_refl _) (by omega)
    have hfj := hfd j h0 (by omega)
    have ap := c_X6_partsOf (S := sr T r) (X := X) (o := o) (B := B) hl w.1 hk hk1
    rw [sr_0] at ap
    have eT : sr T r 9 20 = c := hT
    have eT7 : sr T r 7 j = T 7 j := rfl
    have go : ∀ kd : Int, sm kd → rDs (T 7) c f (m + 1) j r = rDs (T 7) c f m (j + 1) (rDr r (f + j) kd) → G l X M_X6_searches 6 Q 54 [(0, .ref o), (1, .int (I k)), (2, .int (I f)), (3, .int (I j))] [.int (I kd), .int (I (f + j)), .ref o] (mp X o B (sr T r)) 0 0 := by
      intro kd hkd hd
      obtain ⟨w2, o2⟩ := rDr_w (k := kd) w (by omega) (p := f + j) (by omega) (by omega) hpj
      have hc2 := geo_c (o2 0 (by omega) (by omega) (by omega) (by omega) (by omega) (by omega)) (o2 2 (by omega) (by omega) (by omega) (by omega) (by omega) (by omega)) (o2 3 (by omega) (by omega) (by omega) (by omega) (by omega) (by omega))
      have ad := c_X6_drops (S := sr T r) (X := X) (o := o) (B := B) hl w (by omega) (p := f + j) (k := kd) (by omega) (by omega) hpj hkd
      rw [sr_sr, sr_0] at ad
      refine k_X6_searches_54 ⟨mp_isO, ad.cl0 (by decide) ?_⟩
      simp (disch := omega) only [sr_0, sr_sr, sr_st, true_implies, false_implies, not_true_eq_false, not_false_eq_true, I_n, I_neg, I_add, I_sub, I_mul, I_le4, I_lt4, I_eq4, I_div4, I_bi0, I_bi01, I_bi1, nor_em, rI_of, rV_of, zI_of, zV_of, nz_and, br_T, br_F, br_T2, br_F2, st_eq, st9_0, st_k, st_i, true_and, and_true, Classical.not_not, mp_isO, mp_gI4, mp_gI5, mp_gI7, mp_gI8, mp_gI9, mp_gI10, mp_gI11, mp_gI12, mp_gI13, mp_gI14, mp_gI15, mp_gI19, mp_gI20, mp_gI21, mp_gI23, mp_pI4, mp_pI5, mp_pI7, mp_pI8, mp_pI9, mp_pI10, mp_pI11, mp_pI12, mp_pI13, mp_pI14, mp_pI15, mp_pI19, mp_pI20, mp_pI21, mp_pI23, mp_gR0, mp_gR1, mp_gR2, mp_gR3, mp_gR6, mp_gR16, mp_gR17, mp_gR18, mp_gR22, mp_aI0, mp_aI1, mp_aI2, mp_aI3, mp_aI4, mp_aI5, mp_aI6, mp_aZ7, mp_aI8, mp_sI0, mp_sI1, mp_sI2, mp_sI3, mp_sI4, mp_sI5, mp_sI6, mp_sI8, mp_sZ0, mp_sZ1]
      refine ih (j + 1) (rDr r (f + j) kd) (e + 2) w2 (by omega) (by omega) hk (by rw [hc2.1]; exact hk1) (by rw [hc2.2.2.2.1]; omega) (by rw [hc2.2.2.2.2.1]; exact hf) ?_ ?_
      · intro i hi hi2
        rw [hc2.2.2.2.1] at hi2
        rw [o2 _ (by omega) (by omega) (by omega) (by omega) (by omega) (by omega)]
        exact hp i (by omega) hi2
      · intro e' hw hle
        have k1 := K e' (by rw [hd]; exact hw) (by omega)
        rw [hd] at k1
        exact k1
    refine k_X6_searches_13 ⟨mp_isO, ap.cl0 (by decide) ?_⟩
    simp (disch := omega) only [sr_0, sr_sr, sr_st, true_implies, false_implies, not_true_eq_false, not_false_eq_true, I_n, I_neg, I_add, I_sub, I_mul, I_le4, I_lt4, I_eq4, I_div4, I_bi0, I_bi01, I_bi1, nor_em, rI_of, rV_of, zI_of, zV_of, nz_and, br_T, br_F, br_T2, br_F2, st_eq, st9_0, st_k, st_i, true_and, and_true, Classical.not_not, mp_isO, mp_gI4, mp_gI5, mp_gI7, mp_gI8, mp_gI9, mp_gI10, mp_gI11, mp_gI12, mp_gI13, mp_gI14, mp_gI15, mp_gI19, mp_gI20, mp_gI21, mp_gI23, mp_pI4, mp_pI5, mp_pI7, mp_pI8, mp_pI9, mp_pI10, mp_pI11, mp_pI12, mp_pI13, mp_pI14, mp_pI15, mp_pI19, mp_pI20, mp_pI21, mp_pI23, mp_gR0, mp_gR1, mp_gR2, mp_gR3, mp_gR6, mp_gR16, mp_gR17, mp_gR18, mp_gR22, mp_aI0, mp_aI1, mp_aI2, mp_aI3, mp_aI4, mp_aI5, mp_aI6, mp_aZ7, mp_aI8, mp_sI0, mp_sI1, mp_sI2, mp_sI3, mp_sI4, mp_sI5, mp_sI6, mp_sI8, mp_sZ0, mp_sZ1]
    rw [eT]
    by_cases hz : c = 0
    · have hd : rDs (T 7) c f (m + 1) j r = rDs (T 7) c f m (j + 1) (rDr r (f + j) 4) := by
        show rDs (T 7) c f m (j + 1) (if c = 0 then rDr r (f + j) 4 else if T 7 j = 0 then r else rDr r (f + j) 3) = _
        rw [if_pos hz]
      have g4 := go 4 ⟨by omega, by omega⟩ hd
      simp (disch := omega) only [I_eq4, br_T, br_F, br_T2, br_F2]
      refine k_X6_searches_38 ?_
      simp (disch := omega) only [sr_0, sr_sr, sr_st, true_implies, false_implies, not_true_eq_false, not_false_eq_true, I_n, I_neg, I_add, I_sub, I_mul, I_le4, I_lt4, I_eq4, I_div4, I_bi0, I_bi01, I_bi1, nor_em, rI_of, rV_of, zI_of, zV_of, nz_and, br_T, br_F, br_T2, br_F2, st_eq, st9_0, st_k, st_i, true_and, and_true, Classical.not_not, mp_isO, mp_gI4, mp_gI5, mp_gI7, mp_gI8, mp_gI9, mp_gI10, mp_gI11, mp_gI12, mp_gI13, mp_gI14, mp_gI15, mp_gI19, mp_gI20, mp_gI21, mp_gI23, mp_pI4, mp_pI5, mp_pI7, mp_pI8, mp_pI9, mp_pI10, mp_pI11, mp_pI12, mp_pI13, mp_pI14, mp_pI15, mp_pI19, mp_pI20, mp_pI21, mp_pI23, mp_gR0, mp_gR1, mp_gR2, mp_gR3, mp_gR6, mp_gR16, mp_gR17, mp_gR18, mp_gR22, mp_aI0, mp_aI1, mp_aI2, mp_aI3, mp_aI4, mp_aI5, mp_aI6, mp_aZ7, mp_aI8, mp_sI0, mp_sI1, mp_sI2, mp_sI3, mp_sI4, mp_sI5, mp_sI6, mp_sI8, mp_sZ0, mp_sZ1]
      exact g4
    · simp (disch := omega) only [I_eq4, br_T, br_F, br_T2, br_F2]
      rw [eT7]
      refine ⟨fun h => ?_, fun h => ?_⟩
      · have hd : rDs (T 7) c f (m + 1) j r = rDs (T 7) c f m (j + 1) r := by
          show rDs (T 7) c f m (j + 1) (if c = 0 then rDr r (f + j) 4 else if T 7 j = 0 then r else rDr r (f + j) 3) = _
          rw [if_neg hz, if_pos h]
        refine ih (j + 1) r e w (by omega) (by omega) hk hk1 (by omega) hf (fun i hi hi2 => hp i (by omega) hi2) ?_
        intro e' hw hle
        have k1 := K e' (by rw [hd]; exact hw) (by omega)
        rw [hd] at k1
        exact k1
      · have hd : rDs (T 7) c f (m + 1) j r = rDs (T 7) c f m (j + 1) (rDr r (f + j) 3) := by
          show rDs (T 7) c f m (j + 1) (if c = 0 then rDr r (f + j) 4 else if T 7 j = 0 then r else rDr r (f + j) 3) = _
          rw [if_neg hz, if_neg h]
        have g3 := go 3 ⟨by omega, by omega⟩ hd
        refine k_X6_searches_38 ?_
        simp (disch := omega) only [sr_0, sr_sr, sr_st, true_implies, false_implies, not_true_eq_false, not_false_eq_true, I_n, I_neg, I_add, I_sub, I_mul, I_le4, I_lt4, I_eq4, I_div4, I_bi0, I_bi01, I_bi1, nor_em, rI_of, rV_of, zI_of, zV_of, nz_and, br_T, br_F, br_T2, br_F2, st_eq, st9_0, st_k, st_i, true_and, and_true, Classical.not_not, mp_isO, mp_gI4, mp_gI5, mp_gI7, mp_gI8, mp_gI9, mp_gI10, mp_gI11, mp_gI12, mp_gI13, mp_gI14, mp_gI15, mp_gI19, mp_gI20, mp_gI21, mp_gI23, mp_pI4, mp_pI5, mp_pI7, mp_pI8, mp_pI9, mp_pI10, mp_pI11, mp_pI12, mp_pI13, mp_pI14, mp_pI15, mp_pI19, mp_pI20, mp_pI21, mp_pI23, mp_gR0, mp_gR1, mp_gR2, mp_gR3, mp_gR6, mp_gR16, mp_gR17, mp_gR18, mp_gR22, mp_aI0, mp_aI1, mp_aI2, mp_aI3, mp_aI4, mp_aI5, mp_aI6, mp_aZ7, mp_aI8, mp_sI0, mp_sI1, mp_sI2, mp_sI3, mp_sI4, mp_sI5, mp_sI6, mp_sI8, mp_sZ0, mp_sZ1]
        exact g3
end MY
