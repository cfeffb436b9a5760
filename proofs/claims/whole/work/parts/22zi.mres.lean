/-! the reference: resume -/
/-- part n of the partial file p, put -/
def rRp (r : Int → Int) (p n : Int) : Int → Int := cpy (rs r (96 + n) 3) (rs r (96 + n) 3) (696 + 242 * p + 2 + gPl r n) (336 + gPl r n) (gPt r n)
def rRe (p : Int) : Nat → Int → (Int → Int) → (Int → Int) × Int
  | 0, n, r => (r, n)
  | m + 1, n, r => if gPl r n + gPt r n ≤ r (696 + 242 * p + 1) then rRe p m (n + 1) (rRp r p n) else (r, n)
def rJs : Nat → Int → (Int → Int) → Int → Int
  | 0, _, r => r
  | m + 1, k, r => rJs m (k + 1) (rJ r k)
def rRes (r : Int → Int) (p : Int) : Int → Int := rGo (rJs (gN r).toNat 0 (rTell (rRe p (gT r).toNat 0 r).1 8 ((rRe p (gT r).toNat 0 r).1 (696 + 242 * p)) (rRe p (gT r).toNat 0 r).2)) p
def tRes (r : Int → Int) (p : Int) : Int := tr2 (0 ≤ p ∧ p ≤ r 9 - 1) (gT r ≤ gMs r)
theorem cpy_w2 {r q : Int → Int} {e f t : Int} : ∀ n : Nat, RW r e → 336 ≤ t → t + n ≤ 576 → (∀ i : Int, 0 ≤ i → i < n → 0 ≤ q (f + i) ∧ q (f + i) ≤ 255) → RW (cpy r q f t n) e := by
  intro n
  induction n with
  | zero => intro w _ _ _; rw [show ((0 : Nat) : Int) = 0 from rfl, cpy_z]; exact w
  | succ n ih =>
    intro w ht hn hq
    have i1 := ih w ht (by omega) (fun i h0 h1 => hq i h0 (by omega))
    have hqn := hq n (by omega) (by omega)
    rw [show ((n + 1 : Nat) : Int) = (n : Int) + 1 from rfl, ← cpy_s (by omega)]
    exact RW_set i1 (by omega) (by omega) (by omega) (by omega) (by omega) (by omega) (by omega) (by omega) (by omega) (by omega) (by omega) (by omega)
theorem rRp_w {r : Int → Int} {e p n : Int} (w : RW r e) (h0 : 0 ≤ p) (h1 : p < r 9) (n0 : 0 ≤ n) (n1 : n < gT r) (hle : gPl r n + gPt r n ≤ r (696 + 242 * p + 1)) :
    (∀ j : Nat, j ≤ gPt r n → RW (cpy (rs r (96 + n) 3) (rs r (96 + n) 3) (696 + 242 * p + 2 + gPl r n) (336 + gPl r n) j) e) ∧ RW (rRp r p n) e ∧ ∀ y, y < 96 ∨ 576 ≤ y → rRp r p n y = r y := by
  obtain ⟨l1, l2, l3, l4, l5, l6⟩ := gPl_b w.1 n0 n1
  obtain ⟨t1, t2⟩ := gT_b w.1
  have lg := w.1.2.1
  have c3 := w.2.2.2.1
  have w1 : RW (rs r (96 + n) 3) e := RW_set w (by omega) (by omega) (by omega) (by omega) (by omega) (by omega) (by omega) (by omega) (by omega) (by omega) (by omega) (by omega)
  have f8 := w1.2.2.2.2.2.2.2.2.2.2.2.2.2.1 p
  have k : ∀ j : Nat, j ≤ gPt r n → RW (cpy (rs r (96 + n) 3) (rs r (96 + n) 3) (696 + 242 * p + 2 + gPl r n) (336 + gPl r n) j) e := fun j hj => cpy_w2 j w1 (by omega) (by omega) fun i i0 i1 => by
    have := f8 (gPl r n + i) h0 (by omega) (by omega) (by omega)
    rw [← Int.add_assoc] at this
    exact this
  have k1 := k (gPt r n).toNat (by omega)
  rw [show (((gPt r n).toNat : Nat) : Int) = gPt r n by omega] at k1
  refine ⟨k, k1, fun y hy => ?_⟩
  unfold rRp cpy
  rw [if_neg (by omega), rs_ne (by omega)]
theorem rRe_w {p : Int} (h0 : 0 ≤ p) : ∀ (m : Nat) (n : Int) (r : Int → Int) (e : Int), RW r e → p < r 9 → 0 ≤ n → n + m = gT r → RW (rRe p m n r).1 e ∧ (∀ y, y < 96 ∨ 576 ≤ y → (rRe p m n r).1 y = r y) ∧ n ≤ (rRe p m n r).2 ∧ (rRe p m n r).2 ≤ n + m := by
  intro m
  induction m with
  | zero => intro n r e w h1 n0 n1; exact ⟨w, fun _ _ => rfl, Int.le_refl _, by show n ≤ _; omega⟩
  | succ m ih =>
    intro n r e w h1 n0 n1
    by_cases h : gPl r n + gPt r n ≤ r (696 + 242 * p + 1)
    · have e1 : rRe p (m + 1) n r = rRe p m (n + 1) (rRp r p n) := if_pos h
      obtain ⟨-, w2, o2⟩ := rRp_w w h0 h1 n0 (by omega) h
      have hc := geo_c (o2 0 (by omega)) (o2 2 (by omega)) (o2 3 (by omega))
      obtain ⟨i1, i2, i3, i4⟩ := ih (n + 1) (rRp r p n) e w2 (by rw [o2 9 (by omega)]; exact h1) (by omega) (by rw [hc.2.2.2.2.2.1]; omega)
      rw [e1]
      exact ⟨i1, fun y hy => (i2 y hy).trans (o2 y hy), by omega, by omega⟩
    · have e1 : rRe p (m + 1) n r = (r, n) := if_neg h
      rw [e1]
      exact ⟨w, fun _ _ => rfl, Int.le_refl _, by show n ≤ _; omega⟩
theorem rJs_w : ∀ (m : Nat) (k : Int) (r : Int → Int) (e : Int), RW r e → e + m < 2000000000 → 0 ≤ k → k + m ≤ 999 → RW (rJs m k r) (e + m) ∧ ∀ y, y < 7 ∨ 7 < y ∧ y < 576 ∨ 696 ≤ y → rJs m k r y = r y := by
  intro m
  induction m with
  | zero => intro k r e w he h0 h1; exact ⟨RW_e w (by omega) (by omega), fun _ _ => rfl⟩
  | succ m ih =>
    intro k r e w he h0 h1
    obtain ⟨i1, i2⟩ := ih (k + 1) (rJ r k) (e + 1) (rJ_w w (by omega) (by omega)) (by omega) (by omega) (by omega)
    exact ⟨RW_e i1 (by omega) (by omega), fun y hy => (i2 y hy).trans (rJ_o w hy)⟩
theorem rRes_w {r : Int → Int} {e p : Int} (w : RW r e) (he : e + 1000 ≤ 2000000000) (h0 : 0 ≤ p) (h1 : p < r 9) :
    RW (rTell (rRe p (gT r).toNat 0 r).1 8 ((rRe p (gT r).toNat 0 r).1 (696 + 242 * p)) (rRe p (gT r).toNat 0 r).2) (e + 1) ∧ (∀ y, y < 7 ∨ 7 < y ∧ y < 96 ∨ 696 ≤ y → rTell (rRe p (gT r).toNat 0 r).1 8 ((rRe p (gT r).toNat 0 r).1 (696 + 242 * p)) (rRe p (gT r).toNat 0 r).2 y = r y) ∧
    RW (rRes r p) (e + 61) := by
  obtain ⟨t1, t2⟩ := gT_b w.1
  obtain ⟨n1, n2, -⟩ := gN_b w.1
  have lg := w.1.2.1
  have hgl := RW_gl w
  obtain ⟨a1, a2, a3, a4⟩ := rRe_w h0 (gT r).toNat 0 r e w h1 (by omega) (by omega)
  have f7 := w.2.2.2.2.2.2.2.2.2.2.2.2.1 p h0 h1
  have c3 := w.2.2.2.1
  have en := a2 (696 + 242 * p) (by omega)
  have b := RW_tell (k := 8) (a := (rRe p (gT r).toNat 0 r).1 (696 + 242 * p)) (b := (rRe p (gT r).toNat 0 r).2) a1 (by omega) (by omega) (by omega) (by omega)
  have ob' : ∀ y, y < 7 ∨ 7 < y ∧ y < 96 ∨ 696 ≤ y → rTell (rRe p (gT r).toNat 0 r).1 8 ((rRe p (gT r).toNat 0 r).1 (696 + 242 * p)) (rRe p (gT r).toNat 0 r).2 y = r y := fun y hy => (rTell_g (RW_gl a1).1 (by omega)).trans (a2 y (by omega))
  obtain ⟨j1, j2⟩ := rJs_w (gN r).toNat 0 _ (e + 1) b (by omega) (by omega) (by omega)
  refine ⟨b, ob', ?_⟩
  have k := rGo_w (p := p) j1 h0 (by rw [j2 9 (by omega), ob' 9 (by omega)]; exact h1)
  exact RW_e k (by omega) (by omega)
section MZI
variable {l : Launch} {X : XT} {o : Nat} {B A : AH} {S T : Nat → Int → Int} {e : Int}
theorem L_resume (hl : l.stackTraces = false) {Q : Ot → AH → Prop} {p : Int} (h0 : 0 ≤ p) (h4 : p < 4) : ∀ (m : Nat) (n : Int) (r : Int → Int) (e : Int), RW r e → p < r 9 → 0 ≤ n → n + m = gT r →
    G l X M_X6_resume 5 Q 150 [(0, .ref o), (1, .int (I p)), (2, .int (I (696 + 242 * p))), (3, .int (I (rRe p m n r).2))] [] (mp X o B (sr T (rRe p m n r).1)) 0 0 →
    G l X M_X6_resume 5 Q 53 [(0, .ref o), (1, .int (I p)), (2, .int (I (696 + 242 * p))), (3, .int (I n))] [] (mp X o B (sr T r)) 0 0 := by
  intro m
  induction m with
  | zero =>
    intro n r e w h1 n0 n1 K
    obtain ⟨t1, t2⟩ := gT_b w.1
    have lg := w.1.2.1
    have ap := c_X6_parts (X := X) (o := o) (B := B) (S := sr T r) hl w.1
    rw [sr_0] at ap
    refine k_X6_resume_53 ⟨mp_isO, ap.cl0 (by decide) ?_⟩
    simp (disch := omega) only [sr_0, sr_sr, sr_st, true_implies, false_implies, not_true_eq_false, not_false_eq_true, I_n, I_neg, I_add, I_sub, I_mul, I_le4, I_lt4, I_eq4, I_div4, I_bi0, I_bi01, I_bi1, nor_em, rI_of, rV_of, zI_of, zV_of, nz_and, br_T, br_F, br_T2, br_F2, st_eq, st9_0, st_k, st_i, true_and, and_true, Classical.not_not, mp_isO, mp_gI4, mp_gI5, mp_gI7, mp_gI8, mp_gI9, mp_gI10, mp_gI11, mp_gI12, mp_gI13, mp_gI14, mp_gI15, mp_gI19, mp_gI20, mp_gI21, mp_gI23, mp_pI4, mp_pI5, mp_pI7, mp_pI8, mp_pI9, mp_pI10, mp_pI11, mp_pI12, mp_pI13, mp_pI14, mp_pI15, mp_pI19, mp_pI20, mp_pI21, mp_pI23, mp_gR0, mp_gR1, mp_gR2, mp_gR3, mp_gR6, mp_gR16, mp_gR17, mp_gR18, mp_gR22, mp_aI0, mp_aI1, mp_aI2, mp_aI3, mp_aI4, mp_aI5, mp_aI6, mp_aZ7, mp_aI8, mp_sI0, mp_sI1, mp_sI2, mp_sI3, mp_sI4, mp_sI5, mp_sI6, mp_sI8, mp_sZ0, mp_sZ1]
    exact K
  | succ m ih =>
    intro n r e w h1 n0 n1 K
    obtain ⟨t1, t2⟩ := gT_b w.1
    have lg := w.1.2.1
    obtain ⟨l1, l2, l3, l4, l5, l6⟩ := gPl_b w.1 (p := n) (by omega) (by omega)
    have f7 := w.2.2.2.2.2.2.2.2.2.2.2.2.1 p h0 h1
    have ap := c_X6_parts (X := X) (o := o) (B := B) (S := sr T r) hl w.1
    have a1 := c_X6_placeOf (X := X) (o := o) (B := B) (S := sr T r) hl w.1 (p := n) (by omega) (by omega)
    have a2 := c_X6_partLength (X := X) (o := o) (B := B) (S := sr T r) hl w.1 (p := n) (by omega) (by rw [sr_0]; omega)
    rw [sr_0] at ap a1 a2
    refine k_X6_resume_53 ⟨mp_isO, ap.cl0 (by decide) ?_⟩
    simp (disch := omega) only [sr_0, sr_sr, sr_st, true_implies, false_implies, not_true_eq_false, not_false_eq_true, I_n, I_neg, I_add, I_sub, I_mul, I_le4, I_lt4, I_eq4, I_div4, I_bi0, I_bi01, I_bi1, nor_em, rI_of, rV_of, zI_of, zV_of, nz_and, br_T, br_F, br_T2, br_F2, st_eq, st9_0, st_k, st_i, true_and, and_true, Classical.not_not, mp_isO, mp_gI4, mp_gI5, mp_gI7, mp_gI8, mp_gI9, mp_gI10, mp_gI11, mp_gI12, mp_gI13, mp_gI14, mp_gI15, mp_gI19, mp_gI20, mp_gI21, mp_gI23, mp_pI4, mp_pI5, mp_pI7, mp_pI8, mp_pI9, mp_pI10, mp_pI11, mp_pI12, mp_pI13, mp_pI14, mp_pI15, mp_pI19, mp_pI20, mp_pI21, mp_pI23, mp_gR0, mp_gR1, mp_gR2, mp_gR3, mp_gR6, mp_gR16, mp_gR17, mp_gR18, mp_gR22, mp_aI0, mp_aI1, mp_aI2, mp_aI3, mp_aI4, mp_aI5, mp_aI6, mp_aZ7, mp_aI8, mp_sI0, mp_sI1, mp_sI2, mp_sI3, mp_sI4, mp_sI5, mp_sI6, mp_sI8, mp_sZ0, mp_sZ1]
    refine a1.cl0 (by decide) ?_
    simp (disch := omega) only [sr_0, sr_sr, sr_st, true_implies, false_implies, not_true_eq_false, not_false_eq_true, I_n, I_neg, I_add, I_sub, I_mul, I_le4, I_lt4, I_eq4, I_div4, I_bi0, I_bi01, I_bi1, nor_em, rI_of, rV_of, zI_of, zV_of, nz_and, br_T, br_F, br_T2, br_F2, st_eq, st9_0, st_k, st_i, true_and, and_true, Classical.not_not, mp_isO, mp_gI4, mp_gI5, mp_gI7, mp_gI8, mp_gI9, mp_gI10, mp_gI11, mp_gI12, mp_gI13, mp_gI14, mp_gI15, mp_gI19, mp_gI20, mp_gI21, mp_gI23, mp_pI4, mp_pI5, mp_pI7, mp_pI8, mp_pI9, mp_pI10, mp_pI11, mp_pI12, mp_pI13, mp_pI14, mp_pI15, mp_pI19, mp_pI20, mp_pI21, mp_pI23, mp_gR0, mp_gR1, mp_gR2, mp_gR3, mp_gR6, mp_gR16, mp_gR17, mp_gR18, mp_gR22, mp_aI0, mp_aI1, mp_aI2, mp_aI3, mp_aI4, mp_aI5, mp_aI6, mp_aZ7, mp_aI8, mp_sI0, mp_sI1, mp_sI2, mp_sI3, mp_sI4, mp_sI5, mp_sI6, mp_sI8, mp_sZ0, mp_sZ1]
    refine a2.cl0 (by decide) ?_
    simp (disch := omega) only [sr_0, sr_sr, sr_st, true_implies, false_implies, not_true_eq_false, not_false_eq_true, I_n, I_neg, I_add, I_sub, I_mul, I_le4, I_lt4, I_eq4, I_div4, I_bi0, I_bi01, I_bi1, nor_em, rI_of, rV_of, zI_of, zV_of, nz_and, br_T, br_F, br_T2, br_F2, st_eq, st9_0, st_k, st_i, true_and, and_true, Classical.not_not, mp_isO, mp_gI4, mp_gI5, mp_gI7, mp_gI8, mp_gI9, mp_gI10, mp_gI11, mp_gI12, mp_gI13, mp_gI14, mp_gI15, mp_gI19, mp_gI20, mp_gI21, mp_gI23, mp_pI4, mp_pI5, mp_pI7, mp_pI8, mp_pI9, mp_pI10, mp_pI11, mp_pI12, mp_pI13, mp_pI14, mp_pI15, mp_pI19, mp_pI20, mp_pI21, mp_pI23, mp_gR0, mp_gR1, mp_gR2, mp_gR3, mp_gR6, mp_gR16, mp_gR17, mp_gR18, mp_gR22, mp_aI0, mp_aI1, mp_aI2, mp_aI3, mp_aI4, mp_aI5, mp_aI6, mp_aZ7, mp_aI8, mp_sI0, mp_sI1, mp_sI2, mp_sI3, mp_sI4, mp_sI5, mp_sI6, mp_sI8, mp_sZ0, mp_sZ1]
    refine ⟨fun h => ?_, fun h => ?_⟩
    · have e1 : rRe p (m + 1) n r = (r, n) := if_neg (by omega)
      rw [e1] at K
      exact K
    · have hle : gPl r n + gPt r n ≤ r (696 + 242 * p + 1) := by omega
      have e1 : rRe p (m + 1) n r = rRe p m (n + 1) (rRp r p n) := if_pos hle
      rw [e1] at K
      obtain ⟨wj, w2, o2⟩ := rRp_w w h0 h1 n0 (by omega) hle
      have hc := geo_c (o2 0 (by omega)) (o2 2 (by omega)) (o2 3 (by omega))
      obtain ⟨q, hq⟩ : ∃ q, q = rs r (96 + n) 3 := ⟨_, rfl⟩
      have oq : ∀ y, y < 96 → q y = r y := fun y hy => by rw [hq, rs_ne (by omega)]
      have gq := geo_c (oq 0 (by omega)) (oq 2 (by omega)) (oq 3 (by omega))
      have wq : RW q e := by
        have := wj 0 (by omega)
        rw [show ((0 : Nat) : Int) = 0 from rfl, cpy_z, ← hq] at this
        exact this
      rw [← hq]
      have a3 := c_X6_placeOf (X := X) (o := o) (B := B) (S := sr T q) hl wq.1 (p := n) (by omega) (by omega)
      rw [sr_0, gq.2.2.2.2.2.2.2.1] at a3
      refine a3.cl0 (by decide) ?_
      simp (disch := omega) only [sr_0, sr_sr, sr_st, true_implies, false_implies, not_true_eq_false, not_false_eq_true, I_n, I_neg, I_add, I_sub, I_mul, I_le4, I_lt4, I_eq4, I_div4, I_bi0, I_bi01, I_bi1, nor_em, rI_of, rV_of, zI_of, zV_of, nz_and, br_T, br_F, br_T2, br_F2, st_eq, st9_0, st_k, st_i, true_and, and_true, Classical.not_not, mp_isO, mp_gI4, mp_gI5, mp_gI7, mp_gI8, mp_gI9, mp_gI10, mp_gI11, mp_gI12, mp_gI13, mp_gI14, mp_gI15, mp_gI19, mp_gI20, mp_gI21, mp_gI23, mp_pI4, mp_pI5, mp_pI7, mp_pI8, mp_pI9, mp_pI10, mp_pI11, mp_pI12, mp_pI13, mp_pI14, mp_pI15, mp_pI19, mp_pI20, mp_pI21, mp_pI23, mp_gR0, mp_gR1, mp_gR2, mp_gR3, mp_gR6, mp_gR16, mp_gR17, mp_gR18, mp_gR22, mp_aI0, mp_aI1, mp_aI2, mp_aI3, mp_aI4, mp_aI5, mp_aI6, mp_aZ7, mp_aI8, mp_sI0, mp_sI1, mp_sI2, mp_sI3, mp_sI4, mp_sI5, mp_sI6, mp_sI8, mp_sZ0, mp_sZ1]
      have eR : rRp r p n = cpy q q (696 + 242 * p + 2 + gPl r n) (336 + gPl r n) (gPt r n) := by rw [hq]; rfl
      have e0 : mp X o B (sr T q) = mp X o B (sr T (cpy q q (696 + 242 * p + 2 + gPl r n) (336 + gPl r n) ((0 : Nat) : Int))) := by rw [show ((0 : Nat) : Int) = 0 from rfl, cpy_z]
      rw [e0]
      rw [show ((4 : Nat), Value.int (I (gPl r n))) = (4, Value.int (I (gPl r n + ((0 : Nat) : Int)))) from congrArg (fun z => ((4 : Nat), Value.int (I z))) (Int.add_zero _).symm]
      rw [← hq] at wj
      have oj : ∀ (j : Int) (y : Int), y < 96 → cpy q q (696 + 242 * p + 2 + gPl r n) (336 + gPl r n) j y = r y := fun j y hy => by
        unfold cpy
        rw [if_neg (by omega), oq y hy]
      refine up_to (n := (gPt r n).toNat) (P := fun j => G l X M_X6_resume 5 Q 100 [(0, .ref o), (1, .int (I p)), (2, .int (I (696 + 242 * p))), (3, .int (I n)), (4, .int (I (gPl r n + j)))] [] (mp X o B (sr T (cpy q q (696 + 242 * p + 2 + gPl r n) (336 + gPl r n) j))) 0 0) ?_ ?_
      · have w3 := wj (gPt r n).toNat (by omega)
        have gj := geo_c (oj (gPt r n).toNat 0 (by omega)) (oj (gPt r n).toNat 2 (by omega)) (oj (gPt r n).toNat 3 (by omega))
        have a4 := c_X6_placeOf (X := X) (o := o) (B := B) (S := sr T (cpy q q (696 + 242 * p + 2 + gPl r n) (336 + gPl r n) ((gPt r n).toNat : Nat))) hl w3.1 (p := n) (by omega) (by omega)
        have a5 := c_X6_partLength (X := X) (o := o) (B := B) (S := sr T (cpy q q (696 + 242 * p + 2 + gPl r n) (336 + gPl r n) ((gPt r n).toNat : Nat))) hl w3.1 (p := n) (by omega) (by rw [sr_0, gj.2.2.2.2.2.1]; omega)
        rw [sr_0, gj.2.2.2.2.2.2.2.1] at a4
        rw [sr_0, gj.2.2.2.2.2.2.2.2] at a5
        refine k_X6_resume_100 ⟨mp_isO, a4.cl0 (by decide) ?_⟩
        simp (disch := omega) only [sr_0, sr_sr, sr_st, true_implies, false_implies, not_true_eq_false, not_false_eq_true, I_n, I_neg, I_add, I_sub, I_mul, I_le4, I_lt4, I_eq4, I_div4, I_bi0, I_bi01, I_bi1, nor_em, rI_of, rV_of, zI_of, zV_of, nz_and, br_T, br_F, br_T2, br_F2, st_eq, st9_0, st_k, st_i, true_and, and_true, Classical.not_not, mp_isO, mp_gI4, mp_gI5, mp_gI7, mp_gI8, mp_gI9, mp_gI10, mp_gI11, mp_gI12, mp_gI13, mp_gI14, mp_gI15, mp_gI19, mp_gI20, mp_gI21, mp_gI23, mp_pI4, mp_pI5, mp_pI7, mp_pI8, mp_pI9, mp_pI10, mp_pI11, mp_pI12, mp_pI13, mp_pI14, mp_pI15, mp_pI19, mp_pI20, mp_pI21, mp_pI23, mp_gR0, mp_gR1, mp_gR2, mp_gR3, mp_gR6, mp_gR16, mp_gR17, mp_gR18, mp_gR22, mp_aI0, mp_aI1, mp_aI2, mp_aI3, mp_aI4, mp_aI5, mp_aI6, mp_aZ7, mp_aI8, mp_sI0, mp_sI1, mp_sI2, mp_sI3, mp_sI4, mp_sI5, mp_sI6, mp_sI8, mp_sZ0, mp_sZ1]
        refine a5.cl0 (by decide) ?_
        simp (disch := omega) only [sr_0, sr_sr, sr_st, true_implies, false_implies, not_true_eq_false, not_false_eq_true, I_n, I_neg, I_add, I_sub, I_mul, I_le4, I_lt4, I_eq4, I_div4, I_bi0, I_bi01, I_bi1, nor_em, rI_of, rV_of, zI_of, zV_of, nz_and, br_T, br_F, br_T2, br_F2, st_eq, st9_0, st_k, st_i, true_and, and_true, Classical.not_not, mp_isO, mp_gI4, mp_gI5, mp_gI7, mp_gI8, mp_gI9, mp_gI10, mp_gI11, mp_gI12, mp_gI13, mp_gI14, mp_gI15, mp_gI19, mp_gI20, mp_gI21, mp_gI23, mp_pI4, mp_pI5, mp_pI7, mp_pI8, mp_pI9, mp_pI10, mp_pI11, mp_pI12, mp_pI13, mp_pI14, mp_pI15, mp_pI19, mp_pI20, mp_pI21, mp_pI23, mp_gR0, mp_gR1, mp_gR2, mp_gR3, mp_gR6, mp_gR16, mp_gR17, mp_gR18, mp_gR22, mp_aI0, mp_aI1, mp_aI2, mp_aI3, mp_aI4, mp_aI5, mp_aI6, mp_aZ7, mp_aI8, mp_sI0, mp_sI1, mp_sI2, mp_sI3, mp_sI4, mp_sI5, mp_sI6, mp_sI8, mp_sZ0, mp_sZ1]
        rw [show (((gPt r n).toNat : Nat) : Int) = gPt r n by omega, ← eR]
        exact ih (n + 1) (rRp r p n) e w2 (by rw [o2 9 (by omega)]; exact h1) (by omega) (by rw [hc.2.2.2.2.2.1]; omega) K
      · intro j hj ih2
        have w3 := wj j (by omega)
        have gj := geo_c (oj j 0 (by omega)) (oj j 2 (by omega)) (oj j 3 (by omega))
        have a4 := c_X6_placeOf (X := X) (o := o) (B := B) (S := sr T (cpy q q (696 + 242 * p + 2 + gPl r n) (336 + gPl r n) j)) hl w3.1 (p := n) (by omega) (by omega)
        have a5 := c_X6_partLength (X := X) (o := o) (B := B) (S := sr T (cpy q q (696 + 242 * p + 2 + gPl r n) (336 + gPl r n) j)) hl w3.1 (p := n) (by omega) (by rw [sr_0, gj.2.2.2.2.2.1]; omega)
        rw [sr_0, gj.2.2.2.2.2.2.2.1] at a4
        rw [sr_0, gj.2.2.2.2.2.2.2.2] at a5
        have c := cpy_s (r := q) (q := q) (f := 696 + 242 * p + 2 + gPl r n) (t := 336 + gPl r n) (n := j) (by omega)
        have e1 : ((j + 1 : Nat) : Int) = (j : Int) + 1 := rfl
        rw [e1, ← c] at ih2
        have c2 : cpy q q (696 + 242 * p + 2 + gPl r n) (336 + gPl r n) j (696 + 242 * p + 2 + gPl r n + j) = q (696 + 242 * p + 2 + gPl r n + j) := by
          unfold cpy
          rw [if_neg (by omega)]
        refine k_X6_resume_100 ⟨mp_isO, a4.cl0 (by decide) ?_⟩
        simp (disch := omega) only [sr_0, sr_sr, sr_st, true_implies, false_implies, not_true_eq_false, not_false_eq_true, I_n, I_neg, I_add, I_sub, I_mul, I_le4, I_lt4, I_eq4, I_div4, I_bi0, I_bi01, I_bi1, nor_em, rI_of, rV_of, zI_of, zV_of, nz_and, br_T, br_F, br_T2, br_F2, st_eq, st9_0, st_k, st_i, true_and, and_true, Classical.not_not, mp_isO, mp_gI4, mp_gI5, mp_gI7, mp_gI8, mp_gI9, mp_gI10, mp_gI11, mp_gI12, mp_gI13, mp_gI14, mp_gI15, mp_gI19, mp_gI20, mp_gI21, mp_gI23, mp_pI4, mp_pI5, mp_pI7, mp_pI8, mp_pI9, mp_pI10, mp_pI11, mp_pI12, mp_pI13, mp_pI14, mp_pI15, mp_pI19, mp_pI20, mp_pI21, mp_pI23, mp_gR0, mp_gR1, mp_gR2, mp_gR3, mp_gR6, mp_gR16, mp_gR17, mp_gR18, mp_gR22, mp_aI0, mp_aI1, mp_aI2, mp_aI3, mp_aI4, mp_aI5, mp_aI6, mp_aZ7, mp_aI8, mp_sI0, mp_sI1, mp_sI2, mp_sI3, mp_sI4, mp_sI5, mp_sI6, mp_sI8, mp_sZ0, mp_sZ1]
        refine a5.cl0 (by decide) ?_
        simp (disch := omega) only [sr_0, sr_sr, sr_st, true_implies, false_implies, not_true_eq_false, not_false_eq_true, I_n, I_neg, I_add, I_sub, I_mul, I_le4, I_lt4, I_eq4, I_div4, I_bi0, I_bi01, I_bi1, nor_em, rI_of, rV_of, zI_of, zV_of, nz_and, br_T, br_F, br_T2, br_F2, st_eq, st9_0, st_k, st_i, true_and, and_true, Classical.not_not, mp_isO, mp_gI4, mp_gI5, mp_gI7, mp_gI8, mp_gI9, mp_gI10, mp_gI11, mp_gI12, mp_gI13, mp_gI14, mp_gI15, mp_gI19, mp_gI20, mp_gI21, mp_gI23, mp_pI4, mp_pI5, mp_pI7, mp_pI8, mp_pI9, mp_pI10, mp_pI11, mp_pI12, mp_pI13, mp_pI14, mp_pI15, mp_pI19, mp_pI20, mp_pI21, mp_pI23, mp_gR0, mp_gR1, mp_gR2, mp_gR3, mp_gR6, mp_gR16, mp_gR17, mp_gR18, mp_gR22, mp_aI0, mp_aI1, mp_aI2, mp_aI3, mp_aI4, mp_aI5, mp_aI6, mp_aZ7, mp_aI8, mp_sI0, mp_sI1, mp_sI2, mp_sI3, mp_sI4, mp_sI5, mp_sI6, mp_sI8, mp_sZ0, mp_sZ1]
        rw [← Int.add_assoc (696 + 242 * p + 2), c2, ← Int.add_assoc 336, Int.add_assoc (gPl r n)]
        exact ih2
theorem L_resume2 (hl : l.stackTraces = false) {Q : Ot → AH → Prop} {p : Int} (h0 : 0 ≤ p) (h4 : p < 4) : ∀ (m : Nat) (k : Int) (r : Int → Int) (e : Int), RW r e → e + m + 10 ≤ 2000000000 → p < r 9 → 0 ≤ k → k + m = gN r →
    Q (Ri (I (gIn (rGo (rJs m k r) p) 1))) (mp X o B (sr T (rGo (rJs m k r) p))) →
    G l X M_X6_resume 5 Q 166 [(0, .ref o), (1, .int (I p)), (4, .int (I k))] [] (mp X o B (sr T r)) 0 0 := by
  intro m
  induction m with
  | zero =>
    intro k r e w he h1 k0 k1 K
    obtain ⟨n1, n2, -⟩ := gN_b w.1
    have ap := c_X6_pieces (X := X) (o := o) (B := B) (S := sr T r) hl w.1
    rw [sr_0] at ap
    have ag := c_X6_goes (X := X) (o := o) (B := B) (S := sr T r) (e := e) (p := p) hl w h0 h1
    rw [sr_0, sr_sr] at ag
    have ai := c_X6_piecesIn (X := X) (o := o) (B := B) (S := sr T (rGo r p)) (e := e) (v := 1) hl (rGo_w w h0 h1) ⟨by omega, by omega⟩
    rw [sr_0] at ai
    refine k_X6_resume_166 ⟨mp_isO, ap.cl0 (by decide) ?_⟩
    simp (disch := omega) only [sr_0, sr_sr, sr_st, true_implies, false_implies, not_true_eq_false, not_false_eq_true, I_n, I_neg, I_add, I_sub, I_mul, I_le4, I_lt4, I_eq4, I_div4, I_bi0, I_bi01, I_bi1, nor_em, rI_of, rV_of, zI_of, zV_of, nz_and, br_T, br_F, br_T2, br_F2, st_eq, st9_0, st_k, st_i, true_and, and_true, Classical.not_not, mp_isO, mp_gI4, mp_gI5, mp_gI7, mp_gI8, mp_gI9, mp_gI10, mp_gI11, mp_gI12, mp_gI13, mp_gI14, mp_gI15, mp_gI19, mp_gI20, mp_gI21, mp_gI23, mp_pI4, mp_pI5, mp_pI7, mp_pI8, mp_pI9, mp_pI10, mp_pI11, mp_pI12, mp_pI13, mp_pI14, mp_pI15, mp_pI19, mp_pI20, mp_pI21, mp_pI23, mp_gR0, mp_gR1, mp_gR2, mp_gR3, mp_gR6, mp_gR16, mp_gR17, mp_gR18, mp_gR22, mp_aI0, mp_aI1, mp_aI2, mp_aI3, mp_aI4, mp_aI5, mp_aI6, mp_aZ7, mp_aI8, mp_sI0, mp_sI1, mp_sI2, mp_sI3, mp_sI4, mp_sI5, mp_sI6, mp_sI8, mp_sZ0, mp_sZ1]
    refine ag.cl0 (by decide) ?_
    simp (disch := omega) only [sr_0, sr_sr, sr_st, true_implies, false_implies, not_true_eq_false, not_false_eq_true, I_n, I_neg, I_add, I_sub, I_mul, I_le4, I_lt4, I_eq4, I_div4, I_bi0, I_bi01, I_bi1, nor_em, rI_of, rV_of, zI_of, zV_of, nz_and, br_T, br_F, br_T2, br_F2, st_eq, st9_0, st_k, st_i, true_and, and_true, Classical.not_not, mp_isO, mp_gI4, mp_gI5, mp_gI7, mp_gI8, mp_gI9, mp_gI10, mp_gI11, mp_gI12, mp_gI13, mp_gI14, mp_gI15, mp_gI19, mp_gI20, mp_gI21, mp_gI23, mp_pI4, mp_pI5, mp_pI7, mp_pI8, mp_pI9, mp_pI10, mp_pI11, mp_pI12, mp_pI13, mp_pI14, mp_pI15, mp_pI19, mp_pI20, mp_pI21, mp_pI23, mp_gR0, mp_gR1, mp_gR2, mp_gR3, mp_gR6, mp_gR16, mp_gR17, mp_gR18, mp_gR22, mp_aI0, mp_aI1, mp_aI2, mp_aI3, mp_aI4, mp_aI5, mp_aI6, mp_aZ7, mp_aI8, mp_sI0, mp_sI1, mp_sI2, mp_sI3, mp_sI4, mp_sI5, mp_sI6, mp_sI8, mp_sZ0, mp_sZ1]
    refine ai.cl0 (by decide) ?_
    simp (disch := omega) only [sr_0, sr_sr, sr_st, true_implies, false_implies, not_true_eq_false, not_false_eq_true, I_n, I_neg, I_add, I_sub, I_mul, I_le4, I_lt4, I_eq4, I_div4, I_bi0, I_bi01, I_bi1, nor_em, rI_of, rV_of, zI_of, zV_of, nz_and, br_T, br_F, br_T2, br_F2, st_eq, st9_0, st_k, st_i, true_and, and_true, Classical.not_not, mp_isO, mp_gI4, mp_gI5, mp_gI7, mp_gI8, mp_gI9, mp_gI10, mp_gI11, mp_gI12, mp_gI13, mp_gI14, mp_gI15, mp_gI19, mp_gI20, mp_gI21, mp_gI23, mp_pI4, mp_pI5, mp_pI7, mp_pI8, mp_pI9, mp_pI10, mp_pI11, mp_pI12, mp_pI13, mp_pI14, mp_pI15, mp_pI19, mp_pI20, mp_pI21, mp_pI23, mp_gR0, mp_gR1, mp_gR2, mp_gR3, mp_gR6, mp_gR16, mp_gR17, mp_gR18, mp_gR22, mp_aI0, mp_aI1, mp_aI2, mp_aI3, mp_aI4, mp_aI5, mp_aI6, mp_aZ7, mp_aI8, mp_sI0, mp_sI1, mp_sI2, mp_sI3, mp_sI4, mp_sI5, mp_sI6, mp_sI8, mp_sZ0, mp_sZ1]
    exact K
  | succ m ih =>
    intro k r e w he h1 k0 k1 K
    obtain ⟨n1, n2, -⟩ := gN_b w.1
    have ap := c_X6_pieces (X := X) (o := o) (B := B) (S := sr T r) hl w.1
    rw [sr_0] at ap
    have o2 : ∀ y, y < 7 ∨ 7 < y ∧ y < 576 ∨ 696 ≤ y → rJ r k y = r y := fun y hy => rJ_o w hy
    have hc := geo_c (o2 0 (by omega)) (o2 2 (by omega)) (o2 3 (by omega))
    refine k_X6_resume_166 ⟨mp_isO, ap.cl0 (by decide) ?_⟩
    simp (disch := omega) only [sr_0, sr_sr, sr_st, true_implies, false_implies, not_true_eq_false, not_false_eq_true, I_n, I_neg, I_add, I_sub, I_mul, I_le4, I_lt4, I_eq4, I_div4, I_bi0, I_bi01, I_bi1, nor_em, rI_of, rV_of, zI_of, zV_of, nz_and, br_T, br_F, br_T2, br_F2, st_eq, st9_0, st_k, st_i, true_and, and_true, Classical.not_not, mp_isO, mp_gI4, mp_gI5, mp_gI7, mp_gI8, mp_gI9, mp_gI10, mp_gI11, mp_gI12, mp_gI13, mp_gI14, mp_gI15, mp_gI19, mp_gI20, mp_gI21, mp_gI23, mp_pI4, mp_pI5, mp_pI7, mp_pI8, mp_pI9, mp_pI10, mp_pI11, mp_pI12, mp_pI13, mp_pI14, mp_pI15, mp_pI19, mp_pI20, mp_pI21, mp_pI23, mp_gR0, mp_gR1, mp_gR2, mp_gR3, mp_gR6, mp_gR16, mp_gR17, mp_gR18, mp_gR22, mp_aI0, mp_aI1, mp_aI2, mp_aI3, mp_aI4, mp_aI5, mp_aI6, mp_aZ7, mp_aI8, mp_sI0, mp_sI1, mp_sI2, mp_sI3, mp_sI4, mp_sI5, mp_sI6, mp_sI8, mp_sZ0, mp_sZ1]
    refine (c_X6_judges2 (q := r) hl w (by omega) (by omega)).cl0 (by decide) ?_
    simp (disch := omega) only [sr_0, sr_sr, sr_st, true_implies, false_implies, not_true_eq_false, not_false_eq_true, I_n, I_neg, I_add, I_sub, I_mul, I_le4, I_lt4, I_eq4, I_div4, I_bi0, I_bi01, I_bi1, nor_em, rI_of, rV_of, zI_of, zV_of, nz_and, br_T, br_F, br_T2, br_F2, st_eq, st9_0, st_k, st_i, true_and, and_true, Classical.not_not, mp_isO, mp_gI4, mp_gI5, mp_gI7, mp_gI8, mp_gI9, mp_gI10, mp_gI11, mp_gI12, mp_gI13, mp_gI14, mp_gI15, mp_gI19, mp_gI20, mp_gI21, mp_gI23, mp_pI4, mp_pI5, mp_pI7, mp_pI8, mp_pI9, mp_pI10, mp_pI11, mp_pI12, mp_pI13, mp_pI14, mp_pI15, mp_pI19, mp_pI20, mp_pI21, mp_pI23, mp_gR0, mp_gR1, mp_gR2, mp_gR3, mp_gR6, mp_gR16, mp_gR17, mp_gR18, mp_gR22, mp_aI0, mp_aI1, mp_aI2, mp_aI3, mp_aI4, mp_aI5, mp_aI6, mp_aZ7, mp_aI8, mp_sI0, mp_sI1, mp_sI2, mp_sI3, mp_sI4, mp_sI5, mp_sI6, mp_sI8, mp_sZ0, mp_sZ1]
    exact ih (k + 1) (rJ r k) (e + 1) (rJ_w w (by omega) (by omega)) (by omega) (by rw [o2 9 (by omega)]; exact h1) (by omega) (by rw [hc.1]; omega) K
theorem c_X6_resume (hl : l.stackTraces = false) (w : RW (S 0) e) (he : e + 1000 ≤ 2000000000) (hm : 0 ≤ S 9 4 ∧ S 9 4 ≤ 8) {p : Int} (hp : sm p) : Fn l X 5 M_X6_resume [.ref o, .int (I p)] (mp X o B S) 0 0 (Ri (I (if tRes (S 0) p = 0 then gIn (rRes (S 0) p) 1 else 0))) (mp X o B (if tRes (S 0) p = 0 then sr (kS (st S 9 5 0)) (rRes (S 0) p) else st S 9 5 (tRes (S 0) p))) := by
  have g := w.1
  obtain ⟨t1, t2⟩ := gT_b g
  obtain ⟨n1, n2, -⟩ := gN_b g
  have lg := g.2.1
  have hms : 0 ≤ gMs (S 0) ∧ gMs (S 0) ≤ (gT (S 0)).toNat := sg_bi
  obtain ⟨t, ht⟩ : ∃ t, t = tRes (S 0) p := ⟨_, rfl⟩
  rw [← ht]
  have bad : t = 1 ∨ t = 2 → G l X M_X6_resume 5 (fun o' A1 => o' = Ri (I (if t = 0 then gIn (rRes (S 0) p) 1 else 0)) ∧ A1 = mp X o B (if t = 0 then sr (kS (st S 9 5 0)) (rRes (S 0) p) else st S 9 5 t)) 29 [(0, .ref o), (1, .int (I p))] [.int (I t), .ref o] (mp X o B S) 0 0 := by
    intro h12
    refine k_X6_resume_29 ?_
    simp (disch := omega) only [I_n, I_neg, I_add, I_sub, I_mul, I_le4, I_lt4, I_eq4, I_div4, I_bi0, I_bi01, I_bi1, nor_em, rI_of, rV_of, zI_of, zV_of, nz_and, br_T, br_F, br_T2, br_F2, st_eq, st9_0, st_k, st_i, true_and, and_true, Classical.not_not, mp_isO, mp_gI4, mp_gI5, mp_gI7, mp_gI8, mp_gI9, mp_gI10, mp_gI11, mp_gI12, mp_gI13, mp_gI14, mp_gI15, mp_gI19, mp_gI20, mp_gI21, mp_gI23, mp_pI4, mp_pI5, mp_pI7, mp_pI8, mp_pI9, mp_pI10, mp_pI11, mp_pI12, mp_pI13, mp_pI14, mp_pI15, mp_pI19, mp_pI20, mp_pI21, mp_pI23, mp_gR0, mp_gR1, mp_gR2, mp_gR3, mp_gR6, mp_gR16, mp_gR17, mp_gR18, mp_gR22, mp_aI0, mp_aI1, mp_aI2, mp_aI3, mp_aI4, mp_aI5, mp_aI6, mp_aZ7, mp_aI8, mp_sI0, mp_sI1, mp_sI2, mp_sI3, mp_sI4, mp_sI5, mp_sI6, mp_sI8, mp_sZ0, mp_sZ1]
    rw [if_neg (by omega), if_neg (by omega)]
    all_goals first | rfl | exact ⟨rfl, rfl⟩
  refine Fn.of hl rfl rfl (Nat.le_of_ble_eq_true rfl) (k_X6_resume_0 ⟨mp_isO, (c_X6_isPartial hl w hp).cl0 (by decide) ?_⟩)
  simp (disch := omega) only [I_n, I_neg, I_add, I_sub, I_mul, I_le4, I_lt4, I_eq4, I_div4, I_bi0, I_bi01, I_bi1, nor_em, rI_of, rV_of, zI_of, zV_of, nz_and, br_T, br_F, br_T2, br_F2, st_eq, st9_0, st_k, st_i, true_and, and_true, Classical.not_not, mp_isO, mp_gI4, mp_gI5, mp_gI7, mp_gI8, mp_gI9, mp_gI10, mp_gI11, mp_gI12, mp_gI13, mp_gI14, mp_gI15, mp_gI19, mp_gI20, mp_gI21, mp_gI23, mp_pI4, mp_pI5, mp_pI7, mp_pI8, mp_pI9, mp_pI10, mp_pI11, mp_pI12, mp_pI13, mp_pI14, mp_pI15, mp_pI19, mp_pI20, mp_pI21, mp_pI23, mp_gR0, mp_gR1, mp_gR2, mp_gR3, mp_gR6, mp_gR16, mp_gR17, mp_gR18, mp_gR22, mp_aI0, mp_aI1, mp_aI2, mp_aI3, mp_aI4, mp_aI5, mp_aI6, mp_aZ7, mp_aI8, mp_sI0, mp_sI1, mp_sI2, mp_sI3, mp_sI4, mp_sI5, mp_sI6, mp_sI8, mp_sZ0, mp_sZ1]
  refine ⟨fun h => ?_, fun h => ?_⟩
  · have c3 := w.2.2.2.1
    refine (c_X6_missing hl w).cl0 (by decide) ?_
    simp (disch := omega) only [I_n, I_neg, I_add, I_sub, I_mul, I_le4, I_lt4, I_eq4, I_div4, I_bi0, I_bi01, I_bi1, nor_em, rI_of, rV_of, zI_of, zV_of, nz_and, br_T, br_F, br_T2, br_F2, st_eq, st9_0, st_k, st_i, true_and, and_true, Classical.not_not, mp_isO, mp_gI4, mp_gI5, mp_gI7, mp_gI8, mp_gI9, mp_gI10, mp_gI11, mp_gI12, mp_gI13, mp_gI14, mp_gI15, mp_gI19, mp_gI20, mp_gI21, mp_gI23, mp_pI4, mp_pI5, mp_pI7, mp_pI8, mp_pI9, mp_pI10, mp_pI11, mp_pI12, mp_pI13, mp_pI14, mp_pI15, mp_pI19, mp_pI20, mp_pI21, mp_pI23, mp_gR0, mp_gR1, mp_gR2, mp_gR3, mp_gR6, mp_gR16, mp_gR17, mp_gR18, mp_gR22, mp_aI0, mp_aI1, mp_aI2, mp_aI3, mp_aI4, mp_aI5, mp_aI6, mp_aZ7, mp_aI8, mp_sI0, mp_sI1, mp_sI2, mp_sI3, mp_sI4, mp_sI5, mp_sI6, mp_sI8, mp_sZ0, mp_sZ1]
    refine (c_X6_parts hl g).cl0 (by decide) ?_
    simp (disch := omega) only [I_n, I_neg, I_add, I_sub, I_mul, I_le4, I_lt4, I_eq4, I_div4, I_bi0, I_bi01, I_bi1, nor_em, rI_of, rV_of, zI_of, zV_of, nz_and, br_T, br_F, br_T2, br_F2, st_eq, st9_0, st_k, st_i, true_and, and_true, Classical.not_not, mp_isO, mp_gI4, mp_gI5, mp_gI7, mp_gI8, mp_gI9, mp_gI10, mp_gI11, mp_gI12, mp_gI13, mp_gI14, mp_gI15, mp_gI19, mp_gI20, mp_gI21, mp_gI23, mp_pI4, mp_pI5, mp_pI7, mp_pI8, mp_pI9, mp_pI10, mp_pI11, mp_pI12, mp_pI13, mp_pI14, mp_pI15, mp_pI19, mp_pI20, mp_pI21, mp_pI23, mp_gR0, mp_gR1, mp_gR2, mp_gR3, mp_gR6, mp_gR16, mp_gR17, mp_gR18, mp_gR22, mp_aI0, mp_aI1, mp_aI2, mp_aI3, mp_aI4, mp_aI5, mp_aI6, mp_aZ7, mp_aI8, mp_sI0, mp_sI1, mp_sI2, mp_sI3, mp_sI4, mp_sI5, mp_sI6, mp_sI8, mp_sZ0, mp_sZ1]
    refine ⟨fun h2 => ?_, fun h2 => ?_⟩
    · have e2 : tRes (S 0) p = 0 := tr2_0 h h2
      have h4 : p < 4 := by omega
      have h1 : p < S 0 9 := by omega
      obtain ⟨b1, b2, b3⟩ := rRes_w w he h.1 h1
      obtain ⟨a1, a2, a3, a4⟩ := rRe_w h.1 (gT (S 0)).toNat 0 (S 0) e w h1 (by omega) (by omega)
      rw [ht, e2, if_pos rfl, if_pos rfl]
      refine k_X6_resume_29 ?_
      simp (disch := omega) only [I_n, I_neg, I_add, I_sub, I_mul, I_le4, I_lt4, I_eq4, I_div4, I_bi0, I_bi01, I_bi1, nor_em, rI_of, rV_of, zI_of, zV_of, nz_and, br_T, br_F, br_T2, br_F2, st_eq, st9_0, st_k, st_i, true_and, and_true, Classical.not_not, mp_isO, mp_gI4, mp_gI5, mp_gI7, mp_gI8, mp_gI9, mp_gI10, mp_gI11, mp_gI12, mp_gI13, mp_gI14, mp_gI15, mp_gI19, mp_gI20, mp_gI21, mp_gI23, mp_pI4, mp_pI5, mp_pI7, mp_pI8, mp_pI9, mp_pI10, mp_pI11, mp_pI12, mp_pI13, mp_pI14, mp_pI15, mp_pI19, mp_pI20, mp_pI21, mp_pI23, mp_gR0, mp_gR1, mp_gR2, mp_gR3, mp_gR6, mp_gR16, mp_gR17, mp_gR18, mp_gR22, mp_aI0, mp_aI1, mp_aI2, mp_aI3, mp_aI4, mp_aI5, mp_aI6, mp_aZ7, mp_aI8, mp_sI0, mp_sI1, mp_sI2, mp_sI3, mp_sI4, mp_sI5, mp_sI6, mp_sI8, mp_sZ0, mp_sZ1]
      refine (c_X6_keeps (S := st S 9 5 0) hl (by rw [st_k (by decide)]; exact hm)).cl0 (by decide) ?_
      rw [← sr_kS]
      obtain ⟨T, hT⟩ : ∃ T, T = kS (st S 9 5 0) := ⟨_, rfl⟩
      rw [← hT]
      simp (disch := omega) only [sr_0, sr_sr, sr_st, true_implies, false_implies, not_true_eq_false, not_false_eq_true, I_n, I_neg, I_add, I_sub, I_mul, I_le4, I_lt4, I_eq4, I_div4, I_bi0, I_bi01, I_bi1, nor_em, rI_of, rV_of, zI_of, zV_of, nz_and, br_T, br_F, br_T2, br_F2, st_eq, st9_0, st_k, st_i, true_and, and_true, Classical.not_not, mp_isO, mp_gI4, mp_gI5, mp_gI7, mp_gI8, mp_gI9, mp_gI10, mp_gI11, mp_gI12, mp_gI13, mp_gI14, mp_gI15, mp_gI19, mp_gI20, mp_gI21, mp_gI23, mp_pI4, mp_pI5, mp_pI7, mp_pI8, mp_pI9, mp_pI10, mp_pI11, mp_pI12, mp_pI13, mp_pI14, mp_pI15, mp_pI19, mp_pI20, mp_pI21, mp_pI23, mp_gR0, mp_gR1, mp_gR2, mp_gR3, mp_gR6, mp_gR16, mp_gR17, mp_gR18, mp_gR22, mp_aI0, mp_aI1, mp_aI2, mp_aI3, mp_aI4, mp_aI5, mp_aI6, mp_aZ7, mp_aI8, mp_sI0, mp_sI1, mp_sI2, mp_sI3, mp_sI4, mp_sI5, mp_sI6, mp_sI8, mp_sZ0, mp_sZ1]
      refine (c_X6_file hl).cl0 (by decide) ?_
      simp (disch := omega) only [sr_0, sr_sr, sr_st, true_implies, false_implies, not_true_eq_false, not_false_eq_true, I_n, I_neg, I_add, I_sub, I_mul, I_le4, I_lt4, I_eq4, I_div4, I_bi0, I_bi01, I_bi1, nor_em, rI_of, rV_of, zI_of, zV_of, nz_and, br_T, br_F, br_T2, br_F2, st_eq, st9_0, st_k, st_i, true_and, and_true, Classical.not_not, mp_isO, mp_gI4, mp_gI5, mp_gI7, mp_gI8, mp_gI9, mp_gI10, mp_gI11, mp_gI12, mp_gI13, mp_gI14, mp_gI15, mp_gI19, mp_gI20, mp_gI21, mp_gI23, mp_pI4, mp_pI5, mp_pI7, mp_pI8, mp_pI9, mp_pI10, mp_pI11, mp_pI12, mp_pI13, mp_pI14, mp_pI15, mp_pI19, mp_pI20, mp_pI21, mp_pI23, mp_gR0, mp_gR1, mp_gR2, mp_gR3, mp_gR6, mp_gR16, mp_gR17, mp_gR18, mp_gR22, mp_aI0, mp_aI1, mp_aI2, mp_aI3, mp_aI4, mp_aI5, mp_aI6, mp_aZ7, mp_aI8, mp_sI0, mp_sI1, mp_sI2, mp_sI3, mp_sI4, mp_sI5, mp_sI6, mp_sI8, mp_sZ0, mp_sZ1]
      refine L_resume hl h.1 h4 (gT (S 0)).toNat 0 (S 0) e w h1 (by omega) (by omega) ?_
      have hgl := RW_gl a1
      refine k_X6_resume_150 ?_
      simp (disch := omega) only [sr_0, sr_sr, sr_st, true_implies, false_implies, not_true_eq_false, not_false_eq_true, I_n, I_neg, I_add, I_sub, I_mul, I_le4, I_lt4, I_eq4, I_div4, I_bi0, I_bi01, I_bi1, nor_em, rI_of, rV_of, zI_of, zV_of, nz_and, br_T, br_F, br_T2, br_F2, st_eq, st9_0, st_k, st_i, true_and, and_true, Classical.not_not, mp_isO, mp_gI4, mp_gI5, mp_gI7, mp_gI8, mp_gI9, mp_gI10, mp_gI11, mp_gI12, mp_gI13, mp_gI14, mp_gI15, mp_gI19, mp_gI20, mp_gI21, mp_gI23, mp_pI4, mp_pI5, mp_pI7, mp_pI8, mp_pI9, mp_pI10, mp_pI11, mp_pI12, mp_pI13, mp_pI14, mp_pI15, mp_pI19, mp_pI20, mp_pI21, mp_pI23, mp_gR0, mp_gR1, mp_gR2, mp_gR3, mp_gR6, mp_gR16, mp_gR17, mp_gR18, mp_gR22, mp_aI0, mp_aI1, mp_aI2, mp_aI3, mp_aI4, mp_aI5, mp_aI6, mp_aZ7, mp_aI8, mp_sI0, mp_sI1, mp_sI2, mp_sI3, mp_sI4, mp_sI5, mp_sI6, mp_sI8, mp_sZ0, mp_sZ1]
      refine (c_X6_tells (S := sr T (rRe p (gT (S 0)).toNat 0 (S 0)).1) hl hgl.1 (by rw [sr_0]; omega)).cl0 (by decide) ?_
      simp (disch := omega) only [sr_0, sr_sr, sr_st, true_implies, false_implies, not_true_eq_false, not_false_eq_true, I_n, I_neg, I_add, I_sub, I_mul, I_le4, I_lt4, I_eq4, I_div4, I_bi0, I_bi01, I_bi1, nor_em, rI_of, rV_of, zI_of, zV_of, nz_and, br_T, br_F, br_T2, br_F2, st_eq, st9_0, st_k, st_i, true_and, and_true, Classical.not_not, mp_isO, mp_gI4, mp_gI5, mp_gI7, mp_gI8, mp_gI9, mp_gI10, mp_gI11, mp_gI12, mp_gI13, mp_gI14, mp_gI15, mp_gI19, mp_gI20, mp_gI21, mp_gI23, mp_pI4, mp_pI5, mp_pI7, mp_pI8, mp_pI9, mp_pI10, mp_pI11, mp_pI12, mp_pI13, mp_pI14, mp_pI15, mp_pI19, mp_pI20, mp_pI21, mp_pI23, mp_gR0, mp_gR1, mp_gR2, mp_gR3, mp_gR6, mp_gR16, mp_gR17, mp_gR18, mp_gR22, mp_aI0, mp_aI1, mp_aI2, mp_aI3, mp_aI4, mp_aI5, mp_aI6, mp_aZ7, mp_aI8, mp_sI0, mp_sI1, mp_sI2, mp_sI3, mp_sI4, mp_sI5, mp_sI6, mp_sI8, mp_sZ0, mp_sZ1]
      have hc := geo_c (b2 0 (by omega)) (b2 2 (by omega)) (b2 3 (by omega))
      exact L_resume2 hl h.1 h4 (gN (S 0)).toNat 0 _ (e + 1) b1 (by omega) (by rw [b2 9 (by omega)]; exact h1) (by omega) (by rw [hc.1]; omega) ⟨rfl, rfl⟩
    · have e2 : tRes (S 0) p = 2 := tr2_2 h h2
      have b := bad (Or.inr (by rw [ht, e2]))
      rw [ht, e2] at b ⊢
      exact b
  · have e2 : tRes (S 0) p = 1 := tr2_1 h
    have b := bad (Or.inl (by rw [ht, e2]))
    rw [ht, e2] at b ⊢
    exact b
end MZI
