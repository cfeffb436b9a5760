/-! the reference's sums and verdicts -/
def gMi (r : Int → Int) (k : Int) : Int := sg (fun j => bi (r (96 + (gF r k + j)) = 0)) (gPo r k).toNat
/-- what a row holds, all a run long; e bounds the counters -/
def RW (r : Int → Int) (e : Int) : Prop :=
  GW r ∧ (0 ≤ r 1 ∧ r 1 ≤ 999) ∧ (1 ≤ r 4 ∧ r 4 ≤ 99) ∧ (0 ≤ r 9 ∧ r 9 ≤ 4 ∧ 0 ≤ r 10 ∧ r 10 ≤ 12 ∧ 0 ≤ r 11 ∧ r 11 ≤ 12 ∧ 0 ≤ r 12 ∧ r 12 ≤ 8) ∧
  (0 ≤ r 13 ∧ r 13 ≤ 1 ∧ 0 ≤ r 14 ∧ r 14 ≤ 1 ∧ 0 ≤ r 15 ∧ r 15 ≤ 1) ∧
  (0 ≤ r 5 ∧ r 5 ≤ e ∧ 0 ≤ r 6 ∧ r 6 ≤ e ∧ 0 ≤ r 7 ∧ r 7 ≤ e ∧ 0 ≤ r 8 ∧ r 8 ≤ e ∧ 0 ≤ r 16 ∧ r 16 ≤ e ∧ 0 ≤ r 17 ∧ r 17 ≤ e ∧ 0 ≤ r 18 ∧ r 18 ≤ e ∧ 0 ≤ r 19 ∧ r 19 ≤ e) ∧
  (∀ f, 0 ≤ f → f < r 10 → 0 ≤ r (20 + 2 * f) ∧ r (20 + 2 * f) ≤ 239 ∧ 1 ≤ r (20 + 2 * f + 1) ∧ r (20 + 2 * f + 1) ≤ 255) ∧
  (∀ b, 0 ≤ b → b < r 11 → 1 ≤ r (44 + 3 * b) ∧ r (44 + 3 * b) ≤ 999 ∧ 0 ≤ r (44 + 3 * b + 1) ∧ r (44 + 3 * b + 1) ≤ 47 ∧ 1 ≤ r (44 + 3 * b + 2) ∧ r (44 + 3 * b + 2) ≤ 255) ∧
  (∀ c, 0 ≤ c → c < r 12 → 0 ≤ r (80 + 2 * c) ∧ r (80 + 2 * c) ≤ 1 ∧ 1 ≤ r (80 + 2 * c + 1) ∧ r (80 + 2 * c + 1) ≤ 999) ∧
  (∀ p, 0 ≤ p → p < 240 → 0 ≤ r (96 + p) ∧ r (96 + p) ≤ 3) ∧ (∀ k, 0 ≤ k → k < 240 → 0 ≤ r (336 + k) ∧ r (336 + k) ≤ 255) ∧
  (∀ k, 0 ≤ k → k < 40 → 0 ≤ r (576 + 3 * k) ∧ r (576 + 3 * k) ≤ 8 ∧ 0 ≤ r (576 + 3 * k + 1) ∧ r (576 + 3 * k + 1) ≤ 999 ∧ 0 ≤ r (576 + 3 * k + 2) ∧ r (576 + 3 * k + 2) ≤ e + 240) ∧
  (∀ i, 0 ≤ i → i < r 9 → 0 ≤ r (696 + 242 * i) ∧ r (696 + 242 * i) ≤ 999 ∧ 0 ≤ r (696 + 242 * i + 1) ∧ r (696 + 242 * i + 1) ≤ 240) ∧
  (∀ i k, 0 ≤ i → i < 4 → 0 ≤ k → k < 240 → 0 ≤ r (696 + 242 * i + 2 + k) ∧ r (696 + 242 * i + 2 + k) ≤ 255) ∧
  (0 ≤ e ∧ e ≤ 2000000000) ∧ (∀ k, 0 ≤ k → k < 1664 → -2147483648 ≤ r k ∧ r k < 2147483648)
def gB (r : Int → Int) (s x : Int) : Int := ((r 1 + 37 * x + x * x / 5) % 251 + (if s = 1 then sg (fun f => if r (20 + 2 * f) = x then r (20 + 2 * f + 1) else 0) (r 10).toNat else 0)) % 256
def gS (r : Int → Int) (s x n : Int) : Int := sg (fun j => (j + 1) * gB r s (x + j)) n.toNat % 9973
def gR' (r : Int → Int) (x n : Int) : Int := sg (fun j => (j + 1) * r (x + j)) n.toNat % 9973
def gV (r : Int → Int) (k : Int) : Int := if 0 < gMi r k then 0 else if gR' r (336 + r 2 * k) (gLen r k) = gS r 0 (r 2 * k) (gLen r k) then 1 else 2
theorem sg_bi {f : Int → Prop} [∀ x, Decidable (f x)] {n : Nat} : 0 ≤ sg (fun j => bi (f j)) n ∧ sg (fun j => bi (f j)) n ≤ n := by
  constructor
  · exact sg_nn fun k _ => bi_b.1
  · have := sg_le (f := fun j => bi (f j)) (n := n) (c := 1) fun k _ => bi_b.2
    omega
section MS
variable {l : Launch} {X : XT} {o : Nat} {B A : AH} {S : Nat → Int → Int} {e : Int}
theorem c_X6_missingIn (hl : l.stackTraces = false) (w : RW (S 0) e) {k : Int} (h0 : 0 ≤ k) (h1 : k < gN (S 0)) : Fn l X 2 M_X6_missingIn [.ref o, .int (I k)] (mp X o B S) 0 0 (Ri (I (gMi (S 0) k))) (mp X o B S) := by
  have g := w.1
  obtain ⟨p1, p2, p3, p4, p5⟩ := gPo_b g h0 h1
  obtain ⟨e1, e2, e3⟩ := gE_b g
  obtain ⟨f1, f2⟩ := gF_b g h0 h1
  obtain ⟨t1, t2⟩ := gT_b g
  have t3 := g.2.1
  have ho := w.2.2.2.2.2.2.2.2.2.1
  refine Fn.of hl rfl rfl (Nat.le_of_ble_eq_true rfl) (k_X6_missingIn_0 ?_)
  simp only [I_n]
  refine up_to (n := (gPo (S 0) k).toNat) (P := fun j => G l X M_X6_missingIn 2 (fun o' A1 => o' = Ri (I (gMi (S 0) k)) ∧ A1 = mp X o B S) 4 [(0, .ref o), (1, .int (I k)), (2, .int (I (sg (fun j => bi (S 0 (96 + (gF (S 0) k + j)) = 0)) j))), (3, .int (I j))] [] (mp X o B S) 0 0) ?_ ?_
  · refine k_X6_missingIn_4 ⟨mp_isO, (c_X6_partsOf hl g h0 h1).cl0 (by decide) ?_⟩
    simp (disch := omega) only [I_n, I_neg, I_add, I_sub, I_mul, I_le4, I_lt4, I_eq4, I_div4, I_bi0, I_bi01, I_bi1, nor_em, rI_of, rV_of, zI_of, zV_of, nz_and, br_T, br_F, br_T2, br_F2, st_eq, st9_0, st_k, st_i, true_and, and_true, Classical.not_not, mp_isO, mp_gI4, mp_gI5, mp_gI7, mp_gI8, mp_gI9, mp_gI10, mp_gI11, mp_gI12, mp_gI13, mp_gI14, mp_gI15, mp_gI19, mp_gI20, mp_gI21, mp_gI23, mp_pI4, mp_pI5, mp_pI7, mp_pI8, mp_pI9, mp_pI10, mp_pI11, mp_pI12, mp_pI13, mp_pI14, mp_pI15, mp_pI19, mp_pI20, mp_pI21, mp_pI23, mp_gR0, mp_gR1, mp_gR2, mp_gR3, mp_gR6, mp_gR16, mp_gR17, mp_gR18, mp_gR22, mp_aI0, mp_aI1, mp_aI2, mp_aI3, mp_aI4, mp_aI5, mp_aI6, mp_aZ7, mp_aI8, mp_sI0, mp_sI1, mp_sI2, mp_sI3, mp_sI4, mp_sI5, mp_sI6, mp_sI8, mp_sZ0, mp_sZ1]
    rfl
  · intro j hj ih
    refine k_X6_missingIn_4 ⟨mp_isO, (c_X6_partsOf hl g h0 h1).cl0 (by decide) ?_⟩
    simp (disch := omega) only [I_n, I_neg, I_add, I_sub, I_mul, I_le4, I_lt4, I_eq4, I_div4, I_bi0, I_bi01, I_bi1, nor_em, rI_of, rV_of, zI_of, zV_of, nz_and, br_T, br_F, br_T2, br_F2, st_eq, st9_0, st_k, st_i, true_and, and_true, Classical.not_not, mp_isO, mp_gI4, mp_gI5, mp_gI7, mp_gI8, mp_gI9, mp_gI10, mp_gI11, mp_gI12, mp_gI13, mp_gI14, mp_gI15, mp_gI19, mp_gI20, mp_gI21, mp_gI23, mp_pI4, mp_pI5, mp_pI7, mp_pI8, mp_pI9, mp_pI10, mp_pI11, mp_pI12, mp_pI13, mp_pI14, mp_pI15, mp_pI19, mp_pI20, mp_pI21, mp_pI23, mp_gR0, mp_gR1, mp_gR2, mp_gR3, mp_gR6, mp_gR16, mp_gR17, mp_gR18, mp_gR22, mp_aI0, mp_aI1, mp_aI2, mp_aI3, mp_aI4, mp_aI5, mp_aI6, mp_aZ7, mp_aI8, mp_sI0, mp_sI1, mp_sI2, mp_sI3, mp_sI4, mp_sI5, mp_sI6, mp_sI8, mp_sZ0, mp_sZ1]
    refine (c_X6_firstPart hl g).cl0 (by decide) ?_
    simp (disch := omega) only [I_n, I_neg, I_add, I_sub, I_mul, I_le4, I_lt4, I_eq4, I_div4, I_bi0, I_bi01, I_bi1, nor_em, rI_of, rV_of, zI_of, zV_of, nz_and, br_T, br_F, br_T2, br_F2, st_eq, st9_0, st_k, st_i, true_and, and_true, Classical.not_not, mp_isO, mp_gI4, mp_gI5, mp_gI7, mp_gI8, mp_gI9, mp_gI10, mp_gI11, mp_gI12, mp_gI13, mp_gI14, mp_gI15, mp_gI19, mp_gI20, mp_gI21, mp_gI23, mp_pI4, mp_pI5, mp_pI7, mp_pI8, mp_pI9, mp_pI10, mp_pI11, mp_pI12, mp_pI13, mp_pI14, mp_pI15, mp_pI19, mp_pI20, mp_pI21, mp_pI23, mp_gR0, mp_gR1, mp_gR2, mp_gR3, mp_gR6, mp_gR16, mp_gR17, mp_gR18, mp_gR22, mp_aI0, mp_aI1, mp_aI2, mp_aI3, mp_aI4, mp_aI5, mp_aI6, mp_aZ7, mp_aI8, mp_sI0, mp_sI1, mp_sI2, mp_sI3, mp_sI4, mp_sI5, mp_sI6, mp_sI8, mp_sZ0, mp_sZ1]
    refine (c_X6_isMissing hl (by omega) (by omega) (by have := ho (gF (S 0) k + j) (by omega) (by omega); omega)).cl0 (by decide) ?_
    simp (disch := omega) only [I_n, I_neg, I_add, I_sub, I_mul, I_le4, I_lt4, I_eq4, I_div4, I_bi0, I_bi01, I_bi1, nor_em, rI_of, rV_of, zI_of, zV_of, nz_and, br_T, br_F, br_T2, br_F2, st_eq, st9_0, st_k, st_i, true_and, and_true, Classical.not_not, mp_isO, mp_gI4, mp_gI5, mp_gI7, mp_gI8, mp_gI9, mp_gI10, mp_gI11, mp_gI12, mp_gI13, mp_gI14, mp_gI15, mp_gI19, mp_gI20, mp_gI21, mp_gI23, mp_pI4, mp_pI5, mp_pI7, mp_pI8, mp_pI9, mp_pI10, mp_pI11, mp_pI12, mp_pI13, mp_pI14, mp_pI15, mp_pI19, mp_pI20, mp_pI21, mp_pI23, mp_gR0, mp_gR1, mp_gR2, mp_gR3, mp_gR6, mp_gR16, mp_gR17, mp_gR18, mp_gR22, mp_aI0, mp_aI1, mp_aI2, mp_aI3, mp_aI4, mp_aI5, mp_aI6, mp_aZ7, mp_aI8, mp_sI0, mp_sI1, mp_sI2, mp_sI3, mp_sI4, mp_sI5, mp_sI6, mp_sI8, mp_sZ0, mp_sZ1]
    refine ⟨fun h => ?_, fun h => ?_⟩
    · have e : sg (fun j => bi (S 0 (96 + (gF (S 0) k + j)) = 0)) (j + 1) = sg (fun j => bi (S 0 (96 + (gF (S 0) k + j)) = 0)) j + 0 := by rw [sg_s, bi_f h]
      rw [e] at ih
      exact ih
    · have e : sg (fun j => bi (S 0 (96 + (gF (S 0) k + j)) = 0)) (j + 1) = sg (fun j => bi (S 0 (96 + (gF (S 0) k + j)) = 0)) j + 1 := by rw [sg_s, bi_t h]
      rw [e] at ih
      exact ih
theorem gB_b {r : Int → Int} {s x : Int} : 0 ≤ gB r s x ∧ gB r s x ≤ 255 := by
  unfold gB
  omega
theorem c_X6_byteOf (hl : l.stackTraces = false) (w : RW (S 0) e) {s x : Int} (hs : sm s) (h0 : 0 ≤ x) (h1 : x < 1000) : Fn l X 0 M_X6_byteOf [.ref o, .int (I s), .int (I x)] (mp X o B S) 0 0 (Ri (I (gB (S 0) s x))) (mp X o B S) := by
  obtain ⟨g, ⟨s1, s2⟩, -, ⟨q1, q2, q3, q4, -⟩, -, -, hf, -⟩ := w
  obtain ⟨hs1, hs2⟩ := hs
  have x0 : 0 ≤ x * x := Int.mul_nonneg h0 h0
  have x1 : x * x ≤ 999 * x := Int.mul_le_mul_of_nonneg_right (by omega) h0
  have hb : ∀ n : Nat, n ≤ (S 0 10).toNat → 0 ≤ sg (fun f => if S 0 (20 + 2 * f) = x then S 0 (20 + 2 * f + 1) else 0) n ∧ sg (fun f => if S 0 (20 + 2 * f) = x then S 0 (20 + 2 * f + 1) else 0) n ≤ 255 * n := by
    intro n hn
    constructor
    · refine sg_nn fun k hk => ?_
      have := hf k (by omega) (by omega)
      split
      · omega
      · omega
    · refine sg_le fun k hk => ?_
      have := hf k (by omega) (by omega)
      split
      · omega
      · omega
  refine Fn.of hl rfl rfl (Nat.le_of_ble_eq_true rfl) (k_X6_byteOf_0 ?_)
  simp (disch := omega) only [I_n, I_neg, I_add, I_sub, I_mul, I_le4, I_lt4, I_eq4, I_div4, I_bi0, I_bi01, I_bi1, nor_em, rI_of, rV_of, zI_of, zV_of, nz_and, br_T, br_F, br_T2, br_F2, st_eq, st9_0, st_k, st_i, true_and, and_true, Classical.not_not, mp_isO, mp_gI4, mp_gI5, mp_gI7, mp_gI8, mp_gI9, mp_gI10, mp_gI11, mp_gI12, mp_gI13, mp_gI14, mp_gI15, mp_gI19, mp_gI20, mp_gI21, mp_gI23, mp_pI4, mp_pI5, mp_pI7, mp_pI8, mp_pI9, mp_pI10, mp_pI11, mp_pI12, mp_pI13, mp_pI14, mp_pI15, mp_pI19, mp_pI20, mp_pI21, mp_pI23, mp_gR0, mp_gR1, mp_gR2, mp_gR3, mp_gR6, mp_gR16, mp_gR17, mp_gR18, mp_gR22, mp_aI0, mp_aI1, mp_aI2, mp_aI3, mp_aI4, mp_aI5, mp_aI6, mp_aZ7, mp_aI8, mp_sI0, mp_sI1, mp_sI2, mp_sI3, mp_sI4, mp_sI5, mp_sI6, mp_sI8, mp_sZ0, mp_sZ1]
  by_cases h : s = 1
  · rw [← Int.add_zero (S 0 1 + 37 * x + x * x / 5 - (S 0 1 + 37 * x + x * x / 5) / 251 * 251)]
    refine up_to (n := (S 0 10).toNat) (P := fun j => G l X M_X6_byteOf 0 (fun o' A1 => o' = Ri (I (gB (S 0) s x)) ∧ A1 = mp X o B S) 25 [(0, .ref o), (1, .int (I s)), (2, .int (I x)), (3, .int (I (S 0 1 + 37 * x + x * x / 5 - (S 0 1 + 37 * x + x * x / 5) / 251 * 251 + sg (fun f => if S 0 (20 + 2 * f) = x then S 0 (20 + 2 * f + 1) else 0) j))), (4, .int (I j))] [] (mp X o B S) 0 0) ?_ ?_
    · have hb1 := hb _ (Nat.le_refl _)
      refine k_X6_byteOf_25 ?_
      simp (disch := omega) only [I_n, I_neg, I_add, I_sub, I_mul, I_le4, I_lt4, I_eq4, I_div4, I_bi0, I_bi01, I_bi1, nor_em, rI_of, rV_of, zI_of, zV_of, nz_and, br_T, br_F, br_T2, br_F2, st_eq, st9_0, st_k, st_i, true_and, and_true, Classical.not_not, mp_isO, mp_gI4, mp_gI5, mp_gI7, mp_gI8, mp_gI9, mp_gI10, mp_gI11, mp_gI12, mp_gI13, mp_gI14, mp_gI15, mp_gI19, mp_gI20, mp_gI21, mp_gI23, mp_pI4, mp_pI5, mp_pI7, mp_pI8, mp_pI9, mp_pI10, mp_pI11, mp_pI12, mp_pI13, mp_pI14, mp_pI15, mp_pI19, mp_pI20, mp_pI21, mp_pI23, mp_gR0, mp_gR1, mp_gR2, mp_gR3, mp_gR6, mp_gR16, mp_gR17, mp_gR18, mp_gR22, mp_aI0, mp_aI1, mp_aI2, mp_aI3, mp_aI4, mp_aI5, mp_aI6, mp_aZ7, mp_aI8, mp_sI0, mp_sI1, mp_sI2, mp_sI3, mp_sI4, mp_sI5, mp_sI6, mp_sI8, mp_sZ0, mp_sZ1]
      refine k_X6_byteOf_85 ?_
      simp (disch := omega) only [I_n, I_neg, I_add, I_sub, I_mul, I_le4, I_lt4, I_eq4, I_div4, I_bi0, I_bi01, I_bi1, nor_em, rI_of, rV_of, zI_of, zV_of, nz_and, br_T, br_F, br_T2, br_F2, st_eq, st9_0, st_k, st_i, true_and, and_true, Classical.not_not, mp_isO, mp_gI4, mp_gI5, mp_gI7, mp_gI8, mp_gI9, mp_gI10, mp_gI11, mp_gI12, mp_gI13, mp_gI14, mp_gI15, mp_gI19, mp_gI20, mp_gI21, mp_gI23, mp_pI4, mp_pI5, mp_pI7, mp_pI8, mp_pI9, mp_pI10, mp_pI11, mp_pI12, mp_pI13, mp_pI14, mp_pI15, mp_pI19, mp_pI20, mp_pI21, mp_pI23, mp_gR0, mp_gR1, mp_gR2, mp_gR3, mp_gR6, mp_gR16, mp_gR17, mp_gR18, mp_gR22, mp_aI0, mp_aI1, mp_aI2, mp_aI3, mp_aI4, mp_aI5, mp_aI6, mp_aZ7, mp_aI8, mp_sI0, mp_sI1, mp_sI2, mp_sI3, mp_sI4, mp_sI5, mp_sI6, mp_sI8, mp_sZ0, mp_sZ1]
      unfold gB
      rw [if_pos h, rem_e, rem_e]
    · intro j hj ih
      have hb1 := hb j (by omega)
      have hf1 := hf j (by omega) (by omega)
      refine k_X6_byteOf_25 ?_
      simp (disch := omega) only [I_n, I_neg, I_add, I_sub, I_mul, I_le4, I_lt4, I_eq4, I_div4, I_bi0, I_bi01, I_bi1, nor_em, rI_of, rV_of, zI_of, zV_of, nz_and, br_T, br_F, br_T2, br_F2, st_eq, st9_0, st_k, st_i, true_and, and_true, Classical.not_not, mp_isO, mp_gI4, mp_gI5, mp_gI7, mp_gI8, mp_gI9, mp_gI10, mp_gI11, mp_gI12, mp_gI13, mp_gI14, mp_gI15, mp_gI19, mp_gI20, mp_gI21, mp_gI23, mp_pI4, mp_pI5, mp_pI7, mp_pI8, mp_pI9, mp_pI10, mp_pI11, mp_pI12, mp_pI13, mp_pI14, mp_pI15, mp_pI19, mp_pI20, mp_pI21, mp_pI23, mp_gR0, mp_gR1, mp_gR2, mp_gR3, mp_gR6, mp_gR16, mp_gR17, mp_gR18, mp_gR22, mp_aI0, mp_aI1, mp_aI2, mp_aI3, mp_aI4, mp_aI5, mp_aI6, mp_aZ7, mp_aI8, mp_sI0, mp_sI1, mp_sI2, mp_sI3, mp_sI4, mp_sI5, mp_sI6, mp_sI8, mp_sZ0, mp_sZ1]
      refine ⟨fun q => ?_, fun q => ?_⟩
      · have e : sg (fun f => if S 0 (20 + 2 * f) = x then S 0 (20 + 2 * f + 1) else 0) (j + 1) = sg (fun f => if S 0 (20 + 2 * f) = x then S 0 (20 + 2 * f + 1) else 0) j + 0 := by rw [sg_s, if_neg q]
        rw [e, ← Int.add_assoc] at ih
        exact ih
      · have e : sg (fun f => if S 0 (20 + 2 * f) = x then S 0 (20 + 2 * f + 1) else 0) (j + 1) = sg (fun f => if S 0 (20 + 2 * f) = x then S 0 (20 + 2 * f + 1) else 0) j + S 0 (20 + 2 * j + 1) := by rw [sg_s, if_pos q]
        rw [e, ← Int.add_assoc] at ih
        exact ih
  · refine k_X6_byteOf_25 ?_
    simp (disch := omega) only [I_n, I_neg, I_add, I_sub, I_mul, I_le4, I_lt4, I_eq4, I_div4, I_bi0, I_bi01, I_bi1, nor_em, rI_of, rV_of, zI_of, zV_of, nz_and, br_T, br_F, br_T2, br_F2, st_eq, st9_0, st_k, st_i, true_and, and_true, Classical.not_not, mp_isO, mp_gI4, mp_gI5, mp_gI7, mp_gI8, mp_gI9, mp_gI10, mp_gI11, mp_gI12, mp_gI13, mp_gI14, mp_gI15, mp_gI19, mp_gI20, mp_gI21, mp_gI23, mp_pI4, mp_pI5, mp_pI7, mp_pI8, mp_pI9, mp_pI10, mp_pI11, mp_pI12, mp_pI13, mp_pI14, mp_pI15, mp_pI19, mp_pI20, mp_pI21, mp_pI23, mp_gR0, mp_gR1, mp_gR2, mp_gR3, mp_gR6, mp_gR16, mp_gR17, mp_gR18, mp_gR22, mp_aI0, mp_aI1, mp_aI2, mp_aI3, mp_aI4, mp_aI5, mp_aI6, mp_aZ7, mp_aI8, mp_sI0, mp_sI1, mp_sI2, mp_sI3, mp_sI4, mp_sI5, mp_sI6, mp_sI8, mp_sZ0, mp_sZ1]
    have e : Ri (I ((S 0 1 + 37 * x + x * x / 5 - (S 0 1 + 37 * x + x * x / 5) / 251 * 251) - (S 0 1 + 37 * x + x * x / 5 - (S 0 1 + 37 * x + x * x / 5) / 251 * 251) / 256 * 256)) = Ri (I (gB (S 0) s x)) := by
      unfold gB
      rw [if_neg h, rem_e, rem_e, Int.add_zero]
    refine ⟨fun _ => k_X6_byteOf_85 ?_, fun _ => k_X6_byteOf_85 ?_⟩
    · simp (disch := omega) only [I_n, I_neg, I_add, I_sub, I_mul, I_le4, I_lt4, I_eq4, I_div4, I_bi0, I_bi01, I_bi1, nor_em, rI_of, rV_of, zI_of, zV_of, nz_and, br_T, br_F, br_T2, br_F2, st_eq, st9_0, st_k, st_i, true_and, and_true, Classical.not_not, mp_isO, mp_gI4, mp_gI5, mp_gI7, mp_gI8, mp_gI9, mp_gI10, mp_gI11, mp_gI12, mp_gI13, mp_gI14, mp_gI15, mp_gI19, mp_gI20, mp_gI21, mp_gI23, mp_pI4, mp_pI5, mp_pI7, mp_pI8, mp_pI9, mp_pI10, mp_pI11, mp_pI12, mp_pI13, mp_pI14, mp_pI15, mp_pI19, mp_pI20, mp_pI21, mp_pI23, mp_gR0, mp_gR1, mp_gR2, mp_gR3, mp_gR6, mp_gR16, mp_gR17, mp_gR18, mp_gR22, mp_aI0, mp_aI1, mp_aI2, mp_aI3, mp_aI4, mp_aI5, mp_aI6, mp_aZ7, mp_aI8, mp_sI0, mp_sI1, mp_sI2, mp_sI3, mp_sI4, mp_sI5, mp_sI6, mp_sI8, mp_sZ0, mp_sZ1]
      exact e
    · simp (disch := omega) only [I_n, I_neg, I_add, I_sub, I_mul, I_le4, I_lt4, I_eq4, I_div4, I_bi0, I_bi01, I_bi1, nor_em, rI_of, rV_of, zI_of, zV_of, nz_and, br_T, br_F, br_T2, br_F2, st_eq, st9_0, st_k, st_i, true_and, and_true, Classical.not_not, mp_isO, mp_gI4, mp_gI5, mp_gI7, mp_gI8, mp_gI9, mp_gI10, mp_gI11, mp_gI12, mp_gI13, mp_gI14, mp_gI15, mp_gI19, mp_gI20, mp_gI21, mp_gI23, mp_pI4, mp_pI5, mp_pI7, mp_pI8, mp_pI9, mp_pI10, mp_pI11, mp_pI12, mp_pI13, mp_pI14, mp_pI15, mp_pI19, mp_pI20, mp_pI21, mp_pI23, mp_gR0, mp_gR1, mp_gR2, mp_gR3, mp_gR6, mp_gR16, mp_gR17, mp_gR18, mp_gR22, mp_aI0, mp_aI1, mp_aI2, mp_aI3, mp_aI4, mp_aI5, mp_aI6, mp_aZ7, mp_aI8, mp_sI0, mp_sI1, mp_sI2, mp_sI3, mp_sI4, mp_sI5, mp_sI6, mp_sI8, mp_sZ0, mp_sZ1]
      exact e
theorem c_X6_rowSum (hl : l.stackTraces = false) {x n : Int} (h0 : 0 ≤ x) (h1 : 0 ≤ n) (h2 : n ≤ 240) (h3 : x + n ≤ 1664) (hr : ∀ k, x ≤ k → k < x + n → 0 ≤ S 0 k ∧ S 0 k ≤ 255) : Fn l X 0 M_X6_rowSum [.ref o, .int (I x), .int (I n)] (mp X o B S) 0 0 (Ri (I (gR' (S 0) x n))) (mp X o B S) := by
  have hb : 0 ≤ sg (fun j => (j + 1) * S 0 (x + j)) n.toNat ∧ sg (fun j => (j + 1) * S 0 (x + j)) n.toNat ≤ 61200 * n.toNat := by
    constructor
    · refine sg_nn fun k hk => Int.mul_nonneg (by omega) (hr _ (by omega) (by omega)).1
    · refine sg_le fun k hk => ?_
      obtain ⟨a1, a2⟩ := hr (x + k) (by omega) (by omega)
      have b1 : ((k : Int) + 1) * S 0 (x + k) ≤ ((k : Int) + 1) * 255 := Int.mul_le_mul_of_nonneg_left a2 (by omega)
      omega
  refine Fn.of hl rfl rfl (Nat.le_of_ble_eq_true rfl) (k_X6_rowSum_0 ?_)
  simp only [I_n]
  refine up_to (n := n.toNat) (P := fun j => G l X M_X6_rowSum 0 (fun o' A1 => o' = Ri (I (gR' (S 0) x n)) ∧ A1 = mp X o B S) 5 [(0, .ref o), (1, .int (I x)), (2, .int (I n)), (3, .int (I (sg (fun j => (j + 1) * S 0 (x + j)) j))), (4, .int (I j))] [] (mp X o B S) 0 0) ?_ ?_
  · refine k_X6_rowSum_5 ?_
    simp (disch := omega) only [I_n, I_neg, I_add, I_sub, I_mul, I_le4, I_lt4, I_eq4, I_div4, I_bi0, I_bi01, I_bi1, nor_em, rI_of, rV_of, zI_of, zV_of, nz_and, br_T, br_F, br_T2, br_F2, st_eq, st9_0, st_k, st_i, true_and, and_true, Classical.not_not, mp_isO, mp_gI4, mp_gI5, mp_gI7, mp_gI8, mp_gI9, mp_gI10, mp_gI11, mp_gI12, mp_gI13, mp_gI14, mp_gI15, mp_gI19, mp_gI20, mp_gI21, mp_gI23, mp_pI4, mp_pI5, mp_pI7, mp_pI8, mp_pI9, mp_pI10, mp_pI11, mp_pI12, mp_pI13, mp_pI14, mp_pI15, mp_pI19, mp_pI20, mp_pI21, mp_pI23, mp_gR0, mp_gR1, mp_gR2, mp_gR3, mp_gR6, mp_gR16, mp_gR17, mp_gR18, mp_gR22, mp_aI0, mp_aI1, mp_aI2, mp_aI3, mp_aI4, mp_aI5, mp_aI6, mp_aZ7, mp_aI8, mp_sI0, mp_sI1, mp_sI2, mp_sI3, mp_sI4, mp_sI5, mp_sI6, mp_sI8, mp_sZ0, mp_sZ1]
    unfold gR'
    rw [rem_e]
  · intro j hj ih
    refine k_X6_rowSum_5 ?_
    simp (disch := omega) only [I_n, I_neg, I_add, I_sub, I_mul, I_le4, I_lt4, I_eq4, I_div4, I_bi0, I_bi01, I_bi1, nor_em, rI_of, rV_of, zI_of, zV_of, nz_and, br_T, br_F, br_T2, br_F2, st_eq, st9_0, st_k, st_i, true_and, and_true, Classical.not_not, mp_isO, mp_gI4, mp_gI5, mp_gI7, mp_gI8, mp_gI9, mp_gI10, mp_gI11, mp_gI12, mp_gI13, mp_gI14, mp_gI15, mp_gI19, mp_gI20, mp_gI21, mp_gI23, mp_pI4, mp_pI5, mp_pI7, mp_pI8, mp_pI9, mp_pI10, mp_pI11, mp_pI12, mp_pI13, mp_pI14, mp_pI15, mp_pI19, mp_pI20, mp_pI21, mp_pI23, mp_gR0, mp_gR1, mp_gR2, mp_gR3, mp_gR6, mp_gR16, mp_gR17, mp_gR18, mp_gR22, mp_aI0, mp_aI1, mp_aI2, mp_aI3, mp_aI4, mp_aI5, mp_aI6, mp_aZ7, mp_aI8, mp_sI0, mp_sI1, mp_sI2, mp_sI3, mp_sI4, mp_sI5, mp_sI6, mp_sI8, mp_sZ0, mp_sZ1]
    exact ih
theorem c_X6_sumOf (hl : l.stackTraces = false) (w : RW (S 0) e) {s x n : Int} (hs : sm s) (h0 : 0 ≤ x) (h1 : 0 ≤ n) (h2 : n ≤ 240) (h3 : x + n ≤ 1000) : Fn l X 1 M_X6_sumOf [.ref o, .int (I s), .int (I x), .int (I n)] (mp X o B S) 0 0 (Ri (I (gS (S 0) s x n))) (mp X o B S) := by
  have hb : 0 ≤ sg (fun j => (j + 1) * gB (S 0) s (x + j)) n.toNat ∧ sg (fun j => (j + 1) * gB (S 0) s (x + j)) n.toNat ≤ 61200 * n.toNat := by
    constructor
    · refine sg_nn fun k hk => Int.mul_nonneg (by omega) gB_b.1
    · refine sg_le fun k hk => ?_
      have b1 : ((k : Int) + 1) * gB (S 0) s (x + k) ≤ ((k : Int) + 1) * 255 := Int.mul_le_mul_of_nonneg_left gB_b.2 (by omega)
      omega
  refine Fn.of hl rfl rfl (Nat.le_of_ble_eq_true rfl) (k_X6_sumOf_0 ?_)
  simp only [I_n]
  refine up_to (n := n.toNat) (P := fun j => G l X M_X6_sumOf 1 (fun o' A1 => o' = Ri (I (gS (S 0) s x n)) ∧ A1 = mp X o B S) 6 [(0, .ref o), (1, .int (I s)), (2, .int (I x)), (3, .int (I n)), (4, .int (I (sg (fun j => (j + 1) * gB (S 0) s (x + j)) j))), (5, .int (I j))] [] (mp X o B S) 0 0) ?_ ?_
  · refine k_X6_sumOf_6 ?_
    simp (disch := omega) only [I_n, I_neg, I_add, I_sub, I_mul, I_le4, I_lt4, I_eq4, I_div4, I_bi0, I_bi01, I_bi1, nor_em, rI_of, rV_of, zI_of, zV_of, nz_and, br_T, br_F, br_T2, br_F2, st_eq, st9_0, st_k, st_i, true_and, and_true, Classical.not_not, mp_isO, mp_gI4, mp_gI5, mp_gI7, mp_gI8, mp_gI9, mp_gI10, mp_gI11, mp_gI12, mp_gI13, mp_gI14, mp_gI15, mp_gI19, mp_gI20, mp_gI21, mp_gI23, mp_pI4, mp_pI5, mp_pI7, mp_pI8, mp_pI9, mp_pI10, mp_pI11, mp_pI12, mp_pI13, mp_pI14, mp_pI15, mp_pI19, mp_pI20, mp_pI21, mp_pI23, mp_gR0, mp_gR1, mp_gR2, mp_gR3, mp_gR6, mp_gR16, mp_gR17, mp_gR18, mp_gR22, mp_aI0, mp_aI1, mp_aI2, mp_aI3, mp_aI4, mp_aI5, mp_aI6, mp_aZ7, mp_aI8, mp_sI0, mp_sI1, mp_sI2, mp_sI3, mp_sI4, mp_sI5, mp_sI6, mp_sI8, mp_sZ0, mp_sZ1]
    unfold gS
    rw [rem_e]
  · intro j hj ih
    refine k_X6_sumOf_6 ?_
    simp (disch := omega) only [I_n, I_neg, I_add, I_sub, I_mul, I_le4, I_lt4, I_eq4, I_div4, I_bi0, I_bi01, I_bi1, nor_em, rI_of, rV_of, zI_of, zV_of, nz_and, br_T, br_F, br_T2, br_F2, st_eq, st9_0, st_k, st_i, true_and, and_true, Classical.not_not, mp_isO, mp_gI4, mp_gI5, mp_gI7, mp_gI8, mp_gI9, mp_gI10, mp_gI11, mp_gI12, mp_gI13, mp_gI14, mp_gI15, mp_gI19, mp_gI20, mp_gI21, mp_gI23, mp_pI4, mp_pI5, mp_pI7, mp_pI8, mp_pI9, mp_pI10, mp_pI11, mp_pI12, mp_pI13, mp_pI14, mp_pI15, mp_pI19, mp_pI20, mp_pI21, mp_pI23, mp_gR0, mp_gR1, mp_gR2, mp_gR3, mp_gR6, mp_gR16, mp_gR17, mp_gR18, mp_gR22, mp_aI0, mp_aI1, mp_aI2, mp_aI3, mp_aI4, mp_aI5, mp_aI6, mp_aZ7, mp_aI8, mp_sI0, mp_sI1, mp_sI2, mp_sI3, mp_sI4, mp_sI5, mp_sI6, mp_sI8, mp_sZ0, mp_sZ1]
    refine (c_X6_byteOf hl w hs (by omega) (by omega)).cl0 (by decide) ?_
    simp (disch := omega) only [I_n, I_neg, I_add, I_sub, I_mul, I_le4, I_lt4, I_eq4, I_div4, I_bi0, I_bi01, I_bi1, nor_em, rI_of, rV_of, zI_of, zV_of, nz_and, br_T, br_F, br_T2, br_F2, st_eq, st9_0, st_k, st_i, true_and, and_true, Classical.not_not, mp_isO, mp_gI4, mp_gI5, mp_gI7, mp_gI8, mp_gI9, mp_gI10, mp_gI11, mp_gI12, mp_gI13, mp_gI14, mp_gI15, mp_gI19, mp_gI20, mp_gI21, mp_gI23, mp_pI4, mp_pI5, mp_pI7, mp_pI8, mp_pI9, mp_pI10, mp_pI11, mp_pI12, mp_pI13, mp_pI14, mp_pI15, mp_pI19, mp_pI20, mp_pI21, mp_pI23, mp_gR0, mp_gR1, mp_gR2, mp_gR3, mp_gR6, mp_gR16, mp_gR17, mp_gR18, mp_gR22, mp_aI0, mp_aI1, mp_aI2, mp_aI3, mp_aI4, mp_aI5, mp_aI6, mp_aZ7, mp_aI8, mp_sI0, mp_sI1, mp_sI2, mp_sI3, mp_sI4, mp_sI5, mp_sI6, mp_sI8, mp_sZ0, mp_sZ1]
    exact ih
theorem c_X6_stateOf (hl : l.stackTraces = false) (w : RW (S 0) e) {k : Int} (h0 : 0 ≤ k) (h1 : k < gN (S 0)) : Fn l X 3 M_X6_stateOf [.ref o, .int (I k)] (mp X o B S) 0 0 (Ri (I (gV (S 0) k))) (mp X o B S) := by
  have g := w.1
  obtain ⟨l1, l2, l3, l4⟩ := gLen_b g h0 h1
  have g2 := g.2.1
  have g4 := g.2.2.2.1
  obtain ⟨p1, p2, p3, p4, p5⟩ := gPo_b g h0 h1
  have hm : 0 ≤ gMi (S 0) k ∧ gMi (S 0) k ≤ (gPo (S 0) k).toNat := sg_bi
  have hg := w.2.2.2.2.2.2.2.2.2.2.1
  have hR : 0 ≤ gR' (S 0) (336 + S 0 2 * k) (gLen (S 0) k) ∧ gR' (S 0) (336 + S 0 2 * k) (gLen (S 0) k) < 9973 := by unfold gR'; omega
  have hS : 0 ≤ gS (S 0) 0 (S 0 2 * k) (gLen (S 0) k) ∧ gS (S 0) 0 (S 0 2 * k) (gLen (S 0) k) < 9973 := by unfold gS; omega
  refine Fn.of hl rfl rfl (Nat.le_of_ble_eq_true rfl) (k_X6_stateOf_0 ⟨mp_isO, (c_X6_missingIn hl w h0 h1).cl0 (by decide) ?_⟩)
  simp (disch := omega) only [I_n, I_neg, I_add, I_sub, I_mul, I_le4, I_lt4, I_eq4, I_div4, I_bi0, I_bi01, I_bi1, nor_em, rI_of, rV_of, zI_of, zV_of, nz_and, br_T, br_F, br_T2, br_F2, st_eq, st9_0, st_k, st_i, true_and, and_true, Classical.not_not, mp_isO, mp_gI4, mp_gI5, mp_gI7, mp_gI8, mp_gI9, mp_gI10, mp_gI11, mp_gI12, mp_gI13, mp_gI14, mp_gI15, mp_gI19, mp_gI20, mp_gI21, mp_gI23, mp_pI4, mp_pI5, mp_pI7, mp_pI8, mp_pI9, mp_pI10, mp_pI11, mp_pI12, mp_pI13, mp_pI14, mp_pI15, mp_pI19, mp_pI20, mp_pI21, mp_pI23, mp_gR0, mp_gR1, mp_gR2, mp_gR3, mp_gR6, mp_gR16, mp_gR17, mp_gR18, mp_gR22, mp_aI0, mp_aI1, mp_aI2, mp_aI3, mp_aI4, mp_aI5, mp_aI6, mp_aZ7, mp_aI8, mp_sI0, mp_sI1, mp_sI2, mp_sI3, mp_sI4, mp_sI5, mp_sI6, mp_sI8, mp_sZ0, mp_sZ1]
  refine ⟨fun h => ?_, fun h => ?_⟩
  · refine (c_X6_pieceLength hl g h0 h1).cl0 (by decide) ?_
    simp (disch := omega) only [I_n, I_neg, I_add, I_sub, I_mul, I_le4, I_lt4, I_eq4, I_div4, I_bi0, I_bi01, I_bi1, nor_em, rI_of, rV_of, zI_of, zV_of, nz_and, br_T, br_F, br_T2, br_F2, st_eq, st9_0, st_k, st_i, true_and, and_true, Classical.not_not, mp_isO, mp_gI4, mp_gI5, mp_gI7, mp_gI8, mp_gI9, mp_gI10, mp_gI11, mp_gI12, mp_gI13, mp_gI14, mp_gI15, mp_gI19, mp_gI20, mp_gI21, mp_gI23, mp_pI4, mp_pI5, mp_pI7, mp_pI8, mp_pI9, mp_pI10, mp_pI11, mp_pI12, mp_pI13, mp_pI14, mp_pI15, mp_pI19, mp_pI20, mp_pI21, mp_pI23, mp_gR0, mp_gR1, mp_gR2, mp_gR3, mp_gR6, mp_gR16, mp_gR17, mp_gR18, mp_gR22, mp_aI0, mp_aI1, mp_aI2, mp_aI3, mp_aI4, mp_aI5, mp_aI6, mp_aZ7, mp_aI8, mp_sI0, mp_sI1, mp_sI2, mp_sI3, mp_sI4, mp_sI5, mp_sI6, mp_sI8, mp_sZ0, mp_sZ1]
    refine (c_X6_rowSum hl (by omega) (by omega) (by omega) (by omega) ?_).cl0 (by decide) ?_
    · intro i hi1 hi2
      have := hg (i - 336) (by omega) (by omega)
      rwa [show 336 + (i - 336) = i by omega] at this
    simp (disch := omega) only [I_n, I_neg, I_add, I_sub, I_mul, I_le4, I_lt4, I_eq4, I_div4, I_bi0, I_bi01, I_bi1, nor_em, rI_of, rV_of, zI_of, zV_of, nz_and, br_T, br_F, br_T2, br_F2, st_eq, st9_0, st_k, st_i, true_and, and_true, Classical.not_not, mp_isO, mp_gI4, mp_gI5, mp_gI7, mp_gI8, mp_gI9, mp_gI10, mp_gI11, mp_gI12, mp_gI13, mp_gI14, mp_gI15, mp_gI19, mp_gI20, mp_gI21, mp_gI23, mp_pI4, mp_pI5, mp_pI7, mp_pI8, mp_pI9, mp_pI10, mp_pI11, mp_pI12, mp_pI13, mp_pI14, mp_pI15, mp_pI19, mp_pI20, mp_pI21, mp_pI23, mp_gR0, mp_gR1, mp_gR2, mp_gR3, mp_gR6, mp_gR16, mp_gR17, mp_gR18, mp_gR22, mp_aI0, mp_aI1, mp_aI2, mp_aI3, mp_aI4, mp_aI5, mp_aI6, mp_aZ7, mp_aI8, mp_sI0, mp_sI1, mp_sI2, mp_sI3, mp_sI4, mp_sI5, mp_sI6, mp_sI8, mp_sZ0, mp_sZ1]
    refine (c_X6_pieceLength hl g h0 h1).cl0 (by decide) ?_
    simp (disch := omega) only [I_n, I_neg, I_add, I_sub, I_mul, I_le4, I_lt4, I_eq4, I_div4, I_bi0, I_bi01, I_bi1, nor_em, rI_of, rV_of, zI_of, zV_of, nz_and, br_T, br_F, br_T2, br_F2, st_eq, st9_0, st_k, st_i, true_and, and_true, Classical.not_not, mp_isO, mp_gI4, mp_gI5, mp_gI7, mp_gI8, mp_gI9, mp_gI10, mp_gI11, mp_gI12, mp_gI13, mp_gI14, mp_gI15, mp_gI19, mp_gI20, mp_gI21, mp_gI23, mp_pI4, mp_pI5, mp_pI7, mp_pI8, mp_pI9, mp_pI10, mp_pI11, mp_pI12, mp_pI13, mp_pI14, mp_pI15, mp_pI19, mp_pI20, mp_pI21, mp_pI23, mp_gR0, mp_gR1, mp_gR2, mp_gR3, mp_gR6, mp_gR16, mp_gR17, mp_gR18, mp_gR22, mp_aI0, mp_aI1, mp_aI2, mp_aI3, mp_aI4, mp_aI5, mp_aI6, mp_aZ7, mp_aI8, mp_sI0, mp_sI1, mp_sI2, mp_sI3, mp_sI4, mp_sI5, mp_sI6, mp_sI8, mp_sZ0, mp_sZ1]
    refine (c_X6_sumOf hl w ⟨by omega, by omega⟩ (by omega) (by omega) (by omega) (by omega)).cl0 (by decide) ?_
    simp (disch := omega) only [I_n, I_neg, I_add, I_sub, I_mul, I_le4, I_lt4, I_eq4, I_div4, I_bi0, I_bi01, I_bi1, nor_em, rI_of, rV_of, zI_of, zV_of, nz_and, br_T, br_F, br_T2, br_F2, st_eq, st9_0, st_k, st_i, true_and, and_true, Classical.not_not, mp_isO, mp_gI4, mp_gI5, mp_gI7, mp_gI8, mp_gI9, mp_gI10, mp_gI11, mp_gI12, mp_gI13, mp_gI14, mp_gI15, mp_gI19, mp_gI20, mp_gI21, mp_gI23, mp_pI4, mp_pI5, mp_pI7, mp_pI8, mp_pI9, mp_pI10, mp_pI11, mp_pI12, mp_pI13, mp_pI14, mp_pI15, mp_pI19, mp_pI20, mp_pI21, mp_pI23, mp_gR0, mp_gR1, mp_gR2, mp_gR3, mp_gR6, mp_gR16, mp_gR17, mp_gR18, mp_gR22, mp_aI0, mp_aI1, mp_aI2, mp_aI3, mp_aI4, mp_aI5, mp_aI6, mp_aZ7, mp_aI8, mp_sI0, mp_sI1, mp_sI2, mp_sI3, mp_sI4, mp_sI5, mp_sI6, mp_sI8, mp_sZ0, mp_sZ1]
    unfold gV
    rw [if_neg (by omega)]
    refine ⟨fun q => ?_, fun q => ?_⟩
    · rw [if_neg q]
    · rw [if_pos q]
  · unfold gV
    rw [if_pos (by omega)]
end MS
