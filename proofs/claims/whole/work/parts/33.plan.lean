/-! the class: sums and differences of rows; what a Plan tells -/
def PR (P : Nat → Int → Int) (r : Int → Int) : Prop :=
  (P 10 0 = r 0 ∧ P 10 1 = r 4 ∧ P 10 2 = gN r ∧ P 10 3 = gT r ∧ P 10 13 = r 11 ∧ P 10 15 = r 12) ∧
  (∀ k, 0 ≤ k → k < r 0 → P 0 k = gB r 0 k ∧ P 1 k = gB r 1 k) ∧
  (∀ k, 0 ≤ k → k < gN r → P 2 k = gS r 0 (r 2 * k) (gLen r k)) ∧
  (∀ k, 0 ≤ k → k ≤ gN r → P 3 k = gPs r k ∧ P 4 k = gFs r k) ∧
  (∀ p, 0 ≤ p → p ≤ gT r → P 5 p = gLs r p) ∧
  (∀ p, 0 ≤ p → p < gT r → P 6 p = gPc r p) ∧
  (∀ x, 0 ≤ x → x < r 0 → P 7 x = gAt r x) ∧
  (∀ b, 0 ≤ b → b < r 11 → P 8 (3 * b) = r (44 + 3 * b) ∧ P 8 (3 * b + 1) = r (44 + 3 * b + 1) ∧ P 8 (3 * b + 2) = r (44 + 3 * b + 2)) ∧
  (∀ c, 0 ≤ c → c < r 12 → P 9 (2 * c) = r (80 + 2 * c) ∧ P 9 (2 * c + 1) = r (80 + 2 * c + 1))
def cutN (r : Int → Int) (s n : Int) : Int := cz (sg (fun c => bi (r (80 + 2 * c) = s ∧ r (80 + 2 * c + 1) = n)) (r 12).toNat)
def fGq (r g : Int → Int) (n : Int) : Nat → Int → Int
  | 0, j => j
  | m + 1, j => if r 2 * j + gLen r j ≤ n ∧ gR' g (r 2 * j) (gLen r j) = gS r 0 (r 2 * j) (gLen r j) then fGq r g n m (j + 1) else j
section CS
variable {l : Launch} {X : XT} {A : AH} {a b n n' : Nat} {g h : Int → Int}
theorem c_sumOf (hl : l.stackTraces = false) (ha : A.2 a = some (ia X n (fun k => I (g k)))) (hn : n ≤ 1000) {x m : Int} (h0 : 0 ≤ x) (h1 : 0 ≤ m) (h2 : x + m ≤ n) (hm : m ≤ 240) (hr : ∀ k, x ≤ k → k < x + m → 0 ≤ g k ∧ g k ≤ 255) : Fn l X 1 M_X5_sumOf [.ref a, .int (I x), .int (I m)] A 0 0 (Ri (I (gR' g x m))) A := by
  have hb : 0 ≤ sg (fun j => (j + 1) * g (x + j)) m.toNat ∧ sg (fun j => (j + 1) * g (x + j)) m.toNat ≤ 61200 * m.toNat := by
    constructor
    · refine sg_nn fun k hk => Int.mul_nonneg (by omega) (hr _ (by omega) (by omega)).1
    · refine sg_le fun k hk => ?_
      obtain ⟨a1, a2⟩ := hr (x + k) (by omega) (by omega)
      have b1 : ((k : Int) + 1) * g (x + k) ≤ ((k : Int) + 1) * 255 := Int.mul_le_mul_of_nonneg_left a2 (by omega)
      omega
  refine Fn.of hl rfl rfl (Nat.le_of_ble_eq_true rfl) (k_X5_sumOf_0 ?_)
  simp only [I_n]
  refine up_to (n := m.toNat) (P := fun j => G l X M_X5_sumOf 1 (fun o' A1 => o' = Ri (I (gR' g x m)) ∧ A1 = A) 5 [(0, .ref a), (1, .int (I x)), (2, .int (I m)), (3, .int (I (sg (fun j => (j + 1) * g (x + j)) j))), (4, .int (I j))] [] A 0 0) ?_ ?_
  · refine k_X5_sumOf_5 ?_
    simp (disch := omega) only [true_implies, false_implies, not_true_eq_false, not_false_eq_true, I_n, I_neg, I_add, I_sub, I_mul, I_le4, I_lt4, I_eq4, I_div4, I_bi0, I_bi01, I_bi1, nor_em, rI_of, rV_of, zI_of, zV_of, nz_and, br_T, br_F, br_T2, br_F2, st_eq, st9_0, st_k, st_i, true_and, and_true, Classical.not_not]
    unfold gR'
    rw [rem_e]
  · intro j hj ih
    refine k_X5_sumOf_5 ?_
    simp (disch := omega) only [true_implies, false_implies, not_true_eq_false, not_false_eq_true, I_n, I_neg, I_add, I_sub, I_mul, I_le4, I_lt4, I_eq4, I_div4, I_bi0, I_bi01, I_bi1, nor_em, rI_of, rV_of, zI_of, zV_of, nz_and, br_T, br_F, br_T2, br_F2, st_eq, st9_0, st_k, st_i, true_and, and_true, Classical.not_not]
    refine (c_at hl ha (by omega) (by omega) (by omega)).cl0 (by decide) ?_
    simp (disch := omega) only [true_implies, false_implies, not_true_eq_false, not_false_eq_true, I_n, I_neg, I_add, I_sub, I_mul, I_le4, I_lt4, I_eq4, I_div4, I_bi0, I_bi01, I_bi1, nor_em, rI_of, rV_of, zI_of, zV_of, nz_and, br_T, br_F, br_T2, br_F2, st_eq, st9_0, st_k, st_i, true_and, and_true, Classical.not_not]
    exact ih
theorem c_diff (hl : l.stackTraces = false) (ha : A.2 a = some (ia X n (fun k => I (g k)))) (hb : A.2 b = some (ia X n' (fun k => I (h k)))) (hn : n ≤ 1000) (hn' : n' ≤ 1000) {x m : Int} (h0 : 0 ≤ x) (h1 : 0 ≤ m) (h2 : x + m ≤ n) (h2' : x + m ≤ n') (hr : ∀ k, x ≤ k → k < x + m → (-100 ≤ g k ∧ g k ≤ 1000) ∧ -100 ≤ h k ∧ h k ≤ 1000) : Fn l X 1 M_X5_differences [.ref a, .ref b, .int (I x), .int (I m)] A 0 0 (Ri (I (sg (fun k => bi (¬ g (x + k) = h (x + k))) m.toNat))) A := by
  refine Fn.of hl rfl rfl (Nat.le_of_ble_eq_true rfl) (k_X5_differences_0 ?_)
  simp only [I_n]
  rw [show ((5 : Nat), Value.int (I x)) = (5, Value.int (I (x + ((0 : Nat) : Int)))) from congrArg (fun z => ((5 : Nat), Value.int (I z))) (Int.add_zero _).symm]
  refine up_to (n := m.toNat) (P := fun j => G l X M_X5_differences 1 (fun o' A1 => o' = Ri (I (sg (fun k => bi (¬ g (x + k) = h (x + k))) m.toNat)) ∧ A1 = A) 6 [(0, .ref a), (1, .ref b), (2, .int (I x)), (3, .int (I m)), (4, .int (I (sg (fun k => bi (¬ g (x + k) = h (x + k))) j))), (5, .int (I (x + j)))] [] A 0 0) ?_ ?_
  · refine k_X5_differences_6 ?_
    simp (disch := omega) only [true_implies, false_implies, not_true_eq_false, not_false_eq_true, I_n, I_neg, I_add, I_sub, I_mul, I_le4, I_lt4, I_eq4, I_div4, I_bi0, I_bi01, I_bi1, nor_em, rI_of, rV_of, zI_of, zV_of, nz_and, br_T, br_F, br_T2, br_F2, st_eq, st9_0, st_k, st_i, true_and, and_true, Classical.not_not]
  · intro j hj ih
    obtain ⟨r1, r2⟩ := hr (x + j) (by omega) (by omega)
    refine k_X5_differences_6 ?_
    simp (disch := omega) only [true_implies, false_implies, not_true_eq_false, not_false_eq_true, I_n, I_neg, I_add, I_sub, I_mul, I_le4, I_lt4, I_eq4, I_div4, I_bi0, I_bi01, I_bi1, nor_em, rI_of, rV_of, zI_of, zV_of, nz_and, br_T, br_F, br_T2, br_F2, st_eq, st9_0, st_k, st_i, true_and, and_true, Classical.not_not]
    refine (c_at hl ha (by omega) (by omega) (by omega)).cl0 (by decide) ?_
    simp (disch := omega) only [true_implies, false_implies, not_true_eq_false, not_false_eq_true, I_n, I_neg, I_add, I_sub, I_mul, I_le4, I_lt4, I_eq4, I_div4, I_bi0, I_bi01, I_bi1, nor_em, rI_of, rV_of, zI_of, zV_of, nz_and, br_T, br_F, br_T2, br_F2, st_eq, st9_0, st_k, st_i, true_and, and_true, Classical.not_not]
    refine (c_at hl hb (by omega) (by omega) (by omega)).cl0 (by decide) ?_
    simp (disch := omega) only [true_implies, false_implies, not_true_eq_false, not_false_eq_true, I_n, I_neg, I_add, I_sub, I_mul, I_le4, I_lt4, I_eq4, I_div4, I_bi0, I_bi01, I_bi1, nor_em, rI_of, rV_of, zI_of, zV_of, nz_and, br_T, br_F, br_T2, br_F2, st_eq, st9_0, st_k, st_i, true_and, and_true, Classical.not_not]
    refine ⟨fun q => ?_, fun q => ?_⟩
    · have e : sg (fun k => bi (¬ g (x + k) = h (x + k))) (j + 1) = sg (fun k => bi (¬ g (x + k) = h (x + k))) j + 0 := by rw [sg_s, bi_f (p := ¬ g (x + j) = h (x + j)) (fun y => y q)]
      rw [e, Int.add_zero] at ih
      rw [Int.add_assoc]
      exact ih
    · have e : sg (fun k => bi (¬ g (x + k) = h (x + k))) (j + 1) = sg (fun k => bi (¬ g (x + k) = h (x + k))) j + 1 := by rw [sg_s, bi_t q]
      rw [e] at ih
      rw [Int.add_assoc]
      exact ih
end CS
section CP
variable {l : Launch} {X : XT} {A : AH} {p : Nat} {P : Nat → Int → Int} {r : Int → Int}
theorem c_X3_bytesOf0 (hl : l.stackTraces = false) (h : PlanAt X A p P) : Fn l X 0 M_X3_bytesOf [.ref p, .int (I 0)] A 0 0 (Ra (p + 1)) A := by
  refine Fn.of hl rfl rfl (Nat.le_of_ble_eq_true rfl) (k_X3_bytesOf_0 ?_)
  simp (disch := omega) only [true_implies, false_implies, not_true_eq_false, not_false_eq_true, I_n, I_neg, I_add, I_sub, I_mul, I_le4, I_lt4, I_eq4, I_div4, I_bi0, I_bi01, I_bi1, nor_em, rI_of, rV_of, zI_of, zV_of, nz_and, br_T, br_F, br_T2, br_F2, st_eq, st9_0, st_k, st_i, true_and, and_true, Classical.not_not]
  rw [h.r4]
  all_goals first | rfl | exact ⟨rfl, rfl⟩
theorem c_X3_bytesOf1 (hl : l.stackTraces = false) (h : PlanAt X A p P) : Fn l X 0 M_X3_bytesOf [.ref p, .int (I 1)] A 0 0 (Ra (p + 2)) A := by
  refine Fn.of hl rfl rfl (Nat.le_of_ble_eq_true rfl) (k_X3_bytesOf_0 ?_)
  simp (disch := omega) only [true_implies, false_implies, not_true_eq_false, not_false_eq_true, I_n, I_neg, I_add, I_sub, I_mul, I_le4, I_lt4, I_eq4, I_div4, I_bi0, I_bi01, I_bi1, nor_em, rI_of, rV_of, zI_of, zV_of, nz_and, br_T, br_F, br_T2, br_F2, st_eq, st9_0, st_k, st_i, true_and, and_true, Classical.not_not]
  rw [h.r5]
  all_goals first | rfl | exact ⟨rfl, rfl⟩
theorem c_X3_partStart (hl : l.stackTraces = false) (h : PlanAt X A p P) (q : PR P r) (g : GW r) {k : Int} (h0 : 0 ≤ k) (h1 : k ≤ gT r) : Fn l X 1 M_X3_partStart [.ref p, .int (I k)] A 0 0 (Ri (I (gLs r k))) A := by
  obtain ⟨t1, t2⟩ := gT_b g
  have lg := g.2.1
  have e := q.2.2.2.2.1 k h0 h1
  refine Fn.of hl rfl rfl (Nat.le_of_ble_eq_true rfl) (k_X3_partStart_0 ?_)
  rw [h.r9]
  refine (at_p5 hl h h0 (by omega)).cl0 (by decide) ?_
  simp (disch := omega) only [true_implies, false_implies, not_true_eq_false, not_false_eq_true, I_n, I_neg, I_add, I_sub, I_mul, I_le4, I_lt4, I_eq4, I_div4, I_bi0, I_bi01, I_bi1, nor_em, rI_of, rV_of, zI_of, zV_of, nz_and, br_T, br_F, br_T2, br_F2, st_eq, st9_0, st_k, st_i, true_and, and_true, Classical.not_not]
  rw [e]
  all_goals first | rfl | exact ⟨rfl, rfl⟩
theorem c_X3_partLength (hl : l.stackTraces = false) (h : PlanAt X A p P) (q : PR P r) (g : GW r) {k : Int} (h0 : 0 ≤ k) (h1 : k < gT r) : Fn l X 1 M_X3_partLength [.ref p, .int (I k)] A 0 0 (Ri (I (gPt r k))) A := by
  obtain ⟨t1, t2⟩ := gT_b g
  have lg := g.2.1
  have e := q.2.2.2.2.1 k h0 (by omega)
  have e2 := q.2.2.2.2.1 (k + 1) (by omega) (by omega)
  have en := gLs_n g h0 h1
  have el : gLs r k = gPl r k := if_pos h1
  refine Fn.of hl rfl rfl (Nat.le_of_ble_eq_true rfl) (k_X3_partLength_0 ?_)
  rw [h.r9]
  simp (disch := omega) only [true_implies, false_implies, not_true_eq_false, not_false_eq_true, I_n, I_neg, I_add, I_sub, I_mul, I_le4, I_lt4, I_eq4, I_div4, I_bi0, I_bi01, I_bi1, nor_em, rI_of, rV_of, zI_of, zV_of, nz_and, br_T, br_F, br_T2, br_F2, st_eq, st9_0, st_k, st_i, true_and, and_true, Classical.not_not]
  refine (at_p5 hl h (by omega) (by omega)).cl0 (by decide) ?_
  simp (disch := omega) only [true_implies, false_implies, not_true_eq_false, not_false_eq_true, I_n, I_neg, I_add, I_sub, I_mul, I_le4, I_lt4, I_eq4, I_div4, I_bi0, I_bi01, I_bi1, nor_em, rI_of, rV_of, zI_of, zV_of, nz_and, br_T, br_F, br_T2, br_F2, st_eq, st9_0, st_k, st_i, true_and, and_true, Classical.not_not]
  rw [h.r9]
  refine (at_p5 hl h (by omega) (by omega)).cl0 (by decide) ?_
  simp (disch := omega) only [true_implies, false_implies, not_true_eq_false, not_false_eq_true, I_n, I_neg, I_add, I_sub, I_mul, I_le4, I_lt4, I_eq4, I_div4, I_bi0, I_bi01, I_bi1, nor_em, rI_of, rV_of, zI_of, zV_of, nz_and, br_T, br_F, br_T2, br_F2, st_eq, st9_0, st_k, st_i, true_and, and_true, Classical.not_not]
  rw [show P 5 (k + 1) - P 5 k = gPt r k by omega]
  all_goals first | rfl | exact ⟨rfl, rfl⟩
theorem c_X3_firstPart (hl : l.stackTraces = false) (h : PlanAt X A p P) (q : PR P r) (g : GW r) {k : Int} (h0 : 0 ≤ k) (h1 : k < gN r) : Fn l X 1 M_X3_firstPart [.ref p, .int (I k)] A 0 0 (Ri (I (gF r k))) A := by
  obtain ⟨n1, n2, -⟩ := gN_b g
  have e := (q.2.2.2.1 k h0 (by omega)).2
  have el : gFs r k = gF r k := if_pos h1
  refine Fn.of hl rfl rfl (Nat.le_of_ble_eq_true rfl) (k_X3_firstPart_0 ?_)
  rw [h.r8]
  refine (at_p4 hl h h0 (by omega)).cl0 (by decide) ?_
  simp (disch := omega) only [true_implies, false_implies, not_true_eq_false, not_false_eq_true, I_n, I_neg, I_add, I_sub, I_mul, I_le4, I_lt4, I_eq4, I_div4, I_bi0, I_bi01, I_bi1, nor_em, rI_of, rV_of, zI_of, zV_of, nz_and, br_T, br_F, br_T2, br_F2, st_eq, st9_0, st_k, st_i, true_and, and_true, Classical.not_not]
  rw [e, el]
  all_goals first | rfl | exact ⟨rfl, rfl⟩
theorem c_X3_partsOf (hl : l.stackTraces = false) (h : PlanAt X A p P) (q : PR P r) (g : GW r) {k : Int} (h0 : 0 ≤ k) (h1 : k < gN r) : Fn l X 1 M_X3_partsOf [.ref p, .int (I k)] A 0 0 (Ri (I (gPo r k))) A := by
  obtain ⟨n1, n2, -⟩ := gN_b g
  have e := (q.2.2.2.1 k h0 (by omega)).2
  have e2 := (q.2.2.2.1 (k + 1) (by omega) (by omega)).2
  have en := gFs_d g h0 h1
  refine Fn.of hl rfl rfl (Nat.le_of_ble_eq_true rfl) (k_X3_partsOf_0 ?_)
  rw [h.r8]
  simp (disch := omega) only [true_implies, false_implies, not_true_eq_false, not_false_eq_true, I_n, I_neg, I_add, I_sub, I_mul, I_le4, I_lt4, I_eq4, I_div4, I_bi0, I_bi01, I_bi1, nor_em, rI_of, rV_of, zI_of, zV_of, nz_and, br_T, br_F, br_T2, br_F2, st_eq, st9_0, st_k, st_i, true_and, and_true, Classical.not_not]
  refine (at_p4 hl h (by omega) (by omega)).cl0 (by decide) ?_
  simp (disch := omega) only [true_implies, false_implies, not_true_eq_false, not_false_eq_true, I_n, I_neg, I_add, I_sub, I_mul, I_le4, I_lt4, I_eq4, I_div4, I_bi0, I_bi01, I_bi1, nor_em, rI_of, rV_of, zI_of, zV_of, nz_and, br_T, br_F, br_T2, br_F2, st_eq, st9_0, st_k, st_i, true_and, and_true, Classical.not_not]
  rw [h.r8]
  refine (at_p4 hl h (by omega) (by omega)).cl0 (by decide) ?_
  simp (disch := omega) only [true_implies, false_implies, not_true_eq_false, not_false_eq_true, I_n, I_neg, I_add, I_sub, I_mul, I_le4, I_lt4, I_eq4, I_div4, I_bi0, I_bi01, I_bi1, nor_em, rI_of, rV_of, zI_of, zV_of, nz_and, br_T, br_F, br_T2, br_F2, st_eq, st9_0, st_k, st_i, true_and, and_true, Classical.not_not]
  rw [show P 4 (k + 1) - P 4 k = gPo r k by omega]
  all_goals first | rfl | exact ⟨rfl, rfl⟩
theorem c_X3_pieceStart (hl : l.stackTraces = false) (h : PlanAt X A p P) (q : PR P r) (g : GW r) {k : Int} (h0 : 0 ≤ k) (h1 : k < gN r) : Fn l X 1 M_X3_pieceStart [.ref p, .int (I k)] A 0 0 (Ri (I (r 2 * k))) A := by
  obtain ⟨n1, n2, -⟩ := gN_b g
  have e := (q.2.2.2.1 k h0 (by omega)).1
  have el : gPs r k = r 2 * k := if_pos h1
  refine Fn.of hl rfl rfl (Nat.le_of_ble_eq_true rfl) (k_X3_pieceStart_0 ?_)
  rw [h.r7]
  refine (at_p3 hl h h0 (by omega)).cl0 (by decide) ?_
  simp (disch := omega) only [true_implies, false_implies, not_true_eq_false, not_false_eq_true, I_n, I_neg, I_add, I_sub, I_mul, I_le4, I_lt4, I_eq4, I_div4, I_bi0, I_bi01, I_bi1, nor_em, rI_of, rV_of, zI_of, zV_of, nz_and, br_T, br_F, br_T2, br_F2, st_eq, st9_0, st_k, st_i, true_and, and_true, Classical.not_not]
  rw [e, el]
  all_goals first | rfl | exact ⟨rfl, rfl⟩
theorem c_X3_pieceLength (hl : l.stackTraces = false) (h : PlanAt X A p P) (q : PR P r) (g : GW r) {k : Int} (h0 : 0 ≤ k) (h1 : k < gN r) : Fn l X 1 M_X3_pieceLength [.ref p, .int (I k)] A 0 0 (Ri (I (gLen r k))) A := by
  obtain ⟨n1, n2, -⟩ := gN_b g
  have e := (q.2.2.2.1 k h0 (by omega)).1
  have e2 := (q.2.2.2.1 (k + 1) (by omega) (by omega)).1
  have en := gPs_d g h0 h1
  refine Fn.of hl rfl rfl (Nat.le_of_ble_eq_true rfl) (k_X3_pieceLength_0 ?_)
  rw [h.r7]
  simp (disch := omega) only [true_implies, false_implies, not_true_eq_false, not_false_eq_true, I_n, I_neg, I_add, I_sub, I_mul, I_le4, I_lt4, I_eq4, I_div4, I_bi0, I_bi01, I_bi1, nor_em, rI_of, rV_of, zI_of, zV_of, nz_and, br_T, br_F, br_T2, br_F2, st_eq, st9_0, st_k, st_i, true_and, and_true, Classical.not_not]
  refine (at_p3 hl h (by omega) (by omega)).cl0 (by decide) ?_
  simp (disch := omega) only [true_implies, false_implies, not_true_eq_false, not_false_eq_true, I_n, I_neg, I_add, I_sub, I_mul, I_le4, I_lt4, I_eq4, I_div4, I_bi0, I_bi01, I_bi1, nor_em, rI_of, rV_of, zI_of, zV_of, nz_and, br_T, br_F, br_T2, br_F2, st_eq, st9_0, st_k, st_i, true_and, and_true, Classical.not_not]
  rw [h.r7]
  refine (at_p3 hl h (by omega) (by omega)).cl0 (by decide) ?_
  simp (disch := omega) only [true_implies, false_implies, not_true_eq_false, not_false_eq_true, I_n, I_neg, I_add, I_sub, I_mul, I_le4, I_lt4, I_eq4, I_div4, I_bi0, I_bi01, I_bi1, nor_em, rI_of, rV_of, zI_of, zV_of, nz_and, br_T, br_F, br_T2, br_F2, st_eq, st9_0, st_k, st_i, true_and, and_true, Classical.not_not]
  rw [show P 3 (k + 1) - P 3 k = gLen r k by omega]
  all_goals first | rfl | exact ⟨rfl, rfl⟩
theorem c_X3_isCutAt (hl : l.stackTraces = false) (h : PlanAt X A p P) (q : PR P r) {e : Int} (w : RW r e) {s n : Int} (hs : 0 ≤ s ∧ s ≤ 1) (hn : 0 ≤ n ∧ n ≤ 2100000000) : Fn l X 1 M_X3_isCutAt [.ref p, .int (I s), .int (I n)] A 0 0 (Ri (I (cutN r s n))) A := by
  have c3 := w.2.2.2.1
  have f3 := w.2.2.2.2.2.2.2.2.1
  have e15 := q.1.2.2.2.2.2
  have e9 := q.2.2.2.2.2.2.2.2
  have hb : ∀ k : Nat, k < (r 12).toNat → 0 ≤ (fun c => bi (r (80 + 2 * c) = s ∧ r (80 + 2 * c + 1) = n)) (k : Int) := fun k _ => bi_b.1
  refine Fn.of hl rfl rfl (Nat.le_of_ble_eq_true rfl) (k_X3_isCutAt_0 ?_)
  simp only [I_n]
  have key : ∀ (m j : Nat), j + m = (r 12).toNat → sg (fun c => bi (r (80 + 2 * c) = s ∧ r (80 + 2 * c + 1) = n)) j = 0 → G l X M_X3_isCutAt 1 (fun o' A1 => o' = Ri (I (cutN r s n)) ∧ A1 = A) 2 [(0, .ref p), (1, .int (I s)), (2, .int (I n)), (3, .int (I j))] [] A 0 0 := by
    intro m
    induction m with
    | zero =>
      intro j hj hz
      refine k_X3_isCutAt_2 ?_
      rw [h.g15, e15]
      simp (disch := omega) only [true_implies, false_implies, not_true_eq_false, not_false_eq_true, I_n, I_neg, I_add, I_sub, I_mul, I_le4, I_lt4, I_eq4, I_div4, I_bi0, I_bi01, I_bi1, nor_em, rI_of, rV_of, zI_of, zV_of, nz_and, br_T, br_F, br_T2, br_F2, st_eq, st9_0, st_k, st_i, true_and, and_true, Classical.not_not]
      unfold cutN
      rw [← hj, Nat.add_zero, hz]
      all_goals first | rfl | exact ⟨rfl, rfl⟩
    | succ m ih =>
      intro j hj hz
      obtain ⟨a1, a2⟩ := e9 j (by omega) (by omega)
      obtain ⟨b1, b2, b3, b4⟩ := f3 j (by omega) (by omega)
      have no : ¬ (r (80 + 2 * j) = s ∧ r (80 + 2 * j + 1) = n) → G l X M_X3_isCutAt 1 (fun o' A1 => o' = Ri (I (cutN r s n)) ∧ A1 = A) 2 [(0, .ref p), (1, .int (I s)), (2, .int (I n)), (3, .int (I (j + 1)))] [] A 0 0 := fun hne => by
        have := ih (j + 1) (by omega) (by rw [sg_s, hz, bi_f hne]; rfl)
        exact this
      refine k_X3_isCutAt_2 ?_
      rw [h.g15, e15]
      simp (disch := omega) only [true_implies, false_implies, not_true_eq_false, not_false_eq_true, I_n, I_neg, I_add, I_sub, I_mul, I_le4, I_lt4, I_eq4, I_div4, I_bi0, I_bi01, I_bi1, nor_em, rI_of, rV_of, zI_of, zV_of, nz_and, br_T, br_F, br_T2, br_F2, st_eq, st9_0, st_k, st_i, true_and, and_true, Classical.not_not]
      rw [h.r14]
      refine (at_p9 hl h (by omega) (by omega)).cl0 (by decide) ?_
      rw [a1]
      simp (disch := omega) only [true_implies, false_implies, not_true_eq_false, not_false_eq_true, I_n, I_neg, I_add, I_sub, I_mul, I_le4, I_lt4, I_eq4, I_div4, I_bi0, I_bi01, I_bi1, nor_em, rI_of, rV_of, zI_of, zV_of, nz_and, br_T, br_F, br_T2, br_F2, st_eq, st9_0, st_k, st_i, true_and, and_true, Classical.not_not]
      refine ⟨fun h1 => no fun y => h1 y.1, fun h1 => ?_⟩
      rw [h.r14]
      refine (at_p9 hl h (by omega) (by omega)).cl0 (by decide) ?_
      rw [a2]
      simp (disch := omega) only [true_implies, false_implies, not_true_eq_false, not_false_eq_true, I_n, I_neg, I_add, I_sub, I_mul, I_le4, I_lt4, I_eq4, I_div4, I_bi0, I_bi01, I_bi1, nor_em, rI_of, rV_of, zI_of, zV_of, nz_and, br_T, br_F, br_T2, br_F2, st_eq, st9_0, st_k, st_i, true_and, and_true, Classical.not_not]
      refine ⟨fun h2 => no fun y => h2 y.2, fun h2 => ?_⟩
      have hp : 0 < sg (fun c => bi (r (80 + 2 * c) = s ∧ r (80 + 2 * c + 1) = n)) (r 12).toNat := by
        have m1 := sg_mono (f := fun c => bi (r (80 + 2 * c) = s ∧ r (80 + 2 * c + 1) = n)) (n := j + 1) (m := (r 12).toNat) hb (by omega)
        have m2 : sg (fun c => bi (r (80 + 2 * c) = s ∧ r (80 + 2 * c + 1) = n)) (j + 1) = 0 + 1 := by rw [sg_s, hz, bi_t ⟨h1, h2⟩]
        omega
      unfold cutN
      rw [cz_p hp]
      all_goals first | rfl | exact ⟨rfl, rfl⟩
  exact key (r 12).toNat 0 (by omega) rfl
theorem c_X3_leadingGoodPieces (hl : l.stackTraces = false) (h : PlanAt X A p P) (q : PR P r) {e : Int} (w : RW r e) {b n : Nat} {g : Int → Int} (hb : A.2 b = some (ia X n (fun k => I (g k)))) (hn : n ≤ 240) (hr : ∀ k : Int, 0 ≤ k → k < n → 0 ≤ g k ∧ g k ≤ 255) : Fn l X 2 M_X3_leadingGoodPieces [.ref p, .ref b] A 0 0 (Ri (I (fGq r g n (gN r).toNat 0))) A := by
  have gw := w.1
  obtain ⟨n1, n2, -⟩ := gN_b gw
  have lg := gw.2.1
  have e2 := q.1.2.2.1
  refine Fn.of hl rfl rfl (Nat.le_of_ble_eq_true rfl) (k_X3_leadingGoodPieces_0 ?_)
  simp only [I_n]
  have key : ∀ (m : Nat) (j : Int), 0 ≤ j → j + m = gN r → G l X M_X3_leadingGoodPieces 2 (fun o' A1 => o' = Ri (I (fGq r g n m j)) ∧ A1 = A) 2 [(0, .ref p), (1, .ref b), (2, .int (I j))] [] A 0 0 := by
    intro m
    induction m with
    | zero =>
      intro j j0 hj
      refine k_X3_leadingGoodPieces_2 ?_
      rw [h.g2, e2]
      simp (disch := omega) only [true_implies, false_implies, not_true_eq_false, not_false_eq_true, I_n, I_neg, I_add, I_sub, I_mul, I_le4, I_lt4, I_eq4, I_div4, I_bi0, I_bi01, I_bi1, nor_em, rI_of, rV_of, zI_of, zV_of, nz_and, br_T, br_F, br_T2, br_F2, st_eq, st9_0, st_k, st_i, true_and, and_true, Classical.not_not]
      rw [h.g2, e2, show gN r = j by omega]
      all_goals first | rfl | exact ⟨rfl, rfl⟩
    | succ m ih =>
      intro j j0 hj
      obtain ⟨l1, l2, l3, l4⟩ := gLen_b gw j0 (by omega)
      have g4 := gw.2.2.2.1
      have e5 := q.2.2.1 j j0 (by omega)
      have hS : 0 ≤ gS r 0 (r 2 * j) (gLen r j) ∧ gS r 0 (r 2 * j) (gLen r j) < 9973 := by unfold gS; omega
      have hR : 0 ≤ gR' g (r 2 * j) (gLen r j) ∧ gR' g (r 2 * j) (gLen r j) < 9973 := by unfold gR'; omega
      refine k_X3_leadingGoodPieces_2 ?_
      rw [h.g2, e2]
      simp (disch := omega) only [true_implies, false_implies, not_true_eq_false, not_false_eq_true, I_n, I_neg, I_add, I_sub, I_mul, I_le4, I_lt4, I_eq4, I_div4, I_bi0, I_bi01, I_bi1, nor_em, rI_of, rV_of, zI_of, zV_of, nz_and, br_T, br_F, br_T2, br_F2, st_eq, st9_0, st_k, st_i, true_and, and_true, Classical.not_not]
      refine ⟨h.isO, (c_X3_pieceStart hl h q gw j0 (by omega)).cl0 (by decide) ?_⟩
      simp (disch := omega) only [true_implies, false_implies, not_true_eq_false, not_false_eq_true, I_n, I_neg, I_add, I_sub, I_mul, I_le4, I_lt4, I_eq4, I_div4, I_bi0, I_bi01, I_bi1, nor_em, rI_of, rV_of, zI_of, zV_of, nz_and, br_T, br_F, br_T2, br_F2, st_eq, st9_0, st_k, st_i, true_and, and_true, Classical.not_not]
      refine ⟨h.isO, (c_X3_pieceLength hl h q gw j0 (by omega)).cl0 (by decide) ?_⟩
      simp (disch := omega) only [true_implies, false_implies, not_true_eq_false, not_false_eq_true, I_n, I_neg, I_add, I_sub, I_mul, I_le4, I_lt4, I_eq4, I_div4, I_bi0, I_bi01, I_bi1, nor_em, rI_of, rV_of, zI_of, zV_of, nz_and, br_T, br_F, br_T2, br_F2, st_eq, st9_0, st_k, st_i, true_and, and_true, Classical.not_not]
      rw [nI_iff hb, I_ofNat]
      simp (disch := omega) only [true_implies, false_implies, not_true_eq_false, not_false_eq_true, I_n, I_neg, I_add, I_sub, I_mul, I_le4, I_lt4, I_eq4, I_div4, I_bi0, I_bi01, I_bi1, nor_em, rI_of, rV_of, zI_of, zV_of, nz_and, br_T, br_F, br_T2, br_F2, st_eq, st9_0, st_k, st_i, true_and, and_true, Classical.not_not]
      refine ⟨fun hlt => ?_, fun hlt => ?_⟩
      · have e1 : fGq r g n (m + 1) j = j := if_neg fun y => by omega
        rw [e1]
        all_goals first | rfl | exact ⟨rfl, rfl⟩
      · refine (c_sumOf hl hb (by omega) (by omega) (by omega) (by omega) (by omega) fun k k0 k1 => hr k (by omega) (by omega)).cl0 (by decide) ?_
        simp (disch := omega) only [true_implies, false_implies, not_true_eq_false, not_false_eq_true, I_n, I_neg, I_add, I_sub, I_mul, I_le4, I_lt4, I_eq4, I_div4, I_bi0, I_bi01, I_bi1, nor_em, rI_of, rV_of, zI_of, zV_of, nz_and, br_T, br_F, br_T2, br_F2, st_eq, st9_0, st_k, st_i, true_and, and_true, Classical.not_not]
        rw [h.r6]
        refine (at_p2 hl h j0 (by omega)).cl0 (by decide) ?_
        rw [e5]
        simp (disch := omega) only [true_implies, false_implies, not_true_eq_false, not_false_eq_true, I_n, I_neg, I_add, I_sub, I_mul, I_le4, I_lt4, I_eq4, I_div4, I_bi0, I_bi01, I_bi1, nor_em, rI_of, rV_of, zI_of, zV_of, nz_and, br_T, br_F, br_T2, br_F2, st_eq, st9_0, st_k, st_i, true_and, and_true, Classical.not_not]
        refine ⟨fun h2 => ?_, fun h2 => ?_⟩
        · have e1 : fGq r g n (m + 1) j = fGq r g n m (j + 1) := if_pos ⟨by omega, h2⟩
          rw [e1]
          exact ih (j + 1) (by omega) (by omega)
        · have e1 : fGq r g n (m + 1) j = j := if_neg fun y => h2 y.2
          rw [e1]
          all_goals first | rfl | exact ⟨rfl, rfl⟩
  exact key (gN r).toNat 0 (by omega) (by omega)
end CP
