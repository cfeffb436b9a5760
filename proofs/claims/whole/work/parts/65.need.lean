/-! the class: tests of arguments -/
/-- a test: it lets pass, or it throws -/
def NE (A : AH) (c : Prop) (E : String) : Ot → AH → Prop := fun o' A' => (c ∧ o' = Rv ∧ A' = A) ∨ (¬ c ∧ o' = Th E ∧ A.1 ≤ A'.1 ∧ A'.2 = A.2)
section NE
variable {l : Launch} {X : XT} {A : AH}
theorem c_X5_needArgument (hl : l.stackTraces = false) {v : Int} (hv : sm v) : Ct l X 0 M_X5_needArgument [.int (I v)] A 1 6 (NE A (v ≠ 0) "java/lang/IllegalArgumentException") := by
  have h1 := hv.1
  have h2 := hv.2
  refine Ct.of hl rfl rfl (Nat.le_of_ble_eq_true rfl) (k_X5_needArgument_0 ?_)
  simp (disch := omega) only [true_implies, false_implies, not_true_eq_false, not_false_eq_true, I_n, I_neg, I_add, I_sub, I_mul, I_le4, I_lt4, I_eq4, I_div4, I_bi0, I_bi01, I_bi1, nor_em, rI_of, rV_of, zI_of, zV_of, nz_and, br_T, br_F, br_T2, br_F2, st_eq, st9_0, st_k, st_i, true_and, and_true, Classical.not_not]
  refine ⟨fun h => Or.inl ⟨h, rfl, rfl⟩, fun h => ⟨by decide, by decide, fun n hn => Or.inr ⟨fun q => q h, rfl, hn, rfl⟩⟩⟩
theorem c_X5_needState (hl : l.stackTraces = false) {v : Int} (hv : sm v) : Ct l X 0 M_X5_needState [.int (I v)] A 1 6 (NE A (v ≠ 0) "java/lang/IllegalStateException") := by
  have h1 := hv.1
  have h2 := hv.2
  refine Ct.of hl rfl rfl (Nat.le_of_ble_eq_true rfl) (k_X5_needState_0 ?_)
  simp (disch := omega) only [true_implies, false_implies, not_true_eq_false, not_false_eq_true, I_n, I_neg, I_add, I_sub, I_mul, I_le4, I_lt4, I_eq4, I_div4, I_bi0, I_bi01, I_bi1, nor_em, rI_of, rV_of, zI_of, zV_of, nz_and, br_T, br_F, br_T2, br_F2, st_eq, st9_0, st_k, st_i, true_and, and_true, Classical.not_not]
  refine ⟨fun h => Or.inl ⟨h, rfl, rfl⟩, fun h => ⟨by decide, by decide, fun n hn => Or.inr ⟨fun q => q h, rfl, hn, rfl⟩⟩⟩
theorem c_X5_needElement (hl : l.stackTraces = false) {v : Int} (hv : sm v) : Ct l X 0 M_X5_needElement [.int (I v)] A 1 6 (NE A (v ≠ 0) "java/util/NoSuchElementException") := by
  have h1 := hv.1
  have h2 := hv.2
  refine Ct.of hl rfl rfl (Nat.le_of_ble_eq_true rfl) (k_X5_needElement_0 ?_)
  simp (disch := omega) only [true_implies, false_implies, not_true_eq_false, not_false_eq_true, I_n, I_neg, I_add, I_sub, I_mul, I_le4, I_lt4, I_eq4, I_div4, I_bi0, I_bi01, I_bi1, nor_em, rI_of, rV_of, zI_of, zV_of, nz_and, br_T, br_F, br_T2, br_F2, st_eq, st9_0, st_k, st_i, true_and, and_true, Classical.not_not]
  refine ⟨fun h => Or.inl ⟨h, rfl, rfl⟩, fun h => ⟨by decide, by decide, fun n hn => Or.inr ⟨fun q => q h, rfl, hn, rfl⟩⟩⟩
theorem c_X5_needIndex (hl : l.stackTraces = false) {v n : Int} (hv : sm v) (hn : sm n) : Ct l X 0 M_X5_needIndex [.int (I v), .int (I n)] A 1 6 (NE A (0 ≤ v ∧ v ≤ n - 1) "java/lang/IndexOutOfBoundsException") := by
  have h1 := hv.1
  have h2 := hv.2
  have h3 := hn.1
  have h4 := hn.2
  have bad : ¬ (0 ≤ v ∧ v ≤ n - 1) → G l X M_X5_needIndex 0 (NE A (0 ≤ v ∧ v ≤ n - 1) "java/lang/IndexOutOfBoundsException") 9 [] [] A 1 6 := fun h =>
    k_X5_needIndex_9 ⟨by decide, by decide, fun n hn => Or.inr ⟨h, rfl, hn, rfl⟩⟩
  refine Ct.of hl rfl rfl (Nat.le_of_ble_eq_true rfl) (k_X5_needIndex_0 ?_)
  simp (disch := omega) only [true_implies, false_implies, not_true_eq_false, not_false_eq_true, I_n, I_neg, I_add, I_sub, I_mul, I_le4, I_lt4, I_eq4, I_div4, I_bi0, I_bi01, I_bi1, nor_em, rI_of, rV_of, zI_of, zV_of, nz_and, br_T, br_F, br_T2, br_F2, st_eq, st9_0, st_k, st_i, true_and, and_true, Classical.not_not]
  exact ⟨fun h => bad (by omega), fun h => ⟨fun h2 => Or.inl ⟨by omega, rfl, rfl⟩, fun h2 => bad (by omega)⟩⟩
theorem c_X5_isName (hl : l.stackTraces = false) {v : Int} (hv : sm v) : Fn l X 0 M_X5_isName [.int (I v)] A 0 0 (Ri (I (if 0 ≤ v ∧ v ≤ 999 then 1 else 0))) A := by
  have h1 := hv.1
  have h2 := hv.2
  refine Fn.of hl rfl rfl (Nat.le_of_ble_eq_true rfl) (k_X5_isName_0 ?_)
  simp (disch := omega) only [true_implies, false_implies, not_true_eq_false, not_false_eq_true, I_n, I_neg, I_add, I_sub, I_mul, I_le4, I_lt4, I_eq4, I_div4, I_bi0, I_bi01, I_bi1, nor_em, rI_of, rV_of, zI_of, zV_of, nz_and, br_T, br_F, br_T2, br_F2, st_eq, st9_0, st_k, st_i, true_and, and_true, Classical.not_not]
  refine ⟨fun h => ?_, fun h => ⟨fun h2 => ?_, fun h2 => ?_⟩⟩
  · rw [if_neg (by omega)]
    all_goals first | rfl | exact ⟨rfl, rfl⟩
  · rw [if_neg (by omega)]
    all_goals first | rfl | exact ⟨rfl, rfl⟩
  · rw [if_pos (by omega)]
    all_goals first | rfl | exact ⟨rfl, rfl⟩
end NE
