/-! the class's Reader: bytes, spaces, numbers -/
abbrev RZ : Type := Int × Int × Int × Int
/-- a Reader at d: position, flaws, error, errorAt -/
def rfs (tx : Nat) (n : Int) (z : RZ) : List Value := [.ref tx, .int (I n), .int (I z.1), .int (I z.2.1), .int (I z.2.2.1), .int (I z.2.2.2)]
def rp (A : AH) (d tx : Nat) (n : Int) (z : RZ) : AH := up A d (ob 5 (rfs tx n z))
def zFail (z : RZ) (c w : Int) : RZ := if z.2.2.1 = 0 then (z.1, z.2.1, c, w) else z
def cDi (t : Int → Int) (n : Int) : Nat → Int → Int → Int × Int
  | 0, p, v => (p, v)
  | m + 1, p, v => if 48 ≤ gSee t n p ∧ gSee t n p ≤ 57 then cDi t n m (p + 1) (if 100000 < 10 * v + gSee t n p - 48 then 100000 else 10 * v + gSee t n p - 48) else (p, v)
section RP
variable {A : AH} {d tx : Nat} {n : Int} {z : RZ}
theorem rp_q : (rp A d tx n z).2 d = some (ob 5 (rfs tx n z)) := up_q
theorem rp_b {b : Nat} (h : b ≠ d) : (rp A d tx n z).2 b = A.2 b := up_b h
theorem rp_g1 {K : Int32 → Prop} : gI (rp A d tx n z) d 5 1 K ↔ K (I n) := gI_iff rp_q rfl
theorem rp_g2 {K : Int32 → Prop} : gI (rp A d tx n z) d 5 2 K ↔ K (I z.1) := gI_iff rp_q rfl
theorem rp_g3 {K : Int32 → Prop} : gI (rp A d tx n z) d 5 3 K ↔ K (I z.2.1) := gI_iff rp_q rfl
theorem rp_g4 {K : Int32 → Prop} : gI (rp A d tx n z) d 5 4 K ↔ K (I z.2.2.1) := gI_iff rp_q rfl
theorem rp_g5 {K : Int32 → Prop} : gI (rp A d tx n z) d 5 5 K ↔ K (I z.2.2.2) := gI_iff rp_q rfl
theorem rp_r0 {K : Nat → Prop} : gR (rp A d tx n z) d 5 0 K ↔ K tx := gR_iff rp_q rfl
theorem rp_up {fs : List Value} {z' : RZ} (h : fs = rfs tx n z') : up (rp A d tx n z) d (ob 5 fs) = rp A d tx n z' := by
  rw [h]
  exact up_up
theorem rp_p2 {v : Int} {K : AH → Prop} : pV (rp A d tx n z) d 5 2 (.int (I v)) K ↔ K (rp A d tx n (v, z.2)) := by
  rw [pV_iff (k := 2) rp_q (Nat.le_of_ble_eq_true rfl), rp_up (fs := (rfs tx n z).set 2 (.int (I v))) (z' := (v, z.2)) rfl]
theorem rp_p3 {v : Int} {K : AH → Prop} : pV (rp A d tx n z) d 5 3 (.int (I v)) K ↔ K (rp A d tx n (z.1, v, z.2.2)) := by
  rw [pV_iff (k := 3) rp_q (Nat.le_of_ble_eq_true rfl), rp_up (fs := (rfs tx n z).set 3 (.int (I v))) (z' := (z.1, v, z.2.2)) rfl]
theorem rp_p4 {v : Int} {K : AH → Prop} : pV (rp A d tx n z) d 5 4 (.int (I v)) K ↔ K (rp A d tx n (z.1, z.2.1, v, z.2.2.2)) := by
  rw [pV_iff (k := 4) rp_q (Nat.le_of_ble_eq_true rfl), rp_up (fs := (rfs tx n z).set 4 (.int (I v))) (z' := (z.1, z.2.1, v, z.2.2.2)) rfl]
theorem rp_p5 {v : Int} {K : AH → Prop} : pV (rp A d tx n z) d 5 5 (.int (I v)) K ↔ K (rp A d tx n (z.1, z.2.1, z.2.2.1, v)) := by
  rw [pV_iff (k := 5) rp_q (Nat.le_of_ble_eq_true rfl), rp_up (fs := (rfs tx n z).set 5 (.int (I v))) (z' := (z.1, z.2.1, z.2.2.1, v)) rfl]
theorem rp_o : isO (rp A d tx n z) d 5 ↔ True := ⟨fun _ => trivial, fun _ => ⟨_, rp_q⟩⟩
end RP
/-- what a Reader's number holds: where it stands, what it is -/
def cNum (t : Int → Int) (n : Int) (z : RZ) (lo hi : Int) : RZ × Int :=
  let s := sk t n z.1
  let w := cDi t n (n - s).toNat s 0
  if w.1 = s then (zFail (w.1, z.2) (-2) s, lo) else if w.2 < lo ∨ hi < w.2 then (zFail (w.1, z.2) (-3) s, lo) else ((w.1, z.2), w.2)
theorem cDi_b {t : Int → Int} {n : Int} : ∀ (m : Nat) (p v : Int), p + m ≤ n → 0 ≤ v → v ≤ 100000 → p ≤ (cDi t n m p v).1 ∧ (cDi t n m p v).1 ≤ n ∧ 0 ≤ (cDi t n m p v).2 ∧ (cDi t n m p v).2 ≤ 100000 := by
  intro m
  induction m with
  | zero => intro p v h h0 h1; exact ⟨Int.le_refl _, by show p ≤ n; omega, h0, h1⟩
  | succ m ih =>
    intro p v h h0 h1
    unfold cDi
    split
    · obtain ⟨a1, a2, a3, a4⟩ := ih (p + 1) (if 100000 < 10 * v + gSee t n p - 48 then 100000 else 10 * v + gSee t n p - 48) (by omega) (by split <;> omega) (by split <;> omega)
      exact ⟨by omega, a2, a3, a4⟩
    · exact ⟨Int.le_refl _, by show p ≤ n; omega, h0, h1⟩
section CR
variable {l : Launch} {X : XT} {A : AH} {d tx : Nat} {n : Int} {z : RZ} {t : Int → Int}
theorem c_X4_byteAt (hl : l.stackTraces = false) (ht : A.2 tx = some (ia X 400 (fun k => I (t k)))) (hd : tx ≠ d) (hn : 0 ≤ n ∧ n ≤ 400) {k : Int} (h0 : 0 ≤ k) (h1 : k ≤ 1000) : Fn l X 1 M_X4_byteAt [.ref d, .int (I k)] (rp A d tx n z) 0 0 (Ri (I (gSee t n k))) (rp A d tx n z) := by
  refine Fn.of hl rfl rfl (Nat.le_of_ble_eq_true rfl) (k_X4_byteAt_0 ?_)
  unfold gSee
  simp (disch := omega) only [true_implies, false_implies, not_true_eq_false, not_false_eq_true, rR_of, I_n, I_neg, I_add, I_sub, I_mul, I_le4, I_lt4, I_eq4, I_div4, I_bi0, I_bi01, I_bi1, nor_em, rI_of, rV_of, zI_of, zV_of, nz_and, br_T, br_F, br_T2, br_F2, st_eq, st9_0, st_k, st_i, true_and, and_true, Classical.not_not, rp_g1, rp_g2, rp_g3, rp_g4, rp_g5, rp_r0, rp_p2, rp_p3, rp_p4, rp_p5, rp_o]
  refine ⟨fun h => ?_, fun h => ?_⟩
  · rw [if_pos h]
    all_goals first | rfl | exact ⟨rfl, rfl⟩
  · rw [if_neg h]
    refine (c_at hl ((rp_b hd).trans ht) (by decide) h0 (by omega)).cl0 (by decide) ?_
    simp (disch := omega) only [true_implies, false_implies, not_true_eq_false, not_false_eq_true, rR_of, I_n, I_neg, I_add, I_sub, I_mul, I_le4, I_lt4, I_eq4, I_div4, I_bi0, I_bi01, I_bi1, nor_em, rI_of, rV_of, zI_of, zV_of, nz_and, br_T, br_F, br_T2, br_F2, st_eq, st9_0, st_k, st_i, true_and, and_true, Classical.not_not, rp_g1, rp_g2, rp_g3, rp_g4, rp_g5, rp_r0, rp_p2, rp_p3, rp_p4, rp_p5, rp_o]
    all_goals first | rfl | exact ⟨rfl, rfl⟩
theorem c_X4_fail (hl : l.stackTraces = false) {c w : Int} (he : sm z.2.2.1) : Fn l X 0 M_X4_fail [.ref d, .int (I c), .int (I w)] (rp A d tx n z) 0 0 Rv (rp A d tx n (zFail z c w)) := by
  have h1 := he.1
  have h2 := he.2
  refine Fn.of hl rfl rfl (Nat.le_of_ble_eq_true rfl) (k_X4_fail_0 ?_)
  unfold zFail
  simp (disch := omega) only [true_implies, false_implies, not_true_eq_false, not_false_eq_true, rR_of, I_n, I_neg, I_add, I_sub, I_mul, I_le4, I_lt4, I_eq4, I_div4, I_bi0, I_bi01, I_bi1, nor_em, rI_of, rV_of, zI_of, zV_of, nz_and, br_T, br_F, br_T2, br_F2, st_eq, st9_0, st_k, st_i, true_and, and_true, Classical.not_not, rp_g1, rp_g2, rp_g3, rp_g4, rp_g5, rp_r0, rp_p2, rp_p3, rp_p4, rp_p5, rp_o]
  refine ⟨fun h => ?_, fun h => ?_⟩
  · rw [if_neg h]
    all_goals first | rfl | exact ⟨rfl, rfl⟩
  · rw [if_pos h]
    all_goals first | rfl | exact ⟨rfl, rfl⟩
theorem c_X4_isDigit (hl : l.stackTraces = false) {v : Int} (hv : -1 ≤ v ∧ v ≤ 255) : Fn l X 0 M_X4_isDigit [.int (I v)] A 0 0 (Ri (I (if 48 ≤ v ∧ v ≤ 57 then 1 else 0))) A := by
  refine Fn.of hl rfl rfl (Nat.le_of_ble_eq_true rfl) (k_X4_isDigit_0 ?_)
  simp (disch := omega) only [true_implies, false_implies, not_true_eq_false, not_false_eq_true, I_n, I_neg, I_add, I_sub, I_mul, I_le4, I_lt4, I_eq4, I_div4, I_bi0, I_bi01, I_bi1, nor_em, rI_of, rV_of, zI_of, zV_of, nz_and, br_T, br_F, br_T2, br_F2, st_eq, st9_0, st_k, st_i, true_and, and_true, Classical.not_not]
  refine ⟨fun h => ?_, fun h => ⟨fun h2 => ?_, fun h2 => ?_⟩⟩
  · rw [if_neg (by omega)]
    all_goals first | rfl | exact ⟨rfl, rfl⟩
  · rw [if_neg (by omega)]
    all_goals first | rfl | exact ⟨rfl, rfl⟩
  · rw [if_pos (by omega)]
    all_goals first | rfl | exact ⟨rfl, rfl⟩
theorem L_skp (hl : l.stackTraces = false) (ht : A.2 tx = some (ia X 400 (fun k => I (t k)))) (hd : tx ≠ d) (hn : 0 ≤ n ∧ n ≤ 400) (hB : ∀ k, 0 ≤ k → k < 400 → 0 ≤ t k ∧ t k ≤ 255) {y : Int × Int × Int} {Q : Ot → AH → Prop} : ∀ (m : Nat) (p : Int), 0 ≤ p → p + m = n ∨ (m = 0 ∧ n ≤ p) → p ≤ 1000 → Q Rv (rp A d tx n (kSk t n m p, y)) →
    G l X M_X4_skipSpaces 2 Q 0 [(0, .ref d)] [] (rp A d tx n (p, y)) 0 0 := by
  intro m
  induction m with
  | zero =>
    intro p p0 hm hp K
    refine k_X4_skipSpaces_0 ?_
    simp (disch := omega) only [true_implies, false_implies, not_true_eq_false, not_false_eq_true, rR_of, I_n, I_neg, I_add, I_sub, I_mul, I_le4, I_lt4, I_eq4, I_div4, I_bi0, I_bi01, I_bi1, nor_em, rI_of, rV_of, zI_of, zV_of, nz_and, br_T, br_F, br_T2, br_F2, st_eq, st9_0, st_k, st_i, true_and, and_true, Classical.not_not, rp_g1, rp_g2, rp_g3, rp_g4, rp_g5, rp_r0, rp_p2, rp_p3, rp_p4, rp_p5, rp_o]
    exact K
  | succ m ih =>
    intro p p0 hm hp K
    have hb := gSee_b (t := t) (n := n) (k := p) hn.2 p0 hB
    refine k_X4_skipSpaces_0 ?_
    simp (disch := omega) only [true_implies, false_implies, not_true_eq_false, not_false_eq_true, rR_of, I_n, I_neg, I_add, I_sub, I_mul, I_le4, I_lt4, I_eq4, I_div4, I_bi0, I_bi01, I_bi1, nor_em, rI_of, rV_of, zI_of, zV_of, nz_and, br_T, br_F, br_T2, br_F2, st_eq, st9_0, st_k, st_i, true_and, and_true, Classical.not_not, rp_g1, rp_g2, rp_g3, rp_g4, rp_g5, rp_r0, rp_p2, rp_p3, rp_p4, rp_p5, rp_o]
    refine (c_X4_byteAt hl ht hd hn p0 hp).cl0 (by decide) ?_
    simp (disch := omega) only [true_implies, false_implies, not_true_eq_false, not_false_eq_true, rR_of, I_n, I_neg, I_add, I_sub, I_mul, I_le4, I_lt4, I_eq4, I_div4, I_bi0, I_bi01, I_bi1, nor_em, rI_of, rV_of, zI_of, zV_of, nz_and, br_T, br_F, br_T2, br_F2, st_eq, st9_0, st_k, st_i, true_and, and_true, Classical.not_not, rp_g1, rp_g2, rp_g3, rp_g4, rp_g5, rp_r0, rp_p2, rp_p3, rp_p4, rp_p5, rp_o]
    refine ⟨fun h => ?_, fun h => ?_⟩
    · have e : kSk t n (m + 1) p = p := if_neg h
      rw [e] at K
      exact K
    · have e : kSk t n (m + 1) p = kSk t n m (p + 1) := if_pos h
      rw [e] at K
      exact ih (p + 1) (by omega) (by omega) (by omega) K
theorem c_X4_skip (hl : l.stackTraces = false) (ht : A.2 tx = some (ia X 400 (fun k => I (t k)))) (hd : tx ≠ d) (hn : 0 ≤ n ∧ n ≤ 400) (hB : ∀ k, 0 ≤ k → k < 400 → 0 ≤ t k ∧ t k ≤ 255) (hz : 0 ≤ z.1 ∧ z.1 ≤ n) : Fn l X 2 M_X4_skipSpaces [.ref d] (rp A d tx n z) 0 0 Rv (rp A d tx n (sk t n z.1, z.2)) := by
  refine Fn.of hl rfl rfl (Nat.le_of_ble_eq_true rfl) ?_
  exact L_skp (y := z.2) hl ht hd hn hB (n - z.1).toNat z.1 hz.1 (by omega) (by omega) ⟨rfl, rfl⟩
theorem L_num (hl : l.stackTraces = false) (ht : A.2 tx = some (ia X 400 (fun k => I (t k)))) (hd : tx ≠ d) (hn : 0 ≤ n ∧ n ≤ 400) (hB : ∀ k, 0 ≤ k → k < 400 → 0 ≤ t k ∧ t k ≤ 255) {y : Int × Int × Int} {Q : Ot → AH → Prop} {lo hi s : Int} : ∀ (m : Nat) (p v : Int), 0 ≤ p → p + m = n → 0 ≤ v → v ≤ 100000 →
    G l X M_X4_takeNumber 3 Q 74 [(0, .ref d), (1, .int (I lo)), (2, .int (I hi)), (3, .int (I s)), (4, .int (I (cDi t n m p v).2))] [] (rp A d tx n ((cDi t n m p v).1, y)) 0 0 →
    G l X M_X4_takeNumber 3 Q 12 [(0, .ref d), (1, .int (I lo)), (2, .int (I hi)), (3, .int (I s)), (4, .int (I v))] [] (rp A d tx n (p, y)) 0 0 := by
  intro m
  induction m with
  | zero =>
    intro p v p0 hm v0 v1 K
    refine k_X4_takeNumber_12 ?_
    simp (disch := omega) only [true_implies, false_implies, not_true_eq_false, not_false_eq_true, rR_of, I_n, I_neg, I_add, I_sub, I_mul, I_le4, I_lt4, I_eq4, I_div4, I_bi0, I_bi01, I_bi1, nor_em, rI_of, rV_of, zI_of, zV_of, nz_and, br_T, br_F, br_T2, br_F2, st_eq, st9_0, st_k, st_i, true_and, and_true, Classical.not_not, rp_g1, rp_g2, rp_g3, rp_g4, rp_g5, rp_r0, rp_p2, rp_p3, rp_p4, rp_p5, rp_o]
    exact K
  | succ m ih =>
    intro p v p0 hm v0 v1 K
    have hb := gSee_b (t := t) (n := n) (k := p) hn.2 p0 hB
    refine k_X4_takeNumber_12 ?_
    simp (disch := omega) only [true_implies, false_implies, not_true_eq_false, not_false_eq_true, rR_of, I_n, I_neg, I_add, I_sub, I_mul, I_le4, I_lt4, I_eq4, I_div4, I_bi0, I_bi01, I_bi1, nor_em, rI_of, rV_of, zI_of, zV_of, nz_and, br_T, br_F, br_T2, br_F2, st_eq, st9_0, st_k, st_i, true_and, and_true, Classical.not_not, rp_g1, rp_g2, rp_g3, rp_g4, rp_g5, rp_r0, rp_p2, rp_p3, rp_p4, rp_p5, rp_o]
    refine (c_X4_byteAt hl ht hd hn p0 (by omega)).cl0 (by decide) ?_
    simp (disch := omega) only [true_implies, false_implies, not_true_eq_false, not_false_eq_true, rR_of, I_n, I_neg, I_add, I_sub, I_mul, I_le4, I_lt4, I_eq4, I_div4, I_bi0, I_bi01, I_bi1, nor_em, rI_of, rV_of, zI_of, zV_of, nz_and, br_T, br_F, br_T2, br_F2, st_eq, st9_0, st_k, st_i, true_and, and_true, Classical.not_not, rp_g1, rp_g2, rp_g3, rp_g4, rp_g5, rp_r0, rp_p2, rp_p3, rp_p4, rp_p5, rp_o]
    refine (c_X4_isDigit hl hb).cl0 (by decide) ?_
    by_cases h : 48 ≤ gSee t n p ∧ gSee t n p ≤ 57
    · have e : cDi t n (m + 1) p v = cDi t n m (p + 1) (if 100000 < 10 * v + gSee t n p - 48 then 100000 else 10 * v + gSee t n p - 48) := if_pos h
      rw [e] at K
      rw [if_pos h]
      simp (disch := omega) only [true_implies, false_implies, not_true_eq_false, not_false_eq_true, rR_of, I_n, I_neg, I_add, I_sub, I_mul, I_le4, I_lt4, I_eq4, I_div4, I_bi0, I_bi01, I_bi1, nor_em, rI_of, rV_of, zI_of, zV_of, nz_and, br_T, br_F, br_T2, br_F2, st_eq, st9_0, st_k, st_i, true_and, and_true, Classical.not_not, rp_g1, rp_g2, rp_g3, rp_g4, rp_g5, rp_r0, rp_p2, rp_p3, rp_p4, rp_p5, rp_o]
      refine (c_X4_byteAt hl ht hd hn p0 (by omega)).cl0 (by decide) ?_
      simp (disch := omega) only [true_implies, false_implies, not_true_eq_false, not_false_eq_true, rR_of, I_n, I_neg, I_add, I_sub, I_mul, I_le4, I_lt4, I_eq4, I_div4, I_bi0, I_bi01, I_bi1, nor_em, rI_of, rV_of, zI_of, zV_of, nz_and, br_T, br_F, br_T2, br_F2, st_eq, st9_0, st_k, st_i, true_and, and_true, Classical.not_not, rp_g1, rp_g2, rp_g3, rp_g4, rp_g5, rp_r0, rp_p2, rp_p3, rp_p4, rp_p5, rp_o]
      have e2 : (if 100000 < 10 * v + gSee t n p - 48 then I 100000 else I (10 * v + gSee t n p - 48)) = I (if 100000 < 10 * v + gSee t n p - 48 then 100000 else 10 * v + gSee t n p - 48) := by split <;> rfl
      rw [e2]
      exact ih (p + 1) _ (by omega) (by omega) (by split <;> omega) (by split <;> omega) K
    · have e : cDi t n (m + 1) p v = (p, v) := if_neg h
      rw [e] at K
      rw [if_neg h]
      simp (disch := omega) only [true_implies, false_implies, not_true_eq_false, not_false_eq_true, rR_of, I_n, I_neg, I_add, I_sub, I_mul, I_le4, I_lt4, I_eq4, I_div4, I_bi0, I_bi01, I_bi1, nor_em, rI_of, rV_of, zI_of, zV_of, nz_and, br_T, br_F, br_T2, br_F2, st_eq, st9_0, st_k, st_i, true_and, and_true, Classical.not_not, rp_g1, rp_g2, rp_g3, rp_g4, rp_g5, rp_r0, rp_p2, rp_p3, rp_p4, rp_p5, rp_o]
      exact K
theorem c_X4_takeNumber (hl : l.stackTraces = false) (ht : A.2 tx = some (ia X 400 (fun k => I (t k)))) (hd : tx ≠ d) (hn : 0 ≤ n ∧ n ≤ 400) (hB : ∀ k, 0 ≤ k → k < 400 → 0 ≤ t k ∧ t k ≤ 255) (hz : 0 ≤ z.1 ∧ z.1 ≤ n) (he : sm z.2.2.1) {lo hi : Int} (h0 : 0 ≤ lo ∧ lo ≤ 999) (h1 : 0 ≤ hi ∧ hi ≤ 999) : Fn l X 3 M_X4_takeNumber [.ref d, .int (I lo), .int (I hi)] (rp A d tx n z) 0 0 (Ri (I (cNum t n z lo hi).2)) (rp A d tx n (cNum t n z lo hi).1) := by
  obtain ⟨b1, b2, b3⟩ := sk_b (t := t) (n := n) (p := z.1) hz.2
  obtain ⟨s, hs⟩ : ∃ s, s = sk t n z.1 := ⟨_, rfl⟩
  refine Fn.of hl rfl rfl (Nat.le_of_ble_eq_true rfl) (k_X4_takeNumber_0 ?_)
  simp (disch := omega) only [true_implies, false_implies, not_true_eq_false, not_false_eq_true, rR_of, I_n, I_neg, I_add, I_sub, I_mul, I_le4, I_lt4, I_eq4, I_div4, I_bi0, I_bi01, I_bi1, nor_em, rI_of, rV_of, zI_of, zV_of, nz_and, br_T, br_F, br_T2, br_F2, st_eq, st9_0, st_k, st_i, true_and, and_true, Classical.not_not, rp_g1, rp_g2, rp_g3, rp_g4, rp_g5, rp_r0, rp_p2, rp_p3, rp_p4, rp_p5, rp_o]
  refine (c_X4_skip hl ht hd hn hB hz).cl0 (by decide) ?_
  simp (disch := omega) only [true_implies, false_implies, not_true_eq_false, not_false_eq_true, rR_of, I_n, I_neg, I_add, I_sub, I_mul, I_le4, I_lt4, I_eq4, I_div4, I_bi0, I_bi01, I_bi1, nor_em, rI_of, rV_of, zI_of, zV_of, nz_and, br_T, br_F, br_T2, br_F2, st_eq, st9_0, st_k, st_i, true_and, and_true, Classical.not_not, rp_g1, rp_g2, rp_g3, rp_g4, rp_g5, rp_r0, rp_p2, rp_p3, rp_p4, rp_p5, rp_o]
  unfold cNum
  simp only []
  rw [← hs]
  rw [← hs] at b1 b2
  obtain ⟨c1, c2, c3, c4⟩ := cDi_b (t := t) (n := n) (n - s).toNat s 0 (by omega) (by omega) (by omega)
  refine L_num hl ht hd hn hB (n - s).toNat s 0 (by omega) (by omega) (by omega) (by omega) ?_
  obtain ⟨w, hw⟩ : ∃ w, w = cDi t n (n - s).toNat s 0 := ⟨_, rfl⟩
  rw [← hw]
  rw [← hw] at c1 c2 c3 c4
  have bad : (w.2 < lo ∨ hi < w.2) → ¬ w.1 = s → G l X M_X4_takeNumber 3 (fun o' A1 => o' = Ri (I (if w.1 = s then (zFail (w.1, z.2) (-2) s, lo) else if w.2 < lo ∨ hi < w.2 then (zFail (w.1, z.2) (-3) s, lo) else ((w.1, z.2), w.2)).2) ∧ A1 = rp A d tx n (if w.1 = s then (zFail (w.1, z.2) (-2) s, lo) else if w.2 < lo ∨ hi < w.2 then (zFail (w.1, z.2) (-3) s, lo) else ((w.1, z.2), w.2)).1) 103 [(0, .ref d), (1, .int (I lo)), (3, .int (I s))] [] (rp A d tx n (w.1, z.2)) 0 0 := by
    intro hb hne
    refine k_X4_takeNumber_103 ?_
    simp (disch := omega) only [true_implies, false_implies, not_true_eq_false, not_false_eq_true, rR_of, I_n, I_neg, I_add, I_sub, I_mul, I_le4, I_lt4, I_eq4, I_div4, I_bi0, I_bi01, I_bi1, nor_em, rI_of, rV_of, zI_of, zV_of, nz_and, br_T, br_F, br_T2, br_F2, st_eq, st9_0, st_k, st_i, true_and, and_true, Classical.not_not, rp_g1, rp_g2, rp_g3, rp_g4, rp_g5, rp_r0, rp_p2, rp_p3, rp_p4, rp_p5, rp_o]
    refine (c_X4_fail (z := (w.1, z.2)) hl he).cl0 (by decide) ?_
    simp (disch := omega) only [true_implies, false_implies, not_true_eq_false, not_false_eq_true, rR_of, I_n, I_neg, I_add, I_sub, I_mul, I_le4, I_lt4, I_eq4, I_div4, I_bi0, I_bi01, I_bi1, nor_em, rI_of, rV_of, zI_of, zV_of, nz_and, br_T, br_F, br_T2, br_F2, st_eq, st9_0, st_k, st_i, true_and, and_true, Classical.not_not, rp_g1, rp_g2, rp_g3, rp_g4, rp_g5, rp_r0, rp_p2, rp_p3, rp_p4, rp_p5, rp_o]
    rw [if_neg hne, if_pos hb]
    all_goals first | rfl | exact ⟨rfl, rfl⟩
  refine k_X4_takeNumber_74 ?_
  simp (disch := omega) only [true_implies, false_implies, not_true_eq_false, not_false_eq_true, rR_of, I_n, I_neg, I_add, I_sub, I_mul, I_le4, I_lt4, I_eq4, I_div4, I_bi0, I_bi01, I_bi1, nor_em, rI_of, rV_of, zI_of, zV_of, nz_and, br_T, br_F, br_T2, br_F2, st_eq, st9_0, st_k, st_i, true_and, and_true, Classical.not_not, rp_g1, rp_g2, rp_g3, rp_g4, rp_g5, rp_r0, rp_p2, rp_p3, rp_p4, rp_p5, rp_o]
  refine ⟨fun hne => ⟨fun h => bad (Or.inl h) hne, fun h => ⟨fun h2 => ?_, fun h2 => bad (Or.inr (by omega)) hne⟩⟩, fun heq => ?_⟩
  · rw [if_neg hne, if_neg (by omega)]
    all_goals first | rfl | exact ⟨rfl, rfl⟩
  · refine (c_X4_fail (z := (w.1, z.2)) hl he).cl0 (by decide) ?_
    simp (disch := omega) only [true_implies, false_implies, not_true_eq_false, not_false_eq_true, rR_of, I_n, I_neg, I_add, I_sub, I_mul, I_le4, I_lt4, I_eq4, I_div4, I_bi0, I_bi01, I_bi1, nor_em, rI_of, rV_of, zI_of, zV_of, nz_and, br_T, br_F, br_T2, br_F2, st_eq, st9_0, st_k, st_i, true_and, and_true, Classical.not_not, rp_g1, rp_g2, rp_g3, rp_g4, rp_g5, rp_r0, rp_p2, rp_p3, rp_p4, rp_p5, rp_o]
    rw [if_pos heq]
    all_goals first | rfl | exact ⟨rfl, rfl⟩
end CR
