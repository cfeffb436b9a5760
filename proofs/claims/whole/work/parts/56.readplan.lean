/-! the class's Reader: readPlan -/
def ch1 (t : Int → Int) (n : Int) (z : RZ) : RZ := cWd t n 0 z
def ch2 (t : Int → Int) (n : Int) (z : RZ) : RZ × Int := cNum t n (ch1 t n z) 1 240
def ch3 (t : Int → Int) (n : Int) (z : RZ) : RZ × Int := cNum t n (ch2 t n z).1 0 999
def ch4 (t : Int → Int) (n : Int) (z : RZ) : RZ := cWd t n 1 (ch3 t n z).1
def ch5 (t : Int → Int) (n : Int) (z : RZ) : RZ × Int := cNum t n (ch4 t n z) 4 48
def ch6 (t : Int → Int) (n : Int) (z : RZ) : RZ × Int := cNum t n (ch5 t n z).1 1 (ch5 t n z).2
def ch7 (t : Int → Int) (n : Int) (z : RZ) : RZ := cSe t n (ch6 t n z).1
theorem ch_b {t : Int → Int} {n : Int} {z : RZ} (h : ZI n z) : ZI n (ch1 t n z) ∧ (ZI n (ch2 t n z).1 ∧ 1 ≤ (ch2 t n z).2 ∧ (ch2 t n z).2 ≤ 240) ∧ (ZI n (ch3 t n z).1 ∧ 0 ≤ (ch3 t n z).2 ∧ (ch3 t n z).2 ≤ 999) ∧ ZI n (ch4 t n z) ∧ (ZI n (ch5 t n z).1 ∧ 4 ≤ (ch5 t n z).2 ∧ (ch5 t n z).2 ≤ 48) ∧ (ZI n (ch6 t n z).1 ∧ 1 ≤ (ch6 t n z).2 ∧ (ch6 t n z).2 ≤ (ch5 t n z).2) ∧ ZI n (ch7 t n z) := by
  have a1 : ZI n (ch1 t n z) := (cWd_b (by decide) h).1
  obtain ⟨a2, b2, -⟩ := cNum_b (t := t) (lo := 1) (hi := 240) a1 (by omega)
  obtain ⟨a3, b3, -⟩ := cNum_b (t := t) (lo := 0) (hi := 999) a2 (by omega)
  have a4 := (cWd_b (t := t) (i := 1) (by decide) a3).1
  obtain ⟨a5, b5, -⟩ := cNum_b (t := t) (lo := 4) (hi := 48) a4 (by omega)
  obtain ⟨a6, b6, -⟩ := cNum_b (t := t) (lo := 1) (hi := (cNum t n (cWd t n 1 (cNum t n (cNum t n (ch1 t n z) 1 240).1 0 999).1) 4 48).2) a5 (by omega)
  have a7 := (cSe_b (t := t) a6).1
  exact ⟨a1, ⟨a2, b2⟩, ⟨a3, b3⟩, a4, ⟨a5, b5⟩, ⟨a6, b6⟩, a7⟩
section CZ
variable {l : Launch} {X : XT} {A B : AH} {d tx : Nat} {n : Int} {z : RZ} {t : Int → Int}
theorem c_X4_init (hl : l.stackTraces = false) (h : A.2 d = some (ob 5 df_5)) : Fn l X 0 M_X4_init [.ref d, .ref tx, .int (I n)] A 0 0 Rv (rp A d tx n (0, 0, 0, -1)) := by
  refine Fn.of hl rfl rfl (Nat.le_of_ble_eq_true rfl) (k_X4_init_0 ?_)
  refine (pV_iff (k := 2) h (Nat.le_of_ble_eq_true rfl)).mpr ?_
  refine (pV_iff (k := 3) up_q (Nat.le_of_ble_eq_true rfl)).mpr ?_
  rw [up_up]
  refine (pV_iff (k := 4) up_q (Nat.le_of_ble_eq_true rfl)).mpr ?_
  rw [up_up]
  refine (pV_iff (k := 5) up_q (Nat.le_of_ble_eq_true rfl)).mpr ?_
  rw [up_up]
  refine (pV_iff (k := 0) up_q (Nat.le_of_ble_eq_true rfl)).mpr ?_
  rw [up_up]
  refine (pV_iff (k := 1) up_q (Nat.le_of_ble_eq_true rfl)).mpr ?_
  rw [up_up]
  exact ⟨rfl, rfl⟩
theorem c_X4_readPlan (hl : l.stackTraces = false) (ht : A.2 tx = some (ia X 400 (fun k => I (t k)))) (hd : tx ≠ d) (htl : tx < A.1) (hdl : d < A.1) (hn : 0 ≤ n ∧ n ≤ 400) (hB : ∀ k, 0 ≤ k → k < 400 → 0 ≤ t k ∧ t k ≤ 255) (hz : ZI n z) {r : Int → Int} (hr : (ch7 t n z).2.2.1 = 0 → r 0 = (ch2 t n z).2 ∧ r 1 = (ch3 t n z).2 ∧ r 2 = (ch5 t n z).2 ∧ r 3 = (ch6 t n z).2 ∧ r 4 = 3 ∧ r 10 = 0 ∧ r 11 = 0 ∧ r 12 = 0) :
    Ct l X 6 M_X4_readPlan [.ref d] (rp A d tx n z) 11 1451 (fun o' A' => (¬ (ch7 t n z).2.2.1 = 0 ∧ o' = Rq none ∧ A' = rp A d tx n (ch7 t n z)) ∨ ((ch7 t n z).2.2.1 = 0 ∧ ∃ P0, PR P0 r ∧ (o' = Rq (if (cLp t n n.toNat (ch7 t n z, P0)).1.2.2.1 = 0 then some A.1 else none) ∧ A'.1 = A.1 + 11 ∧ PlanAt X A' A.1 (cLp t n n.toNat (ch7 t n z, P0)).2 ∧ A'.2 d = some (ob 5 (rfs tx n (cLp t n n.toNat (ch7 t n z, P0)).1)) ∧ ∀ b, b < A.1 → b ≠ d → A'.2 b = A.2 b))) := by
  obtain ⟨a1, ⟨a2, b2⟩, ⟨a3, b3⟩, a4, ⟨a5, b5⟩, ⟨a6, b6⟩, a7⟩ := ch_b (t := t) hz
  obtain ⟨Q, hQ⟩ : ∃ Q : Ot → AH → Prop, Q = (fun o' A' => (¬ (ch7 t n z).2.2.1 = 0 ∧ o' = Rq none ∧ A' = rp A d tx n (ch7 t n z)) ∨ ((ch7 t n z).2.2.1 = 0 ∧ ∃ P0, PR P0 r ∧ (o' = Rq (if (cLp t n n.toNat (ch7 t n z, P0)).1.2.2.1 = 0 then some A.1 else none) ∧ A'.1 = A.1 + 11 ∧ PlanAt X A' A.1 (cLp t n n.toNat (ch7 t n z, P0)).2 ∧ A'.2 d = some (ob 5 (rfs tx n (cLp t n n.toNat (ch7 t n z, P0)).1)) ∧ ∀ b, b < A.1 → b ≠ d → A'.2 b = A.2 b))) := ⟨_, rfl⟩
  rw [← hQ]
  refine Ct.of hl rfl rfl (Nat.le_of_ble_eq_true rfl) (k_X4_readPlan_0 ?_)
  simp (disch := omega) only [true_implies, false_implies, not_true_eq_false, not_false_eq_true, rR_of, I_n, I_neg, I_add, I_sub, I_mul, I_le4, I_lt4, I_eq4, I_div4, I_bi0, I_bi01, I_bi1, nor_em, rI_of, rV_of, zI_of, zV_of, nz_and, br_T, br_F, br_T2, br_F2, st_eq, st9_0, st_k, st_i, true_and, and_true, Classical.not_not, rp_g1, rp_g2, rp_g3, rp_g4, rp_g5, rp_r0, rp_p2, rp_p3, rp_p4, rp_p5, rp_o]
  refine (c_X4_takeWord hl ht hd hn hB (i := 0) (by decide) hz.1 (ZI_sm hz)).cl0 (by decide) ?_
  simp (disch := omega) only [true_implies, false_implies, not_true_eq_false, not_false_eq_true, rR_of, I_n, I_neg, I_add, I_sub, I_mul, I_le4, I_lt4, I_eq4, I_div4, I_bi0, I_bi01, I_bi1, nor_em, rI_of, rV_of, zI_of, zV_of, nz_and, br_T, br_F, br_T2, br_F2, st_eq, st9_0, st_k, st_i, true_and, and_true, Classical.not_not, rp_g1, rp_g2, rp_g3, rp_g4, rp_g5, rp_r0, rp_p2, rp_p3, rp_p4, rp_p5, rp_o]
  refine (c_X4_takeNumber (z := ch1 t n z) hl ht hd hn hB a1.1 (ZI_sm a1) (by omega) (by omega)).cl0 (by decide) ?_
  simp (disch := omega) only [true_implies, false_implies, not_true_eq_false, not_false_eq_true, rR_of, I_n, I_neg, I_add, I_sub, I_mul, I_le4, I_lt4, I_eq4, I_div4, I_bi0, I_bi01, I_bi1, nor_em, rI_of, rV_of, zI_of, zV_of, nz_and, br_T, br_F, br_T2, br_F2, st_eq, st9_0, st_k, st_i, true_and, and_true, Classical.not_not, rp_g1, rp_g2, rp_g3, rp_g4, rp_g5, rp_r0, rp_p2, rp_p3, rp_p4, rp_p5, rp_o]
  refine (c_X4_takeNumber (z := (ch2 t n z).1) hl ht hd hn hB a2.1 (ZI_sm a2) (by omega) (by omega)).cl0 (by decide) ?_
  simp (disch := omega) only [true_implies, false_implies, not_true_eq_false, not_false_eq_true, rR_of, I_n, I_neg, I_add, I_sub, I_mul, I_le4, I_lt4, I_eq4, I_div4, I_bi0, I_bi01, I_bi1, nor_em, rI_of, rV_of, zI_of, zV_of, nz_and, br_T, br_F, br_T2, br_F2, st_eq, st9_0, st_k, st_i, true_and, and_true, Classical.not_not, rp_g1, rp_g2, rp_g3, rp_g4, rp_g5, rp_r0, rp_p2, rp_p3, rp_p4, rp_p5, rp_o]
  refine (c_X4_takeWord (z := (ch3 t n z).1) hl ht hd hn hB (i := 1) (by decide) a3.1 (ZI_sm a3)).cl0 (by decide) ?_
  simp (disch := omega) only [true_implies, false_implies, not_true_eq_false, not_false_eq_true, rR_of, I_n, I_neg, I_add, I_sub, I_mul, I_le4, I_lt4, I_eq4, I_div4, I_bi0, I_bi01, I_bi1, nor_em, rI_of, rV_of, zI_of, zV_of, nz_and, br_T, br_F, br_T2, br_F2, st_eq, st9_0, st_k, st_i, true_and, and_true, Classical.not_not, rp_g1, rp_g2, rp_g3, rp_g4, rp_g5, rp_r0, rp_p2, rp_p3, rp_p4, rp_p5, rp_o]
  refine (c_X4_takeNumber (z := ch4 t n z) hl ht hd hn hB a4.1 (ZI_sm a4) (by omega) (by omega)).cl0 (by decide) ?_
  simp (disch := omega) only [true_implies, false_implies, not_true_eq_false, not_false_eq_true, rR_of, I_n, I_neg, I_add, I_sub, I_mul, I_le4, I_lt4, I_eq4, I_div4, I_bi0, I_bi01, I_bi1, nor_em, rI_of, rV_of, zI_of, zV_of, nz_and, br_T, br_F, br_T2, br_F2, st_eq, st9_0, st_k, st_i, true_and, and_true, Classical.not_not, rp_g1, rp_g2, rp_g3, rp_g4, rp_g5, rp_r0, rp_p2, rp_p3, rp_p4, rp_p5, rp_o]
  refine (c_X4_takeNumber (z := (ch5 t n z).1) hl ht hd hn hB a5.1 (ZI_sm a5) (lo := 1) (hi := (ch5 t n z).2) (by omega) (by omega)).cl0 (by decide) ?_
  simp (disch := omega) only [true_implies, false_implies, not_true_eq_false, not_false_eq_true, rR_of, I_n, I_neg, I_add, I_sub, I_mul, I_le4, I_lt4, I_eq4, I_div4, I_bi0, I_bi01, I_bi1, nor_em, rI_of, rV_of, zI_of, zV_of, nz_and, br_T, br_F, br_T2, br_F2, st_eq, st9_0, st_k, st_i, true_and, and_true, Classical.not_not, rp_g1, rp_g2, rp_g3, rp_g4, rp_g5, rp_r0, rp_p2, rp_p3, rp_p4, rp_p5, rp_o]
  refine (c_X4_takeSemicolon (z := (ch6 t n z).1) hl ht hd hn hB a6.1 (ZI_sm a6)).cl0 (by decide) ?_
  rw [rV_of]
  show gI (rp A d tx n (ch7 t n z)) d 5 4 _
  have h7 := a7.2.2
  simp (disch := omega) only [true_implies, false_implies, not_true_eq_false, not_false_eq_true, rR_of, I_n, I_neg, I_add, I_sub, I_mul, I_le4, I_lt4, I_eq4, I_div4, I_bi0, I_bi01, I_bi1, nor_em, rI_of, rV_of, zI_of, zV_of, nz_and, br_T, br_F, br_T2, br_F2, st_eq, st9_0, st_k, st_i, true_and, and_true, Classical.not_not, rp_g1, rp_g2, rp_g3, rp_g4, rp_g5, rp_r0, rp_p2, rp_p3, rp_p4, rp_p5, rp_o]
  refine ⟨fun h0 => ?_, fun h0 => ?_⟩
  · obtain ⟨r0, r1, r2, r3, r4, r10, r11, r12⟩ := hr h0
    have g : GW r := by
      unfold GW
      omega
    have e2 : (cNum t n (ch1 t n z) 1 240).2 = r 0 := r0.symm
    have e3 : (cNum t n (ch2 t n z).1 0 999).2 = r 1 := r1.symm
    have e5 : (cNum t n (ch4 t n z) 4 48).2 = r 2 := r2.symm
    have e6 : (cNum t n (ch5 t n z).1 1 (ch5 t n z).2).2 = r 3 := r3.symm
    rw [e2, e3, e5, e6]
    refine mk_i (b := A.1) rfl (by decide) (by decide) ?_
    intro C c1 cq co'
    have cd : C.2 d = some (ob 5 (rfs tx n (ch7 t n z))) := (co' d (by omega)).trans rp_q
    have co : ∀ b, b < A.1 → b ≠ d → C.2 b = A.2 b := fun b h1 h2 => (co' b (by omega)).trans (rp_b h2)
    refine Cal.of (c_X3_init hl cq c1 g (by omega) r4 r10 r11 r12) (by decide) (by decide) (by decide) ?_
    rintro o1 A1 ⟨rfl, x1, P0, x2, x3, x4⟩
    rw [zV_of]
    have hS : SP P0 (r 0) := by
      obtain ⟨y0, y1, y2, y3, y4, y5⟩ := x3.1
      refine ⟨y0, by omega, by omega, by omega, fun x x0 x1 => ?_⟩
      rw [(x3.2.1 x x0 x1).2]
      exact gB_b
    have ed : A1.2 d = some (ob 5 (rfs tx n (ch7 t n z))) := (x4 d hdl).trans cd
    obtain ⟨B, hB2⟩ : ∃ B, B = A1 := ⟨_, rfl⟩
    have eA1 : A1 = rp (pp X A.1 B P0) d tx n (ch7 t n z) := by
      rw [hB2, pp_of x2]
      exact (up_self ed).symm
    rw [eA1]
    have htB : B.2 tx = some (ia X 400 (fun k => I (t k))) := by
      rw [hB2]
      exact (x4 tx htl).trans ((co tx htl hd).trans ht)
    have fin : ∀ z' P', cLp t n n.toNat (ch7 t n z, P0) = (z', P') → ZI n z' → G l X M_X4_readPlan 6 Q 104 [(0, .ref d), (5, .ref A.1)] [] (rp (pp X A.1 B P') d tx n z') 0 0 := by
      intro z' P' e hz'
      have hq : ∀ o', o' = Rq (if z'.2.2.1 = 0 then some A.1 else none) → Q o' (rp (pp X A.1 B P') d tx n z') := by
        intro o' ho
        rw [hQ]
        refine Or.inr ⟨h0, P0, x3, ?_⟩
        rw [e]
        refine ⟨ho, ?_, ?_, rp_q, fun b b0 b1 => ?_⟩
        · show B.1 = _
          rw [hB2, x1]
        · exact pp_at.of fun b b0 b1 => rp_b (by omega)
        · rw [rp_b b1, pp_out (Or.inl b0), hB2]
          exact (x4 b b0).trans (co b b0 b1)
      have hw := hz'.2.2
      refine k_X4_readPlan_104 ?_
      simp (disch := omega) only [true_implies, false_implies, not_true_eq_false, not_false_eq_true, rR_of, I_n, I_neg, I_add, I_sub, I_mul, I_le4, I_lt4, I_eq4, I_div4, I_bi0, I_bi01, I_bi1, nor_em, rI_of, rV_of, zI_of, zV_of, nz_and, br_T, br_F, br_T2, br_F2, st_eq, st9_0, st_k, st_i, true_and, and_true, Classical.not_not, rp_g1, rp_g2, rp_g3, rp_g4, rp_g5, rp_r0, rp_p2, rp_p3, rp_p4, rp_p5, rp_o]
      refine ⟨fun h => hq _ ?_, fun h => hq _ ?_⟩
      · rw [if_neg h]
      · rw [if_pos h]
    exact L_plan (B := B) hl htB hd (by omega) (by omega) hn hB n.toNat 0 (ch7 t n z) P0 (by omega) (by omega) a7 hS fin
  · rw [hQ]
    exact Or.inl ⟨h0, rfl, rfl⟩
end CZ
