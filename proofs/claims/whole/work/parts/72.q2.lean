/-! the class's answers: queriesFor, partial files, wrong bytes, events, the written text -/
section QB
variable {l : Launch} {X : XT} {t : Nat} {A : AH} {V : Nat → Int → Int} {a p : Nat} {f : Nat → Option Nat} {c : Option Nat} {D P : Nat → Int → Int} {r : Int → Int} {e : Int} {la : Nat} {g : Nat → Option Nat} {m : Int32} {ow : Nat → Nat}
theorem q_queriesFor (hl : l.stackTraces = false) (hT : TlA X A t V a f c) (hD : DlA X A a p D) (hP : PlanAt X A p P) (hR : PR P r) (hDR : DR D r) (w : RW r e) (hd : p + 10 < a ∨ a + 12 < p) {k : Int} (hk : sm k) : Ct l X 20 M_X5_queriesFor [.ref t, .int (I k)] A 4 24 (QP A (tQue r k) "java/lang/IndexOutOfBoundsException" "java/util/NoSuchElementException" (Ri (I (lk0 r k).2))) := by
  obtain ⟨k1, k2⟩ := id hk
  have p2 := hR.1.2.2.1
  obtain ⟨n1, n2, -⟩ := gN_b w.1
  refine Ct.of hl rfl rfl (Nat.le_of_ble_eq_true rfl) (k_X5_queriesFor_0 ?_)
  simp (disch := omega) only [true_implies, false_implies, not_true_eq_false, not_false_eq_true, rR_of, I_n, I_neg, I_add, I_sub, I_mul, I_le4, I_lt4, I_eq4, I_div4, I_bi0, I_bi01, I_bi1, nor_em, rI_of, rV_of, zI_of, zV_of, nz_and, br_T, br_F, br_T2, br_F2, st_eq, st9_0, st_k, st_i, true_and, and_true, Classical.not_not, TlA.g1 hT, TlA.g2 hT, TlA.g4 hT, TlA.g7 hT, TlA.g8 hT, TlA.r0 hT, TlA.r3 hT, TlA.r6 hT, TlA.r5 hT, TlA.o hT, DlA.g5 hD, DlA.g6 hD, DlA.g7 hD, DlA.g8 hD, DlA.g9 hD, DlA.g10 hD, DlA.g14 hD, DlA.r0 hD, DlA.r1 hD, DlA.r2 hD, DlA.r3 hD, DlA.r4 hD, DlA.r11 hD, DlA.r12 hD, DlA.r13 hD, DlA.r15 hD, DlA.r16 hD, DlA.gA3 hD, DlA.rA0 hD, DlA.rA1 hD, DlA.rA2 hD, DlA.o hD, DlA.oA hD, PlanAt.g0 hP, PlanAt.g1 hP, PlanAt.g2 hP, PlanAt.g3 hP, PlanAt.g13 hP, PlanAt.g15 hP, PlanAt.r4 hP, PlanAt.r5 hP, PlanAt.r6 hP, PlanAt.r7 hP, PlanAt.r8 hP, PlanAt.r9 hP, PlanAt.r10 hP, PlanAt.r11 hP, PlanAt.r12 hP, PlanAt.r14 hP, PlanAt.isO hP]
  rw [p2]
  refine cal_NE (c_X5_needIndex hl hk ⟨by omega, by omega⟩) (by decide) (by decide) (by decide) (fun h => ?_) (fun h A' a1 a2 => QP_1 (tq_1 h) a1 a2)
  have h1 : k < gN r := by omega
  obtain ⟨o1, o2, -⟩ := gPo_b w.1 h.1 h1
  obtain ⟨e1, e2, -⟩ := gE_b w.1
  have bb := bi_b (p := gV r k = 2)
  simp (disch := omega) only [true_implies, false_implies, not_true_eq_false, not_false_eq_true, rR_of, I_n, I_neg, I_add, I_sub, I_mul, I_le4, I_lt4, I_eq4, I_div4, I_bi0, I_bi01, I_bi1, nor_em, rI_of, rV_of, zI_of, zV_of, nz_and, br_T, br_F, br_T2, br_F2, st_eq, st9_0, st_k, st_i, true_and, and_true, Classical.not_not, TlA.g1 hT, TlA.g2 hT, TlA.g4 hT, TlA.g7 hT, TlA.g8 hT, TlA.r0 hT, TlA.r3 hT, TlA.r6 hT, TlA.r5 hT, TlA.o hT, DlA.g5 hD, DlA.g6 hD, DlA.g7 hD, DlA.g8 hD, DlA.g9 hD, DlA.g10 hD, DlA.g14 hD, DlA.r0 hD, DlA.r1 hD, DlA.r2 hD, DlA.r3 hD, DlA.r4 hD, DlA.r11 hD, DlA.r12 hD, DlA.r13 hD, DlA.r15 hD, DlA.r16 hD, DlA.gA3 hD, DlA.rA0 hD, DlA.rA1 hD, DlA.rA2 hD, DlA.o hD, DlA.oA hD, PlanAt.g0 hP, PlanAt.g1 hP, PlanAt.g2 hP, PlanAt.g3 hP, PlanAt.g13 hP, PlanAt.g15 hP, PlanAt.r4 hP, PlanAt.r5 hP, PlanAt.r6 hP, PlanAt.r7 hP, PlanAt.r8 hP, PlanAt.r9 hP, PlanAt.r10 hP, PlanAt.r11 hP, PlanAt.r12 hP, PlanAt.r14 hP, PlanAt.isO hP]
  refine (qD hD (c_X1_isSuspect hl w hDR h.1 h1)).cl0 (by decide) ?_
  simp (disch := omega) only [true_implies, false_implies, not_true_eq_false, not_false_eq_true, rR_of, I_n, I_neg, I_add, I_sub, I_mul, I_le4, I_lt4, I_eq4, I_div4, I_bi0, I_bi01, I_bi1, nor_em, rI_of, rV_of, zI_of, zV_of, nz_and, br_T, br_F, br_T2, br_F2, st_eq, st9_0, st_k, st_i, true_and, and_true, Classical.not_not, TlA.g1 hT, TlA.g2 hT, TlA.g4 hT, TlA.g7 hT, TlA.g8 hT, TlA.r0 hT, TlA.r3 hT, TlA.r6 hT, TlA.r5 hT, TlA.o hT, DlA.g5 hD, DlA.g6 hD, DlA.g7 hD, DlA.g8 hD, DlA.g9 hD, DlA.g10 hD, DlA.g14 hD, DlA.r0 hD, DlA.r1 hD, DlA.r2 hD, DlA.r3 hD, DlA.r4 hD, DlA.r11 hD, DlA.r12 hD, DlA.r13 hD, DlA.r15 hD, DlA.r16 hD, DlA.gA3 hD, DlA.rA0 hD, DlA.rA1 hD, DlA.rA2 hD, DlA.o hD, DlA.oA hD, PlanAt.g0 hP, PlanAt.g1 hP, PlanAt.g2 hP, PlanAt.g3 hP, PlanAt.g13 hP, PlanAt.g15 hP, PlanAt.r4 hP, PlanAt.r5 hP, PlanAt.r6 hP, PlanAt.r7 hP, PlanAt.r8 hP, PlanAt.r9 hP, PlanAt.r10 hP, PlanAt.r11 hP, PlanAt.r12 hP, PlanAt.r14 hP, PlanAt.isO hP]
  refine cal_NE (c_X5_needElement hl ⟨by omega, by omega⟩) (by decide) (by decide) (by decide) (fun h2 => ?_) (fun h2 A' a1 a2 => QP_2 (tq_2 h (fun q => h2 (by rw [bi_t q]; decide))) a1 a2)
  have hv : gV r k = 2 := by
    by_cases q : gV r k = 2
    · exact q
    · exact absurd (bi_f q) h2
  simp (disch := omega) only [true_implies, false_implies, not_true_eq_false, not_false_eq_true, rR_of, I_n, I_neg, I_add, I_sub, I_mul, I_le4, I_lt4, I_eq4, I_div4, I_bi0, I_bi01, I_bi1, nor_em, rI_of, rV_of, zI_of, zV_of, nz_and, br_T, br_F, br_T2, br_F2, st_eq, st9_0, st_k, st_i, true_and, and_true, Classical.not_not, TlA.g1 hT, TlA.g2 hT, TlA.g4 hT, TlA.g7 hT, TlA.g8 hT, TlA.r0 hT, TlA.r3 hT, TlA.r6 hT, TlA.r5 hT, TlA.o hT, DlA.g5 hD, DlA.g6 hD, DlA.g7 hD, DlA.g8 hD, DlA.g9 hD, DlA.g10 hD, DlA.g14 hD, DlA.r0 hD, DlA.r1 hD, DlA.r2 hD, DlA.r3 hD, DlA.r4 hD, DlA.r11 hD, DlA.r12 hD, DlA.r13 hD, DlA.r15 hD, DlA.r16 hD, DlA.gA3 hD, DlA.rA0 hD, DlA.rA1 hD, DlA.rA2 hD, DlA.o hD, DlA.oA hD, PlanAt.g0 hP, PlanAt.g1 hP, PlanAt.g2 hP, PlanAt.g3 hP, PlanAt.g13 hP, PlanAt.g15 hP, PlanAt.r4 hP, PlanAt.r5 hP, PlanAt.r6 hP, PlanAt.r7 hP, PlanAt.r8 hP, PlanAt.r9 hP, PlanAt.r10 hP, PlanAt.r11 hP, PlanAt.r12 hP, PlanAt.r14 hP, PlanAt.isO hP]
  refine (qD hD (c_X1_queriesNeeded hl hd hP hR w hDR h.1 h1 (fun j j0 j1 => gV_2 hv j0 j1))).cl0 (by decide) ?_
  simp (disch := omega) only [true_implies, false_implies, not_true_eq_false, not_false_eq_true, rR_of, I_n, I_neg, I_add, I_sub, I_mul, I_le4, I_lt4, I_eq4, I_div4, I_bi0, I_bi01, I_bi1, nor_em, rI_of, rV_of, zI_of, zV_of, nz_and, br_T, br_F, br_T2, br_F2, st_eq, st9_0, st_k, st_i, true_and, and_true, Classical.not_not, TlA.g1 hT, TlA.g2 hT, TlA.g4 hT, TlA.g7 hT, TlA.g8 hT, TlA.r0 hT, TlA.r3 hT, TlA.r6 hT, TlA.r5 hT, TlA.o hT, DlA.g5 hD, DlA.g6 hD, DlA.g7 hD, DlA.g8 hD, DlA.g9 hD, DlA.g10 hD, DlA.g14 hD, DlA.r0 hD, DlA.r1 hD, DlA.r2 hD, DlA.r3 hD, DlA.r4 hD, DlA.r11 hD, DlA.r12 hD, DlA.r13 hD, DlA.r15 hD, DlA.r16 hD, DlA.gA3 hD, DlA.rA0 hD, DlA.rA1 hD, DlA.rA2 hD, DlA.o hD, DlA.oA hD, PlanAt.g0 hP, PlanAt.g1 hP, PlanAt.g2 hP, PlanAt.g3 hP, PlanAt.g13 hP, PlanAt.g15 hP, PlanAt.r4 hP, PlanAt.r5 hP, PlanAt.r6 hP, PlanAt.r7 hP, PlanAt.r8 hP, PlanAt.r9 hP, PlanAt.r10 hP, PlanAt.r11 hP, PlanAt.r12 hP, PlanAt.r14 hP, PlanAt.isO hP]
  exact QP_ok (tq_0 h hv) rfl
theorem q_named (hl : l.stackTraces = false) (hT : TlA X A t V a f c) (hD : DlA X A a p D) (hP : PlanAt X A p P) (hR : PR P r) (hDR : DR D r) (w : RW r e) (hd : p + 10 < a ∨ a + 12 < p) (hL : LST X A (a + 8) la (r 9) g m) (hPT : PT X A ow g r) {x : Int} (hx : sm x) : Ct l X 20 M_X5_named [.ref t, .int (I x)] A 4 24 (QP A (bi (fNm r x (r 9).toNat = -1)) "java/util/NoSuchElementException" "" (Ri (I (fNm r x (r 9).toNat)))) := by
  obtain ⟨x1, x2⟩ := id hx
  have c3 := w.2.2.2.1
  have f7 := w.2.2.2.2.2.2.2.2.2.2.2.2.1
  obtain ⟨Q, hQ⟩ : ∃ Q, Q = (QP A (bi (fNm r x (r 9).toNat = -1)) "java/util/NoSuchElementException" "" (Ri (I (fNm r x (r 9).toNat)))) := ⟨_, rfl⟩
  rw [← hQ]
  refine Ct.of hl rfl rfl (Nat.le_of_ble_eq_true rfl) (k_X5_named_0 ?_)
  simp only [I_n, I_neg]
  refine up_to (n := (r 9).toNat) (P := fun j => G l X M_X5_named 20 Q 4 [(0, .ref t), (1, .int (I x)), (2, .int (I (fNm r x j))), (3, .int (I j))] [] A 4 24) ?_ ?_
  · have hb := fNm_b (r := r) (x := x) (r 9).toNat
    refine k_X5_named_4 ?_
    simp (disch := omega) only [true_implies, false_implies, not_true_eq_false, not_false_eq_true, rR_of, I_n, I_neg, I_add, I_sub, I_mul, I_le4, I_lt4, I_eq4, I_div4, I_bi0, I_bi01, I_bi1, nor_em, rI_of, rV_of, zI_of, zV_of, nz_and, br_T, br_F, br_T2, br_F2, st_eq, st9_0, st_k, st_i, true_and, and_true, Classical.not_not, TlA.g1 hT, TlA.g2 hT, TlA.g4 hT, TlA.g7 hT, TlA.g8 hT, TlA.r0 hT, TlA.r3 hT, TlA.r6 hT, TlA.r5 hT, TlA.o hT, DlA.g5 hD, DlA.g6 hD, DlA.g7 hD, DlA.g8 hD, DlA.g9 hD, DlA.g10 hD, DlA.g14 hD, DlA.r0 hD, DlA.r1 hD, DlA.r2 hD, DlA.r3 hD, DlA.r4 hD, DlA.r11 hD, DlA.r12 hD, DlA.r13 hD, DlA.r15 hD, DlA.r16 hD, DlA.gA3 hD, DlA.rA0 hD, DlA.rA1 hD, DlA.rA2 hD, DlA.o hD, DlA.oA hD, PlanAt.g0 hP, PlanAt.g1 hP, PlanAt.g2 hP, PlanAt.g3 hP, PlanAt.g13 hP, PlanAt.g15 hP, PlanAt.r4 hP, PlanAt.r5 hP, PlanAt.r6 hP, PlanAt.r7 hP, PlanAt.r8 hP, PlanAt.r9 hP, PlanAt.r10 hP, PlanAt.r11 hP, PlanAt.r12 hP, PlanAt.r14 hP, PlanAt.isO hP]
    refine ⟨⟨_, hL.1⟩, (c_li_size hl hL).cl0 (by decide) ?_⟩
    simp (disch := omega) only [true_implies, false_implies, not_true_eq_false, not_false_eq_true, rR_of, I_n, I_neg, I_add, I_sub, I_mul, I_le4, I_lt4, I_eq4, I_div4, I_bi0, I_bi01, I_bi1, nor_em, rI_of, rV_of, zI_of, zV_of, nz_and, br_T, br_F, br_T2, br_F2, st_eq, st9_0, st_k, st_i, true_and, and_true, Classical.not_not, TlA.g1 hT, TlA.g2 hT, TlA.g4 hT, TlA.g7 hT, TlA.g8 hT, TlA.r0 hT, TlA.r3 hT, TlA.r6 hT, TlA.r5 hT, TlA.o hT, DlA.g5 hD, DlA.g6 hD, DlA.g7 hD, DlA.g8 hD, DlA.g9 hD, DlA.g10 hD, DlA.g14 hD, DlA.r0 hD, DlA.r1 hD, DlA.r2 hD, DlA.r3 hD, DlA.r4 hD, DlA.r11 hD, DlA.r12 hD, DlA.r13 hD, DlA.r15 hD, DlA.r16 hD, DlA.gA3 hD, DlA.rA0 hD, DlA.rA1 hD, DlA.rA2 hD, DlA.o hD, DlA.oA hD, PlanAt.g0 hP, PlanAt.g1 hP, PlanAt.g2 hP, PlanAt.g3 hP, PlanAt.g13 hP, PlanAt.g15 hP, PlanAt.r4 hP, PlanAt.r5 hP, PlanAt.r6 hP, PlanAt.r7 hP, PlanAt.r8 hP, PlanAt.r9 hP, PlanAt.r10 hP, PlanAt.r11 hP, PlanAt.r12 hP, PlanAt.r14 hP, PlanAt.isO hP]
    refine ⟨fun q => ?_, fun q => ?_⟩
    · refine k_X5_named_57 ?_
      refine cal_NE (c_X5_needElement hl ⟨by decide, by decide⟩) (by decide) (by decide) (by decide) (fun h3 => absurd rfl h3) (fun h3 A' a1 a2 => ?_)
      rw [hQ]
      exact QP_1 (bi_t q) a1 a2
    · refine k_X5_named_57 ?_
      refine cal_NE (c_X5_needElement hl ⟨by decide, by decide⟩) (by decide) (by decide) (by decide) (fun h3 => ?_) (fun h3 A' a1 a2 => absurd (by decide) h3)
      rw [hQ]
      exact QP_ok (bi_f q) rfl
  · intro j hj ih
    have hb := fNm_b (r := r) (x := x) j
    have f7j := f7 j (by omega) (by omega)
    obtain ⟨y, z, hh, e1, e2, e3, e4, e5⟩ := hPT j (by omega)
    refine k_X5_named_4 ?_
    simp (disch := omega) only [true_implies, false_implies, not_true_eq_false, not_false_eq_true, rR_of, I_n, I_neg, I_add, I_sub, I_mul, I_le4, I_lt4, I_eq4, I_div4, I_bi0, I_bi01, I_bi1, nor_em, rI_of, rV_of, zI_of, zV_of, nz_and, br_T, br_F, br_T2, br_F2, st_eq, st9_0, st_k, st_i, true_and, and_true, Classical.not_not, TlA.g1 hT, TlA.g2 hT, TlA.g4 hT, TlA.g7 hT, TlA.g8 hT, TlA.r0 hT, TlA.r3 hT, TlA.r6 hT, TlA.r5 hT, TlA.o hT, DlA.g5 hD, DlA.g6 hD, DlA.g7 hD, DlA.g8 hD, DlA.g9 hD, DlA.g10 hD, DlA.g14 hD, DlA.r0 hD, DlA.r1 hD, DlA.r2 hD, DlA.r3 hD, DlA.r4 hD, DlA.r11 hD, DlA.r12 hD, DlA.r13 hD, DlA.r15 hD, DlA.r16 hD, DlA.gA3 hD, DlA.rA0 hD, DlA.rA1 hD, DlA.rA2 hD, DlA.o hD, DlA.oA hD, PlanAt.g0 hP, PlanAt.g1 hP, PlanAt.g2 hP, PlanAt.g3 hP, PlanAt.g13 hP, PlanAt.g15 hP, PlanAt.r4 hP, PlanAt.r5 hP, PlanAt.r6 hP, PlanAt.r7 hP, PlanAt.r8 hP, PlanAt.r9 hP, PlanAt.r10 hP, PlanAt.r11 hP, PlanAt.r12 hP, PlanAt.r14 hP, PlanAt.isO hP]
    refine ⟨⟨_, hL.1⟩, (c_li_size hl hL).cl0 (by decide) ?_⟩
    simp (disch := omega) only [true_implies, false_implies, not_true_eq_false, not_false_eq_true, rR_of, I_n, I_neg, I_add, I_sub, I_mul, I_le4, I_lt4, I_eq4, I_div4, I_bi0, I_bi01, I_bi1, nor_em, rI_of, rV_of, zI_of, zV_of, nz_and, br_T, br_F, br_T2, br_F2, st_eq, st9_0, st_k, st_i, true_and, and_true, Classical.not_not, TlA.g1 hT, TlA.g2 hT, TlA.g4 hT, TlA.g7 hT, TlA.g8 hT, TlA.r0 hT, TlA.r3 hT, TlA.r6 hT, TlA.r5 hT, TlA.o hT, DlA.g5 hD, DlA.g6 hD, DlA.g7 hD, DlA.g8 hD, DlA.g9 hD, DlA.g10 hD, DlA.g14 hD, DlA.r0 hD, DlA.r1 hD, DlA.r2 hD, DlA.r3 hD, DlA.r4 hD, DlA.r11 hD, DlA.r12 hD, DlA.r13 hD, DlA.r15 hD, DlA.r16 hD, DlA.gA3 hD, DlA.rA0 hD, DlA.rA1 hD, DlA.rA2 hD, DlA.o hD, DlA.oA hD, PlanAt.g0 hP, PlanAt.g1 hP, PlanAt.g2 hP, PlanAt.g3 hP, PlanAt.g13 hP, PlanAt.g15 hP, PlanAt.r4 hP, PlanAt.r5 hP, PlanAt.r6 hP, PlanAt.r7 hP, PlanAt.r8 hP, PlanAt.r9 hP, PlanAt.r10 hP, PlanAt.r11 hP, PlanAt.r12 hP, PlanAt.r14 hP, PlanAt.isO hP]
    refine ⟨⟨_, hL.1⟩, (c_li_get hl hL (by omega) (by omega)).cl0 (by decide) (rQ_of ⟨y, by rw [Int.toNat_natCast]; exact e1, ⟨_, e3⟩, ?_⟩)⟩
    rw [gI_iff e3 rfl]
    simp (disch := omega) only [true_implies, false_implies, not_true_eq_false, not_false_eq_true, rR_of, I_n, I_neg, I_add, I_sub, I_mul, I_le4, I_lt4, I_eq4, I_div4, I_bi0, I_bi01, I_bi1, nor_em, rI_of, rV_of, zI_of, zV_of, nz_and, br_T, br_F, br_T2, br_F2, st_eq, st9_0, st_k, st_i, true_and, and_true, Classical.not_not, TlA.g1 hT, TlA.g2 hT, TlA.g4 hT, TlA.g7 hT, TlA.g8 hT, TlA.r0 hT, TlA.r3 hT, TlA.r6 hT, TlA.r5 hT, TlA.o hT, DlA.g5 hD, DlA.g6 hD, DlA.g7 hD, DlA.g8 hD, DlA.g9 hD, DlA.g10 hD, DlA.g14 hD, DlA.r0 hD, DlA.r1 hD, DlA.r2 hD, DlA.r3 hD, DlA.r4 hD, DlA.r11 hD, DlA.r12 hD, DlA.r13 hD, DlA.r15 hD, DlA.r16 hD, DlA.gA3 hD, DlA.rA0 hD, DlA.rA1 hD, DlA.rA2 hD, DlA.o hD, DlA.oA hD, PlanAt.g0 hP, PlanAt.g1 hP, PlanAt.g2 hP, PlanAt.g3 hP, PlanAt.g13 hP, PlanAt.g15 hP, PlanAt.r4 hP, PlanAt.r5 hP, PlanAt.r6 hP, PlanAt.r7 hP, PlanAt.r8 hP, PlanAt.r9 hP, PlanAt.r10 hP, PlanAt.r11 hP, PlanAt.r12 hP, PlanAt.r14 hP, PlanAt.isO hP]
    refine ⟨fun h => ?_, fun h => ?_⟩
    · have e1 : fNm r x (j + 1) = fNm r x j := if_neg h
      rw [e1] at ih
      exact ih
    · have e1 : fNm r x (j + 1) = j := if_pos h
      rw [e1] at ih
      exact ih
theorem q_sized (hl : l.stackTraces = false) (hT : TlA X A t V a f c) (hD : DlA X A a p D) (hP : PlanAt X A p P) (hR : PR P r) (hDR : DR D r) (w : RW r e) (hd : p + 10 < a ∨ a + 12 < p) (hL : LST X A (a + 8) la (r 9) g m) (hPT : PT X A ow g r) {x : Int} (hx : sm x) : Ct l X 20 M_X5_sized [.ref t, .int (I x)] A 4 24 (QP A (bi (fSz r x (r 9).toNat (-1) = -1)) "java/util/NoSuchElementException" "" (Ri (I (fSz r x (r 9).toNat (-1))))) := by
  obtain ⟨x1, x2⟩ := id hx
  have c3 := w.2.2.2.1
  have f7 := w.2.2.2.2.2.2.2.2.2.2.2.2.1
  obtain ⟨Q, hQ⟩ : ∃ Q, Q = (QP A (bi (fSz r x (r 9).toNat (-1) = -1)) "java/util/NoSuchElementException" "" (Ri (I (fSz r x (r 9).toNat (-1))))) := ⟨_, rfl⟩
  rw [← hQ]
  have key : ∀ (k : Nat) (b : Int), (k : Int) ≤ r 9 → -1 ≤ b → b ≤ 4 → fSz r x k b = fSz r x (r 9).toNat (-1) → G l X M_X5_sized 20 Q 15 [(0, .ref t), (1, .int (I x)), (2, .int (I b)), (3, .int (I ((k : Int) - 1)))] [] A 4 24 := by
    intro k
    induction k with
    | zero =>
      intro b hm h1 h2 he
      have e0 : fSz r x 0 b = b := rfl
      rw [e0] at he
      refine k_X5_sized_15 ?_
      simp (disch := omega) only [true_implies, false_implies, not_true_eq_false, not_false_eq_true, rR_of, I_n, I_neg, I_add, I_sub, I_mul, I_le4, I_lt4, I_eq4, I_div4, I_bi0, I_bi01, I_bi1, nor_em, rI_of, rV_of, zI_of, zV_of, nz_and, br_T, br_F, br_T2, br_F2, st_eq, st9_0, st_k, st_i, true_and, and_true, Classical.not_not, TlA.g1 hT, TlA.g2 hT, TlA.g4 hT, TlA.g7 hT, TlA.g8 hT, TlA.r0 hT, TlA.r3 hT, TlA.r6 hT, TlA.r5 hT, TlA.o hT, DlA.g5 hD, DlA.g6 hD, DlA.g7 hD, DlA.g8 hD, DlA.g9 hD, DlA.g10 hD, DlA.g14 hD, DlA.r0 hD, DlA.r1 hD, DlA.r2 hD, DlA.r3 hD, DlA.r4 hD, DlA.r11 hD, DlA.r12 hD, DlA.r13 hD, DlA.r15 hD, DlA.r16 hD, DlA.gA3 hD, DlA.rA0 hD, DlA.rA1 hD, DlA.rA2 hD, DlA.o hD, DlA.oA hD, PlanAt.g0 hP, PlanAt.g1 hP, PlanAt.g2 hP, PlanAt.g3 hP, PlanAt.g13 hP, PlanAt.g15 hP, PlanAt.r4 hP, PlanAt.r5 hP, PlanAt.r6 hP, PlanAt.r7 hP, PlanAt.r8 hP, PlanAt.r9 hP, PlanAt.r10 hP, PlanAt.r11 hP, PlanAt.r12 hP, PlanAt.r14 hP, PlanAt.isO hP]
      refine ⟨fun q => ?_, fun q => ?_⟩
      · refine k_X5_sized_59 ?_
        refine cal_NE (c_X5_needElement hl ⟨by decide, by decide⟩) (by decide) (by decide) (by decide) (fun h3 => absurd rfl h3) (fun h3 A' a1 a2 => ?_)
        rw [hQ]
        exact QP_1 (bi_t (by rw [← he]; exact q)) a1 a2
      · refine k_X5_sized_59 ?_
        refine cal_NE (c_X5_needElement hl ⟨by decide, by decide⟩) (by decide) (by decide) (by decide) (fun h3 => ?_) (fun h3 A' a1 a2 => absurd (by decide) h3)
        rw [hQ]
        exact QP_ok (bi_f (by rw [← he]; exact q)) (by rw [← he])
    | succ k ih =>
      intro b hm h1 h2 he
      have e0 : ((k + 1 : Nat) : Int) - 1 = k := by omega
      rw [e0]
      have f7j := f7 k (by omega) (by omega)
      obtain ⟨y, z, hh, e1, e2, e3, e4, e5⟩ := hPT k (by omega)
      refine k_X5_sized_15 ?_
      simp (disch := omega) only [true_implies, false_implies, not_true_eq_false, not_false_eq_true, rR_of, I_n, I_neg, I_add, I_sub, I_mul, I_le4, I_lt4, I_eq4, I_div4, I_bi0, I_bi01, I_bi1, nor_em, rI_of, rV_of, zI_of, zV_of, nz_and, br_T, br_F, br_T2, br_F2, st_eq, st9_0, st_k, st_i, true_and, and_true, Classical.not_not, TlA.g1 hT, TlA.g2 hT, TlA.g4 hT, TlA.g7 hT, TlA.g8 hT, TlA.r0 hT, TlA.r3 hT, TlA.r6 hT, TlA.r5 hT, TlA.o hT, DlA.g5 hD, DlA.g6 hD, DlA.g7 hD, DlA.g8 hD, DlA.g9 hD, DlA.g10 hD, DlA.g14 hD, DlA.r0 hD, DlA.r1 hD, DlA.r2 hD, DlA.r3 hD, DlA.r4 hD, DlA.r11 hD, DlA.r12 hD, DlA.r13 hD, DlA.r15 hD, DlA.r16 hD, DlA.gA3 hD, DlA.rA0 hD, DlA.rA1 hD, DlA.rA2 hD, DlA.o hD, DlA.oA hD, PlanAt.g0 hP, PlanAt.g1 hP, PlanAt.g2 hP, PlanAt.g3 hP, PlanAt.g13 hP, PlanAt.g15 hP, PlanAt.r4 hP, PlanAt.r5 hP, PlanAt.r6 hP, PlanAt.r7 hP, PlanAt.r8 hP, PlanAt.r9 hP, PlanAt.r10 hP, PlanAt.r11 hP, PlanAt.r12 hP, PlanAt.r14 hP, PlanAt.isO hP]
      refine ⟨⟨_, hL.1⟩, (c_li_get hl hL (by omega) (by omega)).cl0 (by decide) (rQ_of ⟨y, by rw [Int.toNat_natCast]; exact e1, ⟨_, e3⟩, ?_⟩)⟩
      rw [gR_iff e3 rfl, nI_iff e4, I_ofNat, show (((r (696 + 242 * (k : Int) + 1)).toNat : Nat) : Int) = r (696 + 242 * (k : Int) + 1) by omega]
      simp (disch := omega) only [true_implies, false_implies, not_true_eq_false, not_false_eq_true, rR_of, I_n, I_neg, I_add, I_sub, I_mul, I_le4, I_lt4, I_eq4, I_div4, I_bi0, I_bi01, I_bi1, nor_em, rI_of, rV_of, zI_of, zV_of, nz_and, br_T, br_F, br_T2, br_F2, st_eq, st9_0, st_k, st_i, true_and, and_true, Classical.not_not, TlA.g1 hT, TlA.g2 hT, TlA.g4 hT, TlA.g7 hT, TlA.g8 hT, TlA.r0 hT, TlA.r3 hT, TlA.r6 hT, TlA.r5 hT, TlA.o hT, DlA.g5 hD, DlA.g6 hD, DlA.g7 hD, DlA.g8 hD, DlA.g9 hD, DlA.g10 hD, DlA.g14 hD, DlA.r0 hD, DlA.r1 hD, DlA.r2 hD, DlA.r3 hD, DlA.r4 hD, DlA.r11 hD, DlA.r12 hD, DlA.r13 hD, DlA.r15 hD, DlA.r16 hD, DlA.gA3 hD, DlA.rA0 hD, DlA.rA1 hD, DlA.rA2 hD, DlA.o hD, DlA.oA hD, PlanAt.g0 hP, PlanAt.g1 hP, PlanAt.g2 hP, PlanAt.g3 hP, PlanAt.g13 hP, PlanAt.g15 hP, PlanAt.r4 hP, PlanAt.r5 hP, PlanAt.r6 hP, PlanAt.r7 hP, PlanAt.r8 hP, PlanAt.r9 hP, PlanAt.r10 hP, PlanAt.r11 hP, PlanAt.r12 hP, PlanAt.r14 hP, PlanAt.isO hP]
      refine ⟨fun h => ?_, fun h => ?_⟩
      · have e1 : fSz r x (k + 1) b = fSz r x k b := by
          show fSz r x k (if r (696 + 242 * k + 1) = x then k else b) = _
          rw [if_neg h]
        exact ih b (by omega) h1 h2 (by rw [← he, e1])
      · have e1 : fSz r x (k + 1) b = fSz r x k k := by
          show fSz r x k (if r (696 + 242 * k + 1) = x then k else b) = _
          rw [if_pos h]
        exact ih k (by omega) (by omega) (by omega) (by rw [← he, e1])
  refine Ct.of hl rfl rfl (Nat.le_of_ble_eq_true rfl) (k_X5_sized_0 ?_)
  simp (disch := omega) only [true_implies, false_implies, not_true_eq_false, not_false_eq_true, rR_of, I_n, I_neg, I_add, I_sub, I_mul, I_le4, I_lt4, I_eq4, I_div4, I_bi0, I_bi01, I_bi1, nor_em, rI_of, rV_of, zI_of, zV_of, nz_and, br_T, br_F, br_T2, br_F2, st_eq, st9_0, st_k, st_i, true_and, and_true, Classical.not_not, TlA.g1 hT, TlA.g2 hT, TlA.g4 hT, TlA.g7 hT, TlA.g8 hT, TlA.r0 hT, TlA.r3 hT, TlA.r6 hT, TlA.r5 hT, TlA.o hT, DlA.g5 hD, DlA.g6 hD, DlA.g7 hD, DlA.g8 hD, DlA.g9 hD, DlA.g10 hD, DlA.g14 hD, DlA.r0 hD, DlA.r1 hD, DlA.r2 hD, DlA.r3 hD, DlA.r4 hD, DlA.r11 hD, DlA.r12 hD, DlA.r13 hD, DlA.r15 hD, DlA.r16 hD, DlA.gA3 hD, DlA.rA0 hD, DlA.rA1 hD, DlA.rA2 hD, DlA.o hD, DlA.oA hD, PlanAt.g0 hP, PlanAt.g1 hP, PlanAt.g2 hP, PlanAt.g3 hP, PlanAt.g13 hP, PlanAt.g15 hP, PlanAt.r4 hP, PlanAt.r5 hP, PlanAt.r6 hP, PlanAt.r7 hP, PlanAt.r8 hP, PlanAt.r9 hP, PlanAt.r10 hP, PlanAt.r11 hP, PlanAt.r12 hP, PlanAt.r14 hP, PlanAt.isO hP]
  refine ⟨⟨_, hL.1⟩, (c_li_size hl hL).cl0 (by decide) ?_⟩
  simp (disch := omega) only [true_implies, false_implies, not_true_eq_false, not_false_eq_true, rR_of, I_n, I_neg, I_add, I_sub, I_mul, I_le4, I_lt4, I_eq4, I_div4, I_bi0, I_bi01, I_bi1, nor_em, rI_of, rV_of, zI_of, zV_of, nz_and, br_T, br_F, br_T2, br_F2, st_eq, st9_0, st_k, st_i, true_and, and_true, Classical.not_not, TlA.g1 hT, TlA.g2 hT, TlA.g4 hT, TlA.g7 hT, TlA.g8 hT, TlA.r0 hT, TlA.r3 hT, TlA.r6 hT, TlA.r5 hT, TlA.o hT, DlA.g5 hD, DlA.g6 hD, DlA.g7 hD, DlA.g8 hD, DlA.g9 hD, DlA.g10 hD, DlA.g14 hD, DlA.r0 hD, DlA.r1 hD, DlA.r2 hD, DlA.r3 hD, DlA.r4 hD, DlA.r11 hD, DlA.r12 hD, DlA.r13 hD, DlA.r15 hD, DlA.r16 hD, DlA.gA3 hD, DlA.rA0 hD, DlA.rA1 hD, DlA.rA2 hD, DlA.o hD, DlA.oA hD, PlanAt.g0 hP, PlanAt.g1 hP, PlanAt.g2 hP, PlanAt.g3 hP, PlanAt.g13 hP, PlanAt.g15 hP, PlanAt.r4 hP, PlanAt.r5 hP, PlanAt.r6 hP, PlanAt.r7 hP, PlanAt.r8 hP, PlanAt.r9 hP, PlanAt.r10 hP, PlanAt.r11 hP, PlanAt.r12 hP, PlanAt.r14 hP, PlanAt.isO hP]
  have h := key (r 9).toNat (-1) (by omega) (by omega) (by omega) rfl
  rw [show (((r 9).toNat : Nat) : Int) = r 9 by omega] at h
  exact h
theorem fGq_p {q : Int → Int} {i n : Int} (g1 : GW r) (hn : n = r (696 + 242 * i + 1)) (hq : ∀ k, 0 ≤ k → k < n → q k = r (696 + 242 * i + 2 + k)) : ∀ (k : Nat) (j : Int), 0 ≤ j → j + k ≤ gN r → fGq r q n k j = fGp r i k j := by
  intro k
  induction k with
  | zero => exact fun _ _ _ => rfl
  | succ k ih =>
    intro j j0 j1
    obtain ⟨l1, l2, l3, l4⟩ := gLen_b g1 j0 (by omega)
    unfold fGq fGp
    rw [← hn]
    by_cases h : r 2 * j + gLen r j ≤ n
    · have e : gR' q (r 2 * j) (gLen r j) = gR' r (696 + 242 * i + 2 + r 2 * j) (gLen r j) := gR'_c fun y y0 y1 => by
        rw [hq _ (by omega) (by omega)]
        exact congrArg r (by omega)
      rw [e, ih (j + 1) (by omega) (by omega)]
    · rw [if_neg (fun k => h k.1), if_neg (fun k => h k.1)]
theorem q_partial (hl : l.stackTraces = false) (hT : TlA X A t V a f c) (hD : DlA X A a p D) (hP : PlanAt X A p P) (hR : PR P r) (hDR : DR D r) (w : RW r e) (hd : p + 10 < a ∨ a + 12 < p) (hL : LST X A (a + 8) la (r 9) g m) (hPT : PT X A ow g r) {s k : Int} (hs : sm s) (hk : sm k) : Ct l X 20 M_X5_partial [.ref t, .int (I s), .int (I k)] A 4 24 (QP A (tr2 (0 ≤ s ∧ s ≤ r 9 - 1) (0 ≤ k ∧ k ≤ 4)) "java/lang/IndexOutOfBoundsException" "java/lang/IllegalArgumentException" (Ri (I (fPar r s k)))) := by
  obtain ⟨k1, k2⟩ := id hk
  obtain ⟨s1, s2⟩ := id hs
  have c3 := w.2.2.2.1
  refine Ct.of hl rfl rfl (Nat.le_of_ble_eq_true rfl) (k_X5_partial_0 ?_)
  simp (disch := omega) only [true_implies, false_implies, not_true_eq_false, not_false_eq_true, rR_of, I_n, I_neg, I_add, I_sub, I_mul, I_le4, I_lt4, I_eq4, I_div4, I_bi0, I_bi01, I_bi1, nor_em, rI_of, rV_of, zI_of, zV_of, nz_and, br_T, br_F, br_T2, br_F2, st_eq, st9_0, st_k, st_i, true_and, and_true, Classical.not_not, TlA.g1 hT, TlA.g2 hT, TlA.g4 hT, TlA.g7 hT, TlA.g8 hT, TlA.r0 hT, TlA.r3 hT, TlA.r6 hT, TlA.r5 hT, TlA.o hT, DlA.g5 hD, DlA.g6 hD, DlA.g7 hD, DlA.g8 hD, DlA.g9 hD, DlA.g10 hD, DlA.g14 hD, DlA.r0 hD, DlA.r1 hD, DlA.r2 hD, DlA.r3 hD, DlA.r4 hD, DlA.r11 hD, DlA.r12 hD, DlA.r13 hD, DlA.r15 hD, DlA.r16 hD, DlA.gA3 hD, DlA.rA0 hD, DlA.rA1 hD, DlA.rA2 hD, DlA.o hD, DlA.oA hD, PlanAt.g0 hP, PlanAt.g1 hP, PlanAt.g2 hP, PlanAt.g3 hP, PlanAt.g13 hP, PlanAt.g15 hP, PlanAt.r4 hP, PlanAt.r5 hP, PlanAt.r6 hP, PlanAt.r7 hP, PlanAt.r8 hP, PlanAt.r9 hP, PlanAt.r10 hP, PlanAt.r11 hP, PlanAt.r12 hP, PlanAt.r14 hP, PlanAt.isO hP]
  refine ⟨⟨_, hL.1⟩, (c_li_size hl hL).cl0 (by decide) ?_⟩
  simp (disch := omega) only [true_implies, false_implies, not_true_eq_false, not_false_eq_true, rR_of, I_n, I_neg, I_add, I_sub, I_mul, I_le4, I_lt4, I_eq4, I_div4, I_bi0, I_bi01, I_bi1, nor_em, rI_of, rV_of, zI_of, zV_of, nz_and, br_T, br_F, br_T2, br_F2, st_eq, st9_0, st_k, st_i, true_and, and_true, Classical.not_not, TlA.g1 hT, TlA.g2 hT, TlA.g4 hT, TlA.g7 hT, TlA.g8 hT, TlA.r0 hT, TlA.r3 hT, TlA.r6 hT, TlA.r5 hT, TlA.o hT, DlA.g5 hD, DlA.g6 hD, DlA.g7 hD, DlA.g8 hD, DlA.g9 hD, DlA.g10 hD, DlA.g14 hD, DlA.r0 hD, DlA.r1 hD, DlA.r2 hD, DlA.r3 hD, DlA.r4 hD, DlA.r11 hD, DlA.r12 hD, DlA.r13 hD, DlA.r15 hD, DlA.r16 hD, DlA.gA3 hD, DlA.rA0 hD, DlA.rA1 hD, DlA.rA2 hD, DlA.o hD, DlA.oA hD, PlanAt.g0 hP, PlanAt.g1 hP, PlanAt.g2 hP, PlanAt.g3 hP, PlanAt.g13 hP, PlanAt.g15 hP, PlanAt.r4 hP, PlanAt.r5 hP, PlanAt.r6 hP, PlanAt.r7 hP, PlanAt.r8 hP, PlanAt.r9 hP, PlanAt.r10 hP, PlanAt.r11 hP, PlanAt.r12 hP, PlanAt.r14 hP, PlanAt.isO hP]
  refine cal_NE (c_X5_needIndex hl hs ⟨by omega, by omega⟩) (by decide) (by decide) (by decide) (fun h => ?_) (fun h A' a1 a2 => QP_1 (tq_1 h) a1 a2)
  have f7 := w.2.2.2.2.2.2.2.2.2.2.2.2.1 s h.1 (by omega)
  have f8 := fun i => w.2.2.2.2.2.2.2.2.2.2.2.2.2.1 s i h.1 (by omega)
  have lg := w.1.2.1
  obtain ⟨y, z, hh, e1, e2, e3, e4, e5, e6⟩ := hPT s.toNat (by omega)
  rw [show ((s.toNat : Nat) : Int) = s by omega] at e3 e4 e5 e6
  have rng : ∀ i, 0 ≤ i → i < r (696 + 242 * s + 1) → 0 ≤ hh i ∧ hh i ≤ 255 := fun i i0 i1 => by
    rw [e5 i i0 i1]
    exact f8 i i0 (by omega)
  have eL : (((r (696 + 242 * s + 1)).toNat : Nat) : Int) = r (696 + 242 * s + 1) := by omega
  simp (disch := omega) only [true_implies, false_implies, not_true_eq_false, not_false_eq_true, rR_of, I_n, I_neg, I_add, I_sub, I_mul, I_le4, I_lt4, I_eq4, I_div4, I_bi0, I_bi01, I_bi1, nor_em, rI_of, rV_of, zI_of, zV_of, nz_and, br_T, br_F, br_T2, br_F2, st_eq, st9_0, st_k, st_i, true_and, and_true, Classical.not_not, TlA.g1 hT, TlA.g2 hT, TlA.g4 hT, TlA.g7 hT, TlA.g8 hT, TlA.r0 hT, TlA.r3 hT, TlA.r6 hT, TlA.r5 hT, TlA.o hT, DlA.g5 hD, DlA.g6 hD, DlA.g7 hD, DlA.g8 hD, DlA.g9 hD, DlA.g10 hD, DlA.g14 hD, DlA.r0 hD, DlA.r1 hD, DlA.r2 hD, DlA.r3 hD, DlA.r4 hD, DlA.r11 hD, DlA.r12 hD, DlA.r13 hD, DlA.r15 hD, DlA.r16 hD, DlA.gA3 hD, DlA.rA0 hD, DlA.rA1 hD, DlA.rA2 hD, DlA.o hD, DlA.oA hD, PlanAt.g0 hP, PlanAt.g1 hP, PlanAt.g2 hP, PlanAt.g3 hP, PlanAt.g13 hP, PlanAt.g15 hP, PlanAt.r4 hP, PlanAt.r5 hP, PlanAt.r6 hP, PlanAt.r7 hP, PlanAt.r8 hP, PlanAt.r9 hP, PlanAt.r10 hP, PlanAt.r11 hP, PlanAt.r12 hP, PlanAt.r14 hP, PlanAt.isO hP]
  refine ⟨⟨_, hL.1⟩, (c_li_get hl hL h.1 (by omega)).cl0 (by decide) (rQ_of ⟨y, e1, ⟨_, e3⟩, ?_⟩)⟩
  have y0 : ∀ {K : Int32 → Prop}, gI A y 3 0 K ↔ K (I (r (696 + 242 * s))) := gI_iff e3 rfl
  have y1 : ∀ {K : Nat → Prop}, gR A y 3 1 K ↔ K z := gR_iff e3 rfl
  have y2 : ∀ {K : Int32 → Prop}, nI_ X A z K ↔ K (I (r (696 + 242 * s + 1))) := by
    intro K
    rw [nI_iff e4, I_ofNat, eL]
  simp only [y0, y1, y2]
  simp (disch := omega) only [true_implies, false_implies, not_true_eq_false, not_false_eq_true, rR_of, I_n, I_neg, I_add, I_sub, I_mul, I_le4, I_lt4, I_eq4, I_div4, I_bi0, I_bi01, I_bi1, nor_em, rI_of, rV_of, zI_of, zV_of, nz_and, br_T, br_F, br_T2, br_F2, st_eq, st9_0, st_k, st_i, true_and, and_true, Classical.not_not, TlA.g1 hT, TlA.g2 hT, TlA.g4 hT, TlA.g7 hT, TlA.g8 hT, TlA.r0 hT, TlA.r3 hT, TlA.r6 hT, TlA.r5 hT, TlA.o hT, DlA.g5 hD, DlA.g6 hD, DlA.g7 hD, DlA.g8 hD, DlA.g9 hD, DlA.g10 hD, DlA.g14 hD, DlA.r0 hD, DlA.r1 hD, DlA.r2 hD, DlA.r3 hD, DlA.r4 hD, DlA.r11 hD, DlA.r12 hD, DlA.r13 hD, DlA.r15 hD, DlA.r16 hD, DlA.gA3 hD, DlA.rA0 hD, DlA.rA1 hD, DlA.rA2 hD, DlA.o hD, DlA.oA hD, PlanAt.g0 hP, PlanAt.g1 hP, PlanAt.g2 hP, PlanAt.g3 hP, PlanAt.g13 hP, PlanAt.g15 hP, PlanAt.r4 hP, PlanAt.r5 hP, PlanAt.r6 hP, PlanAt.r7 hP, PlanAt.r8 hP, PlanAt.r9 hP, PlanAt.r10 hP, PlanAt.r11 hP, PlanAt.r12 hP, PlanAt.r14 hP, PlanAt.isO hP]
  refine ⟨fun q => ?_, fun q => ?_, fun q => ?_, fun q => ?_, fun q => ?_, fun q0 q1 q2 q3 q4 => ?_⟩
  · subst q
    refine QP_ok (tq_0 h (by decide)) ?_
    show Ri (I (r (696 + 242 * s))) = Ri (I (r (696 + 242 * s + 0)))
    rw [Int.add_zero]
  · subst q
    exact QP_ok (tq_0 h (by decide)) rfl
  · subst q
    refine (c_sumOf hl e4 (by omega) (by omega) (by omega) (by omega) (by omega) (fun i i0 i1 => rng i i0 (by omega))).cl0 (by decide) ?_
    simp (disch := omega) only [true_implies, false_implies, not_true_eq_false, not_false_eq_true, rR_of, I_n, I_neg, I_add, I_sub, I_mul, I_le4, I_lt4, I_eq4, I_div4, I_bi0, I_bi01, I_bi1, nor_em, rI_of, rV_of, zI_of, zV_of, nz_and, br_T, br_F, br_T2, br_F2, st_eq, st9_0, st_k, st_i, true_and, and_true, Classical.not_not, TlA.g1 hT, TlA.g2 hT, TlA.g4 hT, TlA.g7 hT, TlA.g8 hT, TlA.r0 hT, TlA.r3 hT, TlA.r6 hT, TlA.r5 hT, TlA.o hT, DlA.g5 hD, DlA.g6 hD, DlA.g7 hD, DlA.g8 hD, DlA.g9 hD, DlA.g10 hD, DlA.g14 hD, DlA.r0 hD, DlA.r1 hD, DlA.r2 hD, DlA.r3 hD, DlA.r4 hD, DlA.r11 hD, DlA.r12 hD, DlA.r13 hD, DlA.r15 hD, DlA.r16 hD, DlA.gA3 hD, DlA.rA0 hD, DlA.rA1 hD, DlA.rA2 hD, DlA.o hD, DlA.oA hD, PlanAt.g0 hP, PlanAt.g1 hP, PlanAt.g2 hP, PlanAt.g3 hP, PlanAt.g13 hP, PlanAt.g15 hP, PlanAt.r4 hP, PlanAt.r5 hP, PlanAt.r6 hP, PlanAt.r7 hP, PlanAt.r8 hP, PlanAt.r9 hP, PlanAt.r10 hP, PlanAt.r11 hP, PlanAt.r12 hP, PlanAt.r14 hP, PlanAt.isO hP]
    refine QP_ok (tq_0 h (by decide)) ?_
    show _ = Ri (I (gR' r (696 + 242 * s + 2) (r (696 + 242 * s + 1))))
    rw [gR'_c (r := r) (q := hh) (x := 0) (y := 696 + 242 * s + 2) fun j j0 j1 => by rw [Int.zero_add]; exact e5 j j0 j1]
  · subst q
    refine (c_diff hl e4 hP.c0 (by omega) (by decide) (by omega) (by omega) (by omega) (by omega) (fun i i0 i1 => ?_)).cl0 (by decide) ?_
    · have a1 := rng i i0 (by omega)
      have a2 := gB_b (r := r) (s := 0) (x := i)
      rw [(hR.2.1 i i0 (by omega)).1]
      omega
    simp (disch := omega) only [true_implies, false_implies, not_true_eq_false, not_false_eq_true, rR_of, I_n, I_neg, I_add, I_sub, I_mul, I_le4, I_lt4, I_eq4, I_div4, I_bi0, I_bi01, I_bi1, nor_em, rI_of, rV_of, zI_of, zV_of, nz_and, br_T, br_F, br_T2, br_F2, st_eq, st9_0, st_k, st_i, true_and, and_true, Classical.not_not, TlA.g1 hT, TlA.g2 hT, TlA.g4 hT, TlA.g7 hT, TlA.g8 hT, TlA.r0 hT, TlA.r3 hT, TlA.r6 hT, TlA.r5 hT, TlA.o hT, DlA.g5 hD, DlA.g6 hD, DlA.g7 hD, DlA.g8 hD, DlA.g9 hD, DlA.g10 hD, DlA.g14 hD, DlA.r0 hD, DlA.r1 hD, DlA.r2 hD, DlA.r3 hD, DlA.r4 hD, DlA.r11 hD, DlA.r12 hD, DlA.r13 hD, DlA.r15 hD, DlA.r16 hD, DlA.gA3 hD, DlA.rA0 hD, DlA.rA1 hD, DlA.rA2 hD, DlA.o hD, DlA.oA hD, PlanAt.g0 hP, PlanAt.g1 hP, PlanAt.g2 hP, PlanAt.g3 hP, PlanAt.g13 hP, PlanAt.g15 hP, PlanAt.r4 hP, PlanAt.r5 hP, PlanAt.r6 hP, PlanAt.r7 hP, PlanAt.r8 hP, PlanAt.r9 hP, PlanAt.r10 hP, PlanAt.r11 hP, PlanAt.r12 hP, PlanAt.r14 hP, PlanAt.isO hP]
    refine QP_ok (tq_0 h (by decide)) ?_
    show _ = Ri (I (gOb r s))
    unfold gOb
    refine congrArg (fun z => Ri (I z)) (sg_congr fun j hj => ?_)
    rw [Int.zero_add, e5 j (by omega) (by omega), (hR.2.1 j (by omega) (by omega)).1]
  · subst q
    refine (c_X3_leadingGoodPieces hl hP hR w e4 (by omega) (fun i i0 i1 => rng i i0 (by omega))).cl0 (by decide) ?_
    simp (disch := omega) only [true_implies, false_implies, not_true_eq_false, not_false_eq_true, rR_of, I_n, I_neg, I_add, I_sub, I_mul, I_le4, I_lt4, I_eq4, I_div4, I_bi0, I_bi01, I_bi1, nor_em, rI_of, rV_of, zI_of, zV_of, nz_and, br_T, br_F, br_T2, br_F2, st_eq, st9_0, st_k, st_i, true_and, and_true, Classical.not_not, TlA.g1 hT, TlA.g2 hT, TlA.g4 hT, TlA.g7 hT, TlA.g8 hT, TlA.r0 hT, TlA.r3 hT, TlA.r6 hT, TlA.r5 hT, TlA.o hT, DlA.g5 hD, DlA.g6 hD, DlA.g7 hD, DlA.g8 hD, DlA.g9 hD, DlA.g10 hD, DlA.g14 hD, DlA.r0 hD, DlA.r1 hD, DlA.r2 hD, DlA.r3 hD, DlA.r4 hD, DlA.r11 hD, DlA.r12 hD, DlA.r13 hD, DlA.r15 hD, DlA.r16 hD, DlA.gA3 hD, DlA.rA0 hD, DlA.rA1 hD, DlA.rA2 hD, DlA.o hD, DlA.oA hD, PlanAt.g0 hP, PlanAt.g1 hP, PlanAt.g2 hP, PlanAt.g3 hP, PlanAt.g13 hP, PlanAt.g15 hP, PlanAt.r4 hP, PlanAt.r5 hP, PlanAt.r6 hP, PlanAt.r7 hP, PlanAt.r8 hP, PlanAt.r9 hP, PlanAt.r10 hP, PlanAt.r11 hP, PlanAt.r12 hP, PlanAt.r14 hP, PlanAt.isO hP]
    refine QP_ok (tq_0 h (by decide)) ?_
    show _ = Ri (I (fGp r s (gN r).toNat 0))
    rw [fGq_p w.1 eL (fun i i0 i1 => e5 i i0 (by omega)) (gN r).toNat 0 (by omega) (by have := gN_b w.1; omega)]
  · exact ⟨by decide, by decide, fun n hn => QP_2 (tq_2 h (by omega)) hn rfl⟩
theorem q_wrongBytes (hl : l.stackTraces = false) (hT : TlA X A t V a f c) (hD : DlA X A a p D) (hP : PlanAt X A p P) (hR : PR P r) (hDR : DR D r) (w : RW r e) (hd : p + 10 < a ∨ a + 12 < p) : Ct l X 20 M_X5_wrongBytes [.ref t] A 4 24 (QP A 0 "" "" (Ri (I (gWb r)))) := by
  obtain ⟨t1, t2⟩ := gT_b w.1
  have lg := w.1.2.1
  have p3 := hR.1.2.2.2.1
  obtain ⟨Q, hQ⟩ : ∃ Q, Q = (QP A 0 "" "" (Ri (I (gWb r)))) := ⟨_, rfl⟩
  rw [← hQ]
  refine Ct.of hl rfl rfl (Nat.le_of_ble_eq_true rfl) (k_X5_wrongBytes_0 ?_)
  simp only [I_n]
  refine up_to (n := (gT r).toNat) (P := fun j => G l X M_X5_wrongBytes 20 Q 4 [(0, .ref t), (1, .int (I (sg (gWr r) j))), (2, .int (I j))] [] A 4 24) ?_ ?_
  · refine k_X5_wrongBytes_4 ?_
    simp (disch := omega) only [true_implies, false_implies, not_true_eq_false, not_false_eq_true, rR_of, I_n, I_neg, I_add, I_sub, I_mul, I_le4, I_lt4, I_eq4, I_div4, I_bi0, I_bi01, I_bi1, nor_em, rI_of, rV_of, zI_of, zV_of, nz_and, br_T, br_F, br_T2, br_F2, st_eq, st9_0, st_k, st_i, true_and, and_true, Classical.not_not, TlA.g1 hT, TlA.g2 hT, TlA.g4 hT, TlA.g7 hT, TlA.g8 hT, TlA.r0 hT, TlA.r3 hT, TlA.r6 hT, TlA.r5 hT, TlA.o hT, DlA.g5 hD, DlA.g6 hD, DlA.g7 hD, DlA.g8 hD, DlA.g9 hD, DlA.g10 hD, DlA.g14 hD, DlA.r0 hD, DlA.r1 hD, DlA.r2 hD, DlA.r3 hD, DlA.r4 hD, DlA.r11 hD, DlA.r12 hD, DlA.r13 hD, DlA.r15 hD, DlA.r16 hD, DlA.gA3 hD, DlA.rA0 hD, DlA.rA1 hD, DlA.rA2 hD, DlA.o hD, DlA.oA hD, PlanAt.g0 hP, PlanAt.g1 hP, PlanAt.g2 hP, PlanAt.g3 hP, PlanAt.g13 hP, PlanAt.g15 hP, PlanAt.r4 hP, PlanAt.r5 hP, PlanAt.r6 hP, PlanAt.r7 hP, PlanAt.r8 hP, PlanAt.r9 hP, PlanAt.r10 hP, PlanAt.r11 hP, PlanAt.r12 hP, PlanAt.r14 hP, PlanAt.isO hP]
    rw [hQ]
    exact QP_ok rfl rfl
  · intro j hj ih
    refine k_X5_wrongBytes_4 ?_
    simp (disch := omega) only [true_implies, false_implies, not_true_eq_false, not_false_eq_true, rR_of, I_n, I_neg, I_add, I_sub, I_mul, I_le4, I_lt4, I_eq4, I_div4, I_bi0, I_bi01, I_bi1, nor_em, rI_of, rV_of, zI_of, zV_of, nz_and, br_T, br_F, br_T2, br_F2, st_eq, st9_0, st_k, st_i, true_and, and_true, Classical.not_not, TlA.g1 hT, TlA.g2 hT, TlA.g4 hT, TlA.g7 hT, TlA.g8 hT, TlA.r0 hT, TlA.r3 hT, TlA.r6 hT, TlA.r5 hT, TlA.o hT, DlA.g5 hD, DlA.g6 hD, DlA.g7 hD, DlA.g8 hD, DlA.g9 hD, DlA.g10 hD, DlA.g14 hD, DlA.r0 hD, DlA.r1 hD, DlA.r2 hD, DlA.r3 hD, DlA.r4 hD, DlA.r11 hD, DlA.r12 hD, DlA.r13 hD, DlA.r15 hD, DlA.r16 hD, DlA.gA3 hD, DlA.rA0 hD, DlA.rA1 hD, DlA.rA2 hD, DlA.o hD, DlA.oA hD, PlanAt.g0 hP, PlanAt.g1 hP, PlanAt.g2 hP, PlanAt.g3 hP, PlanAt.g13 hP, PlanAt.g15 hP, PlanAt.r4 hP, PlanAt.r5 hP, PlanAt.r6 hP, PlanAt.r7 hP, PlanAt.r8 hP, PlanAt.r9 hP, PlanAt.r10 hP, PlanAt.r11 hP, PlanAt.r12 hP, PlanAt.r14 hP, PlanAt.isO hP]
    refine (qD hD (c_X1_wrongBytesOf hl hd hP hR w hDR (by omega) (by omega))).cl0 (by decide) ?_
    simp (disch := omega) only [true_implies, false_implies, not_true_eq_false, not_false_eq_true, rR_of, I_n, I_neg, I_add, I_sub, I_mul, I_le4, I_lt4, I_eq4, I_div4, I_bi0, I_bi01, I_bi1, nor_em, rI_of, rV_of, zI_of, zV_of, nz_and, br_T, br_F, br_T2, br_F2, st_eq, st9_0, st_k, st_i, true_and, and_true, Classical.not_not, TlA.g1 hT, TlA.g2 hT, TlA.g4 hT, TlA.g7 hT, TlA.g8 hT, TlA.r0 hT, TlA.r3 hT, TlA.r6 hT, TlA.r5 hT, TlA.o hT, DlA.g5 hD, DlA.g6 hD, DlA.g7 hD, DlA.g8 hD, DlA.g9 hD, DlA.g10 hD, DlA.g14 hD, DlA.r0 hD, DlA.r1 hD, DlA.r2 hD, DlA.r3 hD, DlA.r4 hD, DlA.r11 hD, DlA.r12 hD, DlA.r13 hD, DlA.r15 hD, DlA.r16 hD, DlA.gA3 hD, DlA.rA0 hD, DlA.rA1 hD, DlA.rA2 hD, DlA.o hD, DlA.oA hD, PlanAt.g0 hP, PlanAt.g1 hP, PlanAt.g2 hP, PlanAt.g3 hP, PlanAt.g13 hP, PlanAt.g15 hP, PlanAt.r4 hP, PlanAt.r5 hP, PlanAt.r6 hP, PlanAt.r7 hP, PlanAt.r8 hP, PlanAt.r9 hP, PlanAt.r10 hP, PlanAt.r11 hP, PlanAt.r12 hP, PlanAt.r14 hP, PlanAt.isO hP]
    exact ih
theorem q_differingParts (hl : l.stackTraces = false) (hT : TlA X A t V a f c) (hD : DlA X A a p D) (hP : PlanAt X A p P) (hR : PR P r) (hDR : DR D r) (w : RW r e) (hd : p + 10 < a ∨ a + 12 < p) : Ct l X 20 M_X5_differingParts [.ref t] A 4 24 (QP A 0 "" "" (Ri (I (gDf r)))) := by
  obtain ⟨t1, t2⟩ := gT_b w.1
  have lg := w.1.2.1
  have p3 := hR.1.2.2.2.1
  obtain ⟨Q, hQ⟩ : ∃ Q, Q = (QP A 0 "" "" (Ri (I (gDf r)))) := ⟨_, rfl⟩
  rw [← hQ]
  refine Ct.of hl rfl rfl (Nat.le_of_ble_eq_true rfl) (k_X5_differingParts_0 ?_)
  simp (disch := omega) only [true_implies, false_implies, not_true_eq_false, not_false_eq_true, rR_of, I_n, I_neg, I_add, I_sub, I_mul, I_le4, I_lt4, I_eq4, I_div4, I_bi0, I_bi01, I_bi1, nor_em, rI_of, rV_of, zI_of, zV_of, nz_and, br_T, br_F, br_T2, br_F2, st_eq, st9_0, st_k, st_i, true_and, and_true, Classical.not_not, TlA.g1 hT, TlA.g2 hT, TlA.g4 hT, TlA.g7 hT, TlA.g8 hT, TlA.r0 hT, TlA.r3 hT, TlA.r6 hT, TlA.r5 hT, TlA.o hT, DlA.g5 hD, DlA.g6 hD, DlA.g7 hD, DlA.g8 hD, DlA.g9 hD, DlA.g10 hD, DlA.g14 hD, DlA.r0 hD, DlA.r1 hD, DlA.r2 hD, DlA.r3 hD, DlA.r4 hD, DlA.r11 hD, DlA.r12 hD, DlA.r13 hD, DlA.r15 hD, DlA.r16 hD, DlA.gA3 hD, DlA.rA0 hD, DlA.rA1 hD, DlA.rA2 hD, DlA.o hD, DlA.oA hD, PlanAt.g0 hP, PlanAt.g1 hP, PlanAt.g2 hP, PlanAt.g3 hP, PlanAt.g13 hP, PlanAt.g15 hP, PlanAt.r4 hP, PlanAt.r5 hP, PlanAt.r6 hP, PlanAt.r7 hP, PlanAt.r8 hP, PlanAt.r9 hP, PlanAt.r10 hP, PlanAt.r11 hP, PlanAt.r12 hP, PlanAt.r14 hP, PlanAt.isO hP]
  refine up_to (n := (gT r).toNat) (P := fun j => G l X M_X5_differingParts 20 Q 12 [(1, .ref p), (2, .int (I (sg (fun p => cz (sg (gDi r p) (gPt r p).toNat)) j))), (3, .int (I j))] [] A 4 24) ?_ ?_
  · refine k_X5_differingParts_12 ?_
    simp (disch := omega) only [true_implies, false_implies, not_true_eq_false, not_false_eq_true, rR_of, I_n, I_neg, I_add, I_sub, I_mul, I_le4, I_lt4, I_eq4, I_div4, I_bi0, I_bi01, I_bi1, nor_em, rI_of, rV_of, zI_of, zV_of, nz_and, br_T, br_F, br_T2, br_F2, st_eq, st9_0, st_k, st_i, true_and, and_true, Classical.not_not, TlA.g1 hT, TlA.g2 hT, TlA.g4 hT, TlA.g7 hT, TlA.g8 hT, TlA.r0 hT, TlA.r3 hT, TlA.r6 hT, TlA.r5 hT, TlA.o hT, DlA.g5 hD, DlA.g6 hD, DlA.g7 hD, DlA.g8 hD, DlA.g9 hD, DlA.g10 hD, DlA.g14 hD, DlA.r0 hD, DlA.r1 hD, DlA.r2 hD, DlA.r3 hD, DlA.r4 hD, DlA.r11 hD, DlA.r12 hD, DlA.r13 hD, DlA.r15 hD, DlA.r16 hD, DlA.gA3 hD, DlA.rA0 hD, DlA.rA1 hD, DlA.rA2 hD, DlA.o hD, DlA.oA hD, PlanAt.g0 hP, PlanAt.g1 hP, PlanAt.g2 hP, PlanAt.g3 hP, PlanAt.g13 hP, PlanAt.g15 hP, PlanAt.r4 hP, PlanAt.r5 hP, PlanAt.r6 hP, PlanAt.r7 hP, PlanAt.r8 hP, PlanAt.r9 hP, PlanAt.r10 hP, PlanAt.r11 hP, PlanAt.r12 hP, PlanAt.r14 hP, PlanAt.isO hP]
    rw [hQ]
    exact QP_ok rfl rfl
  · intro j hj ih
    obtain ⟨a1, a2, a3, a4, a5, a6⟩ := gPl_b w.1 (p := j) (by omega) (by omega)
    have z3 : gLs r j = gPl r j := if_pos (by omega)
    refine k_X5_differingParts_12 ?_
    simp (disch := omega) only [true_implies, false_implies, not_true_eq_false, not_false_eq_true, rR_of, I_n, I_neg, I_add, I_sub, I_mul, I_le4, I_lt4, I_eq4, I_div4, I_bi0, I_bi01, I_bi1, nor_em, rI_of, rV_of, zI_of, zV_of, nz_and, br_T, br_F, br_T2, br_F2, st_eq, st9_0, st_k, st_i, true_and, and_true, Classical.not_not, TlA.g1 hT, TlA.g2 hT, TlA.g4 hT, TlA.g7 hT, TlA.g8 hT, TlA.r0 hT, TlA.r3 hT, TlA.r6 hT, TlA.r5 hT, TlA.o hT, DlA.g5 hD, DlA.g6 hD, DlA.g7 hD, DlA.g8 hD, DlA.g9 hD, DlA.g10 hD, DlA.g14 hD, DlA.r0 hD, DlA.r1 hD, DlA.r2 hD, DlA.r3 hD, DlA.r4 hD, DlA.r11 hD, DlA.r12 hD, DlA.r13 hD, DlA.r15 hD, DlA.r16 hD, DlA.gA3 hD, DlA.rA0 hD, DlA.rA1 hD, DlA.rA2 hD, DlA.o hD, DlA.oA hD, PlanAt.g0 hP, PlanAt.g1 hP, PlanAt.g2 hP, PlanAt.g3 hP, PlanAt.g13 hP, PlanAt.g15 hP, PlanAt.r4 hP, PlanAt.r5 hP, PlanAt.r6 hP, PlanAt.r7 hP, PlanAt.r8 hP, PlanAt.r9 hP, PlanAt.r10 hP, PlanAt.r11 hP, PlanAt.r12 hP, PlanAt.r14 hP, PlanAt.isO hP]
    refine (c_X3_partStart hl hP hR w.1 (by omega) (by omega)).cl0 (by decide) ?_
    simp (disch := omega) only [true_implies, false_implies, not_true_eq_false, not_false_eq_true, rR_of, I_n, I_neg, I_add, I_sub, I_mul, I_le4, I_lt4, I_eq4, I_div4, I_bi0, I_bi01, I_bi1, nor_em, rI_of, rV_of, zI_of, zV_of, nz_and, br_T, br_F, br_T2, br_F2, st_eq, st9_0, st_k, st_i, true_and, and_true, Classical.not_not, TlA.g1 hT, TlA.g2 hT, TlA.g4 hT, TlA.g7 hT, TlA.g8 hT, TlA.r0 hT, TlA.r3 hT, TlA.r6 hT, TlA.r5 hT, TlA.o hT, DlA.g5 hD, DlA.g6 hD, DlA.g7 hD, DlA.g8 hD, DlA.g9 hD, DlA.g10 hD, DlA.g14 hD, DlA.r0 hD, DlA.r1 hD, DlA.r2 hD, DlA.r3 hD, DlA.r4 hD, DlA.r11 hD, DlA.r12 hD, DlA.r13 hD, DlA.r15 hD, DlA.r16 hD, DlA.gA3 hD, DlA.rA0 hD, DlA.rA1 hD, DlA.rA2 hD, DlA.o hD, DlA.oA hD, PlanAt.g0 hP, PlanAt.g1 hP, PlanAt.g2 hP, PlanAt.g3 hP, PlanAt.g13 hP, PlanAt.g15 hP, PlanAt.r4 hP, PlanAt.r5 hP, PlanAt.r6 hP, PlanAt.r7 hP, PlanAt.r8 hP, PlanAt.r9 hP, PlanAt.r10 hP, PlanAt.r11 hP, PlanAt.r12 hP, PlanAt.r14 hP, PlanAt.isO hP]
    refine (c_X3_partLength hl hP hR w.1 (by omega) (by omega)).cl0 (by decide) ?_
    simp (disch := omega) only [true_implies, false_implies, not_true_eq_false, not_false_eq_true, rR_of, I_n, I_neg, I_add, I_sub, I_mul, I_le4, I_lt4, I_eq4, I_div4, I_bi0, I_bi01, I_bi1, nor_em, rI_of, rV_of, zI_of, zV_of, nz_and, br_T, br_F, br_T2, br_F2, st_eq, st9_0, st_k, st_i, true_and, and_true, Classical.not_not, TlA.g1 hT, TlA.g2 hT, TlA.g4 hT, TlA.g7 hT, TlA.g8 hT, TlA.r0 hT, TlA.r3 hT, TlA.r6 hT, TlA.r5 hT, TlA.o hT, DlA.g5 hD, DlA.g6 hD, DlA.g7 hD, DlA.g8 hD, DlA.g9 hD, DlA.g10 hD, DlA.g14 hD, DlA.r0 hD, DlA.r1 hD, DlA.r2 hD, DlA.r3 hD, DlA.r4 hD, DlA.r11 hD, DlA.r12 hD, DlA.r13 hD, DlA.r15 hD, DlA.r16 hD, DlA.gA3 hD, DlA.rA0 hD, DlA.rA1 hD, DlA.rA2 hD, DlA.o hD, DlA.oA hD, PlanAt.g0 hP, PlanAt.g1 hP, PlanAt.g2 hP, PlanAt.g3 hP, PlanAt.g13 hP, PlanAt.g15 hP, PlanAt.r4 hP, PlanAt.r5 hP, PlanAt.r6 hP, PlanAt.r7 hP, PlanAt.r8 hP, PlanAt.r9 hP, PlanAt.r10 hP, PlanAt.r11 hP, PlanAt.r12 hP, PlanAt.r14 hP, PlanAt.isO hP]
    rw [z3]
    refine (c_diff hl hP.c0 hP.c1 (by decide) (by decide) (by omega) (by omega) (by omega) (by omega) (fun i i0 i1 => ?_)).cl0 (by decide) ?_
    · obtain ⟨q0, q1⟩ := hR.2.1 i (by omega) (by omega)
      have b0 := gB_b (r := r) (s := 0) (x := i)
      have b1 := gB_b (r := r) (s := 1) (x := i)
      rw [q0, q1]
      omega
    have es : sg (fun k => bi (¬ P 0 (gPl r j + k) = P 1 (gPl r j + k))) (gPt r j).toNat = sg (gDi r j) (gPt r j).toNat := sg_congr fun k hk => by
      obtain ⟨q0, q1⟩ := hR.2.1 (gPl r j + k) (by omega) (by omega)
      unfold gDi
      rw [q0, q1]
    rw [es]
    have hb : 0 ≤ sg (gDi r j) (gPt r j).toNat ∧ sg (gDi r j) (gPt r j).toNat ≤ (gPt r j).toNat := sg_bi
    rw [sg_s] at ih
    simp (disch := omega) only [true_implies, false_implies, not_true_eq_false, not_false_eq_true, rR_of, I_n, I_neg, I_add, I_sub, I_mul, I_le4, I_lt4, I_eq4, I_div4, I_bi0, I_bi01, I_bi1, nor_em, rI_of, rV_of, zI_of, zV_of, nz_and, br_T, br_F, br_T2, br_F2, st_eq, st9_0, st_k, st_i, true_and, and_true, Classical.not_not, TlA.g1 hT, TlA.g2 hT, TlA.g4 hT, TlA.g7 hT, TlA.g8 hT, TlA.r0 hT, TlA.r3 hT, TlA.r6 hT, TlA.r5 hT, TlA.o hT, DlA.g5 hD, DlA.g6 hD, DlA.g7 hD, DlA.g8 hD, DlA.g9 hD, DlA.g10 hD, DlA.g14 hD, DlA.r0 hD, DlA.r1 hD, DlA.r2 hD, DlA.r3 hD, DlA.r4 hD, DlA.r11 hD, DlA.r12 hD, DlA.r13 hD, DlA.r15 hD, DlA.r16 hD, DlA.gA3 hD, DlA.rA0 hD, DlA.rA1 hD, DlA.rA2 hD, DlA.o hD, DlA.oA hD, PlanAt.g0 hP, PlanAt.g1 hP, PlanAt.g2 hP, PlanAt.g3 hP, PlanAt.g13 hP, PlanAt.g15 hP, PlanAt.r4 hP, PlanAt.r5 hP, PlanAt.r6 hP, PlanAt.r7 hP, PlanAt.r8 hP, PlanAt.r9 hP, PlanAt.r10 hP, PlanAt.r11 hP, PlanAt.r12 hP, PlanAt.r14 hP, PlanAt.isO hP]
    refine ⟨fun h => ?_, fun h => ?_⟩
    · rw [cz_z (by omega)] at ih
      rw [Int.add_zero] at ih
      exact ih
    · rw [cz_p (by omega)] at ih
      exact ih
theorem q_progress (hl : l.stackTraces = false) (hT : TlA X A t V a f c) (hD : DlA X A a p D) (hP : PlanAt X A p P) (hR : PR P r) (hDR : DR D r) (w : RW r e) (hd : p + 10 < a ∨ a + 12 < p) (F : FPok) : Ct l X 20 M_X5_progress [.ref t] A 4 24 (QP A 0 "" "" (Rf (FP.fdiv (FP.i2f (I (gPg r))) (FP.i2f (I (r 0)))))) := by
  obtain ⟨n1, n2, -⟩ := gN_b w.1
  obtain ⟨g1, g2, -⟩ := id w.1
  have p0 := hR.1.1
  have p2 := hR.1.2.2.1
  have hsum := gLen_sum w.1 (gN r).toNat (by omega)
  obtain ⟨Q, hQ⟩ : ∃ Q, Q = (QP A 0 "" "" (Rf (FP.fdiv (FP.i2f (I (gPg r))) (FP.i2f (I (r 0)))))) := ⟨_, rfl⟩
  rw [← hQ]
  refine Ct.of hl rfl rfl (Nat.le_of_ble_eq_true rfl) (k_X5_progress_0 ?_)
  simp (disch := omega) only [true_implies, false_implies, not_true_eq_false, not_false_eq_true, rR_of, I_n, I_neg, I_add, I_sub, I_mul, I_le4, I_lt4, I_eq4, I_div4, I_bi0, I_bi01, I_bi1, nor_em, rI_of, rV_of, zI_of, zV_of, nz_and, br_T, br_F, br_T2, br_F2, st_eq, st9_0, st_k, st_i, true_and, and_true, Classical.not_not, TlA.g1 hT, TlA.g2 hT, TlA.g4 hT, TlA.g7 hT, TlA.g8 hT, TlA.r0 hT, TlA.r3 hT, TlA.r6 hT, TlA.r5 hT, TlA.o hT, DlA.g5 hD, DlA.g6 hD, DlA.g7 hD, DlA.g8 hD, DlA.g9 hD, DlA.g10 hD, DlA.g14 hD, DlA.r0 hD, DlA.r1 hD, DlA.r2 hD, DlA.r3 hD, DlA.r4 hD, DlA.r11 hD, DlA.r12 hD, DlA.r13 hD, DlA.r15 hD, DlA.r16 hD, DlA.gA3 hD, DlA.rA0 hD, DlA.rA1 hD, DlA.rA2 hD, DlA.o hD, DlA.oA hD, PlanAt.g0 hP, PlanAt.g1 hP, PlanAt.g2 hP, PlanAt.g3 hP, PlanAt.g13 hP, PlanAt.g15 hP, PlanAt.r4 hP, PlanAt.r5 hP, PlanAt.r6 hP, PlanAt.r7 hP, PlanAt.r8 hP, PlanAt.r9 hP, PlanAt.r10 hP, PlanAt.r11 hP, PlanAt.r12 hP, PlanAt.r14 hP, PlanAt.isO hP]
  refine up_to (n := (gN r).toNat) (P := fun j => G l X M_X5_progress 20 Q 12 [(0, .ref t), (1, .ref p), (2, .int (I (sg (fun k => if gV r k = 1 then gLen r k else 0) j))), (3, .int (I j))] [] A 4 24) ?_ ?_
  · refine k_X5_progress_12 ?_
    simp (disch := omega) only [true_implies, false_implies, not_true_eq_false, not_false_eq_true, rR_of, I_n, I_neg, I_add, I_sub, I_mul, I_le4, I_lt4, I_eq4, I_div4, I_bi0, I_bi01, I_bi1, nor_em, rI_of, rV_of, zI_of, zV_of, nz_and, br_T, br_F, br_T2, br_F2, st_eq, st9_0, st_k, st_i, true_and, and_true, Classical.not_not, TlA.g1 hT, TlA.g2 hT, TlA.g4 hT, TlA.g7 hT, TlA.g8 hT, TlA.r0 hT, TlA.r3 hT, TlA.r6 hT, TlA.r5 hT, TlA.o hT, DlA.g5 hD, DlA.g6 hD, DlA.g7 hD, DlA.g8 hD, DlA.g9 hD, DlA.g10 hD, DlA.g14 hD, DlA.r0 hD, DlA.r1 hD, DlA.r2 hD, DlA.r3 hD, DlA.r4 hD, DlA.r11 hD, DlA.r12 hD, DlA.r13 hD, DlA.r15 hD, DlA.r16 hD, DlA.gA3 hD, DlA.rA0 hD, DlA.rA1 hD, DlA.rA2 hD, DlA.o hD, DlA.oA hD, PlanAt.g0 hP, PlanAt.g1 hP, PlanAt.g2 hP, PlanAt.g3 hP, PlanAt.g13 hP, PlanAt.g15 hP, PlanAt.r4 hP, PlanAt.r5 hP, PlanAt.r6 hP, PlanAt.r7 hP, PlanAt.r8 hP, PlanAt.r9 hP, PlanAt.r10 hP, PlanAt.r11 hP, PlanAt.r12 hP, PlanAt.r14 hP, PlanAt.isO hP]
    rw [p0]
    rw [hQ]
    exact ⟨F _ _ hsum.2.2 hsum.2.1 g1 g2, QP_ok rfl rfl⟩
  · intro j hj ih
    have hv := gV_b (r := r) (k := j)
    have z3 := DR_v hDR (k := j) (by omega) (by omega)
    refine k_X5_progress_12 ?_
    simp (disch := omega) only [true_implies, false_implies, not_true_eq_false, not_false_eq_true, rR_of, I_n, I_neg, I_add, I_sub, I_mul, I_le4, I_lt4, I_eq4, I_div4, I_bi0, I_bi01, I_bi1, nor_em, rI_of, rV_of, zI_of, zV_of, nz_and, br_T, br_F, br_T2, br_F2, st_eq, st9_0, st_k, st_i, true_and, and_true, Classical.not_not, TlA.g1 hT, TlA.g2 hT, TlA.g4 hT, TlA.g7 hT, TlA.g8 hT, TlA.r0 hT, TlA.r3 hT, TlA.r6 hT, TlA.r5 hT, TlA.o hT, DlA.g5 hD, DlA.g6 hD, DlA.g7 hD, DlA.g8 hD, DlA.g9 hD, DlA.g10 hD, DlA.g14 hD, DlA.r0 hD, DlA.r1 hD, DlA.r2 hD, DlA.r3 hD, DlA.r4 hD, DlA.r11 hD, DlA.r12 hD, DlA.r13 hD, DlA.r15 hD, DlA.r16 hD, DlA.gA3 hD, DlA.rA0 hD, DlA.rA1 hD, DlA.rA2 hD, DlA.o hD, DlA.oA hD, PlanAt.g0 hP, PlanAt.g1 hP, PlanAt.g2 hP, PlanAt.g3 hP, PlanAt.g13 hP, PlanAt.g15 hP, PlanAt.r4 hP, PlanAt.r5 hP, PlanAt.r6 hP, PlanAt.r7 hP, PlanAt.r8 hP, PlanAt.r9 hP, PlanAt.r10 hP, PlanAt.r11 hP, PlanAt.r12 hP, PlanAt.r14 hP, PlanAt.isO hP]
    refine (c_at hl hD.k4 (by decide) (by omega) (by omega)).cl0 (by decide) ?_
    simp (disch := omega) only [true_implies, false_implies, not_true_eq_false, not_false_eq_true, rR_of, I_n, I_neg, I_add, I_sub, I_mul, I_le4, I_lt4, I_eq4, I_div4, I_bi0, I_bi01, I_bi1, nor_em, rI_of, rV_of, zI_of, zV_of, nz_and, br_T, br_F, br_T2, br_F2, st_eq, st9_0, st_k, st_i, true_and, and_true, Classical.not_not, TlA.g1 hT, TlA.g2 hT, TlA.g4 hT, TlA.g7 hT, TlA.g8 hT, TlA.r0 hT, TlA.r3 hT, TlA.r6 hT, TlA.r5 hT, TlA.o hT, DlA.g5 hD, DlA.g6 hD, DlA.g7 hD, DlA.g8 hD, DlA.g9 hD, DlA.g10 hD, DlA.g14 hD, DlA.r0 hD, DlA.r1 hD, DlA.r2 hD, DlA.r3 hD, DlA.r4 hD, DlA.r11 hD, DlA.r12 hD, DlA.r13 hD, DlA.r15 hD, DlA.r16 hD, DlA.gA3 hD, DlA.rA0 hD, DlA.rA1 hD, DlA.rA2 hD, DlA.o hD, DlA.oA hD, PlanAt.g0 hP, PlanAt.g1 hP, PlanAt.g2 hP, PlanAt.g3 hP, PlanAt.g13 hP, PlanAt.g15 hP, PlanAt.r4 hP, PlanAt.r5 hP, PlanAt.r6 hP, PlanAt.r7 hP, PlanAt.r8 hP, PlanAt.r9 hP, PlanAt.r10 hP, PlanAt.r11 hP, PlanAt.r12 hP, PlanAt.r14 hP, PlanAt.isO hP]
    rw [z3]
    rw [sg_s] at ih
    refine ⟨fun h => ?_, fun h => ?_⟩
    · rw [if_neg h, Int.add_zero] at ih
      exact ih
    · refine (c_X3_pieceLength hl hP hR w.1 (by omega) (by omega)).cl0 (by decide) ?_
      simp (disch := omega) only [true_implies, false_implies, not_true_eq_false, not_false_eq_true, rR_of, I_n, I_neg, I_add, I_sub, I_mul, I_le4, I_lt4, I_eq4, I_div4, I_bi0, I_bi01, I_bi1, nor_em, rI_of, rV_of, zI_of, zV_of, nz_and, br_T, br_F, br_T2, br_F2, st_eq, st9_0, st_k, st_i, true_and, and_true, Classical.not_not, TlA.g1 hT, TlA.g2 hT, TlA.g4 hT, TlA.g7 hT, TlA.g8 hT, TlA.r0 hT, TlA.r3 hT, TlA.r6 hT, TlA.r5 hT, TlA.o hT, DlA.g5 hD, DlA.g6 hD, DlA.g7 hD, DlA.g8 hD, DlA.g9 hD, DlA.g10 hD, DlA.g14 hD, DlA.r0 hD, DlA.r1 hD, DlA.r2 hD, DlA.r3 hD, DlA.r4 hD, DlA.r11 hD, DlA.r12 hD, DlA.r13 hD, DlA.r15 hD, DlA.r16 hD, DlA.gA3 hD, DlA.rA0 hD, DlA.rA1 hD, DlA.rA2 hD, DlA.o hD, DlA.oA hD, PlanAt.g0 hP, PlanAt.g1 hP, PlanAt.g2 hP, PlanAt.g3 hP, PlanAt.g13 hP, PlanAt.g15 hP, PlanAt.r4 hP, PlanAt.r5 hP, PlanAt.r6 hP, PlanAt.r7 hP, PlanAt.r8 hP, PlanAt.r9 hP, PlanAt.r10 hP, PlanAt.r11 hP, PlanAt.r12 hP, PlanAt.r14 hP, PlanAt.isO hP]
      rw [if_pos h] at ih
      exact ih
theorem q_size (hl : l.stackTraces = false) (hD : DlA X A a p D) (h3 : D 11 3 = r 7) (h7 : 0 ≤ r 7 ∧ r 7 ≤ 2000000000) : Fn l X 0 M_X0_size [.ref (a + 9)] A 0 0 (Ri (I (gK r))) A := by
  refine Fn.of hl rfl rfl (Nat.le_of_ble_eq_true rfl) (k_X0_size_0 ?_)
  rw [hD.gA3, h3]
  simp (disch := omega) only [I_n, I_lt4]
  refine ⟨?_, trivial⟩
  unfold gK
  by_cases h : 40 < r 7
  · rw [if_pos h, if_pos (by omega)]
  · rw [if_neg h]
    by_cases h2 : 40 ≤ r 7
    · rw [if_pos h2, show r 7 = 40 by omega]
    · rw [if_neg h2]
theorem q_slot (hl : l.stackTraces = false) (hD : DlA X A a p D) (h3 : D 11 3 = r 7) (h7 : 0 ≤ r 7 ∧ r 7 ≤ 2000000000) {k : Int} (k0 : 0 ≤ k) (k1 : k < r 7) : Fn l X 0 M_X0_slot [.ref (a + 9), .int (I k)] A 0 0 (Ri (I (r 7 - 1 - k - (r 7 - 1 - k) / 40 * 40))) A := by
  refine Fn.of hl rfl rfl (Nat.le_of_ble_eq_true rfl) (k_X0_slot_0 ?_)
  rw [hD.gA3, h3]
  simp (disch := omega) only [I_n, I_sub, I_div4, I_mul]
  exact ⟨trivial, trivial⟩
theorem q_event (hl : l.stackTraces = false) (hT : TlA X A t V a f c) (hD : DlA X A a p D) (hP : PlanAt X A p P) (hR : PR P r) (hDR : DR D r) (w : RW r e) (hd : p + 10 < a ∨ a + 12 < p) {s k : Int} (hs : sm s) (hk : sm k) : Ct l X 20 M_X5_event [.ref t, .int (I s), .int (I k)] A 4 24 (QP A (tr2 (0 ≤ s ∧ s ≤ gK r - 1) (0 ≤ k ∧ k ≤ 2)) "java/lang/IndexOutOfBoundsException" "java/lang/IllegalArgumentException" (Ri (I (gEv r s k)))) := by
  obtain ⟨k1, k2⟩ := id hk
  obtain ⟨s1, s2⟩ := id hs
  have c5 := w.2.2.2.2.2.1
  have c9 := w.2.2.2.2.2.2.2.2.2.2.2.2.2.2.1
  have h7 : 0 ≤ r 7 ∧ r 7 ≤ 2000000000 := by omega
  have x3 := hDR.2.2.2.2.1.2.2.2.2
  have hK : 0 ≤ gK r ∧ gK r ≤ r 7 ∧ gK r ≤ 40 := by
    unfold gK
    split
    · omega
    · omega
  refine Ct.of hl rfl rfl (Nat.le_of_ble_eq_true rfl) (k_X5_event_0 ?_)
  simp (disch := omega) only [true_implies, false_implies, not_true_eq_false, not_false_eq_true, rR_of, I_n, I_neg, I_add, I_sub, I_mul, I_le4, I_lt4, I_eq4, I_div4, I_bi0, I_bi01, I_bi1, nor_em, rI_of, rV_of, zI_of, zV_of, nz_and, br_T, br_F, br_T2, br_F2, st_eq, st9_0, st_k, st_i, true_and, and_true, Classical.not_not, TlA.g1 hT, TlA.g2 hT, TlA.g4 hT, TlA.g7 hT, TlA.g8 hT, TlA.r0 hT, TlA.r3 hT, TlA.r6 hT, TlA.r5 hT, TlA.o hT, DlA.g5 hD, DlA.g6 hD, DlA.g7 hD, DlA.g8 hD, DlA.g9 hD, DlA.g10 hD, DlA.g14 hD, DlA.r0 hD, DlA.r1 hD, DlA.r2 hD, DlA.r3 hD, DlA.r4 hD, DlA.r11 hD, DlA.r12 hD, DlA.r13 hD, DlA.r15 hD, DlA.r16 hD, DlA.gA3 hD, DlA.rA0 hD, DlA.rA1 hD, DlA.rA2 hD, DlA.o hD, DlA.oA hD, PlanAt.g0 hP, PlanAt.g1 hP, PlanAt.g2 hP, PlanAt.g3 hP, PlanAt.g13 hP, PlanAt.g15 hP, PlanAt.r4 hP, PlanAt.r5 hP, PlanAt.r6 hP, PlanAt.r7 hP, PlanAt.r8 hP, PlanAt.r9 hP, PlanAt.r10 hP, PlanAt.r11 hP, PlanAt.r12 hP, PlanAt.r14 hP, PlanAt.isO hP]
  refine (q_size hl hD x3 h7).cl0 (by decide) ?_
  simp (disch := omega) only [true_implies, false_implies, not_true_eq_false, not_false_eq_true, rR_of, I_n, I_neg, I_add, I_sub, I_mul, I_le4, I_lt4, I_eq4, I_div4, I_bi0, I_bi01, I_bi1, nor_em, rI_of, rV_of, zI_of, zV_of, nz_and, br_T, br_F, br_T2, br_F2, st_eq, st9_0, st_k, st_i, true_and, and_true, Classical.not_not, TlA.g1 hT, TlA.g2 hT, TlA.g4 hT, TlA.g7 hT, TlA.g8 hT, TlA.r0 hT, TlA.r3 hT, TlA.r6 hT, TlA.r5 hT, TlA.o hT, DlA.g5 hD, DlA.g6 hD, DlA.g7 hD, DlA.g8 hD, DlA.g9 hD, DlA.g10 hD, DlA.g14 hD, DlA.r0 hD, DlA.r1 hD, DlA.r2 hD, DlA.r3 hD, DlA.r4 hD, DlA.r11 hD, DlA.r12 hD, DlA.r13 hD, DlA.r15 hD, DlA.r16 hD, DlA.gA3 hD, DlA.rA0 hD, DlA.rA1 hD, DlA.rA2 hD, DlA.o hD, DlA.oA hD, PlanAt.g0 hP, PlanAt.g1 hP, PlanAt.g2 hP, PlanAt.g3 hP, PlanAt.g13 hP, PlanAt.g15 hP, PlanAt.r4 hP, PlanAt.r5 hP, PlanAt.r6 hP, PlanAt.r7 hP, PlanAt.r8 hP, PlanAt.r9 hP, PlanAt.r10 hP, PlanAt.r11 hP, PlanAt.r12 hP, PlanAt.r14 hP, PlanAt.isO hP]
  refine cal_NE (c_X5_needIndex hl hs ⟨by omega, by omega⟩) (by decide) (by decide) (by decide) (fun h => ?_) (fun h A' a1 a2 => QP_1 (tq_1 h) a1 a2)
  simp (disch := omega) only [true_implies, false_implies, not_true_eq_false, not_false_eq_true, rR_of, I_n, I_neg, I_add, I_sub, I_mul, I_le4, I_lt4, I_eq4, I_div4, I_bi0, I_bi01, I_bi1, nor_em, rI_of, rV_of, zI_of, zV_of, nz_and, br_T, br_F, br_T2, br_F2, st_eq, st9_0, st_k, st_i, true_and, and_true, Classical.not_not, TlA.g1 hT, TlA.g2 hT, TlA.g4 hT, TlA.g7 hT, TlA.g8 hT, TlA.r0 hT, TlA.r3 hT, TlA.r6 hT, TlA.r5 hT, TlA.o hT, DlA.g5 hD, DlA.g6 hD, DlA.g7 hD, DlA.g8 hD, DlA.g9 hD, DlA.g10 hD, DlA.g14 hD, DlA.r0 hD, DlA.r1 hD, DlA.r2 hD, DlA.r3 hD, DlA.r4 hD, DlA.r11 hD, DlA.r12 hD, DlA.r13 hD, DlA.r15 hD, DlA.r16 hD, DlA.gA3 hD, DlA.rA0 hD, DlA.rA1 hD, DlA.rA2 hD, DlA.o hD, DlA.oA hD, PlanAt.g0 hP, PlanAt.g1 hP, PlanAt.g2 hP, PlanAt.g3 hP, PlanAt.g13 hP, PlanAt.g15 hP, PlanAt.r4 hP, PlanAt.r5 hP, PlanAt.r6 hP, PlanAt.r7 hP, PlanAt.r8 hP, PlanAt.r9 hP, PlanAt.r10 hP, PlanAt.r11 hP, PlanAt.r12 hP, PlanAt.r14 hP, PlanAt.isO hP]
  refine (q_slot hl hD x3 h7 h.1 (by omega)).cl0 (by decide) ?_
  obtain ⟨j, hj⟩ : ∃ j, j = r 7 - 1 - s - (r 7 - 1 - s) / 40 * 40 := ⟨_, rfl⟩
  rw [← hj]
  have j0 : 0 ≤ j ∧ j < 40 := by omega
  obtain ⟨z0, z1, z2⟩ := hDR.2.2.2.2.2.2.1 j j0.1 j0.2 (by omega)
  simp (disch := omega) only [true_implies, false_implies, not_true_eq_false, not_false_eq_true, rR_of, I_n, I_neg, I_add, I_sub, I_mul, I_le4, I_lt4, I_eq4, I_div4, I_bi0, I_bi01, I_bi1, nor_em, rI_of, rV_of, zI_of, zV_of, nz_and, br_T, br_F, br_T2, br_F2, st_eq, st9_0, st_k, st_i, true_and, and_true, Classical.not_not, TlA.g1 hT, TlA.g2 hT, TlA.g4 hT, TlA.g7 hT, TlA.g8 hT, TlA.r0 hT, TlA.r3 hT, TlA.r6 hT, TlA.r5 hT, TlA.o hT, DlA.g5 hD, DlA.g6 hD, DlA.g7 hD, DlA.g8 hD, DlA.g9 hD, DlA.g10 hD, DlA.g14 hD, DlA.r0 hD, DlA.r1 hD, DlA.r2 hD, DlA.r3 hD, DlA.r4 hD, DlA.r11 hD, DlA.r12 hD, DlA.r13 hD, DlA.r15 hD, DlA.r16 hD, DlA.gA3 hD, DlA.rA0 hD, DlA.rA1 hD, DlA.rA2 hD, DlA.o hD, DlA.oA hD, PlanAt.g0 hP, PlanAt.g1 hP, PlanAt.g2 hP, PlanAt.g3 hP, PlanAt.g13 hP, PlanAt.g15 hP, PlanAt.r4 hP, PlanAt.r5 hP, PlanAt.r6 hP, PlanAt.r7 hP, PlanAt.r8 hP, PlanAt.r9 hP, PlanAt.r10 hP, PlanAt.r11 hP, PlanAt.r12 hP, PlanAt.r14 hP, PlanAt.isO hP]
  refine ⟨fun q => ?_, fun q => ?_, fun q => ?_, fun q0 q1 q2 => ?_⟩
  · subst q
    refine (c_at hl hD.k10 (by decide) j0.1 (by omega)).cl0 (by decide) ?_
    simp (disch := omega) only [true_implies, false_implies, not_true_eq_false, not_false_eq_true, rR_of, I_n, I_neg, I_add, I_sub, I_mul, I_le4, I_lt4, I_eq4, I_div4, I_bi0, I_bi01, I_bi1, nor_em, rI_of, rV_of, zI_of, zV_of, nz_and, br_T, br_F, br_T2, br_F2, st_eq, st9_0, st_k, st_i, true_and, and_true, Classical.not_not, TlA.g1 hT, TlA.g2 hT, TlA.g4 hT, TlA.g7 hT, TlA.g8 hT, TlA.r0 hT, TlA.r3 hT, TlA.r6 hT, TlA.r5 hT, TlA.o hT, DlA.g5 hD, DlA.g6 hD, DlA.g7 hD, DlA.g8 hD, DlA.g9 hD, DlA.g10 hD, DlA.g14 hD, DlA.r0 hD, DlA.r1 hD, DlA.r2 hD, DlA.r3 hD, DlA.r4 hD, DlA.r11 hD, DlA.r12 hD, DlA.r13 hD, DlA.r15 hD, DlA.r16 hD, DlA.gA3 hD, DlA.rA0 hD, DlA.rA1 hD, DlA.rA2 hD, DlA.o hD, DlA.oA hD, PlanAt.g0 hP, PlanAt.g1 hP, PlanAt.g2 hP, PlanAt.g3 hP, PlanAt.g13 hP, PlanAt.g15 hP, PlanAt.r4 hP, PlanAt.r5 hP, PlanAt.r6 hP, PlanAt.r7 hP, PlanAt.r8 hP, PlanAt.r9 hP, PlanAt.r10 hP, PlanAt.r11 hP, PlanAt.r12 hP, PlanAt.r14 hP, PlanAt.isO hP]
    refine QP_ok (tq_0 h (by decide)) ?_
    unfold gEv
    rw [← hj, z0, Int.add_zero]
  · subst q
    refine (c_at hl hD.k11 (by decide) j0.1 (by omega)).cl0 (by decide) ?_
    simp (disch := omega) only [true_implies, false_implies, not_true_eq_false, not_false_eq_true, rR_of, I_n, I_neg, I_add, I_sub, I_mul, I_le4, I_lt4, I_eq4, I_div4, I_bi0, I_bi01, I_bi1, nor_em, rI_of, rV_of, zI_of, zV_of, nz_and, br_T, br_F, br_T2, br_F2, st_eq, st9_0, st_k, st_i, true_and, and_true, Classical.not_not, TlA.g1 hT, TlA.g2 hT, TlA.g4 hT, TlA.g7 hT, TlA.g8 hT, TlA.r0 hT, TlA.r3 hT, TlA.r6 hT, TlA.r5 hT, TlA.o hT, DlA.g5 hD, DlA.g6 hD, DlA.g7 hD, DlA.g8 hD, DlA.g9 hD, DlA.g10 hD, DlA.g14 hD, DlA.r0 hD, DlA.r1 hD, DlA.r2 hD, DlA.r3 hD, DlA.r4 hD, DlA.r11 hD, DlA.r12 hD, DlA.r13 hD, DlA.r15 hD, DlA.r16 hD, DlA.gA3 hD, DlA.rA0 hD, DlA.rA1 hD, DlA.rA2 hD, DlA.o hD, DlA.oA hD, PlanAt.g0 hP, PlanAt.g1 hP, PlanAt.g2 hP, PlanAt.g3 hP, PlanAt.g13 hP, PlanAt.g15 hP, PlanAt.r4 hP, PlanAt.r5 hP, PlanAt.r6 hP, PlanAt.r7 hP, PlanAt.r8 hP, PlanAt.r9 hP, PlanAt.r10 hP, PlanAt.r11 hP, PlanAt.r12 hP, PlanAt.r14 hP, PlanAt.isO hP]
    refine QP_ok (tq_0 h (by decide)) ?_
    unfold gEv
    rw [← hj, z1]
  · subst q
    refine (c_at hl hD.k12 (by decide) j0.1 (by omega)).cl0 (by decide) ?_
    simp (disch := omega) only [true_implies, false_implies, not_true_eq_false, not_false_eq_true, rR_of, I_n, I_neg, I_add, I_sub, I_mul, I_le4, I_lt4, I_eq4, I_div4, I_bi0, I_bi01, I_bi1, nor_em, rI_of, rV_of, zI_of, zV_of, nz_and, br_T, br_F, br_T2, br_F2, st_eq, st9_0, st_k, st_i, true_and, and_true, Classical.not_not, TlA.g1 hT, TlA.g2 hT, TlA.g4 hT, TlA.g7 hT, TlA.g8 hT, TlA.r0 hT, TlA.r3 hT, TlA.r6 hT, TlA.r5 hT, TlA.o hT, DlA.g5 hD, DlA.g6 hD, DlA.g7 hD, DlA.g8 hD, DlA.g9 hD, DlA.g10 hD, DlA.g14 hD, DlA.r0 hD, DlA.r1 hD, DlA.r2 hD, DlA.r3 hD, DlA.r4 hD, DlA.r11 hD, DlA.r12 hD, DlA.r13 hD, DlA.r15 hD, DlA.r16 hD, DlA.gA3 hD, DlA.rA0 hD, DlA.rA1 hD, DlA.rA2 hD, DlA.o hD, DlA.oA hD, PlanAt.g0 hP, PlanAt.g1 hP, PlanAt.g2 hP, PlanAt.g3 hP, PlanAt.g13 hP, PlanAt.g15 hP, PlanAt.r4 hP, PlanAt.r5 hP, PlanAt.r6 hP, PlanAt.r7 hP, PlanAt.r8 hP, PlanAt.r9 hP, PlanAt.r10 hP, PlanAt.r11 hP, PlanAt.r12 hP, PlanAt.r14 hP, PlanAt.isO hP]
    refine QP_ok (tq_0 h (by decide)) ?_
    unfold gEv
    rw [← hj, z2]
  · exact ⟨by decide, by decide, fun n hn => QP_2 (tq_2 h (by omega)) hn rfl⟩
theorem q_events (hl : l.stackTraces = false) (hT : TlA X A t V a f c) (hD : DlA X A a p D) (hP : PlanAt X A p P) (hR : PR P r) (hDR : DR D r) (w : RW r e) (hd : p + 10 < a ∨ a + 12 < p) {k : Int} (hk : sm k) : Ct l X 20 M_X5_events [.ref t, .int (I k)] A 4 24 (QP A (bi (¬ (0 ≤ k ∧ k ≤ 8))) "java/lang/IllegalArgumentException" "" (Ri (I (gEvs r k)))) := by
  obtain ⟨k1, k2⟩ := id hk
  have c5 := w.2.2.2.2.2.1
  have c9 := w.2.2.2.2.2.2.2.2.2.2.2.2.2.2.1
  have h7 : 0 ≤ r 7 ∧ r 7 ≤ 2000000000 := by omega
  have x3 := hDR.2.2.2.2.1.2.2.2.2
  have hK : 0 ≤ gK r ∧ gK r ≤ r 7 ∧ gK r ≤ 40 := by
    unfold gK
    split
    · omega
    · omega
  obtain ⟨Q, hQ⟩ : ∃ Q, Q = (QP A (bi (¬ (0 ≤ k ∧ k ≤ 8))) "java/lang/IllegalArgumentException" "" (Ri (I (gEvs r k)))) := ⟨_, rfl⟩
  rw [← hQ]
  have bad : ¬ (0 ≤ k ∧ k ≤ 8) → G l X M_X5_events 20 Q 15 [(0, .ref t), (1, .int (I k))] [.int (I 0)] A 4 24 := fun q => by
    refine k_X5_events_15 ?_
    refine cal_NE (c_X5_needArgument hl ⟨by decide, by decide⟩) (by decide) (by decide) (by decide) (fun h3 => absurd rfl h3) (fun h3 A' a1 a2 => ?_)
    rw [hQ]
    exact QP_1 (bi_t q) a1 a2
  refine Ct.of hl rfl rfl (Nat.le_of_ble_eq_true rfl) (k_X5_events_0 ?_)
  simp (disch := omega) only [true_implies, false_implies, not_true_eq_false, not_false_eq_true, rR_of, I_n, I_neg, I_add, I_sub, I_mul, I_le4, I_lt4, I_eq4, I_div4, I_bi0, I_bi01, I_bi1, nor_em, rI_of, rV_of, zI_of, zV_of, nz_and, br_T, br_F, br_T2, br_F2, st_eq, st9_0, st_k, st_i, true_and, and_true, Classical.not_not, TlA.g1 hT, TlA.g2 hT, TlA.g4 hT, TlA.g7 hT, TlA.g8 hT, TlA.r0 hT, TlA.r3 hT, TlA.r6 hT, TlA.r5 hT, TlA.o hT, DlA.g5 hD, DlA.g6 hD, DlA.g7 hD, DlA.g8 hD, DlA.g9 hD, DlA.g10 hD, DlA.g14 hD, DlA.r0 hD, DlA.r1 hD, DlA.r2 hD, DlA.r3 hD, DlA.r4 hD, DlA.r11 hD, DlA.r12 hD, DlA.r13 hD, DlA.r15 hD, DlA.r16 hD, DlA.gA3 hD, DlA.rA0 hD, DlA.rA1 hD, DlA.rA2 hD, DlA.o hD, DlA.oA hD, PlanAt.g0 hP, PlanAt.g1 hP, PlanAt.g2 hP, PlanAt.g3 hP, PlanAt.g13 hP, PlanAt.g15 hP, PlanAt.r4 hP, PlanAt.r5 hP, PlanAt.r6 hP, PlanAt.r7 hP, PlanAt.r8 hP, PlanAt.r9 hP, PlanAt.r10 hP, PlanAt.r11 hP, PlanAt.r12 hP, PlanAt.r14 hP, PlanAt.isO hP]
  refine ⟨fun q => bad (by omega), fun q => ⟨fun q2 => bad (by omega), fun q2 => ?_⟩⟩
  refine k_X5_events_15 ?_
  refine cal_NE (c_X5_needArgument hl ⟨by decide, by decide⟩) (by decide) (by decide) (by decide) (fun h3 => ?_) (fun h3 A' a1 a2 => absurd (by decide) h3)
  simp only [I_n]
  refine up_to (n := (gK r).toNat) (P := fun j => G l X M_X5_events 20 Q 22 [(0, .ref t), (1, .int (I k)), (2, .int (I (sg (fun j => bi (gEv r j 0 = k)) j))), (3, .int (I j))] [] A (4 - 1) (24 - 6)) ?_ ?_
  · refine k_X5_events_22 ?_
    simp (disch := omega) only [true_implies, false_implies, not_true_eq_false, not_false_eq_true, rR_of, I_n, I_neg, I_add, I_sub, I_mul, I_le4, I_lt4, I_eq4, I_div4, I_bi0, I_bi01, I_bi1, nor_em, rI_of, rV_of, zI_of, zV_of, nz_and, br_T, br_F, br_T2, br_F2, st_eq, st9_0, st_k, st_i, true_and, and_true, Classical.not_not, TlA.g1 hT, TlA.g2 hT, TlA.g4 hT, TlA.g7 hT, TlA.g8 hT, TlA.r0 hT, TlA.r3 hT, TlA.r6 hT, TlA.r5 hT, TlA.o hT, DlA.g5 hD, DlA.g6 hD, DlA.g7 hD, DlA.g8 hD, DlA.g9 hD, DlA.g10 hD, DlA.g14 hD, DlA.r0 hD, DlA.r1 hD, DlA.r2 hD, DlA.r3 hD, DlA.r4 hD, DlA.r11 hD, DlA.r12 hD, DlA.r13 hD, DlA.r15 hD, DlA.r16 hD, DlA.gA3 hD, DlA.rA0 hD, DlA.rA1 hD, DlA.rA2 hD, DlA.o hD, DlA.oA hD, PlanAt.g0 hP, PlanAt.g1 hP, PlanAt.g2 hP, PlanAt.g3 hP, PlanAt.g13 hP, PlanAt.g15 hP, PlanAt.r4 hP, PlanAt.r5 hP, PlanAt.r6 hP, PlanAt.r7 hP, PlanAt.r8 hP, PlanAt.r9 hP, PlanAt.r10 hP, PlanAt.r11 hP, PlanAt.r12 hP, PlanAt.r14 hP, PlanAt.isO hP]
    refine (q_size hl hD x3 h7).cl0 (by decide) ?_
    simp (disch := omega) only [true_implies, false_implies, not_true_eq_false, not_false_eq_true, rR_of, I_n, I_neg, I_add, I_sub, I_mul, I_le4, I_lt4, I_eq4, I_div4, I_bi0, I_bi01, I_bi1, nor_em, rI_of, rV_of, zI_of, zV_of, nz_and, br_T, br_F, br_T2, br_F2, st_eq, st9_0, st_k, st_i, true_and, and_true, Classical.not_not, TlA.g1 hT, TlA.g2 hT, TlA.g4 hT, TlA.g7 hT, TlA.g8 hT, TlA.r0 hT, TlA.r3 hT, TlA.r6 hT, TlA.r5 hT, TlA.o hT, DlA.g5 hD, DlA.g6 hD, DlA.g7 hD, DlA.g8 hD, DlA.g9 hD, DlA.g10 hD, DlA.g14 hD, DlA.r0 hD, DlA.r1 hD, DlA.r2 hD, DlA.r3 hD, DlA.r4 hD, DlA.r11 hD, DlA.r12 hD, DlA.r13 hD, DlA.r15 hD, DlA.r16 hD, DlA.gA3 hD, DlA.rA0 hD, DlA.rA1 hD, DlA.rA2 hD, DlA.o hD, DlA.oA hD, PlanAt.g0 hP, PlanAt.g1 hP, PlanAt.g2 hP, PlanAt.g3 hP, PlanAt.g13 hP, PlanAt.g15 hP, PlanAt.r4 hP, PlanAt.r5 hP, PlanAt.r6 hP, PlanAt.r7 hP, PlanAt.r8 hP, PlanAt.r9 hP, PlanAt.r10 hP, PlanAt.r11 hP, PlanAt.r12 hP, PlanAt.r14 hP, PlanAt.isO hP]
    rw [hQ]
    exact QP_ok (bi_f (by omega)) rfl
  · intro j hj ih
    have hb := gEv_b w (j := j) (by omega) (by omega)
    refine k_X5_events_22 ?_
    simp (disch := omega) only [true_implies, false_implies, not_true_eq_false, not_false_eq_true, rR_of, I_n, I_neg, I_add, I_sub, I_mul, I_le4, I_lt4, I_eq4, I_div4, I_bi0, I_bi01, I_bi1, nor_em, rI_of, rV_of, zI_of, zV_of, nz_and, br_T, br_F, br_T2, br_F2, st_eq, st9_0, st_k, st_i, true_and, and_true, Classical.not_not, TlA.g1 hT, TlA.g2 hT, TlA.g4 hT, TlA.g7 hT, TlA.g8 hT, TlA.r0 hT, TlA.r3 hT, TlA.r6 hT, TlA.r5 hT, TlA.o hT, DlA.g5 hD, DlA.g6 hD, DlA.g7 hD, DlA.g8 hD, DlA.g9 hD, DlA.g10 hD, DlA.g14 hD, DlA.r0 hD, DlA.r1 hD, DlA.r2 hD, DlA.r3 hD, DlA.r4 hD, DlA.r11 hD, DlA.r12 hD, DlA.r13 hD, DlA.r15 hD, DlA.r16 hD, DlA.gA3 hD, DlA.rA0 hD, DlA.rA1 hD, DlA.rA2 hD, DlA.o hD, DlA.oA hD, PlanAt.g0 hP, PlanAt.g1 hP, PlanAt.g2 hP, PlanAt.g3 hP, PlanAt.g13 hP, PlanAt.g15 hP, PlanAt.r4 hP, PlanAt.r5 hP, PlanAt.r6 hP, PlanAt.r7 hP, PlanAt.r8 hP, PlanAt.r9 hP, PlanAt.r10 hP, PlanAt.r11 hP, PlanAt.r12 hP, PlanAt.r14 hP, PlanAt.isO hP]
    refine (q_size hl hD x3 h7).cl0 (by decide) ?_
    simp (disch := omega) only [true_implies, false_implies, not_true_eq_false, not_false_eq_true, rR_of, I_n, I_neg, I_add, I_sub, I_mul, I_le4, I_lt4, I_eq4, I_div4, I_bi0, I_bi01, I_bi1, nor_em, rI_of, rV_of, zI_of, zV_of, nz_and, br_T, br_F, br_T2, br_F2, st_eq, st9_0, st_k, st_i, true_and, and_true, Classical.not_not, TlA.g1 hT, TlA.g2 hT, TlA.g4 hT, TlA.g7 hT, TlA.g8 hT, TlA.r0 hT, TlA.r3 hT, TlA.r6 hT, TlA.r5 hT, TlA.o hT, DlA.g5 hD, DlA.g6 hD, DlA.g7 hD, DlA.g8 hD, DlA.g9 hD, DlA.g10 hD, DlA.g14 hD, DlA.r0 hD, DlA.r1 hD, DlA.r2 hD, DlA.r3 hD, DlA.r4 hD, DlA.r11 hD, DlA.r12 hD, DlA.r13 hD, DlA.r15 hD, DlA.r16 hD, DlA.gA3 hD, DlA.rA0 hD, DlA.rA1 hD, DlA.rA2 hD, DlA.o hD, DlA.oA hD, PlanAt.g0 hP, PlanAt.g1 hP, PlanAt.g2 hP, PlanAt.g3 hP, PlanAt.g13 hP, PlanAt.g15 hP, PlanAt.r4 hP, PlanAt.r5 hP, PlanAt.r6 hP, PlanAt.r7 hP, PlanAt.r8 hP, PlanAt.r9 hP, PlanAt.r10 hP, PlanAt.r11 hP, PlanAt.r12 hP, PlanAt.r14 hP, PlanAt.isO hP]
    refine (q_slot hl hD x3 h7 (by omega) (by omega)).cl0 (by decide) ?_
    obtain ⟨i, hi⟩ : ∃ i, i = r 7 - 1 - j - (r 7 - 1 - j) / 40 * 40 := ⟨_, rfl⟩
    rw [← hi]
    have i0 : 0 ≤ i ∧ i < 40 := by omega
    obtain ⟨z0, z1, z2⟩ := hDR.2.2.2.2.2.2.1 i i0.1 i0.2 (by omega)
    simp (disch := omega) only [true_implies, false_implies, not_true_eq_false, not_false_eq_true, rR_of, I_n, I_neg, I_add, I_sub, I_mul, I_le4, I_lt4, I_eq4, I_div4, I_bi0, I_bi01, I_bi1, nor_em, rI_of, rV_of, zI_of, zV_of, nz_and, br_T, br_F, br_T2, br_F2, st_eq, st9_0, st_k, st_i, true_and, and_true, Classical.not_not, TlA.g1 hT, TlA.g2 hT, TlA.g4 hT, TlA.g7 hT, TlA.g8 hT, TlA.r0 hT, TlA.r3 hT, TlA.r6 hT, TlA.r5 hT, TlA.o hT, DlA.g5 hD, DlA.g6 hD, DlA.g7 hD, DlA.g8 hD, DlA.g9 hD, DlA.g10 hD, DlA.g14 hD, DlA.r0 hD, DlA.r1 hD, DlA.r2 hD, DlA.r3 hD, DlA.r4 hD, DlA.r11 hD, DlA.r12 hD, DlA.r13 hD, DlA.r15 hD, DlA.r16 hD, DlA.gA3 hD, DlA.rA0 hD, DlA.rA1 hD, DlA.rA2 hD, DlA.o hD, DlA.oA hD, PlanAt.g0 hP, PlanAt.g1 hP, PlanAt.g2 hP, PlanAt.g3 hP, PlanAt.g13 hP, PlanAt.g15 hP, PlanAt.r4 hP, PlanAt.r5 hP, PlanAt.r6 hP, PlanAt.r7 hP, PlanAt.r8 hP, PlanAt.r9 hP, PlanAt.r10 hP, PlanAt.r11 hP, PlanAt.r12 hP, PlanAt.r14 hP, PlanAt.isO hP]
    refine (c_at hl hD.k10 (by decide) i0.1 (by omega)).cl0 (by decide) ?_
    have ez : D 7 i = gEv r j 0 := by
      unfold gEv
      rw [← hi, z0, Int.add_zero]
    rw [ez]
    rw [sg_s] at ih
    simp (disch := omega) only [true_implies, false_implies, not_true_eq_false, not_false_eq_true, rR_of, I_n, I_neg, I_add, I_sub, I_mul, I_le4, I_lt4, I_eq4, I_div4, I_bi0, I_bi01, I_bi1, nor_em, rI_of, rV_of, zI_of, zV_of, nz_and, br_T, br_F, br_T2, br_F2, st_eq, st9_0, st_k, st_i, true_and, and_true, Classical.not_not, TlA.g1 hT, TlA.g2 hT, TlA.g4 hT, TlA.g7 hT, TlA.g8 hT, TlA.r0 hT, TlA.r3 hT, TlA.r6 hT, TlA.r5 hT, TlA.o hT, DlA.g5 hD, DlA.g6 hD, DlA.g7 hD, DlA.g8 hD, DlA.g9 hD, DlA.g10 hD, DlA.g14 hD, DlA.r0 hD, DlA.r1 hD, DlA.r2 hD, DlA.r3 hD, DlA.r4 hD, DlA.r11 hD, DlA.r12 hD, DlA.r13 hD, DlA.r15 hD, DlA.r16 hD, DlA.gA3 hD, DlA.rA0 hD, DlA.rA1 hD, DlA.rA2 hD, DlA.o hD, DlA.oA hD, PlanAt.g0 hP, PlanAt.g1 hP, PlanAt.g2 hP, PlanAt.g3 hP, PlanAt.g13 hP, PlanAt.g15 hP, PlanAt.r4 hP, PlanAt.r5 hP, PlanAt.r6 hP, PlanAt.r7 hP, PlanAt.r8 hP, PlanAt.r9 hP, PlanAt.r10 hP, PlanAt.r11 hP, PlanAt.r12 hP, PlanAt.r14 hP, PlanAt.isO hP]
    refine ⟨fun h => ?_, fun h => ?_⟩
    · rw [bi_f h, Int.add_zero] at ih
      exact ih
    · rw [bi_t h] at ih
      exact ih
theorem q_writtenByte (hl : l.stackTraces = false) (hT : TlA X A t V a f c) (hD : DlA X A a p D) (hP : PlanAt X A p P) (hR : PR P r) (hDR : DR D r) (w : RW r e) (hd : p + 10 < a ∨ a + 12 < p) (h4 : 0 ≤ V 2 4 ∧ V 2 4 ≤ 60) {k : Int} (hk : sm k) : Ct l X 20 M_X5_writtenByte [.ref t, .int (I k)] A 4 24 (QP A (bi (¬ (0 ≤ k ∧ k ≤ V 2 4 - 1))) "java/lang/IndexOutOfBoundsException" "" (Ri (I (V 1 k)))) := by
  obtain ⟨k1, k2⟩ := id hk
  refine Ct.of hl rfl rfl (Nat.le_of_ble_eq_true rfl) (k_X5_writtenByte_0 ?_)
  simp (disch := omega) only [true_implies, false_implies, not_true_eq_false, not_false_eq_true, rR_of, I_n, I_neg, I_add, I_sub, I_mul, I_le4, I_lt4, I_eq4, I_div4, I_bi0, I_bi01, I_bi1, nor_em, rI_of, rV_of, zI_of, zV_of, nz_and, br_T, br_F, br_T2, br_F2, st_eq, st9_0, st_k, st_i, true_and, and_true, Classical.not_not, TlA.g1 hT, TlA.g2 hT, TlA.g4 hT, TlA.g7 hT, TlA.g8 hT, TlA.r0 hT, TlA.r3 hT, TlA.r6 hT, TlA.r5 hT, TlA.o hT, DlA.g5 hD, DlA.g6 hD, DlA.g7 hD, DlA.g8 hD, DlA.g9 hD, DlA.g10 hD, DlA.g14 hD, DlA.r0 hD, DlA.r1 hD, DlA.r2 hD, DlA.r3 hD, DlA.r4 hD, DlA.r11 hD, DlA.r12 hD, DlA.r13 hD, DlA.r15 hD, DlA.r16 hD, DlA.gA3 hD, DlA.rA0 hD, DlA.rA1 hD, DlA.rA2 hD, DlA.o hD, DlA.oA hD, PlanAt.g0 hP, PlanAt.g1 hP, PlanAt.g2 hP, PlanAt.g3 hP, PlanAt.g13 hP, PlanAt.g15 hP, PlanAt.r4 hP, PlanAt.r5 hP, PlanAt.r6 hP, PlanAt.r7 hP, PlanAt.r8 hP, PlanAt.r9 hP, PlanAt.r10 hP, PlanAt.r11 hP, PlanAt.r12 hP, PlanAt.r14 hP, PlanAt.isO hP]
  refine cal_NE (c_X5_needIndex hl hk ⟨by omega, by omega⟩) (by decide) (by decide) (by decide) (fun h2 => ?_) (fun h2 A' a1 a2 => QP_1 (bi_t (by omega)) a1 a2)
  simp (disch := omega) only [true_implies, false_implies, not_true_eq_false, not_false_eq_true, rR_of, I_n, I_neg, I_add, I_sub, I_mul, I_le4, I_lt4, I_eq4, I_div4, I_bi0, I_bi01, I_bi1, nor_em, rI_of, rV_of, zI_of, zV_of, nz_and, br_T, br_F, br_T2, br_F2, st_eq, st9_0, st_k, st_i, true_and, and_true, Classical.not_not, TlA.g1 hT, TlA.g2 hT, TlA.g4 hT, TlA.g7 hT, TlA.g8 hT, TlA.r0 hT, TlA.r3 hT, TlA.r6 hT, TlA.r5 hT, TlA.o hT, DlA.g5 hD, DlA.g6 hD, DlA.g7 hD, DlA.g8 hD, DlA.g9 hD, DlA.g10 hD, DlA.g14 hD, DlA.r0 hD, DlA.r1 hD, DlA.r2 hD, DlA.r3 hD, DlA.r4 hD, DlA.r11 hD, DlA.r12 hD, DlA.r13 hD, DlA.r15 hD, DlA.r16 hD, DlA.gA3 hD, DlA.rA0 hD, DlA.rA1 hD, DlA.rA2 hD, DlA.o hD, DlA.oA hD, PlanAt.g0 hP, PlanAt.g1 hP, PlanAt.g2 hP, PlanAt.g3 hP, PlanAt.g13 hP, PlanAt.g15 hP, PlanAt.r4 hP, PlanAt.r5 hP, PlanAt.r6 hP, PlanAt.r7 hP, PlanAt.r8 hP, PlanAt.r9 hP, PlanAt.r10 hP, PlanAt.r11 hP, PlanAt.r12 hP, PlanAt.r14 hP, PlanAt.isO hP]
  refine (c_at hl hT.2.2.1 (by decide) h2.1 (by omega)).cl0 (by decide) ?_
  simp (disch := omega) only [true_implies, false_implies, not_true_eq_false, not_false_eq_true, rR_of, I_n, I_neg, I_add, I_sub, I_mul, I_le4, I_lt4, I_eq4, I_div4, I_bi0, I_bi01, I_bi1, nor_em, rI_of, rV_of, zI_of, zV_of, nz_and, br_T, br_F, br_T2, br_F2, st_eq, st9_0, st_k, st_i, true_and, and_true, Classical.not_not, TlA.g1 hT, TlA.g2 hT, TlA.g4 hT, TlA.g7 hT, TlA.g8 hT, TlA.r0 hT, TlA.r3 hT, TlA.r6 hT, TlA.r5 hT, TlA.o hT, DlA.g5 hD, DlA.g6 hD, DlA.g7 hD, DlA.g8 hD, DlA.g9 hD, DlA.g10 hD, DlA.g14 hD, DlA.r0 hD, DlA.r1 hD, DlA.r2 hD, DlA.r3 hD, DlA.r4 hD, DlA.r11 hD, DlA.r12 hD, DlA.r13 hD, DlA.r15 hD, DlA.r16 hD, DlA.gA3 hD, DlA.rA0 hD, DlA.rA1 hD, DlA.rA2 hD, DlA.o hD, DlA.oA hD, PlanAt.g0 hP, PlanAt.g1 hP, PlanAt.g2 hP, PlanAt.g3 hP, PlanAt.g13 hP, PlanAt.g15 hP, PlanAt.r4 hP, PlanAt.r5 hP, PlanAt.r6 hP, PlanAt.r7 hP, PlanAt.r8 hP, PlanAt.r9 hP, PlanAt.r10 hP, PlanAt.r11 hP, PlanAt.r12 hP, PlanAt.r14 hP, PlanAt.isO hP]
  exact QP_ok (bi_f (by omega)) rfl
end QB
