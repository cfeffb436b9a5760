/-! the class: partial files renamed, spoiled, thrown away -/
theorem DR_lo {D : Nat → Int → Int} {r q : Int → Int} {e : Int} (w : RW r e) (he : ∀ y, 0 ≤ y → y < 696 → y ≠ 9 → q y = r y) (h : DR D r) : DR D q := by
  obtain ⟨a1, a2, a3, a4, a5, a6, a7, a8⟩ := id h
  have hcf : ∀ y, cf y → q y = r y := fun y hy => he y (by unfold cf at hy; omega) (by unfold cf at hy; omega) (by unfold cf at hy; omega)
  obtain ⟨h0, h2, h3, hB⟩ := cfg_c w hcf
  have hc := geo_c h0 h2 h3
  obtain ⟨t1, t2⟩ := gT_b w.1
  have lg := w.1.2.1
  have hM : ∀ k, 0 ≤ k → k < gN r → gMi q k = gMi r k := fun k k0 k1 => by
    obtain ⟨f1, f2⟩ := gF_b w.1 k0 k1
    exact gMi_c h0 h2 h3 fun i i0 i1 => by rw [he _ (by omega) (by omega) (by omega)]
  have hV : ∀ k, 0 ≤ k → k < gN r → gV q k = gV r k := fun k k0 k1 => by
    obtain ⟨l1, l2, l3, l4⟩ := gLen_b w.1 k0 k1
    exact gV_c w hcf (hM k k0 k1) fun _ j j0 j1 => he _ (by omega) (by omega) (by omega)
  have hMs : gMs q = gMs r := gMs_c w.1 h0 h2 h3 fun i i0 i1 => he _ (by omega) (by omega) (by omega)
  refine ⟨?_, ?_, ?_, ?_, ?_, ?_, ?_, a8⟩
  · intro p p0 p1 hp j j0 j1
    rw [hc.2.2.2.2.2.1] at p1
    rw [he _ (by omega) (by omega) (by omega)] at hp
    rw [hc.2.2.2.2.2.2.2.2] at j1
    obtain ⟨b1, b2, b3, b4, b5, b6⟩ := gPl_b w.1 p0 p1
    rw [hc.2.2.2.2.2.2.2.1, he _ (by omega) (by omega) (by omega)]
    exact a1 p p0 p1 hp j j0 j1
  · intro p p0 p1
    rw [hc.2.2.2.2.2.1] at p1
    rw [he _ (by omega) (by omega) (by omega)]
    exact a2 p p0 p1
  · intro k k0 k1
    rw [hc.1] at k1
    rw [hM k k0 k1, hV k k0 k1]
    exact a3 k k0 k1
  · rw [hMs, hc.1]
    obtain ⟨b1, b2, b3⟩ := a4
    refine ⟨b1, ?_, ?_⟩
    · rw [b2]
      refine sg_congr fun k hk => ?_
      rw [hV k (by omega) (by omega)]
    · rw [b3]
      refine sg_congr fun k hk => ?_
      rw [hV k (by omega) (by omega)]
  · rw [he 5 (by decide) (by decide) (by decide), he 6 (by decide) (by decide) (by decide), he 8 (by decide) (by decide) (by decide), he 13 (by decide) (by decide) (by decide), he 7 (by decide) (by decide) (by decide)]
    exact a5
  · intro s s0 s1
    rw [he _ (by omega) (by omega) (by omega), he _ (by omega) (by omega) (by omega), he _ (by omega) (by omega) (by omega)]
    exact a6 s s0 s1
  · intro j j0 j1 j2
    rw [he 7 (by decide) (by decide) (by decide)] at j2
    rw [he _ (by omega) (by omega) (by omega), he _ (by omega) (by omega) (by omega), he _ (by omega) (by omega) (by omega)]
    exact a7 j j0 j1 j2
section PL
variable {l : Launch} {X : XT} {A A' : AH} {w w' : Nat → Nat} {t a p : Nat} {V : Nat → Int → Int} {f : Nat → Option Nat} {c : Option Nat} {S T : Nat → Int → Int} {e : Int} {D D' P : Nat → Int → Int} {la : Nat} {g : Nat → Option Nat} {m : Int32} {q r : Int → Int}
theorem LST.set1 {q' n' : Nat} {n : Int} {E : AH} (h : LST X E q' la n g m) (hn : 0 < n) (g' : Nat → Option Nat) : LST X (up E la (ra X 4 10 g')) q' la n g' m ∧ la ≠ xE X := by
  have h2 := h.arr hn
  have hE := h.2.2.2
  have hne : la ≠ xE X := by
    rintro rfl
    rw [h2] at hE
    injection hE with hE
    injection hE with hE
    injection hE with h0 hE
    injection hE with h1 hE
    exact absurd h1 (by decide)
  refine ⟨⟨(up_b h.ne).trans h.1, h.2.1, Or.inr up_q, (up_b (fun k => hne k.symm)).trans hE⟩, hne⟩
/-- a Download put together again -/
theorem DAt.mk2 {A2 : AH} {w2 : Nat → Nat} {F : Nat → Int → Int} {la2 : Nat} {g2 : Nat → Option Nat} {m2 : Int32} (hP : PlanAt X A p P) (hO : OW X A w a la) (hOP : OP A w p) (cg : Chg w w2 (a + 1) A A2) (hD2 : DlA X A2 a p F) (hL2 : LST X A2 (a + 8) la2 (q 9) g2 m2) (hla2 : la2 = xE X ∨ w2 la2 = a + 1) (hla3 : la2 < A2.1) (hla4 : la2 < a ∨ a + 12 < la2) (hPT2 : PT X A2 w2 g2 q) (hR : PR P q) (hDR : DR F q) : DAt X A2 w2 a q := by
  obtain ⟨a1, a2, a3, a4, a5, a6, a7⟩ := hO
  have c0 := cg.1
  refine ⟨p, F, P, la2, g2, m2, hD2, ?_, hR, hDR, hL2, hPT2, ⟨by omega, fun b b0 b1 => (cg.2.1 b (by omega)).trans (a2 b b0 b1), hla2, hla3, hla4, by omega, (cg.2.1 _ a6).trans a7⟩, hOP.of c0 cg.2.1⟩
  exact hP.of fun b b0 b1 => cg.2.2 b (by have := hOP.1; omega) (by rw [hOP.2 b b0 b1]; omega)
theorem PT.pe {i : Int} {r : Int → Int} (h : PT X A w g r) (h9 : 0 ≤ r 9 ∧ r 9 ≤ 4) : ∀ j : Nat, j < (r 9).toNat → ∃ (y : Nat) (fs : List Value), g j = some y ∧ A.2 y = some (ob 3 fs) := fun j hj => by
  obtain ⟨y, z, hh, e1, e2, e3, -⟩ := h j (by omega)
  exact ⟨y, _, e1, e3⟩
theorem m_rename (hl : l.stackTraces = false) {o : Nat} {fs : List Value} (h : TAt X A w t V a f c S) (ri : RI S e) (ho : A.2 o = some (ob 7 fs)) (hto : t ≠ o) (hol : o < A.1) {s x : Int} (hs : sm s) (hx : sm x) : Ct l X 30 M_X5_rename [.ref t, .int (I s), .int (I x)] A 40 1200 (MP X A w o t S (tRen (S 0) s x) "java/lang/IndexOutOfBoundsException" "java/lang/IllegalArgumentException" (Ri (I (S 0 (696 + 242 * s)))) (sr (kS S) (rs (S 0) (696 + 242 * s) x))) := by
  obtain ⟨s1, s2⟩ := id hs
  obtain ⟨k1, k2⟩ := id hx
  have w0 := ri.1
  have c3 := w0.2.2.2.1
  obtain ⟨Q, hQ⟩ : ∃ Q, Q = (MP X A w o t S (tRen (S 0) s x) "java/lang/IndexOutOfBoundsException" "java/lang/IllegalArgumentException" (Ri (I (S 0 (696 + 242 * s)))) (sr (kS S) (rs (S 0) (696 + 242 * s) x))) := ⟨_, rfl⟩
  rw [← hQ]
  have hT := h.1
  obtain ⟨p, D, P, la, g, m, hD, hP, hR, hDR, hL, hPT, hO, hOP, hd⟩ := h.2.2.1.1.parts
  refine Ct.of hl rfl rfl (Nat.le_of_ble_eq_true rfl) (k_X5_rename_0 ?_)
  simp (disch := omega) only [true_implies, false_implies, not_true_eq_false, not_false_eq_true, rR_of, I_n, I_neg, I_add, I_sub, I_mul, I_le4, I_lt4, I_eq4, I_div4, I_bi0, I_bi01, I_bi1, nor_em, rI_of, rV_of, zI_of, zV_of, nz_and, br_T, br_F, br_T2, br_F2, st_eq, st9_0, st_k, st_i, true_and, and_true, Classical.not_not, TlA.g1 hT, TlA.g2 hT, TlA.g4 hT, TlA.g7 hT, TlA.g8 hT, TlA.r0 hT, TlA.r3 hT, TlA.r6 hT, TlA.r5 hT, TlA.o hT, DlA.g5 hD, DlA.g6 hD, DlA.g7 hD, DlA.g8 hD, DlA.g9 hD, DlA.g10 hD, DlA.g14 hD, DlA.r0 hD, DlA.r1 hD, DlA.r2 hD, DlA.r3 hD, DlA.r4 hD, DlA.r11 hD, DlA.r12 hD, DlA.r13 hD, DlA.r15 hD, DlA.r16 hD, DlA.gA3 hD, DlA.rA0 hD, DlA.rA1 hD, DlA.rA2 hD, DlA.o hD, DlA.oA hD, PlanAt.g0 hP, PlanAt.g1 hP, PlanAt.g2 hP, PlanAt.g3 hP, PlanAt.g13 hP, PlanAt.g15 hP, PlanAt.r4 hP, PlanAt.r5 hP, PlanAt.r6 hP, PlanAt.r7 hP, PlanAt.r8 hP, PlanAt.r9 hP, PlanAt.r10 hP, PlanAt.r11 hP, PlanAt.r12 hP, PlanAt.r14 hP, PlanAt.isO hP]
  refine ⟨⟨_, hL.1⟩, (c_li_size hl hL).cl0 (by decide) ?_⟩
  simp (disch := omega) only [true_implies, false_implies, not_true_eq_false, not_false_eq_true, rR_of, I_n, I_neg, I_add, I_sub, I_mul, I_le4, I_lt4, I_eq4, I_div4, I_bi0, I_bi01, I_bi1, nor_em, rI_of, rV_of, zI_of, zV_of, nz_and, br_T, br_F, br_T2, br_F2, st_eq, st9_0, st_k, st_i, true_and, and_true, Classical.not_not, TlA.g1 hT, TlA.g2 hT, TlA.g4 hT, TlA.g7 hT, TlA.g8 hT, TlA.r0 hT, TlA.r3 hT, TlA.r6 hT, TlA.r5 hT, TlA.o hT, DlA.g5 hD, DlA.g6 hD, DlA.g7 hD, DlA.g8 hD, DlA.g9 hD, DlA.g10 hD, DlA.g14 hD, DlA.r0 hD, DlA.r1 hD, DlA.r2 hD, DlA.r3 hD, DlA.r4 hD, DlA.r11 hD, DlA.r12 hD, DlA.r13 hD, DlA.r15 hD, DlA.r16 hD, DlA.gA3 hD, DlA.rA0 hD, DlA.rA1 hD, DlA.rA2 hD, DlA.o hD, DlA.oA hD, PlanAt.g0 hP, PlanAt.g1 hP, PlanAt.g2 hP, PlanAt.g3 hP, PlanAt.g13 hP, PlanAt.g15 hP, PlanAt.r4 hP, PlanAt.r5 hP, PlanAt.r6 hP, PlanAt.r7 hP, PlanAt.r8 hP, PlanAt.r9 hP, PlanAt.r10 hP, PlanAt.r11 hP, PlanAt.r12 hP, PlanAt.r14 hP, PlanAt.isO hP]
  refine cal_NE (c_X5_needIndex hl hs ⟨by omega, by omega⟩) (by decide) (by decide) (by decide) (fun h1 => ?_) (fun h1 A' a1 a2 => by rw [hQ]; exact MP_1 h (tr2_1 h1) a1 a2)
  refine (c_X5_isName hl hx).cl0 (by decide) ?_
  rw [rI_of]
  have hsm : sm (if 0 ≤ x ∧ x ≤ 999 then 1 else 0) := by split <;> exact ⟨by decide, by decide⟩
  refine cal_NE (c_X5_needArgument hl hsm) (by decide) (by decide) (by decide) (fun h3 => ?_) (fun h3 A' a1 a2 => by rw [hQ]; exact MP_2 h (tr2_2 h1 (fun q => h3 (by rw [if_pos q]; decide))) a1 a2)
  have hx9 : 0 ≤ x ∧ x ≤ 999 := by
    by_cases q : 0 ≤ x ∧ x ≤ 999
    · exact q
    · rw [if_neg q] at h3
      exact absurd rfl h3
  simp (disch := omega) only [true_implies, false_implies, not_true_eq_false, not_false_eq_true, rR_of, I_n, I_neg, I_add, I_sub, I_mul, I_le4, I_lt4, I_eq4, I_div4, I_bi0, I_bi01, I_bi1, nor_em, rI_of, rV_of, zI_of, zV_of, nz_and, br_T, br_F, br_T2, br_F2, st_eq, st9_0, st_k, st_i, true_and, and_true, Classical.not_not, TlA.g1 hT, TlA.g2 hT, TlA.g4 hT, TlA.g7 hT, TlA.g8 hT, TlA.r0 hT, TlA.r3 hT, TlA.r6 hT, TlA.r5 hT, TlA.o hT, DlA.g5 hD, DlA.g6 hD, DlA.g7 hD, DlA.g8 hD, DlA.g9 hD, DlA.g10 hD, DlA.g14 hD, DlA.r0 hD, DlA.r1 hD, DlA.r2 hD, DlA.r3 hD, DlA.r4 hD, DlA.r11 hD, DlA.r12 hD, DlA.r13 hD, DlA.r15 hD, DlA.r16 hD, DlA.gA3 hD, DlA.rA0 hD, DlA.rA1 hD, DlA.rA2 hD, DlA.o hD, DlA.oA hD, PlanAt.g0 hP, PlanAt.g1 hP, PlanAt.g2 hP, PlanAt.g3 hP, PlanAt.g13 hP, PlanAt.g15 hP, PlanAt.r4 hP, PlanAt.r5 hP, PlanAt.r6 hP, PlanAt.r7 hP, PlanAt.r8 hP, PlanAt.r9 hP, PlanAt.r10 hP, PlanAt.r11 hP, PlanAt.r12 hP, PlanAt.r14 hP, PlanAt.isO hP]
  refine cal_rem2 hl h ri ho hto hol (by decide) (by decide) (by decide) fun A1 w1 V1 f1 x1 x2 hao x3 => ?_
  have hT := x1.1
  obtain ⟨p, D, P, la, g, m, hD, hP, hR, hDR, hL, hPT, hO, hOP, hd⟩ := x2.parts
  have f7 := fun i (i0 : 0 ≤ i) (i1 : i < S 0 9) => w0.2.2.2.2.2.2.2.2.2.2.2.2.1 i i0 i1
  obtain ⟨y, z, hh, e1, ⟨e21, e22, e23, e24⟩, e3, e4, e5, e6⟩ := hPT s.toNat (by omega)
  rw [show ((s.toNat : Nat) : Int) = s by omega] at e3 e4 e5 e6
  obtain ⟨u1, u2, u3, u4, u5, u6, u7⟩ := id hO
  simp (disch := omega) only [true_implies, false_implies, not_true_eq_false, not_false_eq_true, rR_of, I_n, I_neg, I_add, I_sub, I_mul, I_le4, I_lt4, I_eq4, I_div4, I_bi0, I_bi01, I_bi1, nor_em, rI_of, rV_of, zI_of, zV_of, nz_and, br_T, br_F, br_T2, br_F2, st_eq, st9_0, st_k, st_i, true_and, and_true, Classical.not_not, TlA.g1 hT, TlA.g2 hT, TlA.g4 hT, TlA.g7 hT, TlA.g8 hT, TlA.r0 hT, TlA.r3 hT, TlA.r6 hT, TlA.r5 hT, TlA.o hT, DlA.g5 hD, DlA.g6 hD, DlA.g7 hD, DlA.g8 hD, DlA.g9 hD, DlA.g10 hD, DlA.g14 hD, DlA.r0 hD, DlA.r1 hD, DlA.r2 hD, DlA.r3 hD, DlA.r4 hD, DlA.r11 hD, DlA.r12 hD, DlA.r13 hD, DlA.r15 hD, DlA.r16 hD, DlA.gA3 hD, DlA.rA0 hD, DlA.rA1 hD, DlA.rA2 hD, DlA.o hD, DlA.oA hD, PlanAt.g0 hP, PlanAt.g1 hP, PlanAt.g2 hP, PlanAt.g3 hP, PlanAt.g13 hP, PlanAt.g15 hP, PlanAt.r4 hP, PlanAt.r5 hP, PlanAt.r6 hP, PlanAt.r7 hP, PlanAt.r8 hP, PlanAt.r9 hP, PlanAt.r10 hP, PlanAt.r11 hP, PlanAt.r12 hP, PlanAt.r14 hP, PlanAt.isO hP]
  refine ⟨⟨_, hL.1⟩, (c_li_get hl hL h1.1 (by omega)).cl0 (by decide) (rQ_of ⟨y, e1, ⟨_, e3⟩, ?_⟩)⟩
  simp (disch := omega) only [true_implies, false_implies, not_true_eq_false, not_false_eq_true, rR_of, I_n, I_neg, I_add, I_sub, I_mul, I_le4, I_lt4, I_eq4, I_div4, I_bi0, I_bi01, I_bi1, nor_em, rI_of, rV_of, zI_of, zV_of, nz_and, br_T, br_F, br_T2, br_F2, st_eq, st9_0, st_k, st_i, true_and, and_true, Classical.not_not, TlA.g1 hT, TlA.g2 hT, TlA.g4 hT, TlA.g7 hT, TlA.g8 hT, TlA.r0 hT, TlA.r3 hT, TlA.r6 hT, TlA.r5 hT, TlA.o hT, DlA.g5 hD, DlA.g6 hD, DlA.g7 hD, DlA.g8 hD, DlA.g9 hD, DlA.g10 hD, DlA.g14 hD, DlA.r0 hD, DlA.r1 hD, DlA.r2 hD, DlA.r3 hD, DlA.r4 hD, DlA.r11 hD, DlA.r12 hD, DlA.r13 hD, DlA.r15 hD, DlA.r16 hD, DlA.gA3 hD, DlA.rA0 hD, DlA.rA1 hD, DlA.rA2 hD, DlA.o hD, DlA.oA hD, PlanAt.g0 hP, PlanAt.g1 hP, PlanAt.g2 hP, PlanAt.g3 hP, PlanAt.g13 hP, PlanAt.g15 hP, PlanAt.r4 hP, PlanAt.r5 hP, PlanAt.r6 hP, PlanAt.r7 hP, PlanAt.r8 hP, PlanAt.r9 hP, PlanAt.r10 hP, PlanAt.r11 hP, PlanAt.r12 hP, PlanAt.r14 hP, PlanAt.isO hP]
  refine mk_i (b := A1.1) rfl (by decide) (by decide) ?_
  intro C c1 cq co
  have e3C : C.2 y = some (ob 3 [.int (I (S 0 (696 + 242 * s))), .ref z]) := (co y (by omega)).trans e3
  rw [gR_iff e3C rfl]
  refine (c_X2_init hl cq).cl0 (by decide) ?_
  rw [zV_of]
  obtain ⟨E, hE⟩ : ∃ E, E = up C A1.1 (ob 3 [.int (I x), .ref z]) := ⟨_, rfl⟩
  rw [← hE]
  have sE : ∀ b, b < A1.1 → E.2 b = A1.2 b := fun b hb => by rw [hE]; exact (up_b (by omega)).trans (co b (by omega))
  have eE : E.2 A1.1 = some (ob 3 [.int (I x), .ref z]) := by rw [hE]; exact up_q
  have e1E : E.1 = A1.1 + 1 := by rw [hE]; exact c1
  have hLE : LST X E (a + 8) la (S 0 9) g m := hL.of (sE _ (by omega)) (sE _ (by omega)) (sE _ (by omega))
  refine ⟨⟨_, hLE.1⟩, (c_li_set hl hLE h1.1 (by omega) eE).cl0 (by decide) (rQ_of ?_)⟩
  obtain ⟨l1, l2⟩ := hLE.set1 (q' := a + 8) (n' := 0) (by omega) (va_up g s.toNat (some A1.1))
  have hwl : w1 la = a + 1 := by
    rcases u3 with u | u
    · exact absurd u l2
    · exact u
  obtain ⟨E2, hE2⟩ : ∃ E2, E2 = up E la (ra X 4 10 (va_up g s.toNat (some A1.1))) := ⟨_, rfl⟩
  rw [← hE2] at l1
  rw [← hE2]
  have sE2 : ∀ b, b ≠ la → b < A1.1 → E2.2 b = A1.2 b := fun b hb hb2 => by rw [hE2]; exact (up_b hb).trans (sE b hb2)
  have e2y : E2.2 y = some (ob 3 [.int (I (S 0 (696 + 242 * s))), .ref z]) := (sE2 y (fun k => by rw [k] at e22; omega) e21).trans e3
  rw [gI_iff e2y rfl, hQ]
  obtain ⟨w2, hw2⟩ : ∃ w2 : Nat → Nat, w2 = fun b => if b < A1.1 then w1 b else 0 := ⟨_, rfl⟩
  have wn : ∀ b, b < A1.1 → w2 b = w1 b := fun b hb => by rw [hw2]; exact if_pos hb
  have wN : w2 A1.1 = 0 := by rw [hw2]; exact if_neg (by omega)
  have e12 : E2.1 = A1.1 + 1 := by rw [hE2]; exact e1E
  have cg : Chg w1 w2 (a + 1) A1 E2 := ⟨by omega, wn, fun b b0 b1 => sE2 b (fun k => by rw [k] at b1; exact b1 hwl) b0⟩
  have q9 : rs (S 0) (696 + 242 * s) x 9 = S 0 9 := rs_ne (by omega)
  have q0 : rs (S 0) (696 + 242 * s) x 0 = S 0 0 := rs_ne (by omega)
  have hlo : ∀ y, 0 ≤ y → y < 696 → y ≠ 9 → rs (S 0) (696 + 242 * s) x y = S 0 y := fun y _ _ _ => rs_ne (by omega)
  have dn : DAt X E2 w2 a (rs (S 0) (696 + 242 * s) x) := by
    refine DAt.mk2 hP hO hOP cg (hD.of fun b b0 b1 b2 => sE2 b (by omega) (by omega)) (by rw [q9]; exact l1) (Or.inr ((wn la u4).trans hwl)) (by omega) u5 ?_ (PR_c w0 (fun y hy => rs_ne (by unfold cf at hy; omega)) hR) (DR_lo w0 hlo hDR)
    intro i hi
    rw [q9] at hi
    have f7i := f7 i (by omega) hi
    by_cases his : i = s.toNat
    · rw [his, show ((s.toNat : Nat) : Int) = s by omega, rs_eq, rs_ne (show 696 + 242 * s + 1 ≠ 696 + 242 * s by omega)]
      refine ⟨A1.1, z, hh, if_pos rfl, ⟨by omega, wN, by omega, (wn z e23).trans e24⟩, ?_, ?_, fun k k0 k1 => ?_, by rw [q0]; exact e6⟩
      · rw [hE2]
        exact (up_b (by omega)).trans eE
      · exact (sE2 z (fun k => by rw [k] at e24; omega) e23).trans e4
      · rw [rs_ne (by omega)]
        exact e5 k k0 k1
    · obtain ⟨y', z', hh', a1, a2, a3, a4, a5, a6⟩ := hPT.of cg (by omega) i hi
      rw [rs_ne (by omega), rs_ne (by omega)]
      refine ⟨y', z', hh', (if_neg his).trans a1, a2, a3, a4, fun k k0 k1 => ?_, by rw [q0]; exact a6⟩
      rw [rs_ne (by omega)]
      exact a5 k k0 k1
  have x4 := x1.now cg dn
  rw [sr_sr] at x4
  exact MP_ok (tr2_0 h1 hx9) rfl x4 (x3.trans (cg.fr (by omega) (by omega)))
end PL
