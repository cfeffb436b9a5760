/-! the class: resume -/
section RS5
variable {l : Launch} {X : XT} {A A' : AH} {w w' : Nat → Nat} {t a p : Nat} {V : Nat → Int → Int} {f : Nat → Option Nat} {c : Option Nat} {S T : Nat → Int → Int} {e : Int} {D D' P : Nat → Int → Int} {la : Nat} {g : Nat → Option Nat} {m : Int32} {q r : Int → Int}
def rT8 (r : Int → Int) (s : Int) : Int → Int := rTell (rRe s (gT r).toNat 0 r).1 8 ((rRe s (gT r).toNat 0 r).1 (696 + 242 * s)) (rRe s (gT r).toNat 0 r).2
def rQ1 (r : Int → Int) (s : Int) : Int → Int := rJs (gN r).toNat 0 (rT8 r s)
theorem rQ1_w {r : Int → Int} {s : Int} (w0 : RW r e) (he : e + 1000 ≤ 2000000000) (h0 : 0 ≤ s) (h1 : s < r 9) : RW (rQ1 r s) (e + 61) ∧ ∀ y, y < 7 ∨ 7 < y ∧ y < 96 ∨ 696 ≤ y → rQ1 r s y = r y := by
  obtain ⟨a1, a2, a3⟩ := rRes_w w0 he h0 h1
  obtain ⟨n1, n2, -⟩ := gN_b w0.1
  obtain ⟨b1, b2⟩ := rJs_w (gN r).toNat 0 (rT8 r s) (e + 1) a1 (by omega) (by omega) (by omega)
  exact ⟨RW_e b1 (by omega) (by omega), fun y hy => (b2 y (by omega)).trans (a2 y hy)⟩
theorem m_resume (hl : l.stackTraces = false) {o : Nat} {fs : List Value} (h : TAt X A w t V a f c S) (ri : RI S e) (ho : A.2 o = some (ob 7 fs)) (hto : t ≠ o) (hol : o < A.1) (he : e + 1000 ≤ 2000000000) {s : Int} (hs : sm s) : Ct l X 30 M_X5_resume [.ref t, .int (I s)] A 40 1200 (MP X A w o t S (tRes (S 0) s) "java/lang/IndexOutOfBoundsException" "java/lang/IllegalStateException" (Ri (I (gIn (rRes (S 0) s) 1))) (sr (kS S) (rRes (S 0) s))) := by
  obtain ⟨s1, s2⟩ := id hs
  have w0 := ri.1
  have c3 := w0.2.2.2.1
  obtain ⟨t1, t2⟩ := gT_b w0.1
  have lg := w0.1.2.1
  obtain ⟨Q, hQ⟩ : ∃ Q, Q = (MP X A w o t S (tRes (S 0) s) "java/lang/IndexOutOfBoundsException" "java/lang/IllegalStateException" (Ri (I (gIn (rRes (S 0) s) 1))) (sr (kS S) (rRes (S 0) s))) := ⟨_, rfl⟩
  rw [← hQ]
  have hT := h.1
  obtain ⟨p, D, P, la, g, m, hD, hP, hR, hDR, hL, hPT, hO, hOP, hd⟩ := h.2.2.1.1.parts
  have p3 := hR.1.2.2.2.1
  have x5 := hDR.2.2.2.1.1
  have hms : 0 ≤ gMs (S 0) ∧ gMs (S 0) ≤ (gT (S 0)).toNat := sg_bi
  have f7 := fun i (i0 : 0 ≤ i) (i1 : i < S 0 9) => w0.2.2.2.2.2.2.2.2.2.2.2.2.1 i i0 i1
  refine Ct.of hl rfl rfl (Nat.le_of_ble_eq_true rfl) (k_X5_resume_0 ?_)
  simp (disch := omega) only [true_implies, false_implies, not_true_eq_false, not_false_eq_true, rR_of, I_n, I_neg, I_add, I_sub, I_mul, I_le4, I_lt4, I_eq4, I_div4, I_bi0, I_bi01, I_bi1, nor_em, rI_of, rV_of, zI_of, zV_of, nz_and, br_T, br_F, br_T2, br_F2, st_eq, st9_0, st_k, st_i, true_and, and_true, Classical.not_not, TlA.g1 hT, TlA.g2 hT, TlA.g4 hT, TlA.g7 hT, TlA.g8 hT, TlA.r0 hT, TlA.r3 hT, TlA.r6 hT, TlA.r5 hT, TlA.o hT, DlA.g5 hD, DlA.g6 hD, DlA.g7 hD, DlA.g8 hD, DlA.g9 hD, DlA.g10 hD, DlA.g14 hD, DlA.r0 hD, DlA.r1 hD, DlA.r2 hD, DlA.r3 hD, DlA.r4 hD, DlA.r11 hD, DlA.r12 hD, DlA.r13 hD, DlA.r15 hD, DlA.r16 hD, DlA.gA3 hD, DlA.rA0 hD, DlA.rA1 hD, DlA.rA2 hD, DlA.o hD, DlA.oA hD, PlanAt.g0 hP, PlanAt.g1 hP, PlanAt.g2 hP, PlanAt.g3 hP, PlanAt.g13 hP, PlanAt.g15 hP, PlanAt.r4 hP, PlanAt.r5 hP, PlanAt.r6 hP, PlanAt.r7 hP, PlanAt.r8 hP, PlanAt.r9 hP, PlanAt.r10 hP, PlanAt.r11 hP, PlanAt.r12 hP, PlanAt.r14 hP, PlanAt.isO hP]
  refine ⟨⟨_, hL.1⟩, (c_li_size hl hL).cl0 (by decide) ?_⟩
  simp (disch := omega) only [true_implies, false_implies, not_true_eq_false, not_false_eq_true, rR_of, I_n, I_neg, I_add, I_sub, I_mul, I_le4, I_lt4, I_eq4, I_div4, I_bi0, I_bi01, I_bi1, nor_em, rI_of, rV_of, zI_of, zV_of, nz_and, br_T, br_F, br_T2, br_F2, st_eq, st9_0, st_k, st_i, true_and, and_true, Classical.not_not, TlA.g1 hT, TlA.g2 hT, TlA.g4 hT, TlA.g7 hT, TlA.g8 hT, TlA.r0 hT, TlA.r3 hT, TlA.r6 hT, TlA.r5 hT, TlA.o hT, DlA.g5 hD, DlA.g6 hD, DlA.g7 hD, DlA.g8 hD, DlA.g9 hD, DlA.g10 hD, DlA.g14 hD, DlA.r0 hD, DlA.r1 hD, DlA.r2 hD, DlA.r3 hD, DlA.r4 hD, DlA.r11 hD, DlA.r12 hD, DlA.r13 hD, DlA.r15 hD, DlA.r16 hD, DlA.gA3 hD, DlA.rA0 hD, DlA.rA1 hD, DlA.rA2 hD, DlA.o hD, DlA.oA hD, PlanAt.g0 hP, PlanAt.g1 hP, PlanAt.g2 hP, PlanAt.g3 hP, PlanAt.g13 hP, PlanAt.g15 hP, PlanAt.r4 hP, PlanAt.r5 hP, PlanAt.r6 hP, PlanAt.r7 hP, PlanAt.r8 hP, PlanAt.r9 hP, PlanAt.r10 hP, PlanAt.r11 hP, PlanAt.r12 hP, PlanAt.r14 hP, PlanAt.isO hP]
  refine cal_NE (c_X5_needIndex hl hs ⟨by omega, by omega⟩) (by decide) (by decide) (by decide) (fun h1 => ?_) (fun h1 A' a1 a2 => by rw [hQ]; exact MP_1 h (tr2_1 h1) a1 a2)
  have bad : ¬ gT (S 0) ≤ gMs (S 0) → G l X M_X5_resume 30 Q 39 [(0, .ref t), (1, .int (I s))] [.int (I 0)] A (40 - 1) (1200 - 6) := fun hz => by
    refine k_X5_resume_39 ?_
    exact cal_NE (c_X5_needState hl ⟨by decide, by decide⟩) (by decide) (by decide) (by decide) (fun h3 => absurd rfl h3) (fun h3 A' a1 a2 => by rw [hQ]; exact MP_2 h (tr2_2 h1 hz) a1 a2)
  have good : gT (S 0) ≤ gMs (S 0) → G l X M_X5_resume 30 Q 39 [(0, .ref t), (1, .int (I s))] [.int (I 1)] A (40 - 1) (1200 - 6) := fun hz => by
    refine k_X5_resume_39 ?_
    refine cal_NE (c_X5_needState hl ⟨by decide, by decide⟩) (by decide) (by decide) (by decide) (fun h3 => ?_) (fun h3 A' a1 a2 => absurd (by decide) h3)
    simp (disch := omega) only [true_implies, false_implies, not_true_eq_false, not_false_eq_true, rR_of, I_n, I_neg, I_add, I_sub, I_mul, I_le4, I_lt4, I_eq4, I_div4, I_bi0, I_bi01, I_bi1, nor_em, rI_of, rV_of, zI_of, zV_of, nz_and, br_T, br_F, br_T2, br_F2, st_eq, st9_0, st_k, st_i, true_and, and_true, Classical.not_not, TlA.g1 hT, TlA.g2 hT, TlA.g4 hT, TlA.g7 hT, TlA.g8 hT, TlA.r0 hT, TlA.r3 hT, TlA.r6 hT, TlA.r5 hT, TlA.o hT, DlA.g5 hD, DlA.g6 hD, DlA.g7 hD, DlA.g8 hD, DlA.g9 hD, DlA.g10 hD, DlA.g14 hD, DlA.r0 hD, DlA.r1 hD, DlA.r2 hD, DlA.r3 hD, DlA.r4 hD, DlA.r11 hD, DlA.r12 hD, DlA.r13 hD, DlA.r15 hD, DlA.r16 hD, DlA.gA3 hD, DlA.rA0 hD, DlA.rA1 hD, DlA.rA2 hD, DlA.o hD, DlA.oA hD, PlanAt.g0 hP, PlanAt.g1 hP, PlanAt.g2 hP, PlanAt.g3 hP, PlanAt.g13 hP, PlanAt.g15 hP, PlanAt.r4 hP, PlanAt.r5 hP, PlanAt.r6 hP, PlanAt.r7 hP, PlanAt.r8 hP, PlanAt.r9 hP, PlanAt.r10 hP, PlanAt.r11 hP, PlanAt.r12 hP, PlanAt.r14 hP, PlanAt.isO hP]
    refine cal_rem2 hl h ri ho hto hol (by decide) (by decide) (by decide) fun A1 w1 V1 f1 x1 x2 hao x3 => ?_
    have hT := x1.1
    obtain ⟨p, D, P, la, g, m, hD, hP, hR, hDR, hL, hPT, hO, hOP, hd⟩ := x2.parts
    obtain ⟨u1, u2, u3, u4, u5, u6, u7⟩ := id hO
    obtain ⟨l1, l2⟩ := hL.set1 (q' := a + 8) (n' := 0) (by omega) g
    have hwl : w1 la = a + 1 := by
      rcases u3 with u | u
      · exact absurd u l2
      · exact u
    obtain ⟨y, z, hh, e1, ⟨e21, e22, e23, e24⟩, e3, e4, e5, e6⟩ := hPT s.toNat (by omega)
    rw [show ((s.toNat : Nat) : Int) = s by omega] at e3 e4 e5 e6
    simp (disch := omega) only [true_implies, false_implies, not_true_eq_false, not_false_eq_true, rR_of, I_n, I_neg, I_add, I_sub, I_mul, I_le4, I_lt4, I_eq4, I_div4, I_bi0, I_bi01, I_bi1, nor_em, rI_of, rV_of, zI_of, zV_of, nz_and, br_T, br_F, br_T2, br_F2, st_eq, st9_0, st_k, st_i, true_and, and_true, Classical.not_not, TlA.g1 hT, TlA.g2 hT, TlA.g4 hT, TlA.g7 hT, TlA.g8 hT, TlA.r0 hT, TlA.r3 hT, TlA.r6 hT, TlA.r5 hT, TlA.o hT, DlA.g5 hD, DlA.g6 hD, DlA.g7 hD, DlA.g8 hD, DlA.g9 hD, DlA.g10 hD, DlA.g14 hD, DlA.r0 hD, DlA.r1 hD, DlA.r2 hD, DlA.r3 hD, DlA.r4 hD, DlA.r11 hD, DlA.r12 hD, DlA.r13 hD, DlA.r15 hD, DlA.r16 hD, DlA.gA3 hD, DlA.rA0 hD, DlA.rA1 hD, DlA.rA2 hD, DlA.o hD, DlA.oA hD, PlanAt.g0 hP, PlanAt.g1 hP, PlanAt.g2 hP, PlanAt.g3 hP, PlanAt.g13 hP, PlanAt.g15 hP, PlanAt.r4 hP, PlanAt.r5 hP, PlanAt.r6 hP, PlanAt.r7 hP, PlanAt.r8 hP, PlanAt.r9 hP, PlanAt.r10 hP, PlanAt.r11 hP, PlanAt.r12 hP, PlanAt.r14 hP, PlanAt.isO hP]
    refine ⟨⟨_, hL.1⟩, Cal.of (c_li_remove hl hL h1.1 (by omega) (PT.pe (i := 0) hPT (by omega))) (by decide) (by decide) (by decide) ?_⟩
    rintro o1 E2 ⟨rfl, g', L2, hg', e12, sE2⟩
    have tO := x1.2.1
    have ha8 := u2 (a + 8) (by omega) (by omega)
    have hat1 := x1.2.2.1.2
    have hT2 : TlA X E2 t V1 a f1 c := hT.of fun b b0 b1 => sE2 b (fun k => by
      have hb := tO.2 b b0 b1
      rw [k] at hb
      omega) (fun k => by
      have hb := tO.2 b b0 b1
      rw [k] at hb
      omega)
    have hD2 : DlA X E2 a p D := hD.of fun b b0 b1 b2 => sE2 b b2 (by omega)
    have cg : Chg w1 w1 (a + 1) A1 E2 := ⟨by omega, fun _ _ => rfl, fun b b0 b1 => sE2 b (fun k => by rw [k] at b1; exact b1 ha8) (fun k => by rw [k] at b1; exact b1 hwl)⟩
    have e3' : E2.2 y = some (ob 3 [.int (I (S 0 (696 + 242 * s))), .ref z]) := (cg.2.2 y e21 (by omega)).trans e3
    have e4' := (cg.2.2 z e23 (by omega)).trans e4
    have hP2 : PlanAt X E2 p P := hP.of fun b b0 b1 => cg.2.2 b (by have := hOP.1; omega) (by rw [hOP.2 b b0 b1]; omega)
    have ybd := (hO.out (b := y) (by omega)).1
    have zbd := (hO.out (b := z) (by omega)).1
    refine rQ_of ⟨y, e1, ⟨_, e3'⟩, ⟨_, hD2.1⟩, ?_⟩
    refine Cal.of (qC hD2 (c_X1_takeUp hl hd hP2 e3' ybd e4' zbd h1.1 hR w0 (by omega) hDR (by omega) (by omega) rfl rfl e5)) (by decide) (by decide) (by decide) ?_
    rintro o2 A2 ⟨rfl, D', rfl, hq⟩
    rw [rV_of]
    have hq1 : DR D' (rQ1 (S 0) s) := hq
    obtain ⟨wq, oq⟩ := rQ1_w w0 he h1.1 (show s < S 0 9 by omega)
    have eres : rRes (S 0) s = rGo (rQ1 (S 0) s) s := rfl
    have q9 := oq 9 (by omega)
    have q0 := oq 0 (by omega)
    have e9 : rRes (S 0) s 9 = S 0 9 - 1 := by rw [eres, rGo_lo h1.1 (by omega), if_pos rfl, q9]
    have hlo : ∀ y, 0 ≤ y → y < 696 → y ≠ 9 → rRes (S 0) s y = rQ1 (S 0) s y := fun y y0 y1 y9 => by rw [eres, rGo_lo h1.1 y1, if_neg y9]
    have hDq : DR D' (rRes (S 0) s) := DR_lo wq hlo hq1
    have hT3 : TlA X (dp X a p E2 D') t V1 a f1 c := hT2.of fun b b0 b1 => dp_out (by
      have hb := tO.2 b b0 b1
      by_cases hh : a ≤ b ∧ b ≤ a + 12
      · have := u2 b hh.1 hh.2
        omega
      · omega)
    rw [gR_iff hT3.1 rfl, dp_gI6, (DR_good hDq).1, hQ]
    have cg2 : Chg w1 w1 (a + 1) A1 (dp X a p E2 D') := ⟨cg.1, fun _ _ => rfl, fun b b0 b1 => (dp_out (hO.out b1).1).trans (cg.2.2 b b0 b1)⟩
    have hEo := hO.out (b := xE X) (by rw [u7]; omega)
    have L3 : LST X (dp X a p E2 D') (a + 8) la (rRes (S 0) s 9) g' (m + 1) := by
      rw [e9]
      exact L2.of dp_li (dp_out u5) (dp_out hEo.1)
    have dn : DAt X (dp X a p E2 D') w1 a (rRes (S 0) s) := by
      refine DAt.mk2 hP hO hOP cg2 dp_dl L3 (Or.inr hwl) (by show la < E2.1; omega) u5 ?_ (PR_c w0 (fun y hy => (hlo y (by unfold cf at hy; omega) (by unfold cf at hy; omega) (by unfold cf at hy; omega)).trans (oq y (by unfold cf at hy; omega))) hR) hDq
      have hPTq : PT X (dp X a p E2 D') w1 g (rQ1 (S 0) s) := by
        intro i hi
        rw [q9] at hi
        rw [oq _ (by omega), oq _ (by omega), q0]
        obtain ⟨y', z', hh', a1, a2, a3, a4, a5, a6⟩ := hPT.of cg2 (by omega) i hi
        refine ⟨y', z', hh', a1, a2, a3, a4, fun k k0 k1 => ?_, a6⟩
        rw [oq _ (by omega)]
        exact a5 k k0 k1
      refine hPTq.go (by omega) h1.1 (by omega) (fun j hj => ?_) (fun j hj => ?_)
      · rw [oq _ (by omega)]
        exact (f7 j (by omega) (by omega)).2.2.2
      · exact hg' j (by omega)
    have x4 := x1.now cg2 dn
    rw [sr_sr] at x4
    exact MP_ok (tr2_0 h1 hz) rfl x4 (x3.trans (cg2.fr (by omega) (by omega)))
  simp (disch := omega) only [true_implies, false_implies, not_true_eq_false, not_false_eq_true, rR_of, I_n, I_neg, I_add, I_sub, I_mul, I_le4, I_lt4, I_eq4, I_div4, I_bi0, I_bi01, I_bi1, nor_em, rI_of, rV_of, zI_of, zV_of, nz_and, br_T, br_F, br_T2, br_F2, st_eq, st9_0, st_k, st_i, true_and, and_true, Classical.not_not, TlA.g1 hT, TlA.g2 hT, TlA.g4 hT, TlA.g7 hT, TlA.g8 hT, TlA.r0 hT, TlA.r3 hT, TlA.r6 hT, TlA.r5 hT, TlA.o hT, DlA.g5 hD, DlA.g6 hD, DlA.g7 hD, DlA.g8 hD, DlA.g9 hD, DlA.g10 hD, DlA.g14 hD, DlA.r0 hD, DlA.r1 hD, DlA.r2 hD, DlA.r3 hD, DlA.r4 hD, DlA.r11 hD, DlA.r12 hD, DlA.r13 hD, DlA.r15 hD, DlA.r16 hD, DlA.gA3 hD, DlA.rA0 hD, DlA.rA1 hD, DlA.rA2 hD, DlA.o hD, DlA.oA hD, PlanAt.g0 hP, PlanAt.g1 hP, PlanAt.g2 hP, PlanAt.g3 hP, PlanAt.g13 hP, PlanAt.g15 hP, PlanAt.r4 hP, PlanAt.r5 hP, PlanAt.r6 hP, PlanAt.r7 hP, PlanAt.r8 hP, PlanAt.r9 hP, PlanAt.r10 hP, PlanAt.r11 hP, PlanAt.r12 hP, PlanAt.r14 hP, PlanAt.isO hP]
  rw [p3, x5]
  exact ⟨fun q => bad (by omega), fun q => good (by omega)⟩
end RS5
