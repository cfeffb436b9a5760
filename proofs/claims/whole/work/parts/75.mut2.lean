/-! the class: ticksLeft, writeMap, undo, append -/
section MW
variable {l : Launch} {X : XT} {A A' : AH} {w w' : Nat → Nat} {t a p : Nat} {V : Nat → Int → Int} {f : Nat → Option Nat} {c : Option Nat} {S T : Nat → Int → Int} {e : Int} {D D' P : Nat → Int → Int} {la : Nat} {g : Nat → Option Nat} {m : Int32} {q r : Int → Int}
/-- the forecast's Download changed -/
theorem TAt.fore {b : Nat} (h : TAt X A w t V a f (some b) S) (k : Chg w w' (b + 1) A A') (hb : DSh X A' w' b) : TAt X A' w' t V a f (some b) S := by
  obtain ⟨hT, hO, ⟨hN, hat⟩, ⟨⟨g0, g1, g2, g3⟩, hn⟩, hc, h15, h4, h23, h8⟩ := h
  obtain ⟨x1, x2, x3, x4⟩ := hc b rfl
  refine ⟨hT.of fun y y0 y1 => k.2.2 y (by have := hO.1; omega) (by rw [hO.2 y y0 y1]; omega), ⟨by have := hO.1; have := k.1; omega, fun y y0 y1 => (k.2.1 y (by have := hO.1; omega)).trans (hO.2 y y0 y1)⟩, ⟨hN.chg k (by omega) (by omega), hat⟩, ⟨⟨g0, fun i i0 i1 => ?_, fun j j0 d hd => ?_, g3⟩, hn⟩, fun d hd => ?_, h15, h4, h23, h8⟩
  · obtain ⟨d, d1, d2⟩ := g1 i i0 i1
    have hdb : d ≠ b := by
      rintro rfl
      exact x4 _ (by omega) d1
    exact ⟨d, d1, d2.chg k (by omega) (by omega)⟩
  · obtain ⟨y1, y2, y3⟩ := g2 j j0 d hd
    have hdb : d ≠ b := by
      rintro rfl
      exact x4 _ j0 hd
    exact ⟨y1.chg k (by omega) (by omega), y2, y3⟩
  · injection hd with hd
    subst hd
    exact ⟨hb, x2, x3, x4⟩
/-- a forecast made -/
theorem TAt.fill {b : Nat} (h : TAt X A w t V a f none S) (hb : DSh X A w b) (hba : b ≠ a) (hbt : b ≠ t) (hbf : ∀ k : Nat, k < 8 → f k ≠ some b) : TAt X (tp X t A V a f (some b)) w t V a f (some b) S := by
  obtain ⟨hT, hO, ⟨hN, hat⟩, ⟨⟨g0, g1, g2, g3⟩, hn⟩, hc, h15, h4, h23, h8⟩ := h
  have cg : Chg w w (t + 1) A (tp X t A V a f (some b)) := TlA.chg hO
  refine ⟨tp_tl, hO, ⟨hN.chg cg (by omega) (by omega), hat⟩, ⟨⟨g0, fun i i0 i1 => ?_, fun k k0 d hd => ?_, g3⟩, hn⟩, fun d hd => ?_, h15, h4, h23, h8⟩
  · obtain ⟨d, d1, d2⟩ := g1 i i0 i1
    obtain ⟨x1, x2, x3⟩ := g2 _ (by omega) d d1
    exact ⟨d, d1, d2.chg cg (by omega) (by omega)⟩
  · obtain ⟨x1, x2, x3⟩ := g2 k k0 d hd
    exact ⟨x1.chg cg (by omega) (by omega), x2, x3⟩
  · injection hd with hd
    subst hd
    exact ⟨hb.chg cg (by omega) (by omega), hba, hbt, hbf⟩
def fTl (r : Int → Int) : Int := if gFi (rRun 600 r 0).1 = 1 then (rRun 600 r 0).2 else -1
theorem L_tick {b o bc bs : Nat} {Q : Ot → AH → Prop} (hl : l.stackTraces = false) (h : TAt X A w t V a f (some b) S) (ri : RI S e) (he : e + 8000000 ≤ 2000000000) (hbo : b ≠ o) (hbc : 4 ≤ bc) (hbs : 40 ≤ bs)
    (K : ∀ A' w', TAt X A' w' t V a f (some b) S → Fr w w' o A A' → Q (Ri (I (fTl (S 0)))) A') : G l X M_X5_ticksLeft 30 Q 25 [(0, .ref t)] [] A bc bs := by
  have w0 := ri.1
  obtain ⟨x1, x2, x3, x4⟩ := h.2.2.2.2.1 b rfl
  have hT := h.1
  refine k_X5_ticksLeft_25 ?_
  rw [gR_iff hT.1 rfl, gR_iff hT.1 rfl]
  obtain ⟨p0, D0, la0, n0, g0, m0, hD0, -⟩ := id x1
  refine ⟨⟨_, hD0.1⟩, Cal.of (c_copyD hl x2 x1 h.2.2.1.1 w0) (by decide) hbc hbs ?_⟩
  rintro o1 A1 ⟨rfl, w1, y1, y2⟩
  rw [rV_of]
  have h1 := h.fore y2 y1.sh
  have hT1 := h1.1
  obtain ⟨p, D, P, la, g, m, hD, hP, hR, hDR, hL, hPT, hO, hOP, hd⟩ := y1.parts
  rw [gR_iff hT1.1 rfl]
  have hc := c_X1_makeTicks (X := X) (a := b) (B := A1) hl hd hP hR w0 (m := 600) (by omega) (by omega) hDR
  refine ⟨⟨_, hD.1⟩, Cal.of (qC hD hc) (by decide) (by omega) (by omega) ?_⟩
  rintro o1' A2 ⟨rfl, D', rfl, hq⟩
  rw [rI_of]
  obtain ⟨z1, z2, z3, z4⟩ := rRun_w 600 (S 0) 0 e w0 (by omega)
  have hcf : ∀ y, cf y → (rRun 600 (S 0) 0).1 y = S 0 y := fun y hy => z2 y (by unfold cf at hy; unfold kp; omega)
  obtain ⟨u1, u2⟩ := DAt_next hD hP hL hPT hO hOP (PR_c w0 hcf hR) hq (z2 9 (by unfold kp; omega)) (z2 0 (by unfold kp; omega)) (fun y hy => z2 y (by unfold kp; omega))
  have h2 := h1.fore u2 u1.sh
  obtain ⟨A2, hA2⟩ : ∃ A2, A2 = dp X b p A1 D' := ⟨_, rfl⟩
  rw [← hA2] at u1 u2 h2
  rw [← hA2]
  have hT2 := h2.1
  obtain ⟨p2, D2, P2, la2, g2, m2, hD2, hP2, hR2, hDR2, hL2, hPT2, hO2, hOP2, hd2⟩ := u1.parts
  rw [gR_iff hT2.1 rfl]
  refine ⟨⟨_, hD2.1⟩, (qD hD2 (c_X1_isFinished hl hd2 hP2 hR2 z1 hDR2)).cl0 (by decide) ?_⟩
  have hb := gFi_b (r := (rRun 600 (S 0) 0).1)
  rw [rI_of]
  have fin : Q (Ri (I (fTl (S 0)))) A2 := K A2 w1 h2 ((y2.fr (by omega) (by omega)).trans (u2.fr (by omega) (by omega)))
  simp (disch := omega) only [I_n, I_neg, I_eq4]
  refine ⟨fun q => ?_, fun q => ?_⟩
  · unfold fTl at fin
    rw [if_neg (by omega)] at fin
    exact fin
  · unfold fTl at fin
    rw [if_pos (by omega)] at fin
    exact fin
theorem m_ticksLeft (hl : l.stackTraces = false) {o : Nat} {fs : List Value} (h : TAt X A w t V a f c S) (ri : RI S e) (ho : A.2 o = some (ob 7 fs)) (hto : t ≠ o) (hol : o < A.1) (he : e + 8000000 ≤ 2000000000) : Ct l X 30 M_X5_ticksLeft [.ref t] A 24 850 (MP X A w o t S 0 "" "" (Ri (I (fTl (S 0)))) S) := by
  have w0 := ri.1
  obtain ⟨Q, hQ⟩ : ∃ Q, Q = (MP X A w o t S 0 "" "" (Ri (I (fTl (S 0)))) S) := ⟨_, rfl⟩
  rw [← hQ]
  have hT := h.1
  obtain ⟨n0, n1, n2, n3⟩ := h.2.2.2.1.1.1
  refine Ct.of hl rfl rfl (Nat.le_of_ble_eq_true rfl) (k_X5_ticksLeft_0 ?_)
  refine gQ_of hT.1 rfl ⟨fun b hb => ?_, fun hb => ?_⟩
  · subst hb
    refine L_tick hl h ri he ((h.2.2.2.2.1 b rfl).1.no ho) (by decide) (by decide) fun A' w' k1 k2 => ?_
    rw [hQ]
    exact MP_ok rfl rfl k1 k2
  · subst hb
    have hN := h.2.2.1.1
    have tA := h.2.1.1
    obtain ⟨eE1, eE⟩ := hN.sh.E
    have haA := hN.sh.lt
    obtain ⟨p, D, P, la, g, m, hD, -⟩ := id hN
    refine mk_i (b := A.1) rfl (by decide) (by decide) ?_
    intro C c1 cq co
    have hT1 : TlA X C t V a f none := hT.of fun y y0 y1 => co y (by omega)
    have hD1 : DlA X C a p D := hD.of fun y y0 y1 _ => co y (by omega)
    rw [gR_iff hT1.1 rfl, gR_iff hD1.k0 rfl]
    refine Cal.of (c_X1_init (a := A.1) hl cq c1 ((co _ (by omega)).trans eE) eE1) (by decide) (by decide) (by decide) ?_
    rintro o1 C2 ⟨rfl, y1, y2, y3, y4⟩
    rw [zV_of]
    have same : ∀ b, b < A.1 → C2.2 b = A.2 b := fun b hb' => (y4 b hb').trans (co b (by omega))
    obtain ⟨w1, dN, ch⟩ := hN.sh.mk y1 same y2 y3
    have tat := h.chg ch (by omega) (by omega) (fun d hd => by have := hd.lt; omega)
    have tat2 := tat.fill dN (by omega) (by omega) (fun k k0 hk => by have := (h.2.2.2.1.1.2.2.1 k k0 _ hk).1.lt; omega)
    obtain ⟨B2, hB2⟩ : ∃ B2, B2 = C2 := ⟨_, rfl⟩
    have eC2 : C2 = tp X t B2 V a f none := by rw [hB2]; exact (tp_of tat.1).symm
    rw [eC2, tp_pR9, hB2]
    have cg : Chg w1 w1 (t + 1) C2 (tp X t C2 V a f (some A.1)) := TlA.chg tat.2.1
    refine L_tick (o := o) hl tat2 ri he (by omega) (by decide) (by decide) fun A' w' k1 k2 => ?_
    rw [hQ]
    exact MP_ok rfl rfl k1 (((ch.fr (by omega) (by omega)).trans (cg.fr (by omega) (by omega))).trans k2)
theorem chz {z : Int} (h0 : 48 ≤ z) (h1 : z ≤ 57) : (Int32.toUInt32 (I z) % 65536).toInt32 = I z ∧ (I z).toUInt32.toUInt16.toUInt32.toInt32 = I z := by
  have key : ∀ j : Fin 10, (Int32.toUInt32 (I (48 + ((j.1 : Nat) : Int))) % 65536).toInt32 = I (48 + ((j.1 : Nat) : Int)) ∧ (I (48 + ((j.1 : Nat) : Int))).toUInt32.toUInt16.toUInt32.toInt32 = I (48 + ((j.1 : Nat) : Int)) := by decide +kernel
  have k := key ⟨(z - 48).toNat, by omega⟩
  rw [show 48 + (((z - 48).toNat : Nat) : Int) = z by omega] at k
  exact k
theorem c_signOf (hl : l.stackTraces = false) (hT : TlA X A t V a f c) (hD : DlA X A a p D) (hP : PlanAt X A p P) (hR : PR P r) (hDR : DR D r) (w : RW r e) (hd : p + 10 < a ∨ a + 12 < p) {k : Int} (h0 : 0 ≤ k) (h1 : k < gN r) : Fn l X 4 M_X5_signOf [.ref t, .int (I k)] A 0 0 (Ri (I (wM r k))) A := by
  obtain ⟨z1, z2⟩ := hDR.2.2.1 k h0 h1
  obtain ⟨n1, n2, -⟩ := gN_b w.1
  obtain ⟨p1, p2, -⟩ := gPo_b w.1 h0 h1
  obtain ⟨q1, q2, -⟩ := gE_b w.1
  have hm : 0 ≤ gMi r k ∧ gMi r k ≤ (gPo r k).toNat := sg_bi
  have hv := gV_b (r := r) (k := k)
  have hz : gMi r k ≠ 0 → gV r k = 0 := fun q => by
    unfold gV
    rw [if_pos (by omega)]
  have hz2 : gMi r k = 0 → gV r k ≠ 0 := fun q => by
    unfold gV
    rw [if_neg (by omega)]
    split <;> decide
  refine Fn.of hl rfl rfl (Nat.le_of_ble_eq_true rfl) (k_X5_signOf_0 ?_)
  simp (disch := omega) only [true_implies, false_implies, not_true_eq_false, not_false_eq_true, rR_of, I_n, I_neg, I_add, I_sub, I_mul, I_le4, I_lt4, I_eq4, I_div4, I_bi0, I_bi01, I_bi1, nor_em, rI_of, rV_of, zI_of, zV_of, nz_and, br_T, br_F, br_T2, br_F2, st_eq, st9_0, st_k, st_i, true_and, and_true, Classical.not_not, TlA.g1 hT, TlA.g2 hT, TlA.g4 hT, TlA.g7 hT, TlA.g8 hT, TlA.r0 hT, TlA.r3 hT, TlA.r6 hT, TlA.r5 hT, TlA.o hT, DlA.g5 hD, DlA.g6 hD, DlA.g7 hD, DlA.g8 hD, DlA.g9 hD, DlA.g10 hD, DlA.g14 hD, DlA.r0 hD, DlA.r1 hD, DlA.r2 hD, DlA.r3 hD, DlA.r4 hD, DlA.r11 hD, DlA.r12 hD, DlA.r13 hD, DlA.r15 hD, DlA.r16 hD, DlA.gA3 hD, DlA.rA0 hD, DlA.rA1 hD, DlA.rA2 hD, DlA.o hD, DlA.oA hD, PlanAt.g0 hP, PlanAt.g1 hP, PlanAt.g2 hP, PlanAt.g3 hP, PlanAt.g13 hP, PlanAt.g15 hP, PlanAt.r4 hP, PlanAt.r5 hP, PlanAt.r6 hP, PlanAt.r7 hP, PlanAt.r8 hP, PlanAt.r9 hP, PlanAt.r10 hP, PlanAt.r11 hP, PlanAt.r12 hP, PlanAt.r14 hP, PlanAt.isO hP]
  refine (c_at hl hD.k3 (by decide) h0 (by omega)).cl0 (by decide) ?_
  simp (disch := omega) only [true_implies, false_implies, not_true_eq_false, not_false_eq_true, rR_of, I_n, I_neg, I_add, I_sub, I_mul, I_le4, I_lt4, I_eq4, I_div4, I_bi0, I_bi01, I_bi1, nor_em, rI_of, rV_of, zI_of, zV_of, nz_and, br_T, br_F, br_T2, br_F2, st_eq, st9_0, st_k, st_i, true_and, and_true, Classical.not_not, TlA.g1 hT, TlA.g2 hT, TlA.g4 hT, TlA.g7 hT, TlA.g8 hT, TlA.r0 hT, TlA.r3 hT, TlA.r6 hT, TlA.r5 hT, TlA.o hT, DlA.g5 hD, DlA.g6 hD, DlA.g7 hD, DlA.g8 hD, DlA.g9 hD, DlA.g10 hD, DlA.g14 hD, DlA.r0 hD, DlA.r1 hD, DlA.r2 hD, DlA.r3 hD, DlA.r4 hD, DlA.r11 hD, DlA.r12 hD, DlA.r13 hD, DlA.r15 hD, DlA.r16 hD, DlA.gA3 hD, DlA.rA0 hD, DlA.rA1 hD, DlA.rA2 hD, DlA.o hD, DlA.oA hD, PlanAt.g0 hP, PlanAt.g1 hP, PlanAt.g2 hP, PlanAt.g3 hP, PlanAt.g13 hP, PlanAt.g15 hP, PlanAt.r4 hP, PlanAt.r5 hP, PlanAt.r6 hP, PlanAt.r7 hP, PlanAt.r8 hP, PlanAt.r9 hP, PlanAt.r10 hP, PlanAt.r11 hP, PlanAt.r12 hP, PlanAt.r14 hP, PlanAt.isO hP]
  rw [z1]
  refine ⟨fun q => ?_, fun q => ?_⟩
  · refine (c_X3_partsOf hl hP hR w.1 h0 h1).cl0 (by decide) ?_
    simp (disch := omega) only [true_implies, false_implies, not_true_eq_false, not_false_eq_true, rR_of, I_n, I_neg, I_add, I_sub, I_mul, I_le4, I_lt4, I_eq4, I_div4, I_bi0, I_bi01, I_bi1, nor_em, rI_of, rV_of, zI_of, zV_of, nz_and, br_T, br_F, br_T2, br_F2, st_eq, st9_0, st_k, st_i, true_and, and_true, Classical.not_not, TlA.g1 hT, TlA.g2 hT, TlA.g4 hT, TlA.g7 hT, TlA.g8 hT, TlA.r0 hT, TlA.r3 hT, TlA.r6 hT, TlA.r5 hT, TlA.o hT, DlA.g5 hD, DlA.g6 hD, DlA.g7 hD, DlA.g8 hD, DlA.g9 hD, DlA.g10 hD, DlA.g14 hD, DlA.r0 hD, DlA.r1 hD, DlA.r2 hD, DlA.r3 hD, DlA.r4 hD, DlA.r11 hD, DlA.r12 hD, DlA.r13 hD, DlA.r15 hD, DlA.r16 hD, DlA.gA3 hD, DlA.rA0 hD, DlA.rA1 hD, DlA.rA2 hD, DlA.o hD, DlA.oA hD, PlanAt.g0 hP, PlanAt.g1 hP, PlanAt.g2 hP, PlanAt.g3 hP, PlanAt.g13 hP, PlanAt.g15 hP, PlanAt.r4 hP, PlanAt.r5 hP, PlanAt.r6 hP, PlanAt.r7 hP, PlanAt.r8 hP, PlanAt.r9 hP, PlanAt.r10 hP, PlanAt.r11 hP, PlanAt.r12 hP, PlanAt.r14 hP, PlanAt.isO hP]
    have c1 := chz (z := 48 + (gMi r k - gMi r k / 10 * 10)) (by omega) (by omega)
    rw [c1.1]
    refine ⟨fun q3 => ⟨congrArg Value.int c1.2, ?_⟩, fun q3 => ⟨congrArg Value.int (show (I 46).toUInt32.toUInt16.toUInt32.toInt32 = I 46 by decide), ?_⟩⟩
    · unfold wM
      rw [if_neg (by omega), if_neg (by omega), if_neg q3]
      all_goals first | rfl | exact ⟨rfl, rfl⟩
    · unfold wM
      rw [if_neg (by omega), if_neg (by omega), if_pos q3]
      all_goals first | rfl | exact ⟨rfl, rfl⟩
  · refine (qD hD (c_X1_isSuspect hl w hDR h0 h1)).cl0 (by decide) ?_
    simp (disch := omega) only [true_implies, false_implies, not_true_eq_false, not_false_eq_true, rR_of, I_n, I_neg, I_add, I_sub, I_mul, I_le4, I_lt4, I_eq4, I_div4, I_bi0, I_bi01, I_bi1, nor_em, rI_of, rV_of, zI_of, zV_of, nz_and, br_T, br_F, br_T2, br_F2, st_eq, st9_0, st_k, st_i, true_and, and_true, Classical.not_not, TlA.g1 hT, TlA.g2 hT, TlA.g4 hT, TlA.g7 hT, TlA.g8 hT, TlA.r0 hT, TlA.r3 hT, TlA.r6 hT, TlA.r5 hT, TlA.o hT, DlA.g5 hD, DlA.g6 hD, DlA.g7 hD, DlA.g8 hD, DlA.g9 hD, DlA.g10 hD, DlA.g14 hD, DlA.r0 hD, DlA.r1 hD, DlA.r2 hD, DlA.r3 hD, DlA.r4 hD, DlA.r11 hD, DlA.r12 hD, DlA.r13 hD, DlA.r15 hD, DlA.r16 hD, DlA.gA3 hD, DlA.rA0 hD, DlA.rA1 hD, DlA.rA2 hD, DlA.o hD, DlA.oA hD, PlanAt.g0 hP, PlanAt.g1 hP, PlanAt.g2 hP, PlanAt.g3 hP, PlanAt.g13 hP, PlanAt.g15 hP, PlanAt.r4 hP, PlanAt.r5 hP, PlanAt.r6 hP, PlanAt.r7 hP, PlanAt.r8 hP, PlanAt.r9 hP, PlanAt.r10 hP, PlanAt.r11 hP, PlanAt.r12 hP, PlanAt.r14 hP, PlanAt.isO hP]
    refine ⟨fun q3 => ⟨congrArg Value.int (show (I 71).toUInt32.toUInt16.toUInt32.toInt32 = I 71 by decide), ?_⟩, fun q3 => ⟨congrArg Value.int (show (I 83).toUInt32.toUInt16.toUInt32.toInt32 = I 83 by decide), ?_⟩⟩
    · unfold wM
      rw [if_pos (by have := hz2 q; omega)]
      all_goals first | rfl | exact ⟨rfl, rfl⟩
    · unfold wM
      rw [if_neg (by omega), if_pos q3]
      all_goals first | rfl | exact ⟨rfl, rfl⟩
end MW
