/-! the class: load -/
section LD
variable {l : Launch} {X : XT} {A A' : AH} {w w' : Nat → Nat} {t a p : Nat} {V : Nat → Int → Int} {f : Nat → Option Nat} {c : Option Nat} {S T : Nat → Int → Int} {e : Int} {D D' P : Nat → Int → Int} {la : Nat} {g : Nat → Option Nat} {m : Int32} {q r : Int → Int}
def ldX (S : Nat → Int → Int) (pos : Int) : Nat → Int → Int := st (st S 9 7 0) 9 15 pos
theorem ldX_j {pos : Int} {j : Nat} (h : j ≠ 9) : ldX S pos j = S j := by
  unfold ldX
  rw [st_row h, st_row h]
theorem ldX_k {pos y : Int} (h7 : y ≠ 7) (h15 : y ≠ 15) : ldX S pos 9 y = S 9 y := by
  unfold ldX
  rw [st_k h15, st_k h7]
theorem ldX_7 {pos : Int} : ldX S pos 9 7 = 0 := by
  unfold ldX
  rw [st_k (by decide), st_eq]
theorem ldX_15 {pos : Int} : ldX S pos 9 15 = pos := by
  unfold ldX
  rw [st_eq]
theorem RI.text {pos : Int} (h : RI S e) : RI (ldX S pos) e := by
  obtain ⟨a1, a2, a3, a4, a5, a6⟩ := h
  refine ⟨by rw [ldX_j (by decide)]; exact a1, by rw [ldX_k (by decide) (by decide)]; exact a2, fun i i0 i1 => ?_, by rw [ldX_7]; decide, by rw [ldX_j (by decide)]; exact a5, by rw [ldX_k (by decide) (by decide)]; exact a6⟩
  rw [ldX_k (by decide) (by decide)] at i1
  rw [ldX_j (by decide)]
  exact a3 i i0 i1
/-- the text's length and the error's place written -/
theorem TAt.text {pos : Int} (h : TAt X A w t V a f c S) : TAt X (tp X t A (st (st V 2 1 0) 2 2 pos) a f c) w t (st (st V 2 1 0) 2 2 pos) a f c (ldX S pos) := by
  obtain ⟨hT, hO, ⟨hN, hat⟩, ⟨⟨g0, g1, g2, g3⟩, hn⟩, hc, h15, h4, h23, h8⟩ := h
  have cg : Chg w w (t + 1) A (tp X t A (st (st V 2 1 0) 2 2 pos) a f c) := TlA.chg hO
  have v2 : ∀ y, y ≠ 1 → y ≠ 2 → st (st V 2 1 0) 2 2 pos 2 y = V 2 y := fun y h7 h8 => by rw [st_k h8, st_k h7]
  have vj : ∀ j : Nat, j ≠ 2 → st (st V 2 1 0) 2 2 pos j = V j := fun j hj => by rw [st_row hj, st_row hj]
  refine ⟨tp_tl, hO, ⟨?_, hat⟩, ⟨⟨by rw [v2 7 (by decide) (by decide), v2 8 (by decide) (by decide)]; exact g0, fun i i0 i1 => ?_, fun k k0 d hd => ?_, g3⟩, by rw [v2 8 (by decide) (by decide), ldX_k (by decide) (by decide)]; exact hn⟩, fun d hd => ?_, ?_, ?_, ?_, ?_⟩
  · rw [ldX_j (by decide)]
    exact hN.chg cg (by omega) (by omega)
  · rw [v2 8 (by decide) (by decide)] at i1
    rw [v2 7 (by decide) (by decide), v2 8 (by decide) (by decide), ldX_j (by decide)]
    obtain ⟨d, d1, d2⟩ := g1 i i0 i1
    obtain ⟨x1, x2, x3⟩ := g2 _ (by omega) d d1
    exact ⟨d, d1, d2.chg cg (by omega) (by omega)⟩
  · obtain ⟨x1, x2, x3⟩ := g2 k k0 d hd
    exact ⟨x1.chg cg (by omega) (by omega), x2, x3⟩
  · obtain ⟨x1, x2, x3, x4⟩ := hc d hd
    exact ⟨x1.chg cg (by omega) (by omega), x2, x3, x4⟩
  · rw [ldX_15, st_eq]
  · rw [ldX_7, ldX_j (by decide)]
    refine ⟨by rw [st_k (by decide), st_eq], fun k k0 => ?_⟩
    rw [vj 0 (by decide)]
    exact h4.2 k k0
  · rw [v2 4 (by decide) (by decide), ldX_k (by decide) (by decide)]
    exact h23
  · rw [vj 1 (by decide), ldX_k (by decide) (by decide), ldX_j (by decide)]
    exact h8
def ldE (S : Nat → Int → Int) (k : Int) : Int := (pLd S k).2.2.2.2.2.1
def ldP (S : Nat → Int → Int) (k : Int) : Int := if ldE S k = 0 then -1 else (pLd S k).2.2.2.2.2.2
def ldC (S : Nat → Int → Int) (k : Int) : Nat → Int → Int := if ldE S k = 0 then sr (kS (ldX S (ldP S k))) (pLd S k).1 else ldX S (ldP S k)
theorem m_load (hl : l.stackTraces = false) {o : Nat} {fs : List Value} (h : TAt X A w t V a f c S) (ri : RI S e) (ho : A.2 o = some (ob 7 fs)) (hto : t ≠ o) (hol : o < A.1) {k : Int} (hk : sm k) : Ct l X 30 M_X5_load [.ref t, .int (I k)] A 60 4000 (MP X A w o t S (if 0 ≤ k ∧ k ≤ S 9 7 then 0 else 1) "java/lang/IllegalArgumentException" "" (Ri (I (if ldE S k = 0 then gT (pLd S k).1 else ldE S k))) (ldC S k)) := by
  obtain ⟨k1, k2⟩ := id hk
  have w0 := ri.1
  have c7 := ri.2.2.2.1
  have hB := ri.2.2.2.2.1
  obtain ⟨Q, hQ⟩ : ∃ Q, Q = (MP X A w o t S (if 0 ≤ k ∧ k ≤ S 9 7 then 0 else 1) "java/lang/IllegalArgumentException" "" (Ri (I (if ldE S k = 0 then gT (pLd S k).1 else ldE S k))) (ldC S k)) := ⟨_, rfl⟩
  rw [← hQ]
  have hT := h.1
  have hO' := h.2.1
  have h41 := h.2.2.2.2.2.2.1.1
  have h42 := h.2.2.2.2.2.2.1.2
  obtain ⟨p, D, P, la, g, m, hD, hP, hR, hDR, hL, hPT, hO, hOP, hd⟩ := h.2.2.1.1.parts
  have haA := hO.1
  have bad : ¬ (0 ≤ k ∧ k ≤ S 9 7) → G l X M_X5_load 30 Q 17 [(0, .ref t), (1, .int (I k))] [.int (I 0)] A 60 4000 := fun hz => by
    refine k_X5_load_17 ?_
    exact cal_NE (c_X5_needArgument hl ⟨by decide, by decide⟩) (by decide) (by decide) (by decide) (fun h3 => absurd rfl h3) (fun h3 A' a1 a2 => by rw [hQ]; exact MP_1 h (if_neg hz) a1 a2)
  have good : (0 ≤ k ∧ k ≤ S 9 7) → G l X M_X5_load 30 Q 17 [(0, .ref t), (1, .int (I k))] [.int (I 1)] A 60 4000 := fun hz => by
    refine k_X5_load_17 ?_
    refine cal_NE (c_X5_needArgument hl ⟨by decide, by decide⟩) (by decide) (by decide) (by decide) (fun h3 => ?_) (fun h3 A' a1 a2 => absurd (by decide) h3)
    refine mk_i (b := A.1) rfl (by decide) (by decide) ?_
    intro C c1 cq co
    have hT1 : TlA X C t V a f c := hT.of fun y y0 y1 => co y (by omega)
    rw [gR_iff hT1.1 rfl]
    refine (c_X4_init hl cq).cl0 (by decide) ?_
    rw [zV_of]
    have ht : C.2 (t + 1) = some (ia X 400 (fun q => I (S 4 q))) := by
      rw [hT1.2.1]
      have : (fun q : Nat => I (V 0 q)) = fun q : Nat => I (S 4 q) := funext fun q => congrArg I (h42 q (by omega))
      rw [this]
    refine ⟨⟨_, rp_q⟩, Cal.of (c_X4_read (S := S) hl ht rfl (by omega) (by omega) (by omega) (n := k) (by omega) hB) (by decide) (by decide) (by decide) ?_⟩
    rintro o1 C2 ⟨y1, y2, z, y3, y4, y5⟩
    have same : ∀ b, b < A.1 → C2.2 b = A.2 b := fun b hb' => (y2 b (by omega) (by omega)).trans (co b (by omega))
    obtain ⟨w1, hw1⟩ : ∃ w1 : Nat → Nat, w1 = fun b => if b < A.1 then w b else 0 := ⟨_, rfl⟩
    have wn : ∀ b, b < A.1 → w1 b = w b := fun b hb => by rw [hw1]; exact if_pos hb
    have wN : ∀ b, A.1 ≤ b → w1 b = 0 := fun b hb => by rw [hw1]; exact if_neg (by omega)
    have ch : Chg w w1 (A.1 + 1 + t + 1) A C2 := ⟨by omega, wn, fun b b0 _ => same b b0⟩
    have tat := h.chg ch (by omega) (by omega) (fun d hd => by have := hd.lt; omega)
    have hT2 := tat.1
    obtain ⟨B, hB2⟩ : ∃ B, B = C2 := ⟨_, rfl⟩
    have eC2 : C2 = tp X t B V a f c := by rw [hB2]; exact (tp_of hT2).symm
    have ez : z.2.2.2 = ldP S k := by
      unfold ldP ldE
      by_cases he0 : (pLd S k).2.2.2.2.2.1 = 0
      · rw [if_pos he0]
        exact (y4 he0).2.1
      · rw [if_neg he0]
        exact (y5 he0).2.1
    have tat2 := tat.text (pos := ldP S k)
    obtain ⟨A3, hA3⟩ : ∃ A3, A3 = tp X t C2 (st (st V 2 1 0) 2 2 (ldP S k)) a f c := ⟨_, rfl⟩
    rw [← hA3] at tat2
    have out3 : ∀ b, b < t ∨ t + 3 < b → A3.2 b = C2.2 b := fun b hb => by rw [hA3]; exact tp_out hb
    have e13 : A3.1 = C2.1 := by rw [hA3]; rfl
    have cg : Chg w1 w1 (t + 1) C2 A3 := by rw [hA3]; exact TlA.chg tat.2.1
    have ez1 : ∀ K : Int32 → Prop, (∀ V', gI (tp X t C2 V' a f c) A.1 5 5 K) ↔ K (I z.2.2.2) := fun K => ⟨fun q => by
      have q1 := q V
      rw [gI_iff (fs := rfs (t + 1) k z) ((tp_out (by omega)).trans y3) rfl] at q1
      exact q1, fun q V' => (gI_iff (fs := rfs (t + 1) k z) ((tp_out (by omega)).trans y3) rfl).mpr q⟩
    have frA : Fr w w1 o A A3 := (ch.fr (by omega) (by omega)).trans (cg.fr (by omega) (by omega))
    have main : ∀ o1' : Option Nat, o1 = Rq o1' → ((∀ a22, o1' = some a22 → isO A3 t 6 ∧ Cal l X 30 (60 - 1 - 1 - 11) (4000 - 6 - 6 - 1451) M_X5_remember [.ref t] A3 fun o26 A23 b24 c25 => rV o26 (fun E => Q (.inr E) A23) <| gR A23 t 6 5 fun r27 => isO A23 r27 2 ∧ Cal l X 30 b24 c25 M_X1_begin [.ref r27, .ref a22] A23 fun o31 A28 b29 c30 => rV o31 (fun E => Q (.inr E) A28) <| gI A28 a22 4 3 fun i32 => Q (Ri i32) A28) ∧ (o1' = none → gI A3 A.1 5 4 fun i33 => Q (Ri i33) A3)) := by
      intro o1' ho1
      by_cases he0 : ldE S k = 0
      · obtain ⟨v1, v2, v3, v4, P2, v5, v6⟩ := y4 he0
        rw [v3] at ho1
        injection ho1 with ho1
        injection ho1 with ho1
        have ho2 : o1' = some C.1 := by
          cases o1' with
          | none => exact absurd ho1 (by simp [va_rf])
          | some q =>
            simp only [va_rf] at ho1
            injection ho1 with ho1
            rw [← ho1]
        refine ⟨fun a22 h22 => ?_, fun h22 => by rw [ho2] at h22; cases h22⟩
        rw [ho2] at h22
        injection h22 with h22
        subst h22
        refine ⟨⟨_, tat2.1.1⟩, ?_⟩
        have hoA := (frA.2.2)
        have wo : o < t ∨ t + 3 < o := by
          by_cases hh : t ≤ o ∧ o ≤ t + 3
          · have e1 : o = t + 1 ∨ o = t + 2 ∨ o = t + 3 := by omega
            rcases e1 with e1 | e1 | e1
            · rw [e1] at ho
              exact absurd (ho.symm.trans hT.2.1) (by simp)
            · rw [e1] at ho
              exact absurd (ho.symm.trans hT.2.2.1) (by simp)
            · rw [e1] at ho
              exact absurd (ho.symm.trans hT.2.2.2) (by simp)
          · omega
        refine cal_rem2 hl tat2 ri.text (((out3 o wo).trans (same o hol)).trans ho) hto (by omega) (by decide) (by decide) (by decide) fun A4 w4 V4 f4 x1 x2 hao x3 => ?_
        have hT4 := x1.1
        rw [gR_iff hT4.1 rfl]
        rw [ldX_j (by decide)] at x2
        obtain ⟨p4, D4, P4, la4, g4, m4, hD4, hP4, hR4, hDR4, hL4, hPT4, hO4, hOP4, hd4⟩ := x2.parts
        refine ⟨⟨_, hD4.1⟩, ?_⟩
        obtain ⟨nk, uk, hra⟩ := hL4.ra
        have x31 := x3.1
        have hPl : PlanAt X A4 C.1 P2 := v5.of fun b b0 b1 => (x3.2.2 b (by omega) (Or.inl (wN b (by omega)))).trans (out3 b (by omega))
        have hOPl : OP A4 w4 C.1 := ⟨by omega, fun b b0 b1 => (x3.2.1 b (by omega)).trans (wN b (by omega))⟩
        have wr := (pLd_w (S := S) (k := k) hz.1).2.2 he0
        obtain ⟨fr9, fr13, fr14, fr15, frm⟩ := pLd_FR hz.1 he0
        have c5 := wr.2.2.2.2.2.1
        have hEo := hO4.out (b := xE X) (by rw [hO4.2.2.2.2.2.2]; omega)
        obtain ⟨t1, t2⟩ := gT_b wr.1
        have lg := wr.1.2.1
        refine Cal.of (c_X1_begin hl hD4 (Or.inr (by omega)) hPl v6 wr.1 hO4.1 hL4 hO4.2.2.2.2.1 (hPl.nR hra) hEo.1 hO4.2.2.2.1 (fun p p0 p1 => frm p p0 (by omega)) ⟨by omega, by omega, by omega, fr13, by omega⟩ ⟨fr14, fr15, by omega, by omega, by omega, by omega⟩ hDR4.2.2.2.2.2.2.2) (by decide) (by decide) (by decide) ?_
        rintro o5 A5 ⟨rfl, F, g5, m5, u1, u2, u3, u4, u5⟩
        rw [rV_of]
        have cg5 : Chg w4 w4 (a + 1) A4 A5 := ⟨by omega, fun _ _ => rfl, fun b b0 b1 => u5 b (hO4.out b1).1 (hO4.out b1).2⟩
        have hPl5 : PlanAt X A5 C.1 P2 := hPl.of fun b b0 b1 => cg5.2.2 b (by omega) (by rw [hOPl.2 b b0 b1]; omega)
        rw [hPl5.g3, v6.1.2.2.2.1, hQ]
        have dn : DAt X A5 w4 a (pLd S k).1 := DAt.mk2 hPl hO4 hOPl cg5 u1 (by rw [fr9]; exact u3) hO4.2.2.1 (by have := hO4.2.2.2.1; omega) hO4.2.2.2.2.1 (fun i hi => by rw [fr9] at hi; omega) v6 u2
        have x4 := x1.now cg5 dn
        rw [sr_sr] at x4
        refine MP_ok (if_pos hz) (by rw [if_pos he0]) (V' := V4) (f' := f4) (a' := a) (c' := c) ?_ ((frA.trans x3).trans (cg5.fr (by omega) (by omega)))
        unfold ldC
        rw [if_pos he0]
        exact x4
      · obtain ⟨v1, v2, v3⟩ := y5 he0
        rw [v3] at ho1
        injection ho1 with ho1
        injection ho1 with ho1
        have ho2 : o1' = none := by
          cases o1' with
          | none => rfl
          | some q => exact absurd ho1 (by simp [va_rf])
        refine ⟨fun a22 h22 => (by rw [ho2] at h22; cases h22), fun _ => ?_⟩
        rw [gI_iff (fs := rfs (t + 1) k z) ((out3 _ (by omega)).trans y3) rfl, v1, hQ]
        refine MP_ok (if_pos hz) (by rw [if_neg he0]; rfl) (V' := st (st V 2 1 0) 2 2 (ldP S k)) (f' := f) (a' := a) (c' := c) ?_ frA
        unfold ldC
        rw [if_neg he0]
        exact tat2
    have oq : ∃ o1', o1 = Rq o1' := by
      by_cases he0 : (pLd S k).2.2.2.2.2.1 = 0
      · exact ⟨_, (y4 he0).2.2.1⟩
      · exact ⟨_, (y5 he0).2.2⟩
    obtain ⟨o1', ho1⟩ := oq
    have mm := main o1' ho1
    rw [ho1]
    refine rQ_of ?_
    rw [eC2]
    simp only [I_n]
    rw [tp_pI1, hB2, gI_iff (fs := rfs (t + 1) k z) ((tp_out (by omega)).trans y3) rfl, tp_pI2, ez, ← hA3]
    exact mm
  refine Ct.of hl rfl rfl (Nat.le_of_ble_eq_true rfl) (k_X5_load_0 ?_)
  simp (disch := omega) only [true_implies, false_implies, not_true_eq_false, not_false_eq_true, rR_of, I_n, I_neg, I_add, I_sub, I_mul, I_le4, I_lt4, I_eq4, I_div4, I_bi0, I_bi01, I_bi1, nor_em, rI_of, rV_of, zI_of, zV_of, nz_and, br_T, br_F, br_T2, br_F2, st_eq, st9_0, st_k, st_i, true_and, and_true, Classical.not_not, TlA.g1 hT, TlA.g2 hT, TlA.g4 hT, TlA.g7 hT, TlA.g8 hT, TlA.r0 hT, TlA.r3 hT, TlA.r6 hT, TlA.r5 hT, TlA.o hT, DlA.g5 hD, DlA.g6 hD, DlA.g7 hD, DlA.g8 hD, DlA.g9 hD, DlA.g10 hD, DlA.g14 hD, DlA.r0 hD, DlA.r1 hD, DlA.r2 hD, DlA.r3 hD, DlA.r4 hD, DlA.r11 hD, DlA.r12 hD, DlA.r13 hD, DlA.r15 hD, DlA.r16 hD, DlA.gA3 hD, DlA.rA0 hD, DlA.rA1 hD, DlA.rA2 hD, DlA.o hD, DlA.oA hD, PlanAt.g0 hP, PlanAt.g1 hP, PlanAt.g2 hP, PlanAt.g3 hP, PlanAt.g13 hP, PlanAt.g15 hP, PlanAt.r4 hP, PlanAt.r5 hP, PlanAt.r6 hP, PlanAt.r7 hP, PlanAt.r8 hP, PlanAt.r9 hP, PlanAt.r10 hP, PlanAt.r11 hP, PlanAt.r12 hP, PlanAt.r14 hP, PlanAt.isO hP]
  refine ⟨fun q => bad (by omega), fun q => ?_⟩
  exact ⟨fun q2 => bad (by omega), fun q2 => good ⟨by omega, by omega⟩⟩
end LD
