/-! the class: connect, fetch, search, drop, run -/
section MU
variable {l : Launch} {X : XT} {A A' : AH} {w w' : Nat → Nat} {t a p : Nat} {V : Nat → Int → Int} {f : Nat → Option Nat} {c : Option Nat} {S T : Nat → Int → Int} {e : Int} {D D' P : Nat → Int → Int} {la : Nat} {g : Nat → Option Nat} {m : Int32} {q r : Int → Int}
theorem TAt.step (h : TAt X A w t V a f c (sr T r)) (rw' : RW r e) (hD : DlA X A a p D) (hP : PlanAt X A p P) (hL : LST X A (a + 8) la (r 9) g m) (hPT : PT X A w g r) (hO : OW X A w a la) (hOP : OP A w p) (hR : PR P r) (hk : ∀ y, kp y → q y = r y) (hq : DR D' q) : TAt X (dp X a p A D') w t V a f c (sr T q) ∧ Chg w w (a + 1) A (dp X a p A D') := by
  have x := h.down (T := sr T r) rw' hD hP hL hPT hO hOP hR hk hq
  rw [sr_sr] at x
  exact x
theorem cal_rem2 (hl : l.stackTraces = false) {o : Nat} {fs : List Value} (h : TAt X A w t V a f c S) (ri : RI S e) (ho : A.2 o = some (ob 7 fs)) (hto : t ≠ o) (hol : o < A.1) {d bc bs : Nat} {Q : Ot → AH → Prop} {K : AH → Nat → Nat → Prop} (hd : 6 ≤ d) (hb : 17 ≤ bc) (hs : 790 ≤ bs) (k : ∀ A' w' V' f', TAt X A' w' t V' a f' c (sr (kS S) (S 0)) → DAt X A' w' a (S 0) → a ≠ o → Fr w w' o A A' → K A' (bc - 17) (bs - 790)) :
    Cal l X d bc bs M_X5_remember [.ref t] A (fun o' A1 b1 c1 => rV o' (fun E' => Q (.inr E') A1) (K A1 b1 c1)) := by
  refine cal_rem hl h ri ho hto hol hd hb hs fun A' w' V' f' x1 x2 => ?_
  have e1 : sr (kS S) (S 0) = kS S := by
    have := sr_self (S := kS S)
    rwa [kS_0] at this
  refine k A' w' V' f' (by rw [e1]; exact x1) ?_ (h.2.2.1.1.sh.no ho) x2
  have := x1.2.2.1.1
  rwa [kS_0] at this
theorem rFe_w {s f' k : Int} (hs : 0 ≤ s ∧ s ≤ 1) : ∀ (m : Nat) (j : Int) (r : Int → Int) (e : Int), RW r e → e + 10 + 10 * m ≤ 2000000000 → 0 ≤ j → 0 ≤ k → k < gN r → j + m = gPo r k → f' = gF r k →
    RW (rFe s f' m j r).1 (e + 4 * m) ∧ (∀ y, kp y → (rFe s f' m j r).1 y = r y) ∧ 0 ≤ (rFe s f' m j r).2 ∧ (rFe s f' m j r).2 ≤ m := by
  intro m
  induction m with
  | zero =>
    intro j r e w he h0 hk hk1 hj hf
    exact ⟨RW_e w (by omega) (by omega), fun _ _ => rfl, Int.le_refl _, Int.le_refl _⟩
  | succ m ih =>
    intro j r e w he h0 hk hk1 hj hf
    obtain ⟨f1, f2⟩ := gF_b w.1 hk hk1
    by_cases h : r (96 + (f' + j)) = 0 ∧ ¬ r (14 + s) = 0
    · have e1 : rFe s f' (m + 1) j r = ((rFe s f' m (j + 1) (rArr r s (f' + j))).1, (rFe s f' m (j + 1) (rArr r s (f' + j))).2 + 1) := if_pos h
      obtain ⟨w2, o2⟩ := rArr_kp w (by omega) hs (p := f' + j) (by omega) (by omega)
      have hc := geo_c (o2 0 (by unfold kp; omega)) (o2 2 (by unfold kp; omega)) (o2 3 (by unfold kp; omega))
      obtain ⟨x1, x2, x3, x4⟩ := ih (j + 1) (rArr r s (f' + j)) (e + 4) w2 (by omega) (by omega) hk (by rw [hc.1]; exact hk1) (by rw [hc.2.2.2.1]; omega) (by rw [hc.2.2.2.2.1]; exact hf)
      rw [e1]
      exact ⟨RW_e x1 (by omega) (by omega), fun y hy => (x2 y hy).trans (o2 y hy), by show 0 ≤ _ + 1; omega, by show _ + 1 ≤ _; omega⟩
    · have e1 : rFe s f' (m + 1) j r = rFe s f' m (j + 1) r := if_neg h
      obtain ⟨x1, x2, x3, x4⟩ := ih (j + 1) r e w (by omega) (by omega) hk hk1 (by omega) hf
      rw [e1]
      exact ⟨RW_e x1 (by omega) (by omega), x2, x3, by omega⟩
theorem m_connect (hl : l.stackTraces = false) {o : Nat} {fs : List Value} (h : TAt X A w t V a f c S) (ri : RI S e) (ho : A.2 o = some (ob 7 fs)) (hto : t ≠ o) (hol : o < A.1) {s v : Int} (hs : sm s) (hv : 0 ≤ v ∧ v ≤ 1) : Ct l X 30 M_X5_connect [.ref t, .int (I s), .int (I v)] A 24 850 (MP X A w o t S (tCon (S 0) s v) "java/lang/IndexOutOfBoundsException" "java/lang/IllegalStateException" (Ri (I (bi (S 0 (14 + s) = 1)))) (sr (kS S) (rs (S 0) (14 + s) v))) := by
  obtain ⟨s1, s2⟩ := id hs
  have w0 := ri.1
  obtain ⟨Q, hQ⟩ : ∃ Q, Q = (MP X A w o t S (tCon (S 0) s v) "java/lang/IndexOutOfBoundsException" "java/lang/IllegalStateException" (Ri (I (bi (S 0 (14 + s) = 1)))) (sr (kS S) (rs (S 0) (14 + s) v))) := ⟨_, rfl⟩
  rw [← hQ]
  have b5 := w0.2.2.2.2.1
  have hT := h.1
  obtain ⟨p, D, P, la, g, m, hD, hP, hR, hDR, hL, hPT, hO, hOP, hd⟩ := h.2.2.1.1.parts
  have x14 := hDR.2.2.2.2.1.2.2.2.1
  refine Ct.of hl rfl rfl (Nat.le_of_ble_eq_true rfl) (k_X5_connect_0 ?_)
  simp only [I_n]
  refine cal_NE (c_X5_needIndex hl hs ⟨by decide, by decide⟩) (by decide) (by decide) (by decide) (fun h1 => ?_) (fun h1 A' a1 a2 => by rw [hQ]; exact MP_1 h (by unfold tCon; rw [if_neg (by omega)]) a1 a2)
  have hs01 : 0 ≤ s ∧ s ≤ 1 := by omega
  have bad : tCon (S 0) s v = 2 → G l X M_X5_connect 30 Q 29 [(0, .ref t), (1, .int (I s)), (2, .int (I v))] [.int (I 0)] A (24 - 1) (850 - 6) := fun hz => by
    refine k_X5_connect_29 ?_
    exact cal_NE (c_X5_needState hl ⟨by decide, by decide⟩) (by decide) (by decide) (by decide) (fun h3 => absurd rfl h3) (fun h3 A' a1 a2 => by rw [hQ]; exact MP_2 h hz a1 a2)
  have good : tCon (S 0) s v = 0 → G l X M_X5_connect 30 Q 29 [(0, .ref t), (1, .int (I s)), (2, .int (I v))] [.int (I 1)] A (24 - 1) (850 - 6) := fun hz => by
    refine k_X5_connect_29 ?_
    refine cal_NE (c_X5_needState hl ⟨by decide, by decide⟩) (by decide) (by decide) (by decide) (fun h3 => ?_) (fun h3 A' a1 a2 => absurd (by decide) h3)
    simp (disch := omega) only [true_implies, false_implies, not_true_eq_false, not_false_eq_true, rR_of, I_n, I_neg, I_add, I_sub, I_mul, I_le4, I_lt4, I_eq4, I_div4, I_bi0, I_bi01, I_bi1, nor_em, rI_of, rV_of, zI_of, zV_of, nz_and, br_T, br_F, br_T2, br_F2, st_eq, st9_0, st_k, st_i, true_and, and_true, Classical.not_not, TlA.g1 hT, TlA.g2 hT, TlA.g4 hT, TlA.g7 hT, TlA.g8 hT, TlA.r0 hT, TlA.r3 hT, TlA.r6 hT, TlA.r5 hT, TlA.o hT, DlA.g5 hD, DlA.g6 hD, DlA.g7 hD, DlA.g8 hD, DlA.g9 hD, DlA.g10 hD, DlA.g14 hD, DlA.r0 hD, DlA.r1 hD, DlA.r2 hD, DlA.r3 hD, DlA.r4 hD, DlA.r11 hD, DlA.r12 hD, DlA.r13 hD, DlA.r15 hD, DlA.r16 hD, DlA.gA3 hD, DlA.rA0 hD, DlA.rA1 hD, DlA.rA2 hD, DlA.o hD, DlA.oA hD, PlanAt.g0 hP, PlanAt.g1 hP, PlanAt.g2 hP, PlanAt.g3 hP, PlanAt.g13 hP, PlanAt.g15 hP, PlanAt.r4 hP, PlanAt.r5 hP, PlanAt.r6 hP, PlanAt.r7 hP, PlanAt.r8 hP, PlanAt.r9 hP, PlanAt.r10 hP, PlanAt.r11 hP, PlanAt.r12 hP, PlanAt.r14 hP, PlanAt.isO hP]
    refine cal_rem2 hl h ri ho hto hol (by decide) (by decide) (by decide) fun A1 w1 V1 f1 x1 x2 hao x3 => ?_
    have hT := x1.1
    obtain ⟨p, D, P, la, g, m, hD, hP, hR, hDR, hL, hPT, hO, hOP, hd⟩ := x2.parts
    simp (disch := omega) only [true_implies, false_implies, not_true_eq_false, not_false_eq_true, rR_of, I_n, I_neg, I_add, I_sub, I_mul, I_le4, I_lt4, I_eq4, I_div4, I_bi0, I_bi01, I_bi1, nor_em, rI_of, rV_of, zI_of, zV_of, nz_and, br_T, br_F, br_T2, br_F2, st_eq, st9_0, st_k, st_i, true_and, and_true, Classical.not_not, TlA.g1 hT, TlA.g2 hT, TlA.g4 hT, TlA.g7 hT, TlA.g8 hT, TlA.r0 hT, TlA.r3 hT, TlA.r6 hT, TlA.r5 hT, TlA.o hT, DlA.g5 hD, DlA.g6 hD, DlA.g7 hD, DlA.g8 hD, DlA.g9 hD, DlA.g10 hD, DlA.g14 hD, DlA.r0 hD, DlA.r1 hD, DlA.r2 hD, DlA.r3 hD, DlA.r4 hD, DlA.r11 hD, DlA.r12 hD, DlA.r13 hD, DlA.r15 hD, DlA.r16 hD, DlA.gA3 hD, DlA.rA0 hD, DlA.rA1 hD, DlA.rA2 hD, DlA.o hD, DlA.oA hD, PlanAt.g0 hP, PlanAt.g1 hP, PlanAt.g2 hP, PlanAt.g3 hP, PlanAt.g13 hP, PlanAt.g15 hP, PlanAt.r4 hP, PlanAt.r5 hP, PlanAt.r6 hP, PlanAt.r7 hP, PlanAt.r8 hP, PlanAt.r9 hP, PlanAt.r10 hP, PlanAt.r11 hP, PlanAt.r12 hP, PlanAt.r14 hP, PlanAt.isO hP]
    refine (qD hD (c_X1_isConnected hl w0 hDR hs01)).cl0 (by decide) ?_
    simp (disch := omega) only [true_implies, false_implies, not_true_eq_false, not_false_eq_true, rR_of, I_n, I_neg, I_add, I_sub, I_mul, I_le4, I_lt4, I_eq4, I_div4, I_bi0, I_bi01, I_bi1, nor_em, rI_of, rV_of, zI_of, zV_of, nz_and, br_T, br_F, br_T2, br_F2, st_eq, st9_0, st_k, st_i, true_and, and_true, Classical.not_not, TlA.g1 hT, TlA.g2 hT, TlA.g4 hT, TlA.g7 hT, TlA.g8 hT, TlA.r0 hT, TlA.r3 hT, TlA.r6 hT, TlA.r5 hT, TlA.o hT, DlA.g5 hD, DlA.g6 hD, DlA.g7 hD, DlA.g8 hD, DlA.g9 hD, DlA.g10 hD, DlA.g14 hD, DlA.r0 hD, DlA.r1 hD, DlA.r2 hD, DlA.r3 hD, DlA.r4 hD, DlA.r11 hD, DlA.r12 hD, DlA.r13 hD, DlA.r15 hD, DlA.r16 hD, DlA.gA3 hD, DlA.rA0 hD, DlA.rA1 hD, DlA.rA2 hD, DlA.o hD, DlA.oA hD, PlanAt.g0 hP, PlanAt.g1 hP, PlanAt.g2 hP, PlanAt.g3 hP, PlanAt.g13 hP, PlanAt.g15 hP, PlanAt.r4 hP, PlanAt.r5 hP, PlanAt.r6 hP, PlanAt.r7 hP, PlanAt.r8 hP, PlanAt.r9 hP, PlanAt.r10 hP, PlanAt.r11 hP, PlanAt.r12 hP, PlanAt.r14 hP, PlanAt.isO hP]
    have bb := bi_b (p := S 0 (14 + s) = 1)
    have fin : ∀ z : Int, z = v → G l X M_X5_connect 30 Q 62 [(3, .int (I (bi (S 0 (14 + s) = 1))))] [.int (I z), .int (I s), .ref (a + 5)] A1 (24 - 1 - 1 - 17) (850 - 6 - 6 - 790) := by
      rintro z rfl
      refine k_X5_connect_62 ?_
      have hp := put_d4 (X := X) (a := a) (p := p) (B := A1) (D := D) hl (k := s) (v := z) hs01.1 (by omega)
      obtain ⟨y1, y2⟩ := x1.step w0 hD hP hL hPT hO hOP hR (q := rs (S 0) (14 + s) z) (fun y hy => rs_ne (by unfold kp at hy; omega)) (DX_conn w0 hDR hs01)
      unfold Fn at hp
      refine Cal.of (qC hD hp) (by decide) (by decide) (by decide) ?_
      rintro o1 A2 ⟨rfl, rfl⟩
      rw [rV_of]
      refine ⟨?_, ?_⟩
      · simp only [I_n]
        rw [I_eq ⟨by omega, by omega⟩ ⟨by decide, by decide⟩, I_eq ⟨by omega, by omega⟩ ⟨by decide, by decide⟩]
        omega
      · rw [hQ]
        exact MP_ok hz rfl y1 (x3.trans (y2.fr (by omega) (by omega)))
    exact ⟨fun q => fin 0 (by omega), fun q => fin 1 (by omega)⟩
  simp (disch := omega) only [true_implies, false_implies, not_true_eq_false, not_false_eq_true, rR_of, I_n, I_neg, I_add, I_sub, I_mul, I_le4, I_lt4, I_eq4, I_div4, I_bi0, I_bi01, I_bi1, nor_em, rI_of, rV_of, zI_of, zV_of, nz_and, br_T, br_F, br_T2, br_F2, st_eq, st9_0, st_k, st_i, true_and, and_true, Classical.not_not, TlA.g1 hT, TlA.g2 hT, TlA.g4 hT, TlA.g7 hT, TlA.g8 hT, TlA.r0 hT, TlA.r3 hT, TlA.r6 hT, TlA.r5 hT, TlA.o hT, DlA.g5 hD, DlA.g6 hD, DlA.g7 hD, DlA.g8 hD, DlA.g9 hD, DlA.g10 hD, DlA.g14 hD, DlA.r0 hD, DlA.r1 hD, DlA.r2 hD, DlA.r3 hD, DlA.r4 hD, DlA.r11 hD, DlA.r12 hD, DlA.r13 hD, DlA.r15 hD, DlA.r16 hD, DlA.gA3 hD, DlA.rA0 hD, DlA.rA1 hD, DlA.rA2 hD, DlA.o hD, DlA.oA hD, PlanAt.g0 hP, PlanAt.g1 hP, PlanAt.g2 hP, PlanAt.g3 hP, PlanAt.g13 hP, PlanAt.g15 hP, PlanAt.r4 hP, PlanAt.r5 hP, PlanAt.r6 hP, PlanAt.r7 hP, PlanAt.r8 hP, PlanAt.r9 hP, PlanAt.r10 hP, PlanAt.r11 hP, PlanAt.r12 hP, PlanAt.r14 hP, PlanAt.isO hP]
  refine ⟨fun q => good (by unfold tCon; rw [if_pos hs01, if_neg (fun k => k.1 q)]), fun q => ⟨fun q2 => good (by unfold tCon; rw [if_pos hs01, if_neg (fun k => q2 k.2.1)]), fun q2 => ?_⟩⟩
  refine ⟨fun q3 => bad (by unfold tCon; rw [if_pos hs01, if_pos ⟨q, q2, by omega⟩]), fun q3 => good (by unfold tCon; rw [if_pos hs01, if_neg (fun k => by omega)])⟩
theorem m_fetch (hl : l.stackTraces = false) {o : Nat} {fs : List Value} (h : TAt X A w t V a f c S) (ri : RI S e) (ho : A.2 o = some (ob 7 fs)) (hto : t ≠ o) (hol : o < A.1) (he : e + 1000 ≤ 2000000000) {s k : Int} (hs : sm s) (hk : sm k) : Ct l X 30 M_X5_fetch [.ref t, .int (I s), .int (I k)] A 24 850 (MP X A w o t S (tFet (S 0) s k) "java/lang/IndexOutOfBoundsException" "java/lang/IllegalStateException" (Ri (I (rFe s (gF (S 0) k) (gPo (S 0) k).toNat 0 (S 0)).2)) (sr (kS S) (rFe s (gF (S 0) k) (gPo (S 0) k).toNat 0 (S 0)).1)) := by
  obtain ⟨s1, s2⟩ := id hs
  obtain ⟨k1, k2⟩ := id hk
  have w0 := ri.1
  obtain ⟨Q, hQ⟩ : ∃ Q, Q = (MP X A w o t S (tFet (S 0) s k) "java/lang/IndexOutOfBoundsException" "java/lang/IllegalStateException" (Ri (I (rFe s (gF (S 0) k) (gPo (S 0) k).toNat 0 (S 0)).2)) (sr (kS S) (rFe s (gF (S 0) k) (gPo (S 0) k).toNat 0 (S 0)).1)) := ⟨_, rfl⟩
  rw [← hQ]
  have b5 := w0.2.2.2.2.1
  obtain ⟨n1, n2, -⟩ := gN_b w0.1
  have hT := h.1
  obtain ⟨p, D, P, la, g, m, hD, hP, hR, hDR, hL, hPT, hO, hOP, hd⟩ := h.2.2.1.1.parts
  have p2 := hR.1.2.2.1
  refine Ct.of hl rfl rfl (Nat.le_of_ble_eq_true rfl) (k_X5_fetch_0 ?_)
  simp only [I_n]
  refine cal_NE (c_X5_needIndex hl hs ⟨by decide, by decide⟩) (by decide) (by decide) (by decide) (fun h1 => ?_) (fun h1 A' a1 a2 => by rw [hQ]; exact MP_1 h (tr2_1 (fun k => h1 (by omega))) a1 a2)
  have hs01 : 0 ≤ s ∧ s ≤ 1 := by omega
  simp (disch := omega) only [true_implies, false_implies, not_true_eq_false, not_false_eq_true, rR_of, I_n, I_neg, I_add, I_sub, I_mul, I_le4, I_lt4, I_eq4, I_div4, I_bi0, I_bi01, I_bi1, nor_em, rI_of, rV_of, zI_of, zV_of, nz_and, br_T, br_F, br_T2, br_F2, st_eq, st9_0, st_k, st_i, true_and, and_true, Classical.not_not, TlA.g1 hT, TlA.g2 hT, TlA.g4 hT, TlA.g7 hT, TlA.g8 hT, TlA.r0 hT, TlA.r3 hT, TlA.r6 hT, TlA.r5 hT, TlA.o hT, DlA.g5 hD, DlA.g6 hD, DlA.g7 hD, DlA.g8 hD, DlA.g9 hD, DlA.g10 hD, DlA.g14 hD, DlA.r0 hD, DlA.r1 hD, DlA.r2 hD, DlA.r3 hD, DlA.r4 hD, DlA.r11 hD, DlA.r12 hD, DlA.r13 hD, DlA.r15 hD, DlA.r16 hD, DlA.gA3 hD, DlA.rA0 hD, DlA.rA1 hD, DlA.rA2 hD, DlA.o hD, DlA.oA hD, PlanAt.g0 hP, PlanAt.g1 hP, PlanAt.g2 hP, PlanAt.g3 hP, PlanAt.g13 hP, PlanAt.g15 hP, PlanAt.r4 hP, PlanAt.r5 hP, PlanAt.r6 hP, PlanAt.r7 hP, PlanAt.r8 hP, PlanAt.r9 hP, PlanAt.r10 hP, PlanAt.r11 hP, PlanAt.r12 hP, PlanAt.r14 hP, PlanAt.isO hP]
  rw [p2]
  refine cal_NE (c_X5_needIndex hl hk ⟨by omega, by omega⟩) (by decide) (by decide) (by decide) (fun h2 => ?_) (fun h2 A' a1 a2 => by rw [hQ]; exact MP_1 h (tr2_1 (fun k => h2 k.2)) a1 a2)
  have hk1 : k < gN (S 0) := by omega
  obtain ⟨o1, o2, -⟩ := gPo_b w0.1 h2.1 hk1
  obtain ⟨e1, e2, -⟩ := gE_b w0.1
  have bad : ¬ (¬ S 0 (14 + s) = 0 ∧ ¬ gMi (S 0) k = 0) → G l X M_X5_fetch 30 Q 49 [(0, .ref t), (1, .int (I s)), (2, .int (I k))] [.int (I 0)] A (24 - 1 - 1) (850 - 6 - 6) := fun hz => by
    refine k_X5_fetch_49 ?_
    exact cal_NE (c_X5_needState hl ⟨by decide, by decide⟩) (by decide) (by decide) (by decide) (fun h3 => absurd rfl h3) (fun h3 A' a1 a2 => by rw [hQ]; exact MP_2 h (tr2_2 ⟨hs01, h2⟩ hz) a1 a2)
  have good : (¬ S 0 (14 + s) = 0 ∧ ¬ gMi (S 0) k = 0) → G l X M_X5_fetch 30 Q 49 [(0, .ref t), (1, .int (I s)), (2, .int (I k))] [.int (I 1)] A (24 - 1 - 1) (850 - 6 - 6) := fun hz => by
    refine k_X5_fetch_49 ?_
    refine cal_NE (c_X5_needState hl ⟨by decide, by decide⟩) (by decide) (by decide) (by decide) (fun h3 => ?_) (fun h3 A' a1 a2 => absurd (by decide) h3)
    simp (disch := omega) only [true_implies, false_implies, not_true_eq_false, not_false_eq_true, rR_of, I_n, I_neg, I_add, I_sub, I_mul, I_le4, I_lt4, I_eq4, I_div4, I_bi0, I_bi01, I_bi1, nor_em, rI_of, rV_of, zI_of, zV_of, nz_and, br_T, br_F, br_T2, br_F2, st_eq, st9_0, st_k, st_i, true_and, and_true, Classical.not_not, TlA.g1 hT, TlA.g2 hT, TlA.g4 hT, TlA.g7 hT, TlA.g8 hT, TlA.r0 hT, TlA.r3 hT, TlA.r6 hT, TlA.r5 hT, TlA.o hT, DlA.g5 hD, DlA.g6 hD, DlA.g7 hD, DlA.g8 hD, DlA.g9 hD, DlA.g10 hD, DlA.g14 hD, DlA.r0 hD, DlA.r1 hD, DlA.r2 hD, DlA.r3 hD, DlA.r4 hD, DlA.r11 hD, DlA.r12 hD, DlA.r13 hD, DlA.r15 hD, DlA.r16 hD, DlA.gA3 hD, DlA.rA0 hD, DlA.rA1 hD, DlA.rA2 hD, DlA.o hD, DlA.oA hD, PlanAt.g0 hP, PlanAt.g1 hP, PlanAt.g2 hP, PlanAt.g3 hP, PlanAt.g13 hP, PlanAt.g15 hP, PlanAt.r4 hP, PlanAt.r5 hP, PlanAt.r6 hP, PlanAt.r7 hP, PlanAt.r8 hP, PlanAt.r9 hP, PlanAt.r10 hP, PlanAt.r11 hP, PlanAt.r12 hP, PlanAt.r14 hP, PlanAt.isO hP]
    refine cal_rem2 hl h ri ho hto hol (by decide) (by decide) (by decide) fun A1 w1 V1 f1 x1 x2 hao x3 => ?_
    have hT := x1.1
    obtain ⟨p, D, P, la, g, m, hD, hP, hR, hDR, hL, hPT, hO, hOP, hd⟩ := x2.parts
    simp (disch := omega) only [true_implies, false_implies, not_true_eq_false, not_false_eq_true, rR_of, I_n, I_neg, I_add, I_sub, I_mul, I_le4, I_lt4, I_eq4, I_div4, I_bi0, I_bi01, I_bi1, nor_em, rI_of, rV_of, zI_of, zV_of, nz_and, br_T, br_F, br_T2, br_F2, st_eq, st9_0, st_k, st_i, true_and, and_true, Classical.not_not, TlA.g1 hT, TlA.g2 hT, TlA.g4 hT, TlA.g7 hT, TlA.g8 hT, TlA.r0 hT, TlA.r3 hT, TlA.r6 hT, TlA.r5 hT, TlA.o hT, DlA.g5 hD, DlA.g6 hD, DlA.g7 hD, DlA.g8 hD, DlA.g9 hD, DlA.g10 hD, DlA.g14 hD, DlA.r0 hD, DlA.r1 hD, DlA.r2 hD, DlA.r3 hD, DlA.r4 hD, DlA.r11 hD, DlA.r12 hD, DlA.r13 hD, DlA.r15 hD, DlA.r16 hD, DlA.gA3 hD, DlA.rA0 hD, DlA.rA1 hD, DlA.rA2 hD, DlA.o hD, DlA.oA hD, PlanAt.g0 hP, PlanAt.g1 hP, PlanAt.g2 hP, PlanAt.g3 hP, PlanAt.g13 hP, PlanAt.g15 hP, PlanAt.r4 hP, PlanAt.r5 hP, PlanAt.r6 hP, PlanAt.r7 hP, PlanAt.r8 hP, PlanAt.r9 hP, PlanAt.r10 hP, PlanAt.r11 hP, PlanAt.r12 hP, PlanAt.r14 hP, PlanAt.isO hP]
    refine Cal.of (qC hD (c_X1_receiveMissing hl hd hP hR w0 he hDR hs01 h2.1 hk1)) (by decide) (by decide) (by decide) ?_
    rintro o1' A2 ⟨rfl, D', rfl, hq⟩
    rw [rI_of, hQ]
    obtain ⟨z1, z2, z3, z4⟩ := rFe_w hs01 (gPo (S 0) k).toNat 0 (S 0) e w0 (by omega) (by omega) h2.1 hk1 (by omega) rfl
    obtain ⟨y1, y2⟩ := x1.step w0 hD hP hL hPT hO hOP hR z2 hq
    exact MP_ok (tr2_0 ⟨hs01, h2⟩ hz) rfl y1 (x3.trans (y2.fr (by omega) (by omega)))
  have h14 := RW_14 w0 hs01
  obtain ⟨z1, z2⟩ := hDR.2.2.1 k h2.1 hk1
  have hm : 0 ≤ gMi (S 0) k ∧ gMi (S 0) k ≤ (gPo (S 0) k).toNat := sg_bi
  simp (disch := omega) only [true_implies, false_implies, not_true_eq_false, not_false_eq_true, rR_of, I_n, I_neg, I_add, I_sub, I_mul, I_le4, I_lt4, I_eq4, I_div4, I_bi0, I_bi01, I_bi1, nor_em, rI_of, rV_of, zI_of, zV_of, nz_and, br_T, br_F, br_T2, br_F2, st_eq, st9_0, st_k, st_i, true_and, and_true, Classical.not_not, TlA.g1 hT, TlA.g2 hT, TlA.g4 hT, TlA.g7 hT, TlA.g8 hT, TlA.r0 hT, TlA.r3 hT, TlA.r6 hT, TlA.r5 hT, TlA.o hT, DlA.g5 hD, DlA.g6 hD, DlA.g7 hD, DlA.g8 hD, DlA.g9 hD, DlA.g10 hD, DlA.g14 hD, DlA.r0 hD, DlA.r1 hD, DlA.r2 hD, DlA.r3 hD, DlA.r4 hD, DlA.r11 hD, DlA.r12 hD, DlA.r13 hD, DlA.r15 hD, DlA.r16 hD, DlA.gA3 hD, DlA.rA0 hD, DlA.rA1 hD, DlA.rA2 hD, DlA.o hD, DlA.oA hD, PlanAt.g0 hP, PlanAt.g1 hP, PlanAt.g2 hP, PlanAt.g3 hP, PlanAt.g13 hP, PlanAt.g15 hP, PlanAt.r4 hP, PlanAt.r5 hP, PlanAt.r6 hP, PlanAt.r7 hP, PlanAt.r8 hP, PlanAt.r9 hP, PlanAt.r10 hP, PlanAt.r11 hP, PlanAt.r12 hP, PlanAt.r14 hP, PlanAt.isO hP]
  refine (qD hD (c_X1_isConnected hl w0 hDR hs01)).cl0 (by decide) ?_
  simp (disch := omega) only [true_implies, false_implies, not_true_eq_false, not_false_eq_true, rR_of, I_n, I_neg, I_add, I_sub, I_mul, I_le4, I_lt4, I_eq4, I_div4, I_bi0, I_bi01, I_bi1, nor_em, rI_of, rV_of, zI_of, zV_of, nz_and, br_T, br_F, br_T2, br_F2, st_eq, st9_0, st_k, st_i, true_and, and_true, Classical.not_not, TlA.g1 hT, TlA.g2 hT, TlA.g4 hT, TlA.g7 hT, TlA.g8 hT, TlA.r0 hT, TlA.r3 hT, TlA.r6 hT, TlA.r5 hT, TlA.o hT, DlA.g5 hD, DlA.g6 hD, DlA.g7 hD, DlA.g8 hD, DlA.g9 hD, DlA.g10 hD, DlA.g14 hD, DlA.r0 hD, DlA.r1 hD, DlA.r2 hD, DlA.r3 hD, DlA.r4 hD, DlA.r11 hD, DlA.r12 hD, DlA.r13 hD, DlA.r15 hD, DlA.r16 hD, DlA.gA3 hD, DlA.rA0 hD, DlA.rA1 hD, DlA.rA2 hD, DlA.o hD, DlA.oA hD, PlanAt.g0 hP, PlanAt.g1 hP, PlanAt.g2 hP, PlanAt.g3 hP, PlanAt.g13 hP, PlanAt.g15 hP, PlanAt.r4 hP, PlanAt.r5 hP, PlanAt.r6 hP, PlanAt.r7 hP, PlanAt.r8 hP, PlanAt.r9 hP, PlanAt.r10 hP, PlanAt.r11 hP, PlanAt.r12 hP, PlanAt.r14 hP, PlanAt.isO hP]
  refine ⟨fun q => bad (fun k => by omega), fun q => ?_⟩
  refine (c_at hl hD.k3 (by decide) h2.1 (by omega)).cl0 (by decide) ?_
  simp (disch := omega) only [true_implies, false_implies, not_true_eq_false, not_false_eq_true, rR_of, I_n, I_neg, I_add, I_sub, I_mul, I_le4, I_lt4, I_eq4, I_div4, I_bi0, I_bi01, I_bi1, nor_em, rI_of, rV_of, zI_of, zV_of, nz_and, br_T, br_F, br_T2, br_F2, st_eq, st9_0, st_k, st_i, true_and, and_true, Classical.not_not, TlA.g1 hT, TlA.g2 hT, TlA.g4 hT, TlA.g7 hT, TlA.g8 hT, TlA.r0 hT, TlA.r3 hT, TlA.r6 hT, TlA.r5 hT, TlA.o hT, DlA.g5 hD, DlA.g6 hD, DlA.g7 hD, DlA.g8 hD, DlA.g9 hD, DlA.g10 hD, DlA.g14 hD, DlA.r0 hD, DlA.r1 hD, DlA.r2 hD, DlA.r3 hD, DlA.r4 hD, DlA.r11 hD, DlA.r12 hD, DlA.r13 hD, DlA.r15 hD, DlA.r16 hD, DlA.gA3 hD, DlA.rA0 hD, DlA.rA1 hD, DlA.rA2 hD, DlA.o hD, DlA.oA hD, PlanAt.g0 hP, PlanAt.g1 hP, PlanAt.g2 hP, PlanAt.g3 hP, PlanAt.g13 hP, PlanAt.g15 hP, PlanAt.r4 hP, PlanAt.r5 hP, PlanAt.r6 hP, PlanAt.r7 hP, PlanAt.r8 hP, PlanAt.r9 hP, PlanAt.r10 hP, PlanAt.r11 hP, PlanAt.r12 hP, PlanAt.r14 hP, PlanAt.isO hP]
  refine ⟨fun q2 => bad (fun k => by omega), fun q2 => good ⟨by omega, by omega⟩⟩
theorem m_search (hl : l.stackTraces = false) {o : Nat} {fs : List Value} (h : TAt X A w t V a f c S) (ri : RI S e) (ho : A.2 o = some (ob 7 fs)) (hto : t ≠ o) (hol : o < A.1) (he : e + 4000 ≤ 2000000000) {k : Int} (hk : sm k) : Ct l X 30 M_X5_search [.ref t, .int (I k)] A 24 850 (MP X A w o t S (tSea (S 0) k) "java/lang/IndexOutOfBoundsException" "java/lang/IllegalStateException" (Ri (I (lk0 (S 0) k).2)) (sr (kS S) (rSe (S 0) k))) := by
  obtain ⟨k1, k2⟩ := id hk
  have w0 := ri.1
  obtain ⟨Q, hQ⟩ : ∃ Q, Q = (MP X A w o t S (tSea (S 0) k) "java/lang/IndexOutOfBoundsException" "java/lang/IllegalStateException" (Ri (I (lk0 (S 0) k).2)) (sr (kS S) (rSe (S 0) k))) := ⟨_, rfl⟩
  rw [← hQ]
  have b5 := w0.2.2.2.2.1
  obtain ⟨n1, n2, -⟩ := gN_b w0.1
  have hT := h.1
  obtain ⟨p, D, P, la, g, m, hD, hP, hR, hDR, hL, hPT, hO, hOP, hd⟩ := h.2.2.1.1.parts
  have p2 := hR.1.2.2.1
  refine Ct.of hl rfl rfl (Nat.le_of_ble_eq_true rfl) (k_X5_search_0 ?_)
  simp (disch := omega) only [true_implies, false_implies, not_true_eq_false, not_false_eq_true, rR_of, I_n, I_neg, I_add, I_sub, I_mul, I_le4, I_lt4, I_eq4, I_div4, I_bi0, I_bi01, I_bi1, nor_em, rI_of, rV_of, zI_of, zV_of, nz_and, br_T, br_F, br_T2, br_F2, st_eq, st9_0, st_k, st_i, true_and, and_true, Classical.not_not, TlA.g1 hT, TlA.g2 hT, TlA.g4 hT, TlA.g7 hT, TlA.g8 hT, TlA.r0 hT, TlA.r3 hT, TlA.r6 hT, TlA.r5 hT, TlA.o hT, DlA.g5 hD, DlA.g6 hD, DlA.g7 hD, DlA.g8 hD, DlA.g9 hD, DlA.g10 hD, DlA.g14 hD, DlA.r0 hD, DlA.r1 hD, DlA.r2 hD, DlA.r3 hD, DlA.r4 hD, DlA.r11 hD, DlA.r12 hD, DlA.r13 hD, DlA.r15 hD, DlA.r16 hD, DlA.gA3 hD, DlA.rA0 hD, DlA.rA1 hD, DlA.rA2 hD, DlA.o hD, DlA.oA hD, PlanAt.g0 hP, PlanAt.g1 hP, PlanAt.g2 hP, PlanAt.g3 hP, PlanAt.g13 hP, PlanAt.g15 hP, PlanAt.r4 hP, PlanAt.r5 hP, PlanAt.r6 hP, PlanAt.r7 hP, PlanAt.r8 hP, PlanAt.r9 hP, PlanAt.r10 hP, PlanAt.r11 hP, PlanAt.r12 hP, PlanAt.r14 hP, PlanAt.isO hP]
  rw [p2]
  refine cal_NE (c_X5_needIndex hl hk ⟨by omega, by omega⟩) (by decide) (by decide) (by decide) (fun h2 => ?_) (fun h2 A' a1 a2 => by rw [hQ]; exact MP_1 h (tr2_1 h2) a1 a2)
  have hk1 : k < gN (S 0) := by omega
  obtain ⟨o1, o2, -⟩ := gPo_b w0.1 h2.1 hk1
  obtain ⟨f1, f2⟩ := gF_b w0.1 h2.1 hk1
  have bad : ¬ (gV (S 0) k = 2 ∧ ¬ S 0 14 = 0) → G l X M_X5_search 30 Q 41 [(0, .ref t), (1, .int (I k))] [.int (I 0)] A (24 - 1) (850 - 6) := fun hz => by
    refine k_X5_search_41 ?_
    exact cal_NE (c_X5_needState hl ⟨by decide, by decide⟩) (by decide) (by decide) (by decide) (fun h3 => absurd rfl h3) (fun h3 A' a1 a2 => by rw [hQ]; exact MP_2 h (tr2_2 h2 hz) a1 a2)
  have good : (gV (S 0) k = 2 ∧ ¬ S 0 14 = 0) → G l X M_X5_search 30 Q 41 [(0, .ref t), (1, .int (I k))] [.int (I 1)] A (24 - 1) (850 - 6) := fun hz => by
    refine k_X5_search_41 ?_
    refine cal_NE (c_X5_needState hl ⟨by decide, by decide⟩) (by decide) (by decide) (by decide) (fun h3 => ?_) (fun h3 A' a1 a2 => absurd (by decide) h3)
    simp (disch := omega) only [true_implies, false_implies, not_true_eq_false, not_false_eq_true, rR_of, I_n, I_neg, I_add, I_sub, I_mul, I_le4, I_lt4, I_eq4, I_div4, I_bi0, I_bi01, I_bi1, nor_em, rI_of, rV_of, zI_of, zV_of, nz_and, br_T, br_F, br_T2, br_F2, st_eq, st9_0, st_k, st_i, true_and, and_true, Classical.not_not, TlA.g1 hT, TlA.g2 hT, TlA.g4 hT, TlA.g7 hT, TlA.g8 hT, TlA.r0 hT, TlA.r3 hT, TlA.r6 hT, TlA.r5 hT, TlA.o hT, DlA.g5 hD, DlA.g6 hD, DlA.g7 hD, DlA.g8 hD, DlA.g9 hD, DlA.g10 hD, DlA.g14 hD, DlA.r0 hD, DlA.r1 hD, DlA.r2 hD, DlA.r3 hD, DlA.r4 hD, DlA.r11 hD, DlA.r12 hD, DlA.r13 hD, DlA.r15 hD, DlA.r16 hD, DlA.gA3 hD, DlA.rA0 hD, DlA.rA1 hD, DlA.rA2 hD, DlA.o hD, DlA.oA hD, PlanAt.g0 hP, PlanAt.g1 hP, PlanAt.g2 hP, PlanAt.g3 hP, PlanAt.g13 hP, PlanAt.g15 hP, PlanAt.r4 hP, PlanAt.r5 hP, PlanAt.r6 hP, PlanAt.r7 hP, PlanAt.r8 hP, PlanAt.r9 hP, PlanAt.r10 hP, PlanAt.r11 hP, PlanAt.r12 hP, PlanAt.r14 hP, PlanAt.isO hP]
    refine cal_rem2 hl h ri ho hto hol (by decide) (by decide) (by decide) fun A1 w1 V1 f1 x1 x2 hao x3 => ?_
    have hT := x1.1
    obtain ⟨p, D, P, la, g, m, hD, hP, hR, hDR, hL, hPT, hO, hOP, hd⟩ := x2.parts
    simp (disch := omega) only [true_implies, false_implies, not_true_eq_false, not_false_eq_true, rR_of, I_n, I_neg, I_add, I_sub, I_mul, I_le4, I_lt4, I_eq4, I_div4, I_bi0, I_bi01, I_bi1, nor_em, rI_of, rV_of, zI_of, zV_of, nz_and, br_T, br_F, br_T2, br_F2, st_eq, st9_0, st_k, st_i, true_and, and_true, Classical.not_not, TlA.g1 hT, TlA.g2 hT, TlA.g4 hT, TlA.g7 hT, TlA.g8 hT, TlA.r0 hT, TlA.r3 hT, TlA.r6 hT, TlA.r5 hT, TlA.o hT, DlA.g5 hD, DlA.g6 hD, DlA.g7 hD, DlA.g8 hD, DlA.g9 hD, DlA.g10 hD, DlA.g14 hD, DlA.r0 hD, DlA.r1 hD, DlA.r2 hD, DlA.r3 hD, DlA.r4 hD, DlA.r11 hD, DlA.r12 hD, DlA.r13 hD, DlA.r15 hD, DlA.r16 hD, DlA.gA3 hD, DlA.rA0 hD, DlA.rA1 hD, DlA.rA2 hD, DlA.o hD, DlA.oA hD, PlanAt.g0 hP, PlanAt.g1 hP, PlanAt.g2 hP, PlanAt.g3 hP, PlanAt.g13 hP, PlanAt.g15 hP, PlanAt.r4 hP, PlanAt.r5 hP, PlanAt.r6 hP, PlanAt.r7 hP, PlanAt.r8 hP, PlanAt.r9 hP, PlanAt.r10 hP, PlanAt.r11 hP, PlanAt.r12 hP, PlanAt.r14 hP, PlanAt.isO hP]
    refine Cal.of (qC hD (c_X1_searchPiece hl hd hP hR w0 he hDR h2.1 hk1 hz.1)) (by decide) (by decide) (by decide) ?_
    rintro o1' A2 ⟨rfl, D', rfl, hq⟩
    rw [rI_of, hQ]
    obtain ⟨z1, z2⟩ := rSe_w w0 (by omega) h2.1 hk1 hz.1
    have t12 := gT_b w0.1
    have lg := w0.1.2.1
    obtain ⟨y1, y2⟩ := x1.step w0 hD hP hL hPT hO hOP hR (fun y hy => z2 y (by unfold kp at hy; omega) (by unfold kp at hy; omega) (by unfold kp at hy; omega) (by unfold kp at hy; omega) (by unfold kp at hy; omega) (by unfold kp at hy; omega) (by unfold kp at hy; omega) (by unfold kp at hy; omega) (by unfold kp at hy; omega)) hq
    exact MP_ok (tr2_0 h2 hz) rfl y1 (x3.trans (y2.fr (by omega) (by omega)))
  simp (disch := omega) only [true_implies, false_implies, not_true_eq_false, not_false_eq_true, rR_of, I_n, I_neg, I_add, I_sub, I_mul, I_le4, I_lt4, I_eq4, I_div4, I_bi0, I_bi01, I_bi1, nor_em, rI_of, rV_of, zI_of, zV_of, nz_and, br_T, br_F, br_T2, br_F2, st_eq, st9_0, st_k, st_i, true_and, and_true, Classical.not_not, TlA.g1 hT, TlA.g2 hT, TlA.g4 hT, TlA.g7 hT, TlA.g8 hT, TlA.r0 hT, TlA.r3 hT, TlA.r6 hT, TlA.r5 hT, TlA.o hT, DlA.g5 hD, DlA.g6 hD, DlA.g7 hD, DlA.g8 hD, DlA.g9 hD, DlA.g10 hD, DlA.g14 hD, DlA.r0 hD, DlA.r1 hD, DlA.r2 hD, DlA.r3 hD, DlA.r4 hD, DlA.r11 hD, DlA.r12 hD, DlA.r13 hD, DlA.r15 hD, DlA.r16 hD, DlA.gA3 hD, DlA.rA0 hD, DlA.rA1 hD, DlA.rA2 hD, DlA.o hD, DlA.oA hD, PlanAt.g0 hP, PlanAt.g1 hP, PlanAt.g2 hP, PlanAt.g3 hP, PlanAt.g13 hP, PlanAt.g15 hP, PlanAt.r4 hP, PlanAt.r5 hP, PlanAt.r6 hP, PlanAt.r7 hP, PlanAt.r8 hP, PlanAt.r9 hP, PlanAt.r10 hP, PlanAt.r11 hP, PlanAt.r12 hP, PlanAt.r14 hP, PlanAt.isO hP]
  refine (qD hD (c_X1_isSuspect hl w0 hDR h2.1 hk1)).cl0 (by decide) ?_
  simp (disch := omega) only [true_implies, false_implies, not_true_eq_false, not_false_eq_true, rR_of, I_n, I_neg, I_add, I_sub, I_mul, I_le4, I_lt4, I_eq4, I_div4, I_bi0, I_bi01, I_bi1, nor_em, rI_of, rV_of, zI_of, zV_of, nz_and, br_T, br_F, br_T2, br_F2, st_eq, st9_0, st_k, st_i, true_and, and_true, Classical.not_not, TlA.g1 hT, TlA.g2 hT, TlA.g4 hT, TlA.g7 hT, TlA.g8 hT, TlA.r0 hT, TlA.r3 hT, TlA.r6 hT, TlA.r5 hT, TlA.o hT, DlA.g5 hD, DlA.g6 hD, DlA.g7 hD, DlA.g8 hD, DlA.g9 hD, DlA.g10 hD, DlA.g14 hD, DlA.r0 hD, DlA.r1 hD, DlA.r2 hD, DlA.r3 hD, DlA.r4 hD, DlA.r11 hD, DlA.r12 hD, DlA.r13 hD, DlA.r15 hD, DlA.r16 hD, DlA.gA3 hD, DlA.rA0 hD, DlA.rA1 hD, DlA.rA2 hD, DlA.o hD, DlA.oA hD, PlanAt.g0 hP, PlanAt.g1 hP, PlanAt.g2 hP, PlanAt.g3 hP, PlanAt.g13 hP, PlanAt.g15 hP, PlanAt.r4 hP, PlanAt.r5 hP, PlanAt.r6 hP, PlanAt.r7 hP, PlanAt.r8 hP, PlanAt.r9 hP, PlanAt.r10 hP, PlanAt.r11 hP, PlanAt.r12 hP, PlanAt.r14 hP, PlanAt.isO hP]
  refine ⟨fun q => bad (fun k => q k.1), fun q => ?_⟩
  refine (qD hD (c_X1_isConnected hl w0 hDR (s := 0) ⟨by decide, by decide⟩)).cl0 (by decide) ?_
  rw [Int.add_zero]
  simp (disch := omega) only [true_implies, false_implies, not_true_eq_false, not_false_eq_true, rR_of, I_n, I_neg, I_add, I_sub, I_mul, I_le4, I_lt4, I_eq4, I_div4, I_bi0, I_bi01, I_bi1, nor_em, rI_of, rV_of, zI_of, zV_of, nz_and, br_T, br_F, br_T2, br_F2, st_eq, st9_0, st_k, st_i, true_and, and_true, Classical.not_not, TlA.g1 hT, TlA.g2 hT, TlA.g4 hT, TlA.g7 hT, TlA.g8 hT, TlA.r0 hT, TlA.r3 hT, TlA.r6 hT, TlA.r5 hT, TlA.o hT, DlA.g5 hD, DlA.g6 hD, DlA.g7 hD, DlA.g8 hD, DlA.g9 hD, DlA.g10 hD, DlA.g14 hD, DlA.r0 hD, DlA.r1 hD, DlA.r2 hD, DlA.r3 hD, DlA.r4 hD, DlA.r11 hD, DlA.r12 hD, DlA.r13 hD, DlA.r15 hD, DlA.r16 hD, DlA.gA3 hD, DlA.rA0 hD, DlA.rA1 hD, DlA.rA2 hD, DlA.o hD, DlA.oA hD, PlanAt.g0 hP, PlanAt.g1 hP, PlanAt.g2 hP, PlanAt.g3 hP, PlanAt.g13 hP, PlanAt.g15 hP, PlanAt.r4 hP, PlanAt.r5 hP, PlanAt.r6 hP, PlanAt.r7 hP, PlanAt.r8 hP, PlanAt.r9 hP, PlanAt.r10 hP, PlanAt.r11 hP, PlanAt.r12 hP, PlanAt.r14 hP, PlanAt.isO hP]
  exact ⟨fun q2 => bad (fun k => by omega), fun q2 => good ⟨q, by omega⟩⟩
theorem m_drop (hl : l.stackTraces = false) {o : Nat} {fs : List Value} (h : TAt X A w t V a f c S) (ri : RI S e) (ho : A.2 o = some (ob 7 fs)) (hto : t ≠ o) (hol : o < A.1) {k : Int} (hk : sm k) : Ct l X 30 M_X5_drop [.ref t, .int (I k)] A 24 850 (MP X A w o t S (tr2 (0 ≤ k ∧ k ≤ gT (S 0) - 1) (¬ S 0 (96 + k) = 0)) "java/lang/IndexOutOfBoundsException" "java/lang/IllegalStateException" (Ri (I (S 0 (96 + k) - 1))) (sr (kS S) (rs (S 0) (96 + k) 0))) := by
  obtain ⟨k1, k2⟩ := id hk
  have w0 := ri.1
  obtain ⟨Q, hQ⟩ : ∃ Q, Q = (MP X A w o t S (tr2 (0 ≤ k ∧ k ≤ gT (S 0) - 1) (¬ S 0 (96 + k) = 0)) "java/lang/IndexOutOfBoundsException" "java/lang/IllegalStateException" (Ri (I (S 0 (96 + k) - 1))) (sr (kS S) (rs (S 0) (96 + k) 0))) := ⟨_, rfl⟩
  rw [← hQ]
  obtain ⟨t1, t2⟩ := gT_b w0.1
  have lg := w0.1.2.1
  have hT := h.1
  obtain ⟨p, D, P, la, g, m, hD, hP, hR, hDR, hL, hPT, hO, hOP, hd⟩ := h.2.2.1.1.parts
  have p3 := hR.1.2.2.2.1
  refine Ct.of hl rfl rfl (Nat.le_of_ble_eq_true rfl) (k_X5_drop_0 ?_)
  simp (disch := omega) only [true_implies, false_implies, not_true_eq_false, not_false_eq_true, rR_of, I_n, I_neg, I_add, I_sub, I_mul, I_le4, I_lt4, I_eq4, I_div4, I_bi0, I_bi01, I_bi1, nor_em, rI_of, rV_of, zI_of, zV_of, nz_and, br_T, br_F, br_T2, br_F2, st_eq, st9_0, st_k, st_i, true_and, and_true, Classical.not_not, TlA.g1 hT, TlA.g2 hT, TlA.g4 hT, TlA.g7 hT, TlA.g8 hT, TlA.r0 hT, TlA.r3 hT, TlA.r6 hT, TlA.r5 hT, TlA.o hT, DlA.g5 hD, DlA.g6 hD, DlA.g7 hD, DlA.g8 hD, DlA.g9 hD, DlA.g10 hD, DlA.g14 hD, DlA.r0 hD, DlA.r1 hD, DlA.r2 hD, DlA.r3 hD, DlA.r4 hD, DlA.r11 hD, DlA.r12 hD, DlA.r13 hD, DlA.r15 hD, DlA.r16 hD, DlA.gA3 hD, DlA.rA0 hD, DlA.rA1 hD, DlA.rA2 hD, DlA.o hD, DlA.oA hD, PlanAt.g0 hP, PlanAt.g1 hP, PlanAt.g2 hP, PlanAt.g3 hP, PlanAt.g13 hP, PlanAt.g15 hP, PlanAt.r4 hP, PlanAt.r5 hP, PlanAt.r6 hP, PlanAt.r7 hP, PlanAt.r8 hP, PlanAt.r9 hP, PlanAt.r10 hP, PlanAt.r11 hP, PlanAt.r12 hP, PlanAt.r14 hP, PlanAt.isO hP]
  rw [p3]
  refine cal_NE (c_X5_needIndex hl hk ⟨by omega, by omega⟩) (by decide) (by decide) (by decide) (fun h2 => ?_) (fun h2 A' a1 a2 => by rw [hQ]; exact MP_1 h (tr2_1 h2) a1 a2)
  have hk1 : k < gT (S 0) := by omega
  simp (disch := omega) only [true_implies, false_implies, not_true_eq_false, not_false_eq_true, rR_of, I_n, I_neg, I_add, I_sub, I_mul, I_le4, I_lt4, I_eq4, I_div4, I_bi0, I_bi01, I_bi1, nor_em, rI_of, rV_of, zI_of, zV_of, nz_and, br_T, br_F, br_T2, br_F2, st_eq, st9_0, st_k, st_i, true_and, and_true, Classical.not_not, TlA.g1 hT, TlA.g2 hT, TlA.g4 hT, TlA.g7 hT, TlA.g8 hT, TlA.r0 hT, TlA.r3 hT, TlA.r6 hT, TlA.r5 hT, TlA.o hT, DlA.g5 hD, DlA.g6 hD, DlA.g7 hD, DlA.g8 hD, DlA.g9 hD, DlA.g10 hD, DlA.g14 hD, DlA.r0 hD, DlA.r1 hD, DlA.r2 hD, DlA.r3 hD, DlA.r4 hD, DlA.r11 hD, DlA.r12 hD, DlA.r13 hD, DlA.r15 hD, DlA.r16 hD, DlA.gA3 hD, DlA.rA0 hD, DlA.rA1 hD, DlA.rA2 hD, DlA.o hD, DlA.oA hD, PlanAt.g0 hP, PlanAt.g1 hP, PlanAt.g2 hP, PlanAt.g3 hP, PlanAt.g13 hP, PlanAt.g15 hP, PlanAt.r4 hP, PlanAt.r5 hP, PlanAt.r6 hP, PlanAt.r7 hP, PlanAt.r8 hP, PlanAt.r9 hP, PlanAt.r10 hP, PlanAt.r11 hP, PlanAt.r12 hP, PlanAt.r14 hP, PlanAt.isO hP]
  refine (qD hD (c_X1_isMissing hl w0 hDR h2.1 hk1)).cl0 (by decide) ?_
  simp (disch := omega) only [true_implies, false_implies, not_true_eq_false, not_false_eq_true, rR_of, I_n, I_neg, I_add, I_sub, I_mul, I_le4, I_lt4, I_eq4, I_div4, I_bi0, I_bi01, I_bi1, nor_em, rI_of, rV_of, zI_of, zV_of, nz_and, br_T, br_F, br_T2, br_F2, st_eq, st9_0, st_k, st_i, true_and, and_true, Classical.not_not, TlA.g1 hT, TlA.g2 hT, TlA.g4 hT, TlA.g7 hT, TlA.g8 hT, TlA.r0 hT, TlA.r3 hT, TlA.r6 hT, TlA.r5 hT, TlA.o hT, DlA.g5 hD, DlA.g6 hD, DlA.g7 hD, DlA.g8 hD, DlA.g9 hD, DlA.g10 hD, DlA.g14 hD, DlA.r0 hD, DlA.r1 hD, DlA.r2 hD, DlA.r3 hD, DlA.r4 hD, DlA.r11 hD, DlA.r12 hD, DlA.r13 hD, DlA.r15 hD, DlA.r16 hD, DlA.gA3 hD, DlA.rA0 hD, DlA.rA1 hD, DlA.rA2 hD, DlA.o hD, DlA.oA hD, PlanAt.g0 hP, PlanAt.g1 hP, PlanAt.g2 hP, PlanAt.g3 hP, PlanAt.g13 hP, PlanAt.g15 hP, PlanAt.r4 hP, PlanAt.r5 hP, PlanAt.r6 hP, PlanAt.r7 hP, PlanAt.r8 hP, PlanAt.r9 hP, PlanAt.r10 hP, PlanAt.r11 hP, PlanAt.r12 hP, PlanAt.r14 hP, PlanAt.isO hP]
  refine ⟨fun q => ?_, fun q => ?_⟩
  · refine k_X5_drop_30 ?_
    exact cal_NE (c_X5_needState hl ⟨by decide, by decide⟩) (by decide) (by decide) (by decide) (fun h3 => absurd rfl h3) (fun h3 A' a1 a2 => by rw [hQ]; exact MP_2 h (tr2_2 h2 (fun k => k q)) a1 a2)
  · refine k_X5_drop_30 ?_
    refine cal_NE (c_X5_needState hl ⟨by decide, by decide⟩) (by decide) (by decide) (by decide) (fun h3 => ?_) (fun h3 A' a1 a2 => absurd (by decide) h3)
    simp (disch := omega) only [true_implies, false_implies, not_true_eq_false, not_false_eq_true, rR_of, I_n, I_neg, I_add, I_sub, I_mul, I_le4, I_lt4, I_eq4, I_div4, I_bi0, I_bi01, I_bi1, nor_em, rI_of, rV_of, zI_of, zV_of, nz_and, br_T, br_F, br_T2, br_F2, st_eq, st9_0, st_k, st_i, true_and, and_true, Classical.not_not, TlA.g1 hT, TlA.g2 hT, TlA.g4 hT, TlA.g7 hT, TlA.g8 hT, TlA.r0 hT, TlA.r3 hT, TlA.r6 hT, TlA.r5 hT, TlA.o hT, DlA.g5 hD, DlA.g6 hD, DlA.g7 hD, DlA.g8 hD, DlA.g9 hD, DlA.g10 hD, DlA.g14 hD, DlA.r0 hD, DlA.r1 hD, DlA.r2 hD, DlA.r3 hD, DlA.r4 hD, DlA.r11 hD, DlA.r12 hD, DlA.r13 hD, DlA.r15 hD, DlA.r16 hD, DlA.gA3 hD, DlA.rA0 hD, DlA.rA1 hD, DlA.rA2 hD, DlA.o hD, DlA.oA hD, PlanAt.g0 hP, PlanAt.g1 hP, PlanAt.g2 hP, PlanAt.g3 hP, PlanAt.g13 hP, PlanAt.g15 hP, PlanAt.r4 hP, PlanAt.r5 hP, PlanAt.r6 hP, PlanAt.r7 hP, PlanAt.r8 hP, PlanAt.r9 hP, PlanAt.r10 hP, PlanAt.r11 hP, PlanAt.r12 hP, PlanAt.r14 hP, PlanAt.isO hP]
    refine cal_rem2 hl h ri ho hto hol (by decide) (by decide) (by decide) fun A1 w1 V1 f1 x1 x2 hao x3 => ?_
    have hT := x1.1
    obtain ⟨p, D, P, la, g, m, hD, hP, hR, hDR, hL, hPT, hO, hOP, hd⟩ := x2.parts
    simp (disch := omega) only [true_implies, false_implies, not_true_eq_false, not_false_eq_true, rR_of, I_n, I_neg, I_add, I_sub, I_mul, I_le4, I_lt4, I_eq4, I_div4, I_bi0, I_bi01, I_bi1, nor_em, rI_of, rV_of, zI_of, zV_of, nz_and, br_T, br_F, br_T2, br_F2, st_eq, st9_0, st_k, st_i, true_and, and_true, Classical.not_not, TlA.g1 hT, TlA.g2 hT, TlA.g4 hT, TlA.g7 hT, TlA.g8 hT, TlA.r0 hT, TlA.r3 hT, TlA.r6 hT, TlA.r5 hT, TlA.o hT, DlA.g5 hD, DlA.g6 hD, DlA.g7 hD, DlA.g8 hD, DlA.g9 hD, DlA.g10 hD, DlA.g14 hD, DlA.r0 hD, DlA.r1 hD, DlA.r2 hD, DlA.r3 hD, DlA.r4 hD, DlA.r11 hD, DlA.r12 hD, DlA.r13 hD, DlA.r15 hD, DlA.r16 hD, DlA.gA3 hD, DlA.rA0 hD, DlA.rA1 hD, DlA.rA2 hD, DlA.o hD, DlA.oA hD, PlanAt.g0 hP, PlanAt.g1 hP, PlanAt.g2 hP, PlanAt.g3 hP, PlanAt.g13 hP, PlanAt.g15 hP, PlanAt.r4 hP, PlanAt.r5 hP, PlanAt.r6 hP, PlanAt.r7 hP, PlanAt.r8 hP, PlanAt.r9 hP, PlanAt.r10 hP, PlanAt.r11 hP, PlanAt.r12 hP, PlanAt.r14 hP, PlanAt.isO hP]
    refine (c_at hl hD.k2 (by decide) h2.1 (by omega)).cl0 (by decide) ?_
    simp (disch := omega) only [true_implies, false_implies, not_true_eq_false, not_false_eq_true, rR_of, I_n, I_neg, I_add, I_sub, I_mul, I_le4, I_lt4, I_eq4, I_div4, I_bi0, I_bi01, I_bi1, nor_em, rI_of, rV_of, zI_of, zV_of, nz_and, br_T, br_F, br_T2, br_F2, st_eq, st9_0, st_k, st_i, true_and, and_true, Classical.not_not, TlA.g1 hT, TlA.g2 hT, TlA.g4 hT, TlA.g7 hT, TlA.g8 hT, TlA.r0 hT, TlA.r3 hT, TlA.r6 hT, TlA.r5 hT, TlA.o hT, DlA.g5 hD, DlA.g6 hD, DlA.g7 hD, DlA.g8 hD, DlA.g9 hD, DlA.g10 hD, DlA.g14 hD, DlA.r0 hD, DlA.r1 hD, DlA.r2 hD, DlA.r3 hD, DlA.r4 hD, DlA.r11 hD, DlA.r12 hD, DlA.r13 hD, DlA.r15 hD, DlA.r16 hD, DlA.gA3 hD, DlA.rA0 hD, DlA.rA1 hD, DlA.rA2 hD, DlA.o hD, DlA.oA hD, PlanAt.g0 hP, PlanAt.g1 hP, PlanAt.g2 hP, PlanAt.g3 hP, PlanAt.g13 hP, PlanAt.g15 hP, PlanAt.r4 hP, PlanAt.r5 hP, PlanAt.r6 hP, PlanAt.r7 hP, PlanAt.r8 hP, PlanAt.r9 hP, PlanAt.r10 hP, PlanAt.r11 hP, PlanAt.r12 hP, PlanAt.r14 hP, PlanAt.isO hP]
    rw [hDR.2.1 k h2.1 hk1]
    have hp := c_X1_lose (X := X) (a := a) (p := p) (B := A1) hl hd hP hR w0 hDR h2.1 hk1
    unfold Fn at hp
    refine Cal.of (qC hD hp) (by decide) (by decide) (by decide) ?_
    rintro o1 A2 ⟨rfl, rfl⟩
    rw [rV_of, hQ]
    obtain ⟨y1, y2⟩ := x1.step w0 hD hP hL hPT hO hOP hR (q := rs (S 0) (96 + k) 0) (fun y hy => rs_ne (by unfold kp at hy; omega)) (DR_lose w0 h2.1 hk1 q hDR)
    exact MP_ok (tr2_0 h2 q) rfl y1 (x3.trans (y2.fr (by omega) (by omega)))
theorem m_run (hl : l.stackTraces = false) {o : Nat} {fs : List Value} (h : TAt X A w t V a f c S) (ri : RI S e) (ho : A.2 o = some (ob 7 fs)) (hto : t ≠ o) (hol : o < A.1) (he : e + 4000000 ≤ 2000000000) {k : Int} (hk : sm k) : Ct l X 30 M_X5_run [.ref t, .int (I k)] A 24 850 (MP X A w o t S (if 1 ≤ k ∧ k ≤ 300 then 0 else 1) "java/lang/IllegalArgumentException" "" (Ri (I (rRun k.toNat (S 0) 0).2)) (sr (kS S) (rRun k.toNat (S 0) 0).1)) := by
  obtain ⟨k1, k2⟩ := id hk
  have w0 := ri.1
  obtain ⟨Q, hQ⟩ : ∃ Q, Q = (MP X A w o t S (if 1 ≤ k ∧ k ≤ 300 then 0 else 1) "java/lang/IllegalArgumentException" "" (Ri (I (rRun k.toNat (S 0) 0).2)) (sr (kS S) (rRun k.toNat (S 0) 0).1)) := ⟨_, rfl⟩
  rw [← hQ]
  have hT := h.1
  obtain ⟨p, D, P, la, g, m, hD, hP, hR, hDR, hL, hPT, hO, hOP, hd⟩ := h.2.2.1.1.parts
  have bad : ¬ (1 ≤ k ∧ k ≤ 300) → G l X M_X5_run 30 Q 17 [(0, .ref t), (1, .int (I k))] [.int (I 0)] A 24 850 := fun hz => by
    refine k_X5_run_17 ?_
    exact cal_NE (c_X5_needArgument hl ⟨by decide, by decide⟩) (by decide) (by decide) (by decide) (fun h3 => absurd rfl h3) (fun h3 A' a1 a2 => by rw [hQ]; exact MP_1 h (if_neg hz) a1 a2)
  refine Ct.of hl rfl rfl (Nat.le_of_ble_eq_true rfl) (k_X5_run_0 ?_)
  simp (disch := omega) only [true_implies, false_implies, not_true_eq_false, not_false_eq_true, rR_of, I_n, I_neg, I_add, I_sub, I_mul, I_le4, I_lt4, I_eq4, I_div4, I_bi0, I_bi01, I_bi1, nor_em, rI_of, rV_of, zI_of, zV_of, nz_and, br_T, br_F, br_T2, br_F2, st_eq, st9_0, st_k, st_i, true_and, and_true, Classical.not_not, TlA.g1 hT, TlA.g2 hT, TlA.g4 hT, TlA.g7 hT, TlA.g8 hT, TlA.r0 hT, TlA.r3 hT, TlA.r6 hT, TlA.r5 hT, TlA.o hT, DlA.g5 hD, DlA.g6 hD, DlA.g7 hD, DlA.g8 hD, DlA.g9 hD, DlA.g10 hD, DlA.g14 hD, DlA.r0 hD, DlA.r1 hD, DlA.r2 hD, DlA.r3 hD, DlA.r4 hD, DlA.r11 hD, DlA.r12 hD, DlA.r13 hD, DlA.r15 hD, DlA.r16 hD, DlA.gA3 hD, DlA.rA0 hD, DlA.rA1 hD, DlA.rA2 hD, DlA.o hD, DlA.oA hD, PlanAt.g0 hP, PlanAt.g1 hP, PlanAt.g2 hP, PlanAt.g3 hP, PlanAt.g13 hP, PlanAt.g15 hP, PlanAt.r4 hP, PlanAt.r5 hP, PlanAt.r6 hP, PlanAt.r7 hP, PlanAt.r8 hP, PlanAt.r9 hP, PlanAt.r10 hP, PlanAt.r11 hP, PlanAt.r12 hP, PlanAt.r14 hP, PlanAt.isO hP]
  refine ⟨fun q => bad (by omega), fun q => ⟨fun q2 => bad (by omega), fun q2 => ?_⟩⟩
  refine k_X5_run_17 ?_
  refine cal_NE (c_X5_needArgument hl ⟨by decide, by decide⟩) (by decide) (by decide) (by decide) (fun h3 => ?_) (fun h3 A' a1 a2 => absurd (by decide) h3)
  simp (disch := omega) only [true_implies, false_implies, not_true_eq_false, not_false_eq_true, rR_of, I_n, I_neg, I_add, I_sub, I_mul, I_le4, I_lt4, I_eq4, I_div4, I_bi0, I_bi01, I_bi1, nor_em, rI_of, rV_of, zI_of, zV_of, nz_and, br_T, br_F, br_T2, br_F2, st_eq, st9_0, st_k, st_i, true_and, and_true, Classical.not_not, TlA.g1 hT, TlA.g2 hT, TlA.g4 hT, TlA.g7 hT, TlA.g8 hT, TlA.r0 hT, TlA.r3 hT, TlA.r6 hT, TlA.r5 hT, TlA.o hT, DlA.g5 hD, DlA.g6 hD, DlA.g7 hD, DlA.g8 hD, DlA.g9 hD, DlA.g10 hD, DlA.g14 hD, DlA.r0 hD, DlA.r1 hD, DlA.r2 hD, DlA.r3 hD, DlA.r4 hD, DlA.r11 hD, DlA.r12 hD, DlA.r13 hD, DlA.r15 hD, DlA.r16 hD, DlA.gA3 hD, DlA.rA0 hD, DlA.rA1 hD, DlA.rA2 hD, DlA.o hD, DlA.oA hD, PlanAt.g0 hP, PlanAt.g1 hP, PlanAt.g2 hP, PlanAt.g3 hP, PlanAt.g13 hP, PlanAt.g15 hP, PlanAt.r4 hP, PlanAt.r5 hP, PlanAt.r6 hP, PlanAt.r7 hP, PlanAt.r8 hP, PlanAt.r9 hP, PlanAt.r10 hP, PlanAt.r11 hP, PlanAt.r12 hP, PlanAt.r14 hP, PlanAt.isO hP]
  refine cal_rem2 hl h ri ho hto hol (by decide) (by decide) (by decide) fun A1 w1 V1 f1 x1 x2 hao x3 => ?_
  have hT := x1.1
  obtain ⟨p, D, P, la, g, m, hD, hP, hR, hDR, hL, hPT, hO, hOP, hd⟩ := x2.parts
  simp (disch := omega) only [true_implies, false_implies, not_true_eq_false, not_false_eq_true, rR_of, I_n, I_neg, I_add, I_sub, I_mul, I_le4, I_lt4, I_eq4, I_div4, I_bi0, I_bi01, I_bi1, nor_em, rI_of, rV_of, zI_of, zV_of, nz_and, br_T, br_F, br_T2, br_F2, st_eq, st9_0, st_k, st_i, true_and, and_true, Classical.not_not, TlA.g1 hT, TlA.g2 hT, TlA.g4 hT, TlA.g7 hT, TlA.g8 hT, TlA.r0 hT, TlA.r3 hT, TlA.r6 hT, TlA.r5 hT, TlA.o hT, DlA.g5 hD, DlA.g6 hD, DlA.g7 hD, DlA.g8 hD, DlA.g9 hD, DlA.g10 hD, DlA.g14 hD, DlA.r0 hD, DlA.r1 hD, DlA.r2 hD, DlA.r3 hD, DlA.r4 hD, DlA.r11 hD, DlA.r12 hD, DlA.r13 hD, DlA.r15 hD, DlA.r16 hD, DlA.gA3 hD, DlA.rA0 hD, DlA.rA1 hD, DlA.rA2 hD, DlA.o hD, DlA.oA hD, PlanAt.g0 hP, PlanAt.g1 hP, PlanAt.g2 hP, PlanAt.g3 hP, PlanAt.g13 hP, PlanAt.g15 hP, PlanAt.r4 hP, PlanAt.r5 hP, PlanAt.r6 hP, PlanAt.r7 hP, PlanAt.r8 hP, PlanAt.r9 hP, PlanAt.r10 hP, PlanAt.r11 hP, PlanAt.r12 hP, PlanAt.r14 hP, PlanAt.isO hP]
  have hc := c_X1_makeTicks (X := X) (a := a) (B := A1) hl hd hP hR w0 (m := k.toNat) (by omega) (by omega) hDR
  rw [show ((k.toNat : Nat) : Int) = k by omega] at hc
  refine Cal.of (qC hD hc) (by decide) (by decide) (by decide) ?_
  rintro o1' A2 ⟨rfl, D', rfl, hq⟩
  rw [rI_of, hQ]
  obtain ⟨z1, z2, z3, z4⟩ := rRun_w k.toNat (S 0) 0 e w0 (by omega)
  obtain ⟨y1, y2⟩ := x1.step w0 hD hP hL hPT hO hOP hR z2 hq
  exact MP_ok (if_pos (by omega)) rfl y1 (x3.trans (y2.fr (by omega) (by omega)))
end MU
