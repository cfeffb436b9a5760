/-! the class: partial files spoiled, thrown away, kept, resumed -/
section PM
variable {l : Launch} {X : XT} {A A' : AH} {w w' : Nat → Nat} {t a p : Nat} {V : Nat → Int → Int} {f : Nat → Option Nat} {c : Option Nat} {S T : Nat → Int → Int} {e : Int} {D D' P : Nat → Int → Int} {la : Nat} {g : Nat → Option Nat} {m : Int32} {q r : Int → Int}
theorem st_rs {r : Int → Int} {k v : Int} : st (fun _ => r) 0 k v 0 = rs r k v := by
  funext b
  exact st_if
theorem c_addTo (hl : l.stackTraces = false) {b n : Nat} {u : Int → Int} (hb : A.2 b = some (ia X n (fun k => I (u k)))) (hn : n ≤ 100000) {k v : Int} (h0 : 0 ≤ k) (h1 : k < n) (hg : 0 ≤ u k + v) : Fn l X 1 M_X5_addTo [.ref b, .int (I k), .int (I v)] A 0 0 Rv (up A b (ia X n (fun j => I (rs u k ((u k + v) % 256) j)))) := by
  refine Fn.of hl rfl rfl (Nat.le_of_ble_eq_true rfl) (k_X5_addTo_0 ?_)
  refine (c_at hl hb hn h0 h1).cl0 (by decide) ?_
  rw [rI_of, I_add]
  simp only [I_n]
  rw [I_and255 hg]
  refine (c_put hl hb hn h0 h1).cl0 (by decide) ?_
  rw [rV_of, upd_st (S := fun _ => u) (i := 0) h0 (by omega), st_rs]
  exact ⟨by first | rfl | trivial, by first | rfl | trivial⟩
theorem m_spoil (hl : l.stackTraces = false) {o : Nat} {fs : List Value} (h : TAt X A w t V a f c S) (ri : RI S e) (ho : A.2 o = some (ob 7 fs)) (hto : t ≠ o) (hol : o < A.1) {s x v : Int} (hs : sm s) (hx : sm x) (hv : sm v) : Ct l X 30 M_X5_spoil [.ref t, .int (I s), .int (I x), .int (I v)] A 40 1200 (MP X A w o t S (tSpo (S 0) s x v) "java/lang/IndexOutOfBoundsException" "java/lang/IllegalArgumentException" (Ri (I (rSpo (S 0) s x v (696 + 242 * s + 2 + x)))) (sr (kS S) (rSpo (S 0) s x v))) := by
  obtain ⟨s1, s2⟩ := id hs
  obtain ⟨k1, k2⟩ := id hx
  obtain ⟨v1, v2⟩ := id hv
  have w0 := ri.1
  have c3 := w0.2.2.2.1
  obtain ⟨Q, hQ⟩ : ∃ Q, Q = (MP X A w o t S (tSpo (S 0) s x v) "java/lang/IndexOutOfBoundsException" "java/lang/IllegalArgumentException" (Ri (I (rSpo (S 0) s x v (696 + 242 * s + 2 + x)))) (sr (kS S) (rSpo (S 0) s x v))) := ⟨_, rfl⟩
  rw [← hQ]
  have hT := h.1
  obtain ⟨p, D, P, la, g, m, hD, hP, hR, hDR, hL, hPT, hO, hOP, hd⟩ := h.2.2.1.1.parts
  have f7 := fun i (i0 : 0 ≤ i) (i1 : i < S 0 9) => w0.2.2.2.2.2.2.2.2.2.2.2.2.1 i i0 i1
  refine Ct.of hl rfl rfl (Nat.le_of_ble_eq_true rfl) (k_X5_spoil_0 ?_)
  simp (disch := omega) only [true_implies, false_implies, not_true_eq_false, not_false_eq_true, rR_of, I_n, I_neg, I_add, I_sub, I_mul, I_le4, I_lt4, I_eq4, I_div4, I_bi0, I_bi01, I_bi1, nor_em, rI_of, rV_of, zI_of, zV_of, nz_and, br_T, br_F, br_T2, br_F2, st_eq, st9_0, st_k, st_i, true_and, and_true, Classical.not_not, TlA.g1 hT, TlA.g2 hT, TlA.g4 hT, TlA.g7 hT, TlA.g8 hT, TlA.r0 hT, TlA.r3 hT, TlA.r6 hT, TlA.r5 hT, TlA.o hT, DlA.g5 hD, DlA.g6 hD, DlA.g7 hD, DlA.g8 hD, DlA.g9 hD, DlA.g10 hD, DlA.g14 hD, DlA.r0 hD, DlA.r1 hD, DlA.r2 hD, DlA.r3 hD, DlA.r4 hD, DlA.r11 hD, DlA.r12 hD, DlA.r13 hD, DlA.r15 hD, DlA.r16 hD, DlA.gA3 hD, DlA.rA0 hD, DlA.rA1 hD, DlA.rA2 hD, DlA.o hD, DlA.oA hD, PlanAt.g0 hP, PlanAt.g1 hP, PlanAt.g2 hP, PlanAt.g3 hP, PlanAt.g13 hP, PlanAt.g15 hP, PlanAt.r4 hP, PlanAt.r5 hP, PlanAt.r6 hP, PlanAt.r7 hP, PlanAt.r8 hP, PlanAt.r9 hP, PlanAt.r10 hP, PlanAt.r11 hP, PlanAt.r12 hP, PlanAt.r14 hP, PlanAt.isO hP]
  refine ⟨⟨_, hL.1⟩, (c_li_size hl hL).cl0 (by decide) ?_⟩
  simp (disch := omega) only [true_implies, false_implies, not_true_eq_false, not_false_eq_true, rR_of, I_n, I_neg, I_add, I_sub, I_mul, I_le4, I_lt4, I_eq4, I_div4, I_bi0, I_bi01, I_bi1, nor_em, rI_of, rV_of, zI_of, zV_of, nz_and, br_T, br_F, br_T2, br_F2, st_eq, st9_0, st_k, st_i, true_and, and_true, Classical.not_not, TlA.g1 hT, TlA.g2 hT, TlA.g4 hT, TlA.g7 hT, TlA.g8 hT, TlA.r0 hT, TlA.r3 hT, TlA.r6 hT, TlA.r5 hT, TlA.o hT, DlA.g5 hD, DlA.g6 hD, DlA.g7 hD, DlA.g8 hD, DlA.g9 hD, DlA.g10 hD, DlA.g14 hD, DlA.r0 hD, DlA.r1 hD, DlA.r2 hD, DlA.r3 hD, DlA.r4 hD, DlA.r11 hD, DlA.r12 hD, DlA.r13 hD, DlA.r15 hD, DlA.r16 hD, DlA.gA3 hD, DlA.rA0 hD, DlA.rA1 hD, DlA.rA2 hD, DlA.o hD, DlA.oA hD, PlanAt.g0 hP, PlanAt.g1 hP, PlanAt.g2 hP, PlanAt.g3 hP, PlanAt.g13 hP, PlanAt.g15 hP, PlanAt.r4 hP, PlanAt.r5 hP, PlanAt.r6 hP, PlanAt.r7 hP, PlanAt.r8 hP, PlanAt.r9 hP, PlanAt.r10 hP, PlanAt.r11 hP, PlanAt.r12 hP, PlanAt.r14 hP, PlanAt.isO hP]
  refine cal_NE (c_X5_needIndex hl hs ⟨by omega, by omega⟩) (by decide) (by decide) (by decide) (fun h1 => ?_) (fun h1 A' a1 a2 => by rw [hQ]; exact MP_1 h (tr2_1 fun q => h1 q.1) a1 a2)
  have f7s := f7 s h1.1 (by omega)
  have f8 := w0.2.2.2.2.2.2.2.2.2.2.2.2.2.1 s x h1.1 (by omega)
  obtain ⟨y0, z0, hh0, e10, ⟨e210, e220, e230, e240⟩, e30, e40, e50, e60⟩ := hPT s.toNat (by omega)
  rw [show ((s.toNat : Nat) : Int) = s by omega] at e30 e40 e50 e60
  have eL : (((S 0 (696 + 242 * s + 1)).toNat : Nat) : Int) = S 0 (696 + 242 * s + 1) := by omega
  simp (disch := omega) only [true_implies, false_implies, not_true_eq_false, not_false_eq_true, rR_of, I_n, I_neg, I_add, I_sub, I_mul, I_le4, I_lt4, I_eq4, I_div4, I_bi0, I_bi01, I_bi1, nor_em, rI_of, rV_of, zI_of, zV_of, nz_and, br_T, br_F, br_T2, br_F2, st_eq, st9_0, st_k, st_i, true_and, and_true, Classical.not_not, TlA.g1 hT, TlA.g2 hT, TlA.g4 hT, TlA.g7 hT, TlA.g8 hT, TlA.r0 hT, TlA.r3 hT, TlA.r6 hT, TlA.r5 hT, TlA.o hT, DlA.g5 hD, DlA.g6 hD, DlA.g7 hD, DlA.g8 hD, DlA.g9 hD, DlA.g10 hD, DlA.g14 hD, DlA.r0 hD, DlA.r1 hD, DlA.r2 hD, DlA.r3 hD, DlA.r4 hD, DlA.r11 hD, DlA.r12 hD, DlA.r13 hD, DlA.r15 hD, DlA.r16 hD, DlA.gA3 hD, DlA.rA0 hD, DlA.rA1 hD, DlA.rA2 hD, DlA.o hD, DlA.oA hD, PlanAt.g0 hP, PlanAt.g1 hP, PlanAt.g2 hP, PlanAt.g3 hP, PlanAt.g13 hP, PlanAt.g15 hP, PlanAt.r4 hP, PlanAt.r5 hP, PlanAt.r6 hP, PlanAt.r7 hP, PlanAt.r8 hP, PlanAt.r9 hP, PlanAt.r10 hP, PlanAt.r11 hP, PlanAt.r12 hP, PlanAt.r14 hP, PlanAt.isO hP]
  refine ⟨⟨_, hL.1⟩, (c_li_get hl hL h1.1 (by omega)).cl0 (by decide) (rQ_of ⟨y0, e10, ⟨_, e30⟩, ?_⟩)⟩
  rw [gR_iff e30 rfl, nI_iff e40, I_ofNat, eL]
  refine cal_NE (c_X5_needIndex hl hx ⟨by omega, by omega⟩) (by decide) (by decide) (by decide) (fun h2 => ?_) (fun h2 A' a1 a2 => by rw [hQ]; exact MP_1 h (tr2_1 fun q => h2 q.2) a1 a2)
  have ha : (0 ≤ s ∧ s ≤ S 0 9 - 1) ∧ 0 ≤ x ∧ x ≤ S 0 (696 + 242 * s + 1) - 1 := ⟨h1, h2⟩
  have bad : ¬ (1 ≤ v ∧ v ≤ 255) → G l X M_X5_spoil 30 Q 57 [(0, .ref t), (1, .int (I s)), (2, .int (I x)), (3, .int (I v)), (4, .ref y0)] [.int (I 0)] A (40 - 1 - 1) (1200 - 6 - 6) := fun hz => by
    refine k_X5_spoil_57 ?_
    exact cal_NE (c_X5_needArgument hl ⟨by decide, by decide⟩) (by decide) (by decide) (by decide) (fun h3 => absurd rfl h3) (fun h3 A' a1 a2 => by rw [hQ]; exact MP_2 h (tr2_2 ha hz) a1 a2)
  refine ⟨fun q => bad (by omega), fun q => ⟨fun q2 => bad (by omega), fun q2 => ?_⟩⟩
  refine k_X5_spoil_57 ?_
  refine cal_NE (c_X5_needArgument hl ⟨by decide, by decide⟩) (by decide) (by decide) (by decide) (fun h3 => ?_) (fun h3 A' a1 a2 => absurd (by decide) h3)
  simp (disch := omega) only [true_implies, false_implies, not_true_eq_false, not_false_eq_true, rR_of, I_n, I_neg, I_add, I_sub, I_mul, I_le4, I_lt4, I_eq4, I_div4, I_bi0, I_bi01, I_bi1, nor_em, rI_of, rV_of, zI_of, zV_of, nz_and, br_T, br_F, br_T2, br_F2, st_eq, st9_0, st_k, st_i, true_and, and_true, Classical.not_not, TlA.g1 hT, TlA.g2 hT, TlA.g4 hT, TlA.g7 hT, TlA.g8 hT, TlA.r0 hT, TlA.r3 hT, TlA.r6 hT, TlA.r5 hT, TlA.o hT, DlA.g5 hD, DlA.g6 hD, DlA.g7 hD, DlA.g8 hD, DlA.g9 hD, DlA.g10 hD, DlA.g14 hD, DlA.r0 hD, DlA.r1 hD, DlA.r2 hD, DlA.r3 hD, DlA.r4 hD, DlA.r11 hD, DlA.r12 hD, DlA.r13 hD, DlA.r15 hD, DlA.r16 hD, DlA.gA3 hD, DlA.rA0 hD, DlA.rA1 hD, DlA.rA2 hD, DlA.o hD, DlA.oA hD, PlanAt.g0 hP, PlanAt.g1 hP, PlanAt.g2 hP, PlanAt.g3 hP, PlanAt.g13 hP, PlanAt.g15 hP, PlanAt.r4 hP, PlanAt.r5 hP, PlanAt.r6 hP, PlanAt.r7 hP, PlanAt.r8 hP, PlanAt.r9 hP, PlanAt.r10 hP, PlanAt.r11 hP, PlanAt.r12 hP, PlanAt.r14 hP, PlanAt.isO hP]
  refine cal_rem2 hl h ri ho hto hol (by decide) (by decide) (by decide) fun A1 w1 V1 f1 x1 x2 hao x3 => ?_
  have hT := x1.1
  obtain ⟨p, D, P, la, g, m, hD, hP, hR, hDR, hL, hPT, hO, hOP, hd⟩ := x2.parts
  obtain ⟨u1, u2, u3, u4, u5, u6, u7⟩ := id hO
  have b1 := x3.1
  have e3 := (x3.2.2 y0 e210 (Or.inl e220)).trans e30
  have e4 := (x3.2.2 z0 e230 (Or.inl e240)).trans e40
  have wy : w1 y0 = 0 := (x3.2.1 y0 e210).trans e220
  have wz : w1 z0 = 0 := (x3.2.1 z0 e230).trans e240
  rw [gR_iff e3 rfl]
  refine ⟨_, _, e4, by decide, by omega, ⟨_, _, nw_q⟩, ?_⟩
  have r1 : 0 ≤ hh0 x + v := by
    rw [e50 x (by omega) (by omega)]
    omega
  refine (c_addTo hl nw_q (by omega) h2.1 (by omega) r1).cl0 (by decide) ?_
  rw [rV_of]
  obtain ⟨B, hB⟩ : ∃ B, B = up (nw A1 (ia X (S 0 (696 + 242 * s + 1)).toNat (fun k => I (hh0 k)))) A1.1 (ia X (S 0 (696 + 242 * s + 1)).toNat (fun j => I (rs hh0 x ((hh0 x + v) % 256) j))) := ⟨_, rfl⟩
  rw [← hB]
  have sB : ∀ b, b < A1.1 → B.2 b = A1.2 b := fun b hb => by rw [hB]; exact (up_b (by omega)).trans (nw_b (by omega))
  have eB : B.2 A1.1 = some (ia X (S 0 (696 + 242 * s + 1)).toNat (fun j => I (rs hh0 x ((hh0 x + v) % 256) j))) := by rw [hB]; exact up_q
  have e1B : B.1 = A1.1 + 1 := by rw [hB]; rfl
  have tl1 : t + 3 < A1.1 := x1.2.1.1
  have hTB : TlA X B t V1 a f1 c := hT.of fun b b0 b1 => sB b (by omega)
  have hDB : DlA X B a p D := hD.of fun b b0 b1 _ => sB b (by omega)
  rw [gR_iff hTB.1 rfl, gR_iff hDB.1 rfl]
  refine mk_i (b := A1.1 + 1) e1B (by decide) (by omega) ?_
  intro C c1 cq co
  have e3C : C.2 y0 = some (ob 3 [.int (I (S 0 (696 + 242 * s))), .ref z0]) := (co y0 (by omega)).trans ((sB y0 (by omega)).trans e3)
  rw [gI_iff e3C rfl]
  refine (c_X2_init hl cq).cl0 (by decide) ?_
  rw [zV_of]
  obtain ⟨E, hE⟩ : ∃ E, E = up C (A1.1 + 1) (ob 3 [.int (I (S 0 (696 + 242 * s))), .ref A1.1]) := ⟨_, rfl⟩
  rw [← hE]
  have sE : ∀ b, b < A1.1 → E.2 b = A1.2 b := fun b hb => by rw [hE]; exact (up_b (by omega)).trans ((co b (by omega)).trans (sB b hb))
  have eE : E.2 (A1.1 + 1) = some (ob 3 [.int (I (S 0 (696 + 242 * s))), .ref A1.1]) := by rw [hE]; exact up_q
  have eE1 : E.2 A1.1 = some (ia X (S 0 (696 + 242 * s + 1)).toNat (fun j => I (rs hh0 x ((hh0 x + v) % 256) j))) := by rw [hE]; exact (up_b (by omega)).trans ((co _ (by omega)).trans eB)
  have e1E : E.1 = A1.1 + 2 := by rw [hE]; exact c1
  have hLE : LST X E (a + 8) la (S 0 9) g m := hL.of (sE _ (by omega)) (sE _ (by omega)) (sE _ (by omega))
  refine ⟨⟨_, hLE.1⟩, (c_li_set hl hLE h1.1 (by omega) eE).cl0 (by decide) (rQ_of ?_)⟩
  obtain ⟨l1, l2⟩ := hLE.set1 (q' := a + 8) (n' := 0) (by omega) (va_up g s.toNat (some (A1.1 + 1)))
  have hwl : w1 la = a + 1 := by
    rcases u3 with u | u
    · exact absurd u l2
    · exact u
  obtain ⟨E2, hE2⟩ : ∃ E2, E2 = up E la (ra X 4 10 (va_up g s.toNat (some (A1.1 + 1)))) := ⟨_, rfl⟩
  rw [← hE2] at l1
  rw [← hE2]
  have sE2 : ∀ b, b ≠ la → b < A1.1 → E2.2 b = A1.2 b := fun b hb hb2 => by rw [hE2]; exact (up_b hb).trans (sE b hb2)
  have e2r : E2.2 A1.1 = some (ia X (S 0 (696 + 242 * s + 1)).toNat (fun j => I (rs hh0 x ((hh0 x + v) % 256) j))) := by rw [hE2]; exact (up_b (by omega)).trans eE1
  refine (c_at hl e2r (by omega) h2.1 (by omega)).cl0 (by decide) ?_
  rw [rI_of, hQ]
  have rsp : ∀ b, b ≠ 696 + 242 * s + 2 + x → rSpo (S 0) s x v b = S 0 b := fun b hb => by
    unfold rSpo
    exact rs_ne hb
  have rse : rSpo (S 0) s x v (696 + 242 * s + 2 + x) = (hh0 x + v) % 256 := by
    unfold rSpo
    rw [rs_eq, e50 x (by omega) (by omega)]
    omega
  obtain ⟨w2, hw2⟩ : ∃ w2 : Nat → Nat, w2 = fun b => if b < A1.1 then w1 b else 0 := ⟨_, rfl⟩
  have wn : ∀ b, b < A1.1 → w2 b = w1 b := fun b hb => by rw [hw2]; exact if_pos hb
  have wN : ∀ b, A1.1 ≤ b → w2 b = 0 := fun b hb => by rw [hw2]; exact if_neg (by omega)
  have e12 : E2.1 = A1.1 + 2 := by rw [hE2]; exact e1E
  have cg : Chg w1 w2 (a + 1) A1 E2 := ⟨by omega, wn, fun b b0 b1 => sE2 b (fun k => by rw [k] at b1; exact b1 hwl) b0⟩
  have dn : DAt X E2 w2 a (rSpo (S 0) s x v) := by
    refine DAt.mk2 hP hO hOP cg (hD.of fun b b0 b1 b2 => sE2 b (by omega) (by omega)) (by rw [rsp 9 (by omega)]; exact l1) (Or.inr ((wn la u4).trans hwl)) (by omega) u5 ?_ (PR_c w0 (fun y hy => rsp y (by unfold cf at hy; omega)) hR) (DR_lo w0 (fun y _ _ _ => rsp y (by omega)) hDR)
    intro i hi
    rw [rsp 9 (by omega)] at hi
    have f7i := f7 i (by omega) hi
    by_cases his : i = s.toNat
    · rw [his, show ((s.toNat : Nat) : Int) = s by omega, rsp _ (by omega), rsp _ (by omega)]
      refine ⟨A1.1 + 1, A1.1, rs hh0 x ((hh0 x + v) % 256), if_pos rfl, ⟨by omega, wN _ (by omega), by omega, wN _ (by omega)⟩, ?_, e2r, fun k k0 k1 => ?_, by rw [rsp 0 (by omega)]; exact e60⟩
      · rw [hE2]
        exact (up_b (by omega)).trans eE
      · by_cases hk : k = x
        · rw [hk, rs_eq, rse]
        · rw [rs_ne hk, rsp _ (by omega)]
          exact e50 k k0 k1
    · obtain ⟨y', z', hh', a1, a2, a3, a4, a5, a6⟩ := hPT.of cg (by omega) i hi
      rw [rsp _ (by omega), rsp _ (by omega)]
      refine ⟨y', z', hh', (if_neg his).trans a1, a2, a3, a4, fun k k0 k1 => ?_, by rw [rsp 0 (by omega)]; exact a6⟩
      rw [rsp _ (by omega)]
      exact a5 k k0 k1
  have x4 := x1.now cg dn
  rw [sr_sr] at x4
  exact MP_ok (tr2_0 ha (by omega)) (by rw [rse, rs_eq]) x4 (x3.trans (cg.fr (by omega) (by omega)))
/-- the partial files, one gone -/
theorem PT.go {g' : Nat → Option Nat} {i : Int} (h : PT X A w g r) (h9 : 0 ≤ r 9 ∧ r 9 ≤ 4) (i0 : 0 ≤ i) (i1 : i < r 9) (hf : ∀ j : Nat, (j : Int) < r 9 → r (696 + 242 * j + 1) ≤ 240) (hg : ∀ j : Nat, j < (r 9 - 1).toNat → g' j = if j < i.toNat then g j else g (j + 1)) : PT X A w g' (rGo r i) := by
  have e9 : rGo r i 9 = r 9 - 1 := by rw [rGo_lo i0 (by omega), if_pos rfl]
  have e0 : rGo r i 0 = r 0 := by rw [rGo_lo i0 (by omega), if_neg (by omega)]
  intro j hj
  rw [e9] at hj
  have sl : ∀ y : Int, 0 ≤ y → y < 242 → rGo r i (696 + 242 * j + y) = if i ≤ j ∧ (j : Int) < r 9 - 1 then r (696 + 242 * (j + 1) + y) else r (696 + 242 * j + y) := fun y y0 y1 => rGo_sl i0 (by omega) y0 y1
  have sl0 := sl 0 (by omega) (by omega)
  have sl1 := sl 1 (by omega) (by omega)
  rw [Int.add_zero] at sl0
  by_cases hij : i ≤ j
  · rw [if_pos ⟨hij, by omega⟩] at sl0 sl1
    obtain ⟨y, z, hh, a1, a2, a3, a4, a5, a6⟩ := h (j + 1) (by omega)
    have hfj := hf (j + 1) (by omega)
    rw [show ((j + 1 : Nat) : Int) = (j : Int) + 1 from rfl] at a3 a4 a5 a6 hfj
    refine ⟨y, z, hh, ?_, a2, ?_, ?_, fun k k0 k1 => ?_, ?_⟩
    · rw [hg j (by omega), if_neg (by omega)]
      exact a1
    · rw [sl0, Int.add_zero]
      exact a3
    · rw [sl1]
      exact a4
    · rw [sl1] at k1
      have := sl (2 + k) (by omega) (by omega)
      rw [if_pos ⟨hij, by omega⟩] at this
      rw [Int.add_assoc, this, ← Int.add_assoc]
      exact a5 k k0 k1
    · rw [sl1, e0]
      exact a6
  · rw [if_neg (fun k => hij k.1)] at sl0 sl1
    obtain ⟨y, z, hh, a1, a2, a3, a4, a5, a6⟩ := h j (by omega)
    have hfj := hf j (by omega)
    refine ⟨y, z, hh, ?_, a2, ?_, ?_, fun k k0 k1 => ?_, ?_⟩
    · rw [hg j (by omega), if_pos (by omega)]
      exact a1
    · rw [sl0]
      exact a3
    · rw [sl1]
      exact a4
    · rw [sl1] at k1
      have := sl (2 + k) (by omega) (by omega)
      rw [if_neg (fun k => hij k.1)] at this
      rw [Int.add_assoc, this, ← Int.add_assoc]
      exact a5 k k0 k1
    · rw [sl1, e0]
      exact a6
theorem m_discard (hl : l.stackTraces = false) {o : Nat} {fs : List Value} (h : TAt X A w t V a f c S) (ri : RI S e) (ho : A.2 o = some (ob 7 fs)) (hto : t ≠ o) (hol : o < A.1) {s : Int} (hs : sm s) : Ct l X 30 M_X5_discard [.ref t, .int (I s)] A 40 1200 (MP X A w o t S (if 0 ≤ s ∧ s ≤ S 0 9 - 1 then 0 else 1) "java/lang/IndexOutOfBoundsException" "" (Ri (I (rGo (S 0) s 9))) (sr (kS S) (rGo (S 0) s))) := by
  obtain ⟨s1, s2⟩ := id hs
  have w0 := ri.1
  have c3 := w0.2.2.2.1
  obtain ⟨Q, hQ⟩ : ∃ Q, Q = (MP X A w o t S (if 0 ≤ s ∧ s ≤ S 0 9 - 1 then 0 else 1) "java/lang/IndexOutOfBoundsException" "" (Ri (I (rGo (S 0) s 9))) (sr (kS S) (rGo (S 0) s))) := ⟨_, rfl⟩
  rw [← hQ]
  have hT := h.1
  obtain ⟨p, D, P, la, g, m, hD, hP, hR, hDR, hL, hPT, hO, hOP, hd⟩ := h.2.2.1.1.parts
  have f7 := fun i (i0 : 0 ≤ i) (i1 : i < S 0 9) => w0.2.2.2.2.2.2.2.2.2.2.2.2.1 i i0 i1
  refine Ct.of hl rfl rfl (Nat.le_of_ble_eq_true rfl) (k_X5_discard_0 ?_)
  simp (disch := omega) only [true_implies, false_implies, not_true_eq_false, not_false_eq_true, rR_of, I_n, I_neg, I_add, I_sub, I_mul, I_le4, I_lt4, I_eq4, I_div4, I_bi0, I_bi01, I_bi1, nor_em, rI_of, rV_of, zI_of, zV_of, nz_and, br_T, br_F, br_T2, br_F2, st_eq, st9_0, st_k, st_i, true_and, and_true, Classical.not_not, TlA.g1 hT, TlA.g2 hT, TlA.g4 hT, TlA.g7 hT, TlA.g8 hT, TlA.r0 hT, TlA.r3 hT, TlA.r6 hT, TlA.r5 hT, TlA.o hT, DlA.g5 hD, DlA.g6 hD, DlA.g7 hD, DlA.g8 hD, DlA.g9 hD, DlA.g10 hD, DlA.g14 hD, DlA.r0 hD, DlA.r1 hD, DlA.r2 hD, DlA.r3 hD, DlA.r4 hD, DlA.r11 hD, DlA.r12 hD, DlA.r13 hD, DlA.r15 hD, DlA.r16 hD, DlA.gA3 hD, DlA.rA0 hD, DlA.rA1 hD, DlA.rA2 hD, DlA.o hD, DlA.oA hD, PlanAt.g0 hP, PlanAt.g1 hP, PlanAt.g2 hP, PlanAt.g3 hP, PlanAt.g13 hP, PlanAt.g15 hP, PlanAt.r4 hP, PlanAt.r5 hP, PlanAt.r6 hP, PlanAt.r7 hP, PlanAt.r8 hP, PlanAt.r9 hP, PlanAt.r10 hP, PlanAt.r11 hP, PlanAt.r12 hP, PlanAt.r14 hP, PlanAt.isO hP]
  refine ⟨⟨_, hL.1⟩, (c_li_size hl hL).cl0 (by decide) ?_⟩
  simp (disch := omega) only [true_implies, false_implies, not_true_eq_false, not_false_eq_true, rR_of, I_n, I_neg, I_add, I_sub, I_mul, I_le4, I_lt4, I_eq4, I_div4, I_bi0, I_bi01, I_bi1, nor_em, rI_of, rV_of, zI_of, zV_of, nz_and, br_T, br_F, br_T2, br_F2, st_eq, st9_0, st_k, st_i, true_and, and_true, Classical.not_not, TlA.g1 hT, TlA.g2 hT, TlA.g4 hT, TlA.g7 hT, TlA.g8 hT, TlA.r0 hT, TlA.r3 hT, TlA.r6 hT, TlA.r5 hT, TlA.o hT, DlA.g5 hD, DlA.g6 hD, DlA.g7 hD, DlA.g8 hD, DlA.g9 hD, DlA.g10 hD, DlA.g14 hD, DlA.r0 hD, DlA.r1 hD, DlA.r2 hD, DlA.r3 hD, DlA.r4 hD, DlA.r11 hD, DlA.r12 hD, DlA.r13 hD, DlA.r15 hD, DlA.r16 hD, DlA.gA3 hD, DlA.rA0 hD, DlA.rA1 hD, DlA.rA2 hD, DlA.o hD, DlA.oA hD, PlanAt.g0 hP, PlanAt.g1 hP, PlanAt.g2 hP, PlanAt.g3 hP, PlanAt.g13 hP, PlanAt.g15 hP, PlanAt.r4 hP, PlanAt.r5 hP, PlanAt.r6 hP, PlanAt.r7 hP, PlanAt.r8 hP, PlanAt.r9 hP, PlanAt.r10 hP, PlanAt.r11 hP, PlanAt.r12 hP, PlanAt.r14 hP, PlanAt.isO hP]
  refine cal_NE (c_X5_needIndex hl hs ⟨by omega, by omega⟩) (by decide) (by decide) (by decide) (fun h1 => ?_) (fun h1 A' a1 a2 => by rw [hQ]; exact MP_1 h (if_neg h1) a1 a2)
  simp (disch := omega) only [true_implies, false_implies, not_true_eq_false, not_false_eq_true, rR_of, I_n, I_neg, I_add, I_sub, I_mul, I_le4, I_lt4, I_eq4, I_div4, I_bi0, I_bi01, I_bi1, nor_em, rI_of, rV_of, zI_of, zV_of, nz_and, br_T, br_F, br_T2, br_F2, st_eq, st9_0, st_k, st_i, true_and, and_true, Classical.not_not, TlA.g1 hT, TlA.g2 hT, TlA.g4 hT, TlA.g7 hT, TlA.g8 hT, TlA.r0 hT, TlA.r3 hT, TlA.r6 hT, TlA.r5 hT, TlA.o hT, DlA.g5 hD, DlA.g6 hD, DlA.g7 hD, DlA.g8 hD, DlA.g9 hD, DlA.g10 hD, DlA.g14 hD, DlA.r0 hD, DlA.r1 hD, DlA.r2 hD, DlA.r3 hD, DlA.r4 hD, DlA.r11 hD, DlA.r12 hD, DlA.r13 hD, DlA.r15 hD, DlA.r16 hD, DlA.gA3 hD, DlA.rA0 hD, DlA.rA1 hD, DlA.rA2 hD, DlA.o hD, DlA.oA hD, PlanAt.g0 hP, PlanAt.g1 hP, PlanAt.g2 hP, PlanAt.g3 hP, PlanAt.g13 hP, PlanAt.g15 hP, PlanAt.r4 hP, PlanAt.r5 hP, PlanAt.r6 hP, PlanAt.r7 hP, PlanAt.r8 hP, PlanAt.r9 hP, PlanAt.r10 hP, PlanAt.r11 hP, PlanAt.r12 hP, PlanAt.r14 hP, PlanAt.isO hP]
  refine cal_rem2 hl h ri ho hto hol (by decide) (by decide) (by decide) fun A1 w1 V1 f1 x1 x2 hao x3 => ?_
  have hT := x1.1
  obtain ⟨p, D, P, la, g, m, hD, hP, hR, hDR, hL, hPT, hO, hOP, hd⟩ := x2.parts
  obtain ⟨u1, u2, u3, u4, u5, u6, u7⟩ := id hO
  obtain ⟨l1, l2⟩ := hL.set1 (q' := a + 8) (n' := 0) (by omega) g
  have hwl : w1 la = a + 1 := by
    rcases u3 with u | u
    · exact absurd u l2
    · exact u
  simp (disch := omega) only [true_implies, false_implies, not_true_eq_false, not_false_eq_true, rR_of, I_n, I_neg, I_add, I_sub, I_mul, I_le4, I_lt4, I_eq4, I_div4, I_bi0, I_bi01, I_bi1, nor_em, rI_of, rV_of, zI_of, zV_of, nz_and, br_T, br_F, br_T2, br_F2, st_eq, st9_0, st_k, st_i, true_and, and_true, Classical.not_not, TlA.g1 hT, TlA.g2 hT, TlA.g4 hT, TlA.g7 hT, TlA.g8 hT, TlA.r0 hT, TlA.r3 hT, TlA.r6 hT, TlA.r5 hT, TlA.o hT, DlA.g5 hD, DlA.g6 hD, DlA.g7 hD, DlA.g8 hD, DlA.g9 hD, DlA.g10 hD, DlA.g14 hD, DlA.r0 hD, DlA.r1 hD, DlA.r2 hD, DlA.r3 hD, DlA.r4 hD, DlA.r11 hD, DlA.r12 hD, DlA.r13 hD, DlA.r15 hD, DlA.r16 hD, DlA.gA3 hD, DlA.rA0 hD, DlA.rA1 hD, DlA.rA2 hD, DlA.o hD, DlA.oA hD, PlanAt.g0 hP, PlanAt.g1 hP, PlanAt.g2 hP, PlanAt.g3 hP, PlanAt.g13 hP, PlanAt.g15 hP, PlanAt.r4 hP, PlanAt.r5 hP, PlanAt.r6 hP, PlanAt.r7 hP, PlanAt.r8 hP, PlanAt.r9 hP, PlanAt.r10 hP, PlanAt.r11 hP, PlanAt.r12 hP, PlanAt.r14 hP, PlanAt.isO hP]
  refine ⟨⟨_, hL.1⟩, Cal.of (c_li_remove hl hL h1.1 (by omega) (PT.pe (i := 0) hPT (by omega))) (by decide) (by decide) (by decide) ?_⟩
  rintro o1 E2 ⟨rfl, g', L2, hg', e12, sE2⟩
  refine rQ_of ?_
  have tO := x1.2.1
  have hT2 : TlA X E2 t V1 a f1 c := hT.of fun b b0 b1 => sE2 b (fun k => by
    have ha8 := u2 (a + 8) (by omega) (by omega)
    have hb := tO.2 b b0 b1
    rw [k] at hb
    have := x1.2.2.1.2
    omega) (fun k => by
    have hb := tO.2 b b0 b1
    rw [k] at hb
    have := x1.2.2.1.2
    omega)
  have hD2 : DlA X E2 a p D := hD.of fun b b0 b1 b2 => sE2 b b2 (by omega)
  rw [gR_iff hT2.1 rfl, gR_iff hD2.1 rfl]
  refine ⟨⟨_, L2.1⟩, (c_li_size hl L2).cl0 (by decide) ?_⟩
  rw [rI_of, hQ]
  have cg : Chg w1 w1 (a + 1) A1 E2 := ⟨by omega, fun _ _ => rfl, fun b b0 b1 => sE2 b (fun k => by rw [k] at b1; exact b1 (u2 _ (by omega) (by omega))) (fun k => by rw [k] at b1; exact b1 hwl)⟩
  have e9 : rGo (S 0) s 9 = S 0 9 - 1 := by rw [rGo_lo h1.1 (by omega), if_pos rfl]
  have hlo : ∀ y, 0 ≤ y → y < 696 → y ≠ 9 → rGo (S 0) s y = S 0 y := fun y y0 y1 y9 => by rw [rGo_lo h1.1 y1, if_neg y9]
  have dn : DAt X E2 w1 a (rGo (S 0) s) :=
    DAt.mk2 hP hO hOP cg hD2 (by rw [e9]; exact L2) (Or.inr hwl) (by omega) u5 ((hPT.of cg (by omega)).go (by omega) h1.1 (by omega) (fun j hj => (f7 j (by omega) hj).2.2.2) hg') (PR_c w0 (fun y hy => hlo y (by unfold cf at hy; omega) (by unfold cf at hy; omega) (by unfold cf at hy; omega)) hR) (DR_lo w0 hlo hDR)
  have x4 := x1.now cg dn
  rw [sr_sr] at x4
  exact MP_ok (if_pos h1) (by rw [e9]) x4 (x3.trans (cg.fr (by omega) (by omega)))
end PM
