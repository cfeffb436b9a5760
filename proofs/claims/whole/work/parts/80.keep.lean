/-! the class: keep, resume -/
section KR
variable {l : Launch} {X : XT} {A A' : AH} {w w' : Nat → Nat} {t a p : Nat} {V : Nat → Int → Int} {f : Nat → Option Nat} {c : Option Nat} {S T : Nat → Int → Int} {e : Int} {D D' P : Nat → Int → Int} {la : Nat} {g : Nat → Option Nat} {m : Int32} {q r : Int → Int}
theorem PlanAt.nR {b n k : Nat} {u : Nat → Option Nat} (h : PlanAt X A p P) (hb : A.2 b = some (ra X k n u)) : b < p ∨ p + 10 < b := by
  by_cases hh : b < p ∨ p + 10 < b
  · exact hh
  · obtain ⟨h0, h1, h2, h3, h4, h5, h6, h7, h8, h9, h10⟩ := h
    have e : b = p ∨ b = p + 1 ∨ b = p + 2 ∨ b = p + 3 ∨ b = p + 4 ∨ b = p + 5 ∨ b = p + 6 ∨ b = p + 7 ∨ b = p + 8 ∨ b = p + 9 ∨ b = p + 10 := by omega
    rcases e with rfl | rfl | rfl | rfl | rfl | rfl | rfl | rfl | rfl | rfl | rfl
    · exact absurd (h0.symm.trans hb) (by simp)
    · exact absurd (h1.symm.trans hb) (by simp)
    · exact absurd (h2.symm.trans hb) (by simp)
    · exact absurd (h3.symm.trans hb) (by simp)
    · exact absurd (h4.symm.trans hb) (by simp)
    · exact absurd (h5.symm.trans hb) (by simp)
    · exact absurd (h6.symm.trans hb) (by simp)
    · exact absurd (h7.symm.trans hb) (by simp)
    · exact absurd (h8.symm.trans hb) (by simp)
    · exact absurd (h9.symm.trans hb) (by simp)
    · exact absurd (h10.symm.trans hb) (by simp)
theorem LST.ra {b : Nat} {n : Int} (h : LST X A b la n g m) : ∃ (k : Nat) (u : Nat → Option Nat), A.2 la = some (ra X 4 k u) := by
  obtain ⟨h1, h2, h3 | h3, h4⟩ := h
  · exact ⟨_, _, h3.2.2⟩
  · exact ⟨_, _, h3⟩
theorem kl_got {r : Int → Int} (w0 : RW r e) (hDR : DR D r) (h96 : ¬ r 96 = 0) {k : Int} (k0 : 0 ≤ k) (k1 : k < gKl r) : D 0 k = r (336 + k) := by
  obtain ⟨l1, l2, l3⟩ := gKl_b w0.1 h96
  obtain ⟨b1, b2⟩ := gAt_b w0.1 k0 (show k < r 0 by omega)
  refine DX_got w0 hDR k0 (by omega) ?_
  rcases gLo_b w0.1 with ⟨c1, c2⟩ | ⟨c1, c2, c3, c4⟩
  · exact c2 _ b1 b2
  · by_cases hh : gAt r k < gLo r
    · exact c4 _ b1 hh
    · obtain ⟨a1, a2, a3, a4, a5, a6⟩ := gAt_in w0.1 k0 (show k < r 0 by omega)
      have e1 : gPl r (gAt r k) = r 2 * (k / r 2) + r 3 * ((k - r 2 * (k / r 2)) / r 3) := gPl_of w0.1 a1 a2 a3 a4
      have hr3 := w0.1.2.2.2.2.1
      obtain ⟨d1, d2⟩ := dvb (a := k - r 2 * (k / r 2)) (b := r 3) (by omega)
      have mono := gPl_mono w0.1 (gAt r k - gLo r).toNat (gLo r) c1 (by omega)
      rw [show gLo r + (((gAt r k - gLo r).toNat : Nat) : Int) = gAt r k by omega] at mono
      have ek : gKl r = gPl r (gLo r) := by
        unfold gKl
        rw [if_neg (by omega)]
      omega
theorem rKeep_r {r : Int → Int} {x : Int} (w0 : RW r e) (he : e + 10 ≤ 2000000000) (hx : tKee r x = 0) (h9 : r 9 ≤ 3) (h96 : ¬ r 96 = 0) :
    rKeep r x 9 = r 9 + 1 ∧ rKeep r x 0 = r 0 ∧ (∀ y, cf y → rKeep r x y = r y) ∧ (∀ y, 696 ≤ y → y < 696 + 242 * r 9 → rKeep r x y = r y) ∧ rKeep r x (696 + 242 * r 9) = x ∧ rKeep r x (696 + 242 * r 9 + 1) = gKl r ∧ ∀ k, 0 ≤ k → k < gKl r → rKeep r x (696 + 242 * r 9 + 2 + k) = r (336 + k) := by
  obtain ⟨⟨wb, b9, blo⟩, wz, wk⟩ := rK_w w0 he hx
  have c3 := w0.2.2.2.1
  obtain ⟨l1, l2, l3⟩ := gKl_b w0.1 h96
  obtain ⟨t1, t2⟩ := gT_b w0.1
  have lg := w0.1.2.1
  have wc := wz (gT r).toNat (by omega)
  rw [show (((gT r).toNat : Nat) : Int) = gT r by omega] at wc
  have g7 := (RW_gl wc).1
  have tell : ∀ y, y < 7 ∨ 7 < y ∧ y < 576 ∨ 696 ≤ y → rKeep r x y = zr (rs (rKb r x) 9 (rKb r x 9 + 1)) 96 (gT r) y := fun y hy => rTell_g g7 hy
  have tz : ∀ y, y < 7 ∨ 7 < y ∧ y < 96 ∨ 696 ≤ y → rKeep r x y = rs (rKb r x) 9 (rKb r x 9 + 1) y := fun y hy => by
    rw [tell y (by omega)]
    unfold zr
    rw [if_neg (by omega)]
  have hi : ∀ y, 696 ≤ y → rKeep r x y = rKb r x y := fun y hy => by rw [tz y (by omega), rs_ne (by omega)]
  have lo : ∀ y, y < 7 ∨ 7 < y ∧ y < 96 → y ≠ 9 → rKeep r x y = r y := fun y hy h9 => by rw [tz y (by omega), rs_ne h9, blo y (by omega)]
  have ob' : ∀ y, y < 698 + 242 * r 9 → rKb r x y = rKa r x y := fun y hy => by unfold rKb cpy; rw [if_neg (by omega)]
  refine ⟨by rw [tz 9 (by omega), rs_eq, b9], lo 0 (by omega) (by omega), fun y hy => lo y (by unfold cf at hy; omega) (by unfold cf at hy; omega), fun y y0 y1 => ?_, ?_, ?_, fun k k0 k1 => ?_⟩
  · rw [hi y y0, ob' y (by omega)]
    unfold rKa
    rw [rs_ne (by omega), rs_ne (by omega)]
  · rw [hi _ (by omega), ob' _ (by omega)]
    unfold rKa
    rw [rs_ne (by omega), rs_eq]
  · rw [hi _ (by omega), ob' _ (by omega)]
    unfold rKa
    rw [rs_eq]
  · rw [hi _ (by omega)]
    unfold rKb cpy
    rw [if_pos (by omega)]
    unfold rKa
    rw [rs_ne (by omega), rs_ne (by omega)]
    exact congrArg r (by omega)
theorem m_keep (hl : l.stackTraces = false) {o : Nat} {fs : List Value} (h : TAt X A w t V a f c S) (ri : RI S e) (ho : A.2 o = some (ob 7 fs)) (hto : t ≠ o) (hol : o < A.1) (he : e + 10 ≤ 2000000000) {x : Int} (hx : sm x) : Ct l X 30 M_X5_keep [.ref t, .int (I x)] A 40 1200 (MP X A w o t S (tKee (S 0) x) "java/lang/IllegalArgumentException" "java/lang/IllegalStateException" (Ri (I (gKl (S 0)))) (sr (kS S) (rKeep (S 0) x))) := by
  obtain ⟨k1, k2⟩ := id hx
  have w0 := ri.1
  have c3 := w0.2.2.2.1
  obtain ⟨t1, t2⟩ := gT_b w0.1
  obtain ⟨Q, hQ⟩ : ∃ Q, Q = (MP X A w o t S (tKee (S 0) x) "java/lang/IllegalArgumentException" "java/lang/IllegalStateException" (Ri (I (gKl (S 0)))) (sr (kS S) (rKeep (S 0) x))) := ⟨_, rfl⟩
  rw [← hQ]
  have hT := h.1
  obtain ⟨p, D, P, la, g, m, hD, hP, hR, hDR, hL, hPT, hO, hOP, hd⟩ := h.2.2.1.1.parts
  refine Ct.of hl rfl rfl (Nat.le_of_ble_eq_true rfl) (k_X5_keep_0 ?_)
  refine (c_X5_isName hl hx).cl0 (by decide) ?_
  rw [rI_of]
  have hsm : sm (if 0 ≤ x ∧ x ≤ 999 then 1 else 0) := by split <;> exact ⟨by decide, by decide⟩
  refine cal_NE (c_X5_needArgument hl hsm) (by decide) (by decide) (by decide) (fun h3 => ?_) (fun h3 A' a1 a2 => by rw [hQ]; exact MP_1 h (tr2_1 (fun q => h3 (by rw [if_pos q]; decide))) a1 a2)
  have hx9 : 0 ≤ x ∧ x ≤ 999 := by
    by_cases q : 0 ≤ x ∧ x ≤ 999
    · exact q
    · rw [if_neg q] at h3
      exact absurd rfl h3
  have bad : ¬ (¬ S 0 96 = 0 ∧ ¬ S 0 9 = 4) → G l X M_X5_keep 30 Q 37 [(0, .ref t), (1, .int (I x))] [.int (I 0)] A (40 - 1) (1200 - 6) := fun hz => by
    refine k_X5_keep_37 ?_
    exact cal_NE (c_X5_needState hl ⟨by decide, by decide⟩) (by decide) (by decide) (by decide) (fun h3 => absurd rfl h3) (fun h3 A' a1 a2 => by rw [hQ]; exact MP_2 h (tr2_2 hx9 hz) a1 a2)
  have good : (¬ S 0 96 = 0 ∧ ¬ S 0 9 = 4) → G l X M_X5_keep 30 Q 37 [(0, .ref t), (1, .int (I x))] [.int (I 1)] A (40 - 1) (1200 - 6) := fun hz => by
    refine k_X5_keep_37 ?_
    refine cal_NE (c_X5_needState hl ⟨by decide, by decide⟩) (by decide) (by decide) (by decide) (fun h3 => ?_) (fun h3 A' a1 a2 => absurd (by decide) h3)
    have ht0 : tKee (S 0) x = 0 := tr2_0 hx9 hz
    simp (disch := omega) only [true_implies, false_implies, not_true_eq_false, not_false_eq_true, rR_of, I_n, I_neg, I_add, I_sub, I_mul, I_le4, I_lt4, I_eq4, I_div4, I_bi0, I_bi01, I_bi1, nor_em, rI_of, rV_of, zI_of, zV_of, nz_and, br_T, br_F, br_T2, br_F2, st_eq, st9_0, st_k, st_i, true_and, and_true, Classical.not_not, TlA.g1 hT, TlA.g2 hT, TlA.g4 hT, TlA.g7 hT, TlA.g8 hT, TlA.r0 hT, TlA.r3 hT, TlA.r6 hT, TlA.r5 hT, TlA.o hT, DlA.g5 hD, DlA.g6 hD, DlA.g7 hD, DlA.g8 hD, DlA.g9 hD, DlA.g10 hD, DlA.g14 hD, DlA.r0 hD, DlA.r1 hD, DlA.r2 hD, DlA.r3 hD, DlA.r4 hD, DlA.r11 hD, DlA.r12 hD, DlA.r13 hD, DlA.r15 hD, DlA.r16 hD, DlA.gA3 hD, DlA.rA0 hD, DlA.rA1 hD, DlA.rA2 hD, DlA.o hD, DlA.oA hD, PlanAt.g0 hP, PlanAt.g1 hP, PlanAt.g2 hP, PlanAt.g3 hP, PlanAt.g13 hP, PlanAt.g15 hP, PlanAt.r4 hP, PlanAt.r5 hP, PlanAt.r6 hP, PlanAt.r7 hP, PlanAt.r8 hP, PlanAt.r9 hP, PlanAt.r10 hP, PlanAt.r11 hP, PlanAt.r12 hP, PlanAt.r14 hP, PlanAt.isO hP]
    refine cal_rem2 hl h ri ho hto hol (by decide) (by decide) (by decide) fun A1 w1 V1 f1 x1 x2 hao x3 => ?_
    have hT := x1.1
    obtain ⟨p, D, P, la, g, m, hD, hP, hR, hDR, hL, hPT, hO, hOP, hd⟩ := x2.parts
    obtain ⟨u1, u2, u3, u4, u5, u6, u7⟩ := id hO
    obtain ⟨nk, uk, hra⟩ := hL.ra
    simp (disch := omega) only [true_implies, false_implies, not_true_eq_false, not_false_eq_true, rR_of, I_n, I_neg, I_add, I_sub, I_mul, I_le4, I_lt4, I_eq4, I_div4, I_bi0, I_bi01, I_bi1, nor_em, rI_of, rV_of, zI_of, zV_of, nz_and, br_T, br_F, br_T2, br_F2, st_eq, st9_0, st_k, st_i, true_and, and_true, Classical.not_not, TlA.g1 hT, TlA.g2 hT, TlA.g4 hT, TlA.g7 hT, TlA.g8 hT, TlA.r0 hT, TlA.r3 hT, TlA.r6 hT, TlA.r5 hT, TlA.o hT, DlA.g5 hD, DlA.g6 hD, DlA.g7 hD, DlA.g8 hD, DlA.g9 hD, DlA.g10 hD, DlA.g14 hD, DlA.r0 hD, DlA.r1 hD, DlA.r2 hD, DlA.r3 hD, DlA.r4 hD, DlA.r11 hD, DlA.r12 hD, DlA.r13 hD, DlA.r15 hD, DlA.r16 hD, DlA.gA3 hD, DlA.rA0 hD, DlA.rA1 hD, DlA.rA2 hD, DlA.o hD, DlA.oA hD, PlanAt.g0 hP, PlanAt.g1 hP, PlanAt.g2 hP, PlanAt.g3 hP, PlanAt.g13 hP, PlanAt.g15 hP, PlanAt.r4 hP, PlanAt.r5 hP, PlanAt.r6 hP, PlanAt.r7 hP, PlanAt.r8 hP, PlanAt.r9 hP, PlanAt.r10 hP, PlanAt.r11 hP, PlanAt.r12 hP, PlanAt.r14 hP, PlanAt.isO hP]
    have hEo := hO.out (b := xE X) (by rw [u7]; omega)
    refine Cal.of (c_X1_keepArrived hl hD hd hP hOP.1 hR w0 he hDR ht0 u1 hL u5 (hP.nR hra) hEo.1 u4 u6) (by decide) (by decide) (by decide) ?_
    rintro o1 A2 ⟨rfl, F, la', g', m', y, z, hh, e1, e2, e3, e4, e5, ⟨e6, e7, e8, e9⟩, e10, e11, e12, e13, e14, e15, e16⟩
    rw [rI_of, hQ]
    obtain ⟨q9, q0, qcf, qlo, qn, ql, qb⟩ := rKeep_r w0 he ht0 (by omega) hz.1
    have hra' := e3.arr (by omega)
    have yla : y ≠ la' := by
      rintro rfl
      exact absurd (e10.symm.trans hra') (by simp)
    have zla : z ≠ la' := by
      rintro rfl
      exact absurd (e11.symm.trans hra') (by simp)
    obtain ⟨w2, hw2⟩ : ∃ w2 : Nat → Nat, w2 = fun b => if b < A1.1 then w1 b else if b = la' then a + 1 else 0 := ⟨_, rfl⟩
    have wn : ∀ b, b < A1.1 → w2 b = w1 b := fun b hb => by rw [hw2]; exact if_pos hb
    have wN : ∀ b, A1.1 ≤ b → b ≠ la' → w2 b = 0 := fun b hb hb2 => by rw [hw2]; exact (if_neg (by omega)).trans (if_neg hb2)
    have cg : Chg w1 w2 (a + 1) A1 A2 := ⟨e15, wn, fun b b0 b1 => e16 b b0 (hO.out b1).1 (hO.out b1).2⟩
    have hwl : la' = xE X ∨ w2 la' = a + 1 := by
      rcases e13 with q | q
      · rw [q]
        rcases u3 with v | v
        · exact Or.inl v
        · exact Or.inr ((wn la u4).trans v)
      · refine Or.inr ?_
        rw [hw2]
        show (if la' < A1.1 then w1 la' else if la' = la' then a + 1 else 0) = a + 1
        rw [if_neg (by omega), if_pos rfl]
    have dn : DAt X A2 w2 a (rKeep (S 0) x) := by
      refine DAt.mk2 hP hO hOP cg e1 (by rw [q9]; exact e3) hwl e14 (by omega) ?_ (PR_c w0 qcf hR) e2
      intro i hi
      rw [q9] at hi
      have f7 := fun i (i0 : 0 ≤ i) (i1 : i < S 0 9) => w0.2.2.2.2.2.2.2.2.2.2.2.2.1 i i0 i1
      by_cases his : i = (S 0 9).toNat
      · rw [his, show (((S 0 9).toNat : Nat) : Int) = S 0 9 by omega, qn, ql]
        refine ⟨y, z, hh, e4, ⟨e7, wN y e6 yla, e9, wN z e8 zla⟩, e10, e11, fun k k0 k1 => ?_, ?_⟩
        · rw [qb k k0 k1, e12 k k0 k1]
          exact kl_got w0 hDR hz.1 k0 k1
        · rw [q0]
          exact (gKl_b w0.1 hz.1).2.1
      · have f7i := f7 i (by omega) (by omega)
        obtain ⟨y', z', hh', a1, a2, a3, a4, a5, a6⟩ := hPT.of cg (by omega) i (by omega)
        rw [qlo _ (by omega) (by omega), qlo _ (by omega) (by omega)]
        refine ⟨y', z', hh', (e5 i (by omega)).trans a1, a2, a3, a4, fun k k0 k1 => ?_, by rw [q0]; exact a6⟩
        rw [qlo _ (by omega) (by omega)]
        exact a5 k k0 k1
    have x4 := x1.now cg dn
    rw [sr_sr] at x4
    exact MP_ok ht0 rfl x4 (x3.trans (cg.fr (by omega) (by omega)))
  simp (disch := omega) only [true_implies, false_implies, not_true_eq_false, not_false_eq_true, rR_of, I_n, I_neg, I_add, I_sub, I_mul, I_le4, I_lt4, I_eq4, I_div4, I_bi0, I_bi01, I_bi1, nor_em, rI_of, rV_of, zI_of, zV_of, nz_and, br_T, br_F, br_T2, br_F2, st_eq, st9_0, st_k, st_i, true_and, and_true, Classical.not_not, TlA.g1 hT, TlA.g2 hT, TlA.g4 hT, TlA.g7 hT, TlA.g8 hT, TlA.r0 hT, TlA.r3 hT, TlA.r6 hT, TlA.r5 hT, TlA.o hT, DlA.g5 hD, DlA.g6 hD, DlA.g7 hD, DlA.g8 hD, DlA.g9 hD, DlA.g10 hD, DlA.g14 hD, DlA.r0 hD, DlA.r1 hD, DlA.r2 hD, DlA.r3 hD, DlA.r4 hD, DlA.r11 hD, DlA.r12 hD, DlA.r13 hD, DlA.r15 hD, DlA.r16 hD, DlA.gA3 hD, DlA.rA0 hD, DlA.rA1 hD, DlA.rA2 hD, DlA.o hD, DlA.oA hD, PlanAt.g0 hP, PlanAt.g1 hP, PlanAt.g2 hP, PlanAt.g3 hP, PlanAt.g13 hP, PlanAt.g15 hP, PlanAt.r4 hP, PlanAt.r5 hP, PlanAt.r6 hP, PlanAt.r7 hP, PlanAt.r8 hP, PlanAt.r9 hP, PlanAt.r10 hP, PlanAt.r11 hP, PlanAt.r12 hP, PlanAt.r14 hP, PlanAt.isO hP]
  refine (qD hD (c_X1_isMissing hl w0 hDR (k := 0) (by omega) (by omega))).cl0 (by decide) ?_
  rw [Int.add_zero]
  simp (disch := omega) only [true_implies, false_implies, not_true_eq_false, not_false_eq_true, rR_of, I_n, I_neg, I_add, I_sub, I_mul, I_le4, I_lt4, I_eq4, I_div4, I_bi0, I_bi01, I_bi1, nor_em, rI_of, rV_of, zI_of, zV_of, nz_and, br_T, br_F, br_T2, br_F2, st_eq, st9_0, st_k, st_i, true_and, and_true, Classical.not_not, TlA.g1 hT, TlA.g2 hT, TlA.g4 hT, TlA.g7 hT, TlA.g8 hT, TlA.r0 hT, TlA.r3 hT, TlA.r6 hT, TlA.r5 hT, TlA.o hT, DlA.g5 hD, DlA.g6 hD, DlA.g7 hD, DlA.g8 hD, DlA.g9 hD, DlA.g10 hD, DlA.g14 hD, DlA.r0 hD, DlA.r1 hD, DlA.r2 hD, DlA.r3 hD, DlA.r4 hD, DlA.r11 hD, DlA.r12 hD, DlA.r13 hD, DlA.r15 hD, DlA.r16 hD, DlA.gA3 hD, DlA.rA0 hD, DlA.rA1 hD, DlA.rA2 hD, DlA.o hD, DlA.oA hD, PlanAt.g0 hP, PlanAt.g1 hP, PlanAt.g2 hP, PlanAt.g3 hP, PlanAt.g13 hP, PlanAt.g15 hP, PlanAt.r4 hP, PlanAt.r5 hP, PlanAt.r6 hP, PlanAt.r7 hP, PlanAt.r8 hP, PlanAt.r9 hP, PlanAt.r10 hP, PlanAt.r11 hP, PlanAt.r12 hP, PlanAt.r14 hP, PlanAt.isO hP]
  refine ⟨fun q => bad (fun k => k.1 q), fun q => ?_⟩
  refine ⟨⟨_, hL.1⟩, (c_li_size hl hL).cl0 (by decide) ?_⟩
  simp (disch := omega) only [true_implies, false_implies, not_true_eq_false, not_false_eq_true, rR_of, I_n, I_neg, I_add, I_sub, I_mul, I_le4, I_lt4, I_eq4, I_div4, I_bi0, I_bi01, I_bi1, nor_em, rI_of, rV_of, zI_of, zV_of, nz_and, br_T, br_F, br_T2, br_F2, st_eq, st9_0, st_k, st_i, true_and, and_true, Classical.not_not, TlA.g1 hT, TlA.g2 hT, TlA.g4 hT, TlA.g7 hT, TlA.g8 hT, TlA.r0 hT, TlA.r3 hT, TlA.r6 hT, TlA.r5 hT, TlA.o hT, DlA.g5 hD, DlA.g6 hD, DlA.g7 hD, DlA.g8 hD, DlA.g9 hD, DlA.g10 hD, DlA.g14 hD, DlA.r0 hD, DlA.r1 hD, DlA.r2 hD, DlA.r3 hD, DlA.r4 hD, DlA.r11 hD, DlA.r12 hD, DlA.r13 hD, DlA.r15 hD, DlA.r16 hD, DlA.gA3 hD, DlA.rA0 hD, DlA.rA1 hD, DlA.rA2 hD, DlA.o hD, DlA.oA hD, PlanAt.g0 hP, PlanAt.g1 hP, PlanAt.g2 hP, PlanAt.g3 hP, PlanAt.g13 hP, PlanAt.g15 hP, PlanAt.r4 hP, PlanAt.r5 hP, PlanAt.r6 hP, PlanAt.r7 hP, PlanAt.r8 hP, PlanAt.r9 hP, PlanAt.r10 hP, PlanAt.r11 hP, PlanAt.r12 hP, PlanAt.r14 hP, PlanAt.isO hP]
  exact ⟨fun q2 => bad (fun k => by omega), fun q2 => good ⟨q, by omega⟩⟩
end KR
