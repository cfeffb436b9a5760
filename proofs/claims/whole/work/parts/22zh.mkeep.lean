/-! the reference: keep -/
section MZH
variable {l : Launch} {X : XT} {o : Nat} {B A : AH} {S T : Nat → Int → Int} {e : Int}
/-- the rows of keep: what they keep, where they differ -/
theorem rK_w {r : Int → Int} {e x : Int} (w : RW r e) (he : e + 10 ≤ 2000000000) (h : tKee r x = 0) :
    (RW (rKb r x) e ∧ rKb r x 9 = r 9 ∧ ∀ y, y < 696 → rKb r x y = r y) ∧ (∀ n : Nat, n ≤ 240 → RW (zr (rs (rKb r x) 9 (rKb r x 9 + 1)) 96 n) e) ∧ RW (rKeep r x) (e + 1) := by
  have c3 := w.2.2.2.1
  have g := w.1
  obtain ⟨t1, t2⟩ := gT_b g
  have lg := g.2.1
  have hgl := RW_gl w
  have ha : (0 ≤ x ∧ x ≤ 999) ∧ ¬ r 96 = 0 ∧ ¬ r 9 = 4 := by
    unfold tKee tr2 at h
    split at h
    · rename_i h1
      split at h
      · rename_i h2; exact ⟨h1, h2⟩
      · exact absurd h (by decide)
    · exact absurd h (by decide)
  obtain ⟨hx, h96, h9⟩ := ha
  obtain ⟨k1, k2, k3⟩ := gKl_b g h96
  have wa : RW (rKa r x) e := by
    unfold rKa
    refine RW_set ?_ (by omega) (by omega) (by omega) (by omega) (by omega) (by omega) (by omega) (by omega) (by omega) (by omega) (by omega) (by omega)
    exact RW_set w (by omega) (by omega) (by omega) (by omega) (by omega) (by omega) (by omega) (by omega) (by omega) (by omega) (by omega) (by omega)
  have oa : ∀ y, y < 696 → rKa r x y = r y := fun y hy => by unfold rKa; rw [rs_ne (by omega), rs_ne (by omega)]
  have f5a := wa.2.2.2.2.2.2.2.2.2.2.1
  have wb : RW (rKb r x) e := by
    have a := cpy_w (r := rKa r x) (q := rKa r x) (f := 336) (t := 696 + 242 * r 9 + 2) (gKl r).toNat wa (by omega) (by omega) (fun i i0 i1 => f5a i (by omega) (by omega)) (fun i i0 i1 i2 i3 => by omega)
    rw [show (((gKl r).toNat : Nat) : Int) = gKl r by omega] at a
    exact a
  have ob' : ∀ y, y < 698 + 242 * r 9 → rKb r x y = rKa r x y := fun y hy => by unfold rKb cpy; rw [if_neg (by omega)]
  have b9 : rKb r x 9 = r 9 := by rw [ob' 9 (by omega), oa 9 (by omega)]
  have bn : rKb r x (696 + 242 * r 9) = x := by
    rw [ob' _ (by omega)]
    unfold rKa
    rw [rs_ne (by omega), rs_eq]
  have bl : rKb r x (696 + 242 * r 9 + 1) = gKl r := by
    rw [ob' _ (by omega)]
    unfold rKa
    rw [rs_eq]
  have wc : RW (rs (rKb r x) 9 (rKb r x 9 + 1)) e := RW_9 wb (by omega) (by rw [b9, bn]; exact hx) (by rw [b9, bl]; omega)
  have wz : ∀ n : Nat, n ≤ 240 → RW (zr (rs (rKb r x) 9 (rKb r x 9 + 1)) 96 n) e := fun n hn => zr_w wc n hn
  refine ⟨⟨wb, b9, fun y hy => (ob' y (by omega)).trans (oa y hy)⟩, wz, ?_⟩
  have wk := wz (gT r).toNat (by omega)
  rw [show (((gT r).toNat : Nat) : Int) = gT r by omega] at wk
  exact RW_tell wk (by omega) (by omega) (by omega) (by omega)
theorem c_X6_keep (hl : l.stackTraces = false) (w : RW (S 0) e) (he : e + 10 ≤ 2000000000) (hm : 0 ≤ S 9 4 ∧ S 9 4 ≤ 8) {x : Int} (hx : sm x) : Fn l X 4 M_X6_keep [.ref o, .int (I x)] (mp X o B S) 0 0 (Ri (I (if tKee (S 0) x = 0 then gKl (S 0) else 0))) (mp X o B (if tKee (S 0) x = 0 then sr (kS (st S 9 5 0)) (rKeep (S 0) x) else st S 9 5 (tKee (S 0) x))) := by
  have c3 := w.2.2.2.1
  have g := w.1
  obtain ⟨t1, t2⟩ := gT_b g
  have lg := g.2.1
  have ho := w.2.2.2.2.2.2.2.2.2.1 0 (by omega) (by omega)
  rw [Int.add_zero] at ho
  refine Fn.of hl rfl rfl (Nat.le_of_ble_eq_true rfl) (k_X6_keep_0 ?_)
  simp only [I_n]
  refine (c_X6_isName hl hx).cl0 (by decide) ?_
  simp (disch := omega) only [I_n, I_neg, I_add, I_sub, I_mul, I_le4, I_lt4, I_eq4, I_div4, I_bi0, I_bi01, I_bi1, nor_em, rI_of, rV_of, zI_of, zV_of, nz_and, br_T, br_F, br_T2, br_F2, st_eq, st9_0, st_k, st_i, true_and, and_true, Classical.not_not, mp_isO, mp_gI4, mp_gI5, mp_gI7, mp_gI8, mp_gI9, mp_gI10, mp_gI11, mp_gI12, mp_gI13, mp_gI14, mp_gI15, mp_gI19, mp_gI20, mp_gI21, mp_gI23, mp_pI4, mp_pI5, mp_pI7, mp_pI8, mp_pI9, mp_pI10, mp_pI11, mp_pI12, mp_pI13, mp_pI14, mp_pI15, mp_pI19, mp_pI20, mp_pI21, mp_pI23, mp_gR0, mp_gR1, mp_gR2, mp_gR3, mp_gR6, mp_gR16, mp_gR17, mp_gR18, mp_gR22, mp_aI0, mp_aI1, mp_aI2, mp_aI3, mp_aI4, mp_aI5, mp_aI6, mp_aZ7, mp_aI8, mp_sI0, mp_sI1, mp_sI2, mp_sI3, mp_sI4, mp_sI5, mp_sI6, mp_sI8, mp_sZ0, mp_sZ1]
  obtain ⟨t, ht⟩ : ∃ t, t = tKee (S 0) x := ⟨_, rfl⟩
  rw [← ht]
  have bad : t = 1 ∨ t = 2 → G l X M_X6_keep 4 (fun o' A1 => o' = Ri (I (if t = 0 then gKl (S 0) else 0)) ∧ A1 = mp X o B (if t = 0 then sr (kS (st S 9 5 0)) (rKeep (S 0) x) else st S 9 5 t)) 36 [(0, .ref o), (1, .int (I x))] [.int (I t), .ref o] (mp X o B S) 0 0 := by
    intro h12
    refine k_X6_keep_36 ?_
    simp (disch := omega) only [I_n, I_neg, I_add, I_sub, I_mul, I_le4, I_lt4, I_eq4, I_div4, I_bi0, I_bi01, I_bi1, nor_em, rI_of, rV_of, zI_of, zV_of, nz_and, br_T, br_F, br_T2, br_F2, st_eq, st9_0, st_k, st_i, true_and, and_true, Classical.not_not, mp_isO, mp_gI4, mp_gI5, mp_gI7, mp_gI8, mp_gI9, mp_gI10, mp_gI11, mp_gI12, mp_gI13, mp_gI14, mp_gI15, mp_gI19, mp_gI20, mp_gI21, mp_gI23, mp_pI4, mp_pI5, mp_pI7, mp_pI8, mp_pI9, mp_pI10, mp_pI11, mp_pI12, mp_pI13, mp_pI14, mp_pI15, mp_pI19, mp_pI20, mp_pI21, mp_pI23, mp_gR0, mp_gR1, mp_gR2, mp_gR3, mp_gR6, mp_gR16, mp_gR17, mp_gR18, mp_gR22, mp_aI0, mp_aI1, mp_aI2, mp_aI3, mp_aI4, mp_aI5, mp_aI6, mp_aZ7, mp_aI8, mp_sI0, mp_sI1, mp_sI2, mp_sI3, mp_sI4, mp_sI5, mp_sI6, mp_sI8, mp_sZ0, mp_sZ1]
    rw [if_neg (by omega), if_neg (by omega)]
    all_goals first | rfl | exact ⟨rfl, rfl⟩
  refine ⟨fun h => ?_, fun h => ?_⟩
  · have am := c_X6_isMissing (X := X) (o := o) (B := B) (S := S) hl (p := 0) (by omega) (by omega) (by rw [Int.add_zero]; omega)
    rw [Int.add_zero] at am
    refine am.cl0 (by decide) ?_
    simp (disch := omega) only [I_n, I_neg, I_add, I_sub, I_mul, I_le4, I_lt4, I_eq4, I_div4, I_bi0, I_bi01, I_bi1, nor_em, rI_of, rV_of, zI_of, zV_of, nz_and, br_T, br_F, br_T2, br_F2, st_eq, st9_0, st_k, st_i, true_and, and_true, Classical.not_not, mp_isO, mp_gI4, mp_gI5, mp_gI7, mp_gI8, mp_gI9, mp_gI10, mp_gI11, mp_gI12, mp_gI13, mp_gI14, mp_gI15, mp_gI19, mp_gI20, mp_gI21, mp_gI23, mp_pI4, mp_pI5, mp_pI7, mp_pI8, mp_pI9, mp_pI10, mp_pI11, mp_pI12, mp_pI13, mp_pI14, mp_pI15, mp_pI19, mp_pI20, mp_pI21, mp_pI23, mp_gR0, mp_gR1, mp_gR2, mp_gR3, mp_gR6, mp_gR16, mp_gR17, mp_gR18, mp_gR22, mp_aI0, mp_aI1, mp_aI2, mp_aI3, mp_aI4, mp_aI5, mp_aI6, mp_aZ7, mp_aI8, mp_sI0, mp_sI1, mp_sI2, mp_sI3, mp_sI4, mp_sI5, mp_sI6, mp_sI8, mp_sZ0, mp_sZ1]
    refine ⟨fun h2 => ?_, fun h2 => ⟨fun h3 => ?_, fun h3 => ?_⟩⟩
    · have e2 : tKee (S 0) x = 2 := tr2_2 h fun q => q.1 h2
      have b := bad (Or.inr (by rw [ht, e2]))
      rw [ht, e2] at b ⊢
      exact b
    · have e2 : tKee (S 0) x = 0 := tr2_0 h ⟨h2, h3⟩
      obtain ⟨⟨wb, b9, ob'⟩, wz, wk⟩ := rK_w (x := x) w he e2
      obtain ⟨k1, k2, k3⟩ := gKl_b g h2
      rw [ht, e2, if_pos rfl, if_pos rfl]
      refine k_X6_keep_36 ?_
      simp (disch := omega) only [I_n, I_neg, I_add, I_sub, I_mul, I_le4, I_lt4, I_eq4, I_div4, I_bi0, I_bi01, I_bi1, nor_em, rI_of, rV_of, zI_of, zV_of, nz_and, br_T, br_F, br_T2, br_F2, st_eq, st9_0, st_k, st_i, true_and, and_true, Classical.not_not, mp_isO, mp_gI4, mp_gI5, mp_gI7, mp_gI8, mp_gI9, mp_gI10, mp_gI11, mp_gI12, mp_gI13, mp_gI14, mp_gI15, mp_gI19, mp_gI20, mp_gI21, mp_gI23, mp_pI4, mp_pI5, mp_pI7, mp_pI8, mp_pI9, mp_pI10, mp_pI11, mp_pI12, mp_pI13, mp_pI14, mp_pI15, mp_pI19, mp_pI20, mp_pI21, mp_pI23, mp_gR0, mp_gR1, mp_gR2, mp_gR3, mp_gR6, mp_gR16, mp_gR17, mp_gR18, mp_gR22, mp_aI0, mp_aI1, mp_aI2, mp_aI3, mp_aI4, mp_aI5, mp_aI6, mp_aZ7, mp_aI8, mp_sI0, mp_sI1, mp_sI2, mp_sI3, mp_sI4, mp_sI5, mp_sI6, mp_sI8, mp_sZ0, mp_sZ1]
      refine (c_X6_keeps (S := st S 9 5 0) hl (by rw [st_k (by decide)]; exact hm)).cl0 (by decide) ?_
      rw [← sr_kS]
      obtain ⟨T, hT⟩ : ∃ T, T = kS (st S 9 5 0) := ⟨_, rfl⟩
      rw [← hT]
      simp (disch := omega) only [sr_0, sr_sr, sr_st, true_implies, false_implies, not_true_eq_false, not_false_eq_true, I_n, I_neg, I_add, I_sub, I_mul, I_le4, I_lt4, I_eq4, I_div4, I_bi0, I_bi01, I_bi1, nor_em, rI_of, rV_of, zI_of, zV_of, nz_and, br_T, br_F, br_T2, br_F2, st_eq, st9_0, st_k, st_i, true_and, and_true, Classical.not_not, mp_isO, mp_gI4, mp_gI5, mp_gI7, mp_gI8, mp_gI9, mp_gI10, mp_gI11, mp_gI12, mp_gI13, mp_gI14, mp_gI15, mp_gI19, mp_gI20, mp_gI21, mp_gI23, mp_pI4, mp_pI5, mp_pI7, mp_pI8, mp_pI9, mp_pI10, mp_pI11, mp_pI12, mp_pI13, mp_pI14, mp_pI15, mp_pI19, mp_pI20, mp_pI21, mp_pI23, mp_gR0, mp_gR1, mp_gR2, mp_gR3, mp_gR6, mp_gR16, mp_gR17, mp_gR18, mp_gR22, mp_aI0, mp_aI1, mp_aI2, mp_aI3, mp_aI4, mp_aI5, mp_aI6, mp_aZ7, mp_aI8, mp_sI0, mp_sI1, mp_sI2, mp_sI3, mp_sI4, mp_sI5, mp_sI6, mp_sI8, mp_sZ0, mp_sZ1]
      have fin : G l X M_X6_keep 4 (fun o' A1 => o' = Ri (I (gKl (S 0))) ∧ A1 = mp X o B (sr T (rKeep (S 0) x))) 76 [(0, .ref o), (1, .int (I x))] [.int (I (gKl (S 0)))] (mp X o B (sr T (S 0))) 0 0 := by
        refine k_X6_keep_76 ?_
        simp (disch := omega) only [sr_0, sr_sr, sr_st, true_implies, false_implies, not_true_eq_false, not_false_eq_true, I_n, I_neg, I_add, I_sub, I_mul, I_le4, I_lt4, I_eq4, I_div4, I_bi0, I_bi01, I_bi1, nor_em, rI_of, rV_of, zI_of, zV_of, nz_and, br_T, br_F, br_T2, br_F2, st_eq, st9_0, st_k, st_i, true_and, and_true, Classical.not_not, mp_isO, mp_gI4, mp_gI5, mp_gI7, mp_gI8, mp_gI9, mp_gI10, mp_gI11, mp_gI12, mp_gI13, mp_gI14, mp_gI15, mp_gI19, mp_gI20, mp_gI21, mp_gI23, mp_pI4, mp_pI5, mp_pI7, mp_pI8, mp_pI9, mp_pI10, mp_pI11, mp_pI12, mp_pI13, mp_pI14, mp_pI15, mp_pI19, mp_pI20, mp_pI21, mp_pI23, mp_gR0, mp_gR1, mp_gR2, mp_gR3, mp_gR6, mp_gR16, mp_gR17, mp_gR18, mp_gR22, mp_aI0, mp_aI1, mp_aI2, mp_aI3, mp_aI4, mp_aI5, mp_aI6, mp_aZ7, mp_aI8, mp_sI0, mp_sI1, mp_sI2, mp_sI3, mp_sI4, mp_sI5, mp_sI6, mp_sI8, mp_sZ0, mp_sZ1]
        refine (c_X6_file hl).cl0 (by decide) ?_
        simp (disch := omega) only [sr_0, sr_sr, sr_st, true_implies, false_implies, not_true_eq_false, not_false_eq_true, I_n, I_neg, I_add, I_sub, I_mul, I_le4, I_lt4, I_eq4, I_div4, I_bi0, I_bi01, I_bi1, nor_em, rI_of, rV_of, zI_of, zV_of, nz_and, br_T, br_F, br_T2, br_F2, st_eq, st9_0, st_k, st_i, true_and, and_true, Classical.not_not, mp_isO, mp_gI4, mp_gI5, mp_gI7, mp_gI8, mp_gI9, mp_gI10, mp_gI11, mp_gI12, mp_gI13, mp_gI14, mp_gI15, mp_gI19, mp_gI20, mp_gI21, mp_gI23, mp_pI4, mp_pI5, mp_pI7, mp_pI8, mp_pI9, mp_pI10, mp_pI11, mp_pI12, mp_pI13, mp_pI14, mp_pI15, mp_pI19, mp_pI20, mp_pI21, mp_pI23, mp_gR0, mp_gR1, mp_gR2, mp_gR3, mp_gR6, mp_gR16, mp_gR17, mp_gR18, mp_gR22, mp_aI0, mp_aI1, mp_aI2, mp_aI3, mp_aI4, mp_aI5, mp_aI6, mp_aZ7, mp_aI8, mp_sI0, mp_sI1, mp_sI2, mp_sI3, mp_sI4, mp_sI5, mp_sI6, mp_sI8, mp_sZ0, mp_sZ1]
        rw [show rs (rs (S 0) (696 + 242 * S 0 9) x) (696 + 242 * S 0 9 + 1) (gKl (S 0)) = rKa (S 0) x from rfl]
        have e0 : mp X o B (sr T (rKa (S 0) x)) = mp X o B (sr T (cpy (rKa (S 0) x) (rKa (S 0) x) 336 (696 + 242 * S 0 9 + 2) ((0 : Nat) : Int))) := by rw [show ((0 : Nat) : Int) = 0 from rfl, cpy_z]
        rw [e0]
        refine up_to (n := (gKl (S 0)).toNat) (P := fun j => G l X M_X6_keep 4 (fun o' A1 => o' = Ri (I (gKl (S 0))) ∧ A1 = mp X o B (sr T (rKeep (S 0) x))) 111 [(0, .ref o), (1, .int (I x)), (3, .int (I (gKl (S 0)))), (4, .int (I (696 + 242 * S 0 9))), (5, .int (I j))] [] (mp X o B (sr T (cpy (rKa (S 0) x) (rKa (S 0) x) 336 (696 + 242 * S 0 9 + 2) j))) 0 0) ?_ ?_
        · rw [show cpy (rKa (S 0) x) (rKa (S 0) x) 336 (696 + 242 * S 0 9 + 2) ((gKl (S 0)).toNat : Nat) = rKb (S 0) x by unfold rKb; rw [show (((gKl (S 0)).toNat : Nat) : Int) = gKl (S 0) by omega]]
          refine k_X6_keep_111 ?_
          simp (disch := omega) only [sr_0, sr_sr, sr_st, true_implies, false_implies, not_true_eq_false, not_false_eq_true, I_n, I_neg, I_add, I_sub, I_mul, I_le4, I_lt4, I_eq4, I_div4, I_bi0, I_bi01, I_bi1, nor_em, rI_of, rV_of, zI_of, zV_of, nz_and, br_T, br_F, br_T2, br_F2, st_eq, st9_0, st_k, st_i, true_and, and_true, Classical.not_not, mp_isO, mp_gI4, mp_gI5, mp_gI7, mp_gI8, mp_gI9, mp_gI10, mp_gI11, mp_gI12, mp_gI13, mp_gI14, mp_gI15, mp_gI19, mp_gI20, mp_gI21, mp_gI23, mp_pI4, mp_pI5, mp_pI7, mp_pI8, mp_pI9, mp_pI10, mp_pI11, mp_pI12, mp_pI13, mp_pI14, mp_pI15, mp_pI19, mp_pI20, mp_pI21, mp_pI23, mp_gR0, mp_gR1, mp_gR2, mp_gR3, mp_gR6, mp_gR16, mp_gR17, mp_gR18, mp_gR22, mp_aI0, mp_aI1, mp_aI2, mp_aI3, mp_aI4, mp_aI5, mp_aI6, mp_aZ7, mp_aI8, mp_sI0, mp_sI1, mp_sI2, mp_sI3, mp_sI4, mp_sI5, mp_sI6, mp_sI8, mp_sZ0, mp_sZ1]
          have e3 : mp X o B (sr T (rs (rKb (S 0) x) 9 (rKb (S 0) x 9 + 1))) = mp X o B (sr T (zr (rs (rKb (S 0) x) 9 (rKb (S 0) x 9 + 1)) 96 ((0 : Nat) : Int))) := by rw [show ((0 : Nat) : Int) = 0 from rfl, zr_z]
          rw [e3]
          refine up_to (n := (gT (S 0)).toNat) (P := fun j => G l X M_X6_keep 4 (fun o' A1 => o' = Ri (I (gKl (S 0))) ∧ A1 = mp X o B (sr T (rKeep (S 0) x))) 160 [(0, .ref o), (1, .int (I x)), (3, .int (I (gKl (S 0)))), (5, .int (I j))] [] (mp X o B (sr T (zr (rs (rKb (S 0) x) 9 (rKb (S 0) x 9 + 1)) 96 j))) 0 0) ?_ ?_
          · have wj := wz (gT (S 0)).toNat (by omega)
            rw [show (((gT (S 0)).toNat : Nat) : Int) = gT (S 0) by omega] at wj ⊢
            rw [show zr (rs (rKb (S 0) x) 9 (rKb (S 0) x 9 + 1)) 96 (gT (S 0)) = rKc (S 0) x from rfl] at wj ⊢
            have oc : ∀ y, y < 9 → rKc (S 0) x y = S 0 y := fun y hy => by unfold rKc zr; rw [if_neg (by omega), rs_ne (by omega), ob' y (by omega)]
            have hc := geo_c (oc 0 (by omega)) (oc 2 (by omega)) (oc 3 (by omega))
            have hgl := RW_gl wj
            have ap := c_X6_parts (X := X) (o := o) (B := B) (S := sr T (rKc (S 0) x)) hl wj.1
            rw [sr_0, hc.2.2.2.2.2.1] at ap
            refine k_X6_keep_160 ⟨mp_isO, ap.cl0 (by decide) ?_⟩
            simp (disch := omega) only [sr_0, sr_sr, sr_st, true_implies, false_implies, not_true_eq_false, not_false_eq_true, I_n, I_neg, I_add, I_sub, I_mul, I_le4, I_lt4, I_eq4, I_div4, I_bi0, I_bi01, I_bi1, nor_em, rI_of, rV_of, zI_of, zV_of, nz_and, br_T, br_F, br_T2, br_F2, st_eq, st9_0, st_k, st_i, true_and, and_true, Classical.not_not, mp_isO, mp_gI4, mp_gI5, mp_gI7, mp_gI8, mp_gI9, mp_gI10, mp_gI11, mp_gI12, mp_gI13, mp_gI14, mp_gI15, mp_gI19, mp_gI20, mp_gI21, mp_gI23, mp_pI4, mp_pI5, mp_pI7, mp_pI8, mp_pI9, mp_pI10, mp_pI11, mp_pI12, mp_pI13, mp_pI14, mp_pI15, mp_pI19, mp_pI20, mp_pI21, mp_pI23, mp_gR0, mp_gR1, mp_gR2, mp_gR3, mp_gR6, mp_gR16, mp_gR17, mp_gR18, mp_gR22, mp_aI0, mp_aI1, mp_aI2, mp_aI3, mp_aI4, mp_aI5, mp_aI6, mp_aZ7, mp_aI8, mp_sI0, mp_sI1, mp_sI2, mp_sI3, mp_sI4, mp_sI5, mp_sI6, mp_sI8, mp_sZ0, mp_sZ1]
            refine (c_X6_tells (S := sr T (rKc (S 0) x)) hl hgl.1 (by rw [sr_0]; omega)).cl0 (by decide) ?_
            simp (disch := omega) only [sr_0, sr_sr, sr_st, true_implies, false_implies, not_true_eq_false, not_false_eq_true, I_n, I_neg, I_add, I_sub, I_mul, I_le4, I_lt4, I_eq4, I_div4, I_bi0, I_bi01, I_bi1, nor_em, rI_of, rV_of, zI_of, zV_of, nz_and, br_T, br_F, br_T2, br_F2, st_eq, st9_0, st_k, st_i, true_and, and_true, Classical.not_not, mp_isO, mp_gI4, mp_gI5, mp_gI7, mp_gI8, mp_gI9, mp_gI10, mp_gI11, mp_gI12, mp_gI13, mp_gI14, mp_gI15, mp_gI19, mp_gI20, mp_gI21, mp_gI23, mp_pI4, mp_pI5, mp_pI7, mp_pI8, mp_pI9, mp_pI10, mp_pI11, mp_pI12, mp_pI13, mp_pI14, mp_pI15, mp_pI19, mp_pI20, mp_pI21, mp_pI23, mp_gR0, mp_gR1, mp_gR2, mp_gR3, mp_gR6, mp_gR16, mp_gR17, mp_gR18, mp_gR22, mp_aI0, mp_aI1, mp_aI2, mp_aI3, mp_aI4, mp_aI5, mp_aI6, mp_aZ7, mp_aI8, mp_sI0, mp_sI1, mp_sI2, mp_sI3, mp_sI4, mp_sI5, mp_sI6, mp_sI8, mp_sZ0, mp_sZ1]
            all_goals first | rfl | exact ⟨rfl, rfl⟩
          · intro j hj ih
            have wj := wz j (by omega)
            obtain ⟨kd, hkd⟩ : ∃ kd, kd = rs (rKb (S 0) x) 9 (rKb (S 0) x 9 + 1) := ⟨_, rfl⟩
            rw [← hkd] at wj ih ⊢
            have oc : ∀ y, y < 9 → zr kd 96 j y = S 0 y := fun y hy => by unfold zr; rw [if_neg (by omega), hkd, rs_ne (by omega), ob' y (by omega)]
            have hc := geo_c (oc 0 (by omega)) (oc 2 (by omega)) (oc 3 (by omega))
            have c := zr_s (r := kd) (f := 96) (n := j) (by omega)
            have e1 : ((j + 1 : Nat) : Int) = (j : Int) + 1 := rfl
            rw [e1, ← c] at ih
            have ap := c_X6_parts (X := X) (o := o) (B := B) (S := sr T (zr kd 96 j)) hl wj.1
            rw [sr_0, hc.2.2.2.2.2.1] at ap
            refine k_X6_keep_160 ⟨mp_isO, ap.cl0 (by decide) ?_⟩
            simp (disch := omega) only [sr_0, sr_sr, sr_st, true_implies, false_implies, not_true_eq_false, not_false_eq_true, I_n, I_neg, I_add, I_sub, I_mul, I_le4, I_lt4, I_eq4, I_div4, I_bi0, I_bi01, I_bi1, nor_em, rI_of, rV_of, zI_of, zV_of, nz_and, br_T, br_F, br_T2, br_F2, st_eq, st9_0, st_k, st_i, true_and, and_true, Classical.not_not, mp_isO, mp_gI4, mp_gI5, mp_gI7, mp_gI8, mp_gI9, mp_gI10, mp_gI11, mp_gI12, mp_gI13, mp_gI14, mp_gI15, mp_gI19, mp_gI20, mp_gI21, mp_gI23, mp_pI4, mp_pI5, mp_pI7, mp_pI8, mp_pI9, mp_pI10, mp_pI11, mp_pI12, mp_pI13, mp_pI14, mp_pI15, mp_pI19, mp_pI20, mp_pI21, mp_pI23, mp_gR0, mp_gR1, mp_gR2, mp_gR3, mp_gR6, mp_gR16, mp_gR17, mp_gR18, mp_gR22, mp_aI0, mp_aI1, mp_aI2, mp_aI3, mp_aI4, mp_aI5, mp_aI6, mp_aZ7, mp_aI8, mp_sI0, mp_sI1, mp_sI2, mp_sI3, mp_sI4, mp_sI5, mp_sI6, mp_sI8, mp_sZ0, mp_sZ1]
            exact ih
        · intro j hj ih
          have c := cpy_s (r := rKa (S 0) x) (q := rKa (S 0) x) (f := 336) (t := 696 + 242 * S 0 9 + 2) (n := j) (by omega)
          have e1 : ((j + 1 : Nat) : Int) = (j : Int) + 1 := rfl
          rw [e1, ← c] at ih
          have c2 : cpy (rKa (S 0) x) (rKa (S 0) x) 336 (696 + 242 * S 0 9 + 2) j (336 + j) = rKa (S 0) x (336 + j) := by
            unfold cpy
            rw [if_neg (by omega)]
          refine k_X6_keep_111 ?_
          simp (disch := omega) only [sr_0, sr_sr, sr_st, true_implies, false_implies, not_true_eq_false, not_false_eq_true, I_n, I_neg, I_add, I_sub, I_mul, I_le4, I_lt4, I_eq4, I_div4, I_bi0, I_bi01, I_bi1, nor_em, rI_of, rV_of, zI_of, zV_of, nz_and, br_T, br_F, br_T2, br_F2, st_eq, st9_0, st_k, st_i, true_and, and_true, Classical.not_not, mp_isO, mp_gI4, mp_gI5, mp_gI7, mp_gI8, mp_gI9, mp_gI10, mp_gI11, mp_gI12, mp_gI13, mp_gI14, mp_gI15, mp_gI19, mp_gI20, mp_gI21, mp_gI23, mp_pI4, mp_pI5, mp_pI7, mp_pI8, mp_pI9, mp_pI10, mp_pI11, mp_pI12, mp_pI13, mp_pI14, mp_pI15, mp_pI19, mp_pI20, mp_pI21, mp_pI23, mp_gR0, mp_gR1, mp_gR2, mp_gR3, mp_gR6, mp_gR16, mp_gR17, mp_gR18, mp_gR22, mp_aI0, mp_aI1, mp_aI2, mp_aI3, mp_aI4, mp_aI5, mp_aI6, mp_aZ7, mp_aI8, mp_sI0, mp_sI1, mp_sI2, mp_sI3, mp_sI4, mp_sI5, mp_sI6, mp_sI8, mp_sZ0, mp_sZ1]
          rw [c2]
          exact ih
      have T0 : T 0 = S 0 := by rw [hT, kS_st]
      have al := c_X6_lowestMissing (X := X) (o := o) (B := B) (S := sr T (S 0)) hl w
      rw [sr_0] at al
      refine al.cl0 (by decide) ?_
      have hlo := gLo_b g
      have hlb : -1 ≤ gLo (S 0) ∧ gLo (S 0) < gT (S 0) := by
        rcases hlo with a | a
        · omega
        · omega
      simp (disch := omega) only [sr_0, sr_sr, sr_st, true_implies, false_implies, not_true_eq_false, not_false_eq_true, I_n, I_neg, I_add, I_sub, I_mul, I_le4, I_lt4, I_eq4, I_div4, I_bi0, I_bi01, I_bi1, nor_em, rI_of, rV_of, zI_of, zV_of, nz_and, br_T, br_F, br_T2, br_F2, st_eq, st9_0, st_k, st_i, true_and, and_true, Classical.not_not, mp_isO, mp_gI4, mp_gI5, mp_gI7, mp_gI8, mp_gI9, mp_gI10, mp_gI11, mp_gI12, mp_gI13, mp_gI14, mp_gI15, mp_gI19, mp_gI20, mp_gI21, mp_gI23, mp_pI4, mp_pI5, mp_pI7, mp_pI8, mp_pI9, mp_pI10, mp_pI11, mp_pI12, mp_pI13, mp_pI14, mp_pI15, mp_pI19, mp_pI20, mp_pI21, mp_pI23, mp_gR0, mp_gR1, mp_gR2, mp_gR3, mp_gR6, mp_gR16, mp_gR17, mp_gR18, mp_gR22, mp_aI0, mp_aI1, mp_aI2, mp_aI3, mp_aI4, mp_aI5, mp_aI6, mp_aZ7, mp_aI8, mp_sI0, mp_sI1, mp_sI2, mp_sI3, mp_sI4, mp_sI5, mp_sI6, mp_sI8, mp_sZ0, mp_sZ1]
      refine ⟨fun h4 => ?_, fun h4 => ?_⟩
      · have ap := c_X6_placeOf (X := X) (o := o) (B := B) (S := sr T (S 0)) hl g (p := gLo (S 0)) (by omega) (by omega)
        rw [sr_0] at ap
        refine ap.cl0 (by decide) ?_
        simp (disch := omega) only [sr_0, sr_sr, sr_st, true_implies, false_implies, not_true_eq_false, not_false_eq_true, I_n, I_neg, I_add, I_sub, I_mul, I_le4, I_lt4, I_eq4, I_div4, I_bi0, I_bi01, I_bi1, nor_em, rI_of, rV_of, zI_of, zV_of, nz_and, br_T, br_F, br_T2, br_F2, st_eq, st9_0, st_k, st_i, true_and, and_true, Classical.not_not, mp_isO, mp_gI4, mp_gI5, mp_gI7, mp_gI8, mp_gI9, mp_gI10, mp_gI11, mp_gI12, mp_gI13, mp_gI14, mp_gI15, mp_gI19, mp_gI20, mp_gI21, mp_gI23, mp_pI4, mp_pI5, mp_pI7, mp_pI8, mp_pI9, mp_pI10, mp_pI11, mp_pI12, mp_pI13, mp_pI14, mp_pI15, mp_pI19, mp_pI20, mp_pI21, mp_pI23, mp_gR0, mp_gR1, mp_gR2, mp_gR3, mp_gR6, mp_gR16, mp_gR17, mp_gR18, mp_gR22, mp_aI0, mp_aI1, mp_aI2, mp_aI3, mp_aI4, mp_aI5, mp_aI6, mp_aZ7, mp_aI8, mp_sI0, mp_sI1, mp_sI2, mp_sI3, mp_sI4, mp_sI5, mp_sI6, mp_sI8, mp_sZ0, mp_sZ1]
        have ek : gKl (S 0) = gPl (S 0) (gLo (S 0)) := if_neg h4
        rw [← ek]
        exact fin
      · have ek : gKl (S 0) = S 0 0 := if_pos h4
        rw [← ek]
        exact fin
    · have e2 : tKee (S 0) x = 2 := tr2_2 h fun q => q.2 h3
      have b := bad (Or.inr (by rw [ht, e2]))
      rw [ht, e2] at b ⊢
      exact b
  · have e2 : tKee (S 0) x = 1 := tr2_1 h
    have b := bad (Or.inl (by rw [ht, e2]))
    rw [ht, e2] at b ⊢
    exact b
end MZH
