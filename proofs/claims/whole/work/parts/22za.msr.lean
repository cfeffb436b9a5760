/-! the reference: search, queriesFor; what a search keeps -/
theorem gV_2 {r : Int → Int} {k : Int} (h : gV r k = 2) {i : Int} (hi : 0 ≤ i) (hi2 : i < gPo r k) : r (96 + (gF r k + i)) ≠ 0 := by
  refine gMi_0 (k := k) ?_ hi hi2
  intro q
  unfold gV at h
  rw [if_pos q] at h
  exact absurd h (by decide)
theorem rDs_w {fd : Int → Int} {c f : Int} : ∀ (m : Nat) (j : Int) (r : Int → Int) (e : Int), RW r e → e + 20 + 10 * m ≤ 2000000000 → 0 ≤ f + j → f + j + m ≤ 240 → (∀ i, j ≤ i → i < j + m → r (96 + (f + i)) ≠ 0) →
    RW (rDs fd c f m j r) (e + 2 * m) ∧ ∀ y, y < 96 + (f + j) ∨ 96 + (f + j + m) ≤ y → y ≠ 7 → y ≠ 8 → y ≠ 18 → y ≠ 19 → y < 576 ∨ 696 ≤ y → rDs fd c f m j r y = r y := by
  intro m
  induction m with
  | zero => intro j r e w he h0 h1 hp; exact ⟨RW_e w (by omega) (by omega), fun _ _ _ _ _ _ _ => rfl⟩
  | succ m ih =>
    intro j r e w he h0 h1 hp
    have hpj := hp j (Int.le_refl _) (by omega)
    have step : ∀ q : Int → Int, RW q (e + 2) → (∀ y, y ≠ 96 + (f + j) → y ≠ 7 → y ≠ 8 → y ≠ 18 → y ≠ 19 → y < 576 ∨ 696 ≤ y → q y = r y) → RW (rDs fd c f m (j + 1) q) (e + 2 * (m + 1 : Nat)) ∧ ∀ y, y < 96 + (f + j) ∨ 96 + (f + j + (m + 1 : Nat)) ≤ y → y ≠ 7 → y ≠ 8 → y ≠ 18 → y ≠ 19 → y < 576 ∨ 696 ≤ y → rDs fd c f m (j + 1) q y = r y := by
      intro q wq oq
      obtain ⟨i1, i2⟩ := ih (j + 1) q (e + 2) wq (by omega) (by omega) (by omega) fun i hi hi2 => by
        rw [oq _ (by omega) (by omega) (by omega) (by omega) (by omega) (by omega)]
        exact hp i (by omega) (by omega)
      refine ⟨RW_e i1 (by omega) (by omega), fun y a1 a2 a3 a4 a5 a6 => (i2 y (by omega) a2 a3 a4 a5 a6).trans (oq y (by omega) a2 a3 a4 a5 a6)⟩
    show RW (rDs fd c f m (j + 1) (if c = 0 then rDr r (f + j) 4 else if fd j = 0 then r else rDr r (f + j) 3)) _ ∧ _
    have dr : ∀ kd, RW (rDr r (f + j) kd) (e + 2) ∧ ∀ y, y ≠ 96 + (f + j) → y ≠ 7 → y ≠ 8 → y ≠ 18 → y ≠ 19 → y < 576 ∨ 696 ≤ y → rDr r (f + j) kd y = r y := fun kd => rDr_w w (by omega) h0 (by omega) hpj
    refine step _ ?_ ?_
    · split
      · exact (dr 4).1
      · split
        · exact RW_e w (by omega) (by omega)
        · exact (dr 3).1
    · split
      · exact (dr 4).2
      · split
        · exact fun _ _ _ _ _ _ _ => rfl
        · exact (dr 3).2
theorem rBan_w {q : Int → Int} {e : Int} (w : RW q e) (he : e + 10 ≤ 2000000000) : RW (rBan q) (e + 1) ∧ ∀ y, y ≠ 7 → y ≠ 13 → y ≠ 15 → y < 576 ∨ 696 ≤ y → rBan q y = q y := by
  have d5 := w.2.2.2.2.2.1
  unfold rBan
  split
  · have w2 : RW (rs (rs q 13 1) 15 0) e := by
      refine RW_set ?_ (by omega) (by omega) (by omega) (by omega) (by omega) (by omega) (by omega) (by omega) (by omega) (by omega) (by omega) (by omega)
      exact RW_set w (by omega) (by omega) (by omega) (by omega) (by omega) (by omega) (by omega) (by omega) (by omega) (by omega) (by omega) (by omega)
    have e19 : rs (rs q 13 1) 15 0 19 = q 19 := by rw [rs_ne (by omega), rs_ne (by omega)]
    refine ⟨RW_tell w2 (by omega) (by omega) (by omega) (by omega), fun y a b c d => ?_⟩
    rw [rTell_g (RW_gl w2).1 (by omega), rs_ne c, rs_ne b]
  · exact ⟨RW_e w (by omega) (by omega), fun _ _ _ _ _ => rfl⟩
theorem rSe_w {r : Int → Int} {e k : Int} (w : RW r e) (he : e + 3000 ≤ 2000000000) (h0 : 0 ≤ k) (h1 : k < gN r) (hv : gV r k = 2) : RW (rSe r k) (e + 194) ∧ ∀ y, y < 96 + gF r k ∨ 96 + (gF r k + gPo r k) ≤ y → y ≠ 6 → y ≠ 7 → y ≠ 8 → y ≠ 13 → y ≠ 15 → y ≠ 18 → y ≠ 19 → y < 576 ∨ 696 ≤ y → rSe r k y = r y := by
  obtain ⟨p1, p2, -⟩ := gPo_b w.1 h0 h1
  obtain ⟨q1, q2, -⟩ := gE_b w.1
  obtain ⟨f1, f2⟩ := gF_b w.1 h0 h1
  obtain ⟨t1, t2⟩ := gT_b w.1
  obtain ⟨n1, n2, -⟩ := gN_b w.1
  have lg := w.1.2.1
  obtain ⟨b1, b2, b3, b4⟩ := look_b (r := r) (f := gF r k) 6 0 (gPo r k) p1
  have hgw := RW_gl w
  have ha2 : 0 ≤ (lk0 r k).2 ∧ (lk0 r k).2 ≤ 2 * (gPo r k - 1) := b1
  obtain ⟨d1, d2⟩ := rDs_w (fd := mark (fun _ => 0) (lk0 r k).1) (c := (lk0 r k).1.length) (f := gF r k) (gPo r k).toNat 0 r e w (by omega) (by omega) (by omega) fun i i0 i1 => gV_2 hv (by omega) (by omega)
  have wd : RW (rSe0 r k) (e + 96) := RW_e d1 (by omega) (by omega)
  have od : ∀ y, y < 96 + gF r k ∨ 96 + (gF r k + gPo r k) ≤ y → y ≠ 7 → y ≠ 8 → y ≠ 18 → y ≠ 19 → y < 576 ∨ 696 ≤ y → rSe0 r k y = r y := fun y a1 a2 a3 a4 a5 a6 => d2 y (by omega) a2 a3 a4 a5 a6
  have w1 : RW (rSe1 r k) (e + 97) ∧ ∀ y, y ≠ 7 → y < 576 ∨ 696 ≤ y → rSe1 r k y = rSe0 r k y := by
    unfold rSe1
    split
    · exact ⟨RW_e (RW_tell (k := 4) (a := k) (b := 0) wd (by omega) (by omega) (by omega) (by omega)) (by omega) (by omega), fun y a b => rTell_g (RW_gl wd).1 (by omega)⟩
    · exact ⟨RW_e wd (by omega) (by omega), fun _ _ _ => rfl⟩
  obtain ⟨w1, o1⟩ := w1
  have c5 := w1.2.2.2.2.2.1
  have e6 : rSe1 r k 6 = r 6 := by rw [o1 6 (by omega) (by omega), od 6 (by omega) (by omega) (by omega) (by omega) (by omega) (by omega)]
  have c5r := w.2.2.2.2.2.1
  have w2 : RW (rs (rSe1 r k) 6 (rSe1 r k 6 + (lk0 r k).2)) (e + 97) := RW_set w1 (by omega) (by omega) (by omega) (by omega) (by omega) (by omega) (by omega) (by omega) (by omega) (by omega) (by omega) (by omega)
  obtain ⟨w3, o3⟩ := rBan_w w2 (by omega)
  refine ⟨RW_e w3 (by omega) (by omega), fun y a1 a2 a3 a4 a5 a6 a7 a8 a9 => ?_⟩
  unfold rSe
  rw [o3 y a3 a5 a6 a9, rs_ne a2, o1 y a3 a9, od y a1 a3 a4 a7 a8 a9]
def tSea (r : Int → Int) (k : Int) : Int := tr2 (0 ≤ k ∧ k ≤ gN r - 1) (gV r k = 2 ∧ ¬ r 14 = 0)
def tQue (r : Int → Int) (k : Int) : Int := tr2 (0 ≤ k ∧ k ≤ gN r - 1) (gV r k = 2)
section MZA
variable {l : Launch} {X : XT} {o : Nat} {B A : AH} {S T : Nat → Int → Int} {e : Int}
theorem c_X6_search (hl : l.stackTraces = false) (w : RW (S 0) e) (he : e + 3000 ≤ 2000000000) (hm : 0 ≤ S 9 4 ∧ S 9 4 ≤ 8) {k : Int} (hk : sm k) : Ct l X 7 M_X6_search [.ref o, .int (I k)] (mp X o B S) 0 0 (fun ot A1 => ot = Ri (I (if tSea (S 0) k = 0 then (lk0 (S 0) k).2 else 0)) ∧ ∃ S', A1 = mp X o B S' ∧ S' 0 = (if tSea (S 0) k = 0 then rSe (S 0) k else S 0) ∧ SE (if tSea (S 0) k = 0 then kS (st S 9 5 0) else st S 9 5 (tSea (S 0) k)) S') := by
  have g := w.1
  obtain ⟨n1, n2, -⟩ := gN_b g
  have c4 := w.2.2.2.2.1
  refine Ct.of hl rfl rfl (Nat.le_of_ble_eq_true rfl) (k_X6_search_0 ?_)
  refine ⟨mp_isO, (c_X6_isPiece hl g hk).cl0 (by decide) ?_⟩
  simp (disch := omega) only [I_n, I_neg, I_add, I_sub, I_mul, I_le4, I_lt4, I_eq4, I_div4, I_bi0, I_bi01, I_bi1, nor_em, rI_of, rV_of, zI_of, zV_of, nz_and, br_T, br_F, br_T2, br_F2, st_eq, st9_0, st_k, st_i, true_and, and_true, Classical.not_not, mp_isO, mp_gI4, mp_gI5, mp_gI7, mp_gI8, mp_gI9, mp_gI10, mp_gI11, mp_gI12, mp_gI13, mp_gI14, mp_gI15, mp_gI19, mp_gI20, mp_gI21, mp_gI23, mp_pI4, mp_pI5, mp_pI7, mp_pI8, mp_pI9, mp_pI10, mp_pI11, mp_pI12, mp_pI13, mp_pI14, mp_pI15, mp_pI19, mp_pI20, mp_pI21, mp_pI23, mp_gR0, mp_gR1, mp_gR2, mp_gR3, mp_gR6, mp_gR16, mp_gR17, mp_gR18, mp_gR22, mp_aI0, mp_aI1, mp_aI2, mp_aI3, mp_aI4, mp_aI5, mp_aI6, mp_aZ7, mp_aI8, mp_sI0, mp_sI1, mp_sI2, mp_sI3, mp_sI4, mp_sI5, mp_sI6, mp_sI8, mp_sZ0, mp_sZ1]
  unfold tSea
  have bad : ∀ t : Int, t = tr2 (0 ≤ k ∧ k ≤ gN (S 0) - 1) (gV (S 0) k = 2 ∧ ¬ S 0 14 = 0) → t = 1 ∨ t = 2 → G l X M_X6_search 7 (fun ot A1 => ot = Ri (I (if tr2 (0 ≤ k ∧ k ≤ gN (S 0) - 1) (gV (S 0) k = 2 ∧ ¬ S 0 14 = 0) = 0 then (lk0 (S 0) k).2 else 0)) ∧ ∃ S', A1 = mp X o B S' ∧ S' 0 = (if tr2 (0 ≤ k ∧ k ≤ gN (S 0) - 1) (gV (S 0) k = 2 ∧ ¬ S 0 14 = 0) = 0 then rSe (S 0) k else S 0) ∧ SE (if tr2 (0 ≤ k ∧ k ≤ gN (S 0) - 1) (gV (S 0) k = 2 ∧ ¬ S 0 14 = 0) = 0 then kS (st S 9 5 0) else st S 9 5 (tr2 (0 ≤ k ∧ k ≤ gN (S 0) - 1) (gV (S 0) k = 2 ∧ ¬ S 0 14 = 0))) S') 37 [(0, .ref o), (1, .int (I k))] [.int (I t), .ref o] (mp X o B S) 0 0 := by
    intro t ht h12
    rw [← ht]
    refine k_X6_search_37 ?_
    simp (disch := omega) only [I_n, I_neg, I_add, I_sub, I_mul, I_le4, I_lt4, I_eq4, I_div4, I_bi0, I_bi01, I_bi1, nor_em, rI_of, rV_of, zI_of, zV_of, nz_and, br_T, br_F, br_T2, br_F2, st_eq, st9_0, st_k, st_i, true_and, and_true, Classical.not_not, mp_isO, mp_gI4, mp_gI5, mp_gI7, mp_gI8, mp_gI9, mp_gI10, mp_gI11, mp_gI12, mp_gI13, mp_gI14, mp_gI15, mp_gI19, mp_gI20, mp_gI21, mp_gI23, mp_pI4, mp_pI5, mp_pI7, mp_pI8, mp_pI9, mp_pI10, mp_pI11, mp_pI12, mp_pI13, mp_pI14, mp_pI15, mp_pI19, mp_pI20, mp_pI21, mp_pI23, mp_gR0, mp_gR1, mp_gR2, mp_gR3, mp_gR6, mp_gR16, mp_gR17, mp_gR18, mp_gR22, mp_aI0, mp_aI1, mp_aI2, mp_aI3, mp_aI4, mp_aI5, mp_aI6, mp_aZ7, mp_aI8, mp_sI0, mp_sI1, mp_sI2, mp_sI3, mp_sI4, mp_sI5, mp_sI6, mp_sI8, mp_sZ0, mp_sZ1]
    rw [if_neg (by omega), if_neg (by omega), if_neg (by omega)]
    exact ⟨rfl, _, rfl, st9_0, SE.rf⟩
  refine ⟨fun h => ?_, fun h => ?_⟩
  · have hv := gV_b (r := S 0) (k := k)
    refine (c_X6_stateOf hl w h.1 (by omega)).cl0 (by decide) ?_
    simp (disch := omega) only [I_n, I_neg, I_add, I_sub, I_mul, I_le4, I_lt4, I_eq4, I_div4, I_bi0, I_bi01, I_bi1, nor_em, rI_of, rV_of, zI_of, zV_of, nz_and, br_T, br_F, br_T2, br_F2, st_eq, st9_0, st_k, st_i, true_and, and_true, Classical.not_not, mp_isO, mp_gI4, mp_gI5, mp_gI7, mp_gI8, mp_gI9, mp_gI10, mp_gI11, mp_gI12, mp_gI13, mp_gI14, mp_gI15, mp_gI19, mp_gI20, mp_gI21, mp_gI23, mp_pI4, mp_pI5, mp_pI7, mp_pI8, mp_pI9, mp_pI10, mp_pI11, mp_pI12, mp_pI13, mp_pI14, mp_pI15, mp_pI19, mp_pI20, mp_pI21, mp_pI23, mp_gR0, mp_gR1, mp_gR2, mp_gR3, mp_gR6, mp_gR16, mp_gR17, mp_gR18, mp_gR22, mp_aI0, mp_aI1, mp_aI2, mp_aI3, mp_aI4, mp_aI5, mp_aI6, mp_aZ7, mp_aI8, mp_sI0, mp_sI1, mp_sI2, mp_sI3, mp_sI4, mp_sI5, mp_sI6, mp_sI8, mp_sZ0, mp_sZ1]
    refine ⟨fun h2 => ?_, fun h2 => ⟨fun h3 => ?_, fun h3 => ?_⟩⟩
    · exact bad 2 (tr2_2 h (fun q => h2 q.1)).symm (Or.inr rfl)
    · rw [tr2_0 h ⟨h2, h3⟩, if_pos rfl, if_pos rfl, if_pos rfl]
      refine k_X6_search_37 ?_
      simp (disch := omega) only [I_n, I_neg, I_add, I_sub, I_mul, I_le4, I_lt4, I_eq4, I_div4, I_bi0, I_bi01, I_bi1, nor_em, rI_of, rV_of, zI_of, zV_of, nz_and, br_T, br_F, br_T2, br_F2, st_eq, st9_0, st_k, st_i, true_and, and_true, Classical.not_not, mp_isO, mp_gI4, mp_gI5, mp_gI7, mp_gI8, mp_gI9, mp_gI10, mp_gI11, mp_gI12, mp_gI13, mp_gI14, mp_gI15, mp_gI19, mp_gI20, mp_gI21, mp_gI23, mp_pI4, mp_pI5, mp_pI7, mp_pI8, mp_pI9, mp_pI10, mp_pI11, mp_pI12, mp_pI13, mp_pI14, mp_pI15, mp_pI19, mp_pI20, mp_pI21, mp_pI23, mp_gR0, mp_gR1, mp_gR2, mp_gR3, mp_gR6, mp_gR16, mp_gR17, mp_gR18, mp_gR22, mp_aI0, mp_aI1, mp_aI2, mp_aI3, mp_aI4, mp_aI5, mp_aI6, mp_aZ7, mp_aI8, mp_sI0, mp_sI1, mp_sI2, mp_sI3, mp_sI4, mp_sI5, mp_sI6, mp_sI8, mp_sZ0, mp_sZ1]
      refine (c_X6_keeps (S := st S 9 5 0) hl (by rw [st_k (by decide)]; exact hm)).cl0 (by decide) ?_
      simp (disch := omega) only [I_n, I_neg, I_add, I_sub, I_mul, I_le4, I_lt4, I_eq4, I_div4, I_bi0, I_bi01, I_bi1, nor_em, rI_of, rV_of, zI_of, zV_of, nz_and, br_T, br_F, br_T2, br_F2, st_eq, st9_0, st_k, st_i, true_and, and_true, Classical.not_not, mp_isO, mp_gI4, mp_gI5, mp_gI7, mp_gI8, mp_gI9, mp_gI10, mp_gI11, mp_gI12, mp_gI13, mp_gI14, mp_gI15, mp_gI19, mp_gI20, mp_gI21, mp_gI23, mp_pI4, mp_pI5, mp_pI7, mp_pI8, mp_pI9, mp_pI10, mp_pI11, mp_pI12, mp_pI13, mp_pI14, mp_pI15, mp_pI19, mp_pI20, mp_pI21, mp_pI23, mp_gR0, mp_gR1, mp_gR2, mp_gR3, mp_gR6, mp_gR16, mp_gR17, mp_gR18, mp_gR22, mp_aI0, mp_aI1, mp_aI2, mp_aI3, mp_aI4, mp_aI5, mp_aI6, mp_aZ7, mp_aI8, mp_sI0, mp_sI1, mp_sI2, mp_sI3, mp_sI4, mp_sI5, mp_sI6, mp_sI8, mp_sZ0, mp_sZ1]
      have as := c_X6_searches (X := X) (o := o) (B := B) (S := kS (st S 9 5 0)) (e := e) (k := k) hl (by rw [kS_st]; exact w) he h.1 (by rw [kS_st]; omega) (by rw [kS_st]; exact fun i i0 i1 => gV_2 h2 i0 i1)
      rw [kS_st] at as
      refine as.cl0 (by decide) ?_
      rintro o1 A1 ⟨rfl, S', rfl, q1, q2⟩
      simp (disch := omega) only [I_n, I_neg, I_add, I_sub, I_mul, I_le4, I_lt4, I_eq4, I_div4, I_bi0, I_bi01, I_bi1, nor_em, rI_of, rV_of, zI_of, zV_of, nz_and, br_T, br_F, br_T2, br_F2, st_eq, st9_0, st_k, st_i, true_and, and_true, Classical.not_not, mp_isO, mp_gI4, mp_gI5, mp_gI7, mp_gI8, mp_gI9, mp_gI10, mp_gI11, mp_gI12, mp_gI13, mp_gI14, mp_gI15, mp_gI19, mp_gI20, mp_gI21, mp_gI23, mp_pI4, mp_pI5, mp_pI7, mp_pI8, mp_pI9, mp_pI10, mp_pI11, mp_pI12, mp_pI13, mp_pI14, mp_pI15, mp_pI19, mp_pI20, mp_pI21, mp_pI23, mp_gR0, mp_gR1, mp_gR2, mp_gR3, mp_gR6, mp_gR16, mp_gR17, mp_gR18, mp_gR22, mp_aI0, mp_aI1, mp_aI2, mp_aI3, mp_aI4, mp_aI5, mp_aI6, mp_aZ7, mp_aI8, mp_sI0, mp_sI1, mp_sI2, mp_sI3, mp_sI4, mp_sI5, mp_sI6, mp_sI8, mp_sZ0, mp_sZ1]
      exact ⟨S', rfl, q1, q2⟩
    · exact bad 2 (tr2_2 h (fun q => q.2 h3)).symm (Or.inr rfl)
  · exact bad 1 (tr2_1 h).symm (Or.inl rfl)
theorem c_X6_queriesFor (hl : l.stackTraces = false) (w : RW (S 0) e) {k : Int} (hk : sm k) : Ct l X 6 M_X6_queriesFor [.ref o, .int (I k)] (mp X o B S) 0 0 (fun ot A1 => ot = Ri (I (if tQue (S 0) k = 0 then (lk0 (S 0) k).2 else 0)) ∧ ∃ S', A1 = mp X o B S' ∧ S' 0 = S 0 ∧ SE (st S 9 5 (tQue (S 0) k)) S') := by
  have g := w.1
  obtain ⟨n1, n2, -⟩ := gN_b g
  refine Ct.of hl rfl rfl (Nat.le_of_ble_eq_true rfl) (k_X6_queriesFor_0 ?_)
  refine ⟨mp_isO, (c_X6_isPiece hl g hk).cl0 (by decide) ?_⟩
  simp (disch := omega) only [I_n, I_neg, I_add, I_sub, I_mul, I_le4, I_lt4, I_eq4, I_div4, I_bi0, I_bi01, I_bi1, nor_em, rI_of, rV_of, zI_of, zV_of, nz_and, br_T, br_F, br_T2, br_F2, st_eq, st9_0, st_k, st_i, true_and, and_true, Classical.not_not, mp_isO, mp_gI4, mp_gI5, mp_gI7, mp_gI8, mp_gI9, mp_gI10, mp_gI11, mp_gI12, mp_gI13, mp_gI14, mp_gI15, mp_gI19, mp_gI20, mp_gI21, mp_gI23, mp_pI4, mp_pI5, mp_pI7, mp_pI8, mp_pI9, mp_pI10, mp_pI11, mp_pI12, mp_pI13, mp_pI14, mp_pI15, mp_pI19, mp_pI20, mp_pI21, mp_pI23, mp_gR0, mp_gR1, mp_gR2, mp_gR3, mp_gR6, mp_gR16, mp_gR17, mp_gR18, mp_gR22, mp_aI0, mp_aI1, mp_aI2, mp_aI3, mp_aI4, mp_aI5, mp_aI6, mp_aZ7, mp_aI8, mp_sI0, mp_sI1, mp_sI2, mp_sI3, mp_sI4, mp_sI5, mp_sI6, mp_sI8, mp_sZ0, mp_sZ1]
  unfold tQue
  have bad : ∀ t : Int, t = tr2 (0 ≤ k ∧ k ≤ gN (S 0) - 1) (gV (S 0) k = 2) → t = 1 ∨ t = 2 → G l X M_X6_queriesFor 6 (fun ot A1 => ot = Ri (I (if tr2 (0 ≤ k ∧ k ≤ gN (S 0) - 1) (gV (S 0) k = 2) = 0 then (lk0 (S 0) k).2 else 0)) ∧ ∃ S', A1 = mp X o B S' ∧ S' 0 = S 0 ∧ SE (st S 9 5 (tr2 (0 ≤ k ∧ k ≤ gN (S 0) - 1) (gV (S 0) k = 2))) S') 27 [(0, .ref o), (1, .int (I k))] [.int (I t), .ref o] (mp X o B S) 0 0 := by
    intro t ht h12
    rw [← ht]
    refine k_X6_queriesFor_27 ?_
    simp (disch := omega) only [I_n, I_neg, I_add, I_sub, I_mul, I_le4, I_lt4, I_eq4, I_div4, I_bi0, I_bi01, I_bi1, nor_em, rI_of, rV_of, zI_of, zV_of, nz_and, br_T, br_F, br_T2, br_F2, st_eq, st9_0, st_k, st_i, true_and, and_true, Classical.not_not, mp_isO, mp_gI4, mp_gI5, mp_gI7, mp_gI8, mp_gI9, mp_gI10, mp_gI11, mp_gI12, mp_gI13, mp_gI14, mp_gI15, mp_gI19, mp_gI20, mp_gI21, mp_gI23, mp_pI4, mp_pI5, mp_pI7, mp_pI8, mp_pI9, mp_pI10, mp_pI11, mp_pI12, mp_pI13, mp_pI14, mp_pI15, mp_pI19, mp_pI20, mp_pI21, mp_pI23, mp_gR0, mp_gR1, mp_gR2, mp_gR3, mp_gR6, mp_gR16, mp_gR17, mp_gR18, mp_gR22, mp_aI0, mp_aI1, mp_aI2, mp_aI3, mp_aI4, mp_aI5, mp_aI6, mp_aZ7, mp_aI8, mp_sI0, mp_sI1, mp_sI2, mp_sI3, mp_sI4, mp_sI5, mp_sI6, mp_sI8, mp_sZ0, mp_sZ1]
    rw [if_neg (by omega)]
    exact ⟨rfl, _, rfl, st9_0, SE.rf⟩
  refine ⟨fun h => ?_, fun h => ?_⟩
  · have hv := gV_b (r := S 0) (k := k)
    refine (c_X6_stateOf hl w h.1 (by omega)).cl0 (by decide) ?_
    simp (disch := omega) only [I_n, I_neg, I_add, I_sub, I_mul, I_le4, I_lt4, I_eq4, I_div4, I_bi0, I_bi01, I_bi1, nor_em, rI_of, rV_of, zI_of, zV_of, nz_and, br_T, br_F, br_T2, br_F2, st_eq, st9_0, st_k, st_i, true_and, and_true, Classical.not_not, mp_isO, mp_gI4, mp_gI5, mp_gI7, mp_gI8, mp_gI9, mp_gI10, mp_gI11, mp_gI12, mp_gI13, mp_gI14, mp_gI15, mp_gI19, mp_gI20, mp_gI21, mp_gI23, mp_pI4, mp_pI5, mp_pI7, mp_pI8, mp_pI9, mp_pI10, mp_pI11, mp_pI12, mp_pI13, mp_pI14, mp_pI15, mp_pI19, mp_pI20, mp_pI21, mp_pI23, mp_gR0, mp_gR1, mp_gR2, mp_gR3, mp_gR6, mp_gR16, mp_gR17, mp_gR18, mp_gR22, mp_aI0, mp_aI1, mp_aI2, mp_aI3, mp_aI4, mp_aI5, mp_aI6, mp_aZ7, mp_aI8, mp_sI0, mp_sI1, mp_sI2, mp_sI3, mp_sI4, mp_sI5, mp_sI6, mp_sI8, mp_sZ0, mp_sZ1]
    refine ⟨fun h2 => ?_, fun h2 => ?_⟩
    · rw [tr2_0 h h2, if_pos rfl]
      refine k_X6_queriesFor_27 ?_
      simp (disch := omega) only [I_n, I_neg, I_add, I_sub, I_mul, I_le4, I_lt4, I_eq4, I_div4, I_bi0, I_bi01, I_bi1, nor_em, rI_of, rV_of, zI_of, zV_of, nz_and, br_T, br_F, br_T2, br_F2, st_eq, st9_0, st_k, st_i, true_and, and_true, Classical.not_not, mp_isO, mp_gI4, mp_gI5, mp_gI7, mp_gI8, mp_gI9, mp_gI10, mp_gI11, mp_gI12, mp_gI13, mp_gI14, mp_gI15, mp_gI19, mp_gI20, mp_gI21, mp_gI23, mp_pI4, mp_pI5, mp_pI7, mp_pI8, mp_pI9, mp_pI10, mp_pI11, mp_pI12, mp_pI13, mp_pI14, mp_pI15, mp_pI19, mp_pI20, mp_pI21, mp_pI23, mp_gR0, mp_gR1, mp_gR2, mp_gR3, mp_gR6, mp_gR16, mp_gR17, mp_gR18, mp_gR22, mp_aI0, mp_aI1, mp_aI2, mp_aI3, mp_aI4, mp_aI5, mp_aI6, mp_aZ7, mp_aI8, mp_sI0, mp_sI1, mp_sI2, mp_sI3, mp_sI4, mp_sI5, mp_sI6, mp_sI8, mp_sZ0, mp_sZ1]
      have as := c_X6_looks (X := X) (o := o) (B := B) (S := st S 9 5 0) (e := e) (k := k) hl (by rw [st9_0]; exact w) h.1 (by rw [st9_0]; omega)
      rw [st9_0] at as
      refine as.cl0 (by decide) ?_
      rintro o1 A1 ⟨rfl, F, M, rfl⟩
      simp (disch := omega) only [lk_0, lk_5, lk_6, lk_7, lk_19, lk_20, lk_s5, lk_s6, lk_s7, lk_s19, lk_s20, true_implies, false_implies, not_true_eq_false, not_false_eq_true, I_n, I_neg, I_add, I_sub, I_mul, I_le4, I_lt4, I_eq4, I_div4, I_bi0, I_bi01, I_bi1, nor_em, rI_of, rV_of, zI_of, zV_of, nz_and, br_T, br_F, br_T2, br_F2, st_eq, st9_0, st_k, st_i, true_and, and_true, Classical.not_not, mp_isO, mp_gI4, mp_gI5, mp_gI7, mp_gI8, mp_gI9, mp_gI10, mp_gI11, mp_gI12, mp_gI13, mp_gI14, mp_gI15, mp_gI19, mp_gI20, mp_gI21, mp_gI23, mp_pI4, mp_pI5, mp_pI7, mp_pI8, mp_pI9, mp_pI10, mp_pI11, mp_pI12, mp_pI13, mp_pI14, mp_pI15, mp_pI19, mp_pI20, mp_pI21, mp_pI23, mp_gR0, mp_gR1, mp_gR2, mp_gR3, mp_gR6, mp_gR16, mp_gR17, mp_gR18, mp_gR22, mp_aI0, mp_aI1, mp_aI2, mp_aI3, mp_aI4, mp_aI5, mp_aI6, mp_aZ7, mp_aI8, mp_sI0, mp_sI1, mp_sI2, mp_sI3, mp_sI4, mp_sI5, mp_sI6, mp_sI8, mp_sZ0, mp_sZ1]
      exact ⟨_, rfl, by rw [lk_0, st9_0], SE_lk⟩
    · exact bad 2 (tr2_2 h h2).symm (Or.inr rfl)
  · exact bad 1 (tr2_1 h).symm (Or.inl rfl)
end MZA
