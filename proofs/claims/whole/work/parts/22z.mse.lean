/-! the reference: searches -/
theorem Ct.cl0 {l : Launch} {X : XT} {d d' bc bs : Nat} {M : MT} {args : List Value} {A : AH} {K : Ot → AH → Nat → Nat → Prop} {Q : Ot → AH → Prop} (k : Ct l X d' M args A 0 0 Q) (h1 : d' + 1 ≤ d) (h : ∀ o A', Q o A' → K o A' bc bs) : Cal l X d bc bs M args A K :=
  Cal.of k h1 (Nat.zero_le _) (Nat.zero_le _) h
/-- the same but for what a search writes -/
def SE (S S' : Nat → Int → Int) : Prop := (∀ i : Nat, i = 1 ∨ i = 2 ∨ i = 3 ∨ i = 4 ∨ i = 8 → S' i = S i) ∧ ∀ j : Int, j ≠ 19 → j ≠ 20 → j ≠ 21 → S' 9 j = S 9 j
theorem SE.rf {S : Nat → Int → Int} : SE S S := ⟨fun _ _ => rfl, fun _ _ _ _ => rfl⟩
theorem SE.tr {S S' S'' : Nat → Int → Int} (h : SE S S') (k : SE S' S'') : SE S S'' := ⟨fun i hi => (k.1 i hi).trans (h.1 i hi), fun j a b c => (k.2 j a b c).trans (h.2 j a b c)⟩
theorem SE_sr {S S' : Nat → Int → Int} {r : Int → Int} (h : SE S S') : SE S (sr S' r) := by
  refine ⟨fun i hi => ?_, fun j a b c => h.2 j a b c⟩
  rw [← h.1 i hi]
  rcases hi with rfl | rfl | rfl | rfl | rfl
  · rfl
  · rfl
  · rfl
  · rfl
  · rfl
theorem SE_lk {S : Nat → Int → Int} {F M fd : Int → Int} {a c : Int} : SE S (lkS S F M fd a c) := by
  refine ⟨fun i hi => ?_, fun j h1 h2 h3 => ?_⟩
  · unfold lkS
    rcases hi with rfl | rfl | rfl | rfl | rfl
    · rw [st9_j (by decide), st9_j (by decide), sw_j (by decide), sw_j (by decide), sw_j (by decide)]
    · rw [st9_j (by decide), st9_j (by decide), sw_j (by decide), sw_j (by decide), sw_j (by decide)]
    · rw [st9_j (by decide), st9_j (by decide), sw_j (by decide), sw_j (by decide), sw_j (by decide)]
    · rw [st9_j (by decide), st9_j (by decide), sw_j (by decide), sw_j (by decide), sw_j (by decide)]
    · rw [st9_j (by decide), st9_j (by decide), sw_j (by decide), sw_j (by decide), sw_j (by decide)]
  · unfold lkS
    rw [st_k h2, st_k h1, sw_j (by decide), sw_j (by decide), sw_j (by decide)]
theorem SE_9 {S : Nat → Int → Int} {v : Int} : SE S (st S 9 21 v) := by
  refine ⟨fun i hi => st9_j (by omega), fun j h1 h2 h3 => st_k h3⟩
/-- what a search of a range gives: bounds, and ascending places -/
theorem look_b {r : Int → Int} {f : Int} : ∀ (d : Nat) (i n : Int), 1 ≤ n → (0 ≤ (look r f d i n).2 ∧ (look r f d i n).2 ≤ 2 * (n - 1)) ∧ ((look r f d i n).1.length : Int) ≤ n ∧ (∀ x ∈ (look r f d i n).1, i ≤ x ∧ x < i + n) ∧ (look r f d i n).1.Pairwise (· < ·) := by
  have one : ∀ i n : Int, 1 ≤ n → (0 ≤ (([i], 0) : List Int × Int).2 ∧ (([i], 0) : List Int × Int).2 ≤ 2 * (n - 1)) ∧ ((([i], 0) : List Int × Int).1.length : Int) ≤ n ∧ (∀ x ∈ (([i], 0) : List Int × Int).1, i ≤ x ∧ x < i + n) ∧ (([i], 0) : List Int × Int).1.Pairwise (· < ·) := by
    intro i n hn
    refine ⟨⟨Int.le_refl _, by show (0 : Int) ≤ _; omega⟩, by show (1 : Int) ≤ _; omega, ?_, List.pairwise_singleton _ _⟩
    intro x hx
    rw [List.mem_singleton.mp hx]
    omega
  intro d
  induction d with
  | zero => intro i n hn; exact one i n hn
  | succ d ih =>
    intro i n hn
    by_cases h1 : n ≤ 1
    · have e : look r f (d + 1) i n = ([i], 0) := if_pos h1
      rw [e]
      exact one i n hn
    · obtain ⟨L, hL⟩ : ∃ L, L = (if gRt r (f + i) ((n + 1) / 2) = 1 then ([], 0) else look r f d i ((n + 1) / 2)) := ⟨_, rfl⟩
      obtain ⟨R, hR⟩ : ∃ R, R = (if gRt r (f + (i + (n + 1) / 2)) (n - (n + 1) / 2) = 1 then ([], 0) else look r f d (i + (n + 1) / 2) (n - (n + 1) / 2)) := ⟨_, rfl⟩
      have e2 : look r f (d + 1) i n = (L.1 ++ R.1, L.2 + 1 + (R.2 + 1)) := by
        rw [hL, hR]
        exact if_neg h1
      have bL : (0 ≤ L.2 ∧ L.2 ≤ 2 * ((n + 1) / 2 - 1)) ∧ (L.1.length : Int) ≤ (n + 1) / 2 ∧ (∀ x ∈ L.1, i ≤ x ∧ x < i + (n + 1) / 2) ∧ L.1.Pairwise (· < ·) := by
        rw [hL]
        split
        · refine ⟨⟨Int.le_refl _, by show (0 : Int) ≤ _; omega⟩, by show (0 : Int) ≤ _; omega, fun x hx => absurd hx List.not_mem_nil, List.Pairwise.nil⟩
        · exact ih i ((n + 1) / 2) (by omega)
      have bR : (0 ≤ R.2 ∧ R.2 ≤ 2 * (n - (n + 1) / 2 - 1)) ∧ (R.1.length : Int) ≤ n - (n + 1) / 2 ∧ (∀ x ∈ R.1, i + (n + 1) / 2 ≤ x ∧ x < i + (n + 1) / 2 + (n - (n + 1) / 2)) ∧ R.1.Pairwise (· < ·) := by
        rw [hR]
        split
        · refine ⟨⟨Int.le_refl _, by show (0 : Int) ≤ _; omega⟩, by show (0 : Int) ≤ _; omega, fun x hx => absurd hx List.not_mem_nil, List.Pairwise.nil⟩
        · exact ih (i + (n + 1) / 2) (n - (n + 1) / 2) (by omega)
      rw [e2]
      obtain ⟨l1, l2, l3, l4⟩ := bL
      obtain ⟨r1, r2, r3, r4⟩ := bR
      refine ⟨⟨by show 0 ≤ L.2 + 1 + (R.2 + 1); omega, by show L.2 + 1 + (R.2 + 1) ≤ _; omega⟩, ?_, ?_, ?_⟩
      · show ((L.1 ++ R.1).length : Int) ≤ n
        rw [List.length_append, Int.natCast_add]
        omega
      · intro x hx
        rcases List.mem_append.mp hx with h | h
        · have := l3 x h
          omega
        · have := r3 x h
          omega
      · refine List.pairwise_append.mpr ⟨l4, r4, fun x hx y hy => ?_⟩
        have := l3 x hx
        have := r3 y hy
        omega
theorem mark_b {L : List Int} : ∀ {fd : Int → Int} {i : Int}, 0 ≤ fd i ∧ fd i ≤ 1 → 0 ≤ mark fd L i ∧ mark fd L i ≤ 1 := by
  induction L with
  | nil => intro fd i h; exact h
  | cons x xs ih =>
    intro fd i h
    refine ih ?_
    unfold rs
    split
    · omega
    · exact h
theorem mark_c {L : List Int} : ∀ {fd fd' : Int → Int} {i : Int}, fd i = fd' i → mark fd L i = mark fd' L i := by
  induction L with
  | nil => intro fd fd' i h; exact h
  | cons x xs ih =>
    intro fd fd' i h
    refine ih ?_
    unfold rs
    split
    · rfl
    · exact h
theorem rDs_c {fd fd' : Int → Int} {c f : Int} : ∀ (m : Nat) (j : Int) (r : Int → Int), (∀ i, j ≤ i → i < j + m → fd i = fd' i) → rDs fd c f m j r = rDs fd' c f m j r := by
  intro m
  induction m with
  | zero => intro j r _; rfl
  | succ m ih =>
    intro j r h
    show rDs fd c f m (j + 1) (if c = 0 then rDr r (f + j) 4 else if fd j = 0 then r else rDr r (f + j) 3) = rDs fd' c f m (j + 1) (if c = 0 then rDr r (f + j) 4 else if fd' j = 0 then r else rDr r (f + j) 3)
    rw [h j (by omega) (by omega)]
    exact ih (j + 1) _ fun i h1 h2 => h i (by omega) (by omega)
def rBan (q : Int → Int) : Int → Int := if q 13 = 0 ∧ q 4 ≤ q 19 then rTell (rs (rs q 13 1) 15 0) 6 1 (rs (rs q 13 1) 15 0 19) else q
def rSe0 (r : Int → Int) (k : Int) : Int → Int := rDs (mark (fun _ => 0) (lk0 r k).1) (lk0 r k).1.length (gF r k) (gPo r k).toNat 0 r
def rSe1 (r : Int → Int) (k : Int) : Int → Int := if ((lk0 r k).1.length : Int) = 0 then rTell (rSe0 r k) 4 k 0 else rSe0 r k
def rSe (r : Int → Int) (k : Int) : Int → Int := rBan (rs (rSe1 r k) 6 (rSe1 r k 6 + (lk0 r k).2))
section MZ
variable {l : Launch} {X : XT} {o : Nat} {B A : AH} {S T : Nat → Int → Int} {e : Int}
theorem L_ban (hl : l.stackTraces = false) {Q : Ot → AH → Prop} {q : Int → Int} (w : RW q e) (he : e + 1000 ≤ 2000000000) {a : Int} (ha : T 9 19 = a) (hab : 0 ≤ a ∧ a ≤ 100) (hQ : Q (Ri (I a)) (mp X o B (sr T (rBan (rs q 6 (q 6 + a)))))) : G l X M_X6_searches 6 Q 77 [(0, .ref o)] [] (mp X o B (sr T q)) 0 0 := by
  have eT : ∀ q', sr T q' 9 19 = a := fun _ => ha
  have c5 := w.2.2.2.2.2.1
  have c4 := w.2.2.2.2.1
  have c2 := w.2.2.1
  have w1 : RW (rs q 6 (q 6 + a)) (e + 100) := RW_set (RW_e w (e' := e + 100) (by omega) (by omega)) (by omega) (by omega) (by omega) (by omega) (by omega) (by omega) (by omega) (by omega) (by omega) (by omega) (by omega) (by omega)
  obtain ⟨q', hq'⟩ : ∃ q', q' = rs q 6 (q 6 + a) := ⟨_, rfl⟩
  rw [← hq'] at w1 hQ
  have d5 := w1.2.2.2.2.2.1
  have d4 := w1.2.2.2.2.1
  have d2 := w1.2.2.1
  have fin : ∀ q2 : Int → Int, q2 = rBan q' → G l X M_X6_searches 6 Q 147 [(0, .ref o)] [] (mp X o B (sr T q2)) 0 0 := by
    intro q2 h2
    refine k_X6_searches_147 ?_
    simp (disch := omega) only [I_n, I_neg, I_add, I_sub, I_mul, I_le4, I_lt4, I_eq4, I_div4, I_bi0, I_bi01, I_bi1, nor_em, rI_of, rV_of, zI_of, zV_of, nz_and, br_T, br_F, br_T2, br_F2, st_eq, st9_0, st_k, st_i, true_and, and_true, Classical.not_not, mp_isO, mp_gI4, mp_gI5, mp_gI7, mp_gI8, mp_gI9, mp_gI10, mp_gI11, mp_gI12, mp_gI13, mp_gI14, mp_gI15, mp_gI19, mp_gI20, mp_gI21, mp_gI23, mp_pI4, mp_pI5, mp_pI7, mp_pI8, mp_pI9, mp_pI10, mp_pI11, mp_pI12, mp_pI13, mp_pI14, mp_pI15, mp_pI19, mp_pI20, mp_pI21, mp_pI23, mp_gR0, mp_gR1, mp_gR2, mp_gR3, mp_gR6, mp_gR16, mp_gR17, mp_gR18, mp_gR22, mp_aI0, mp_aI1, mp_aI2, mp_aI3, mp_aI4, mp_aI5, mp_aI6, mp_aZ7, mp_aI8, mp_sI0, mp_sI1, mp_sI2, mp_sI3, mp_sI4, mp_sI5, mp_sI6, mp_sI8, mp_sZ0, mp_sZ1]
    rw [eT, h2]
    exact hQ
  refine k_X6_searches_77 ?_
  simp (disch := omega) only [sr_0, sr_sr, sr_st, true_implies, false_implies, not_true_eq_false, not_false_eq_true, I_n, I_neg, I_add, I_sub, I_mul, I_le4, I_lt4, I_eq4, I_div4, I_bi0, I_bi01, I_bi1, nor_em, rI_of, rV_of, zI_of, zV_of, nz_and, br_T, br_F, br_T2, br_F2, st_eq, st9_0, st_k, st_i, true_and, and_true, Classical.not_not, mp_isO, mp_gI4, mp_gI5, mp_gI7, mp_gI8, mp_gI9, mp_gI10, mp_gI11, mp_gI12, mp_gI13, mp_gI14, mp_gI15, mp_gI19, mp_gI20, mp_gI21, mp_gI23, mp_pI4, mp_pI5, mp_pI7, mp_pI8, mp_pI9, mp_pI10, mp_pI11, mp_pI12, mp_pI13, mp_pI14, mp_pI15, mp_pI19, mp_pI20, mp_pI21, mp_pI23, mp_gR0, mp_gR1, mp_gR2, mp_gR3, mp_gR6, mp_gR16, mp_gR17, mp_gR18, mp_gR22, mp_aI0, mp_aI1, mp_aI2, mp_aI3, mp_aI4, mp_aI5, mp_aI6, mp_aZ7, mp_aI8, mp_sI0, mp_sI1, mp_sI2, mp_sI3, mp_sI4, mp_sI5, mp_sI6, mp_sI8, mp_sZ0, mp_sZ1]
  rw [eT, ← hq']
  simp (disch := omega) only [sr_0, sr_sr, sr_st, true_implies, false_implies, not_true_eq_false, not_false_eq_true, I_n, I_neg, I_add, I_sub, I_mul, I_le4, I_lt4, I_eq4, I_div4, I_bi0, I_bi01, I_bi1, nor_em, rI_of, rV_of, zI_of, zV_of, nz_and, br_T, br_F, br_T2, br_F2, st_eq, st9_0, st_k, st_i, true_and, and_true, Classical.not_not, mp_isO, mp_gI4, mp_gI5, mp_gI7, mp_gI8, mp_gI9, mp_gI10, mp_gI11, mp_gI12, mp_gI13, mp_gI14, mp_gI15, mp_gI19, mp_gI20, mp_gI21, mp_gI23, mp_pI4, mp_pI5, mp_pI7, mp_pI8, mp_pI9, mp_pI10, mp_pI11, mp_pI12, mp_pI13, mp_pI14, mp_pI15, mp_pI19, mp_pI20, mp_pI21, mp_pI23, mp_gR0, mp_gR1, mp_gR2, mp_gR3, mp_gR6, mp_gR16, mp_gR17, mp_gR18, mp_gR22, mp_aI0, mp_aI1, mp_aI2, mp_aI3, mp_aI4, mp_aI5, mp_aI6, mp_aZ7, mp_aI8, mp_sI0, mp_sI1, mp_sI2, mp_sI3, mp_sI4, mp_sI5, mp_sI6, mp_sI8, mp_sZ0, mp_sZ1]
  refine ⟨fun h => ?_, fun h => ⟨fun h2 => ?_, fun h2 => ?_⟩⟩
  · exact fin q' (by unfold rBan; rw [if_neg fun y => h y.1])
  · exact fin q' (by unfold rBan; rw [if_neg fun y => by omega])
  · have w2 : RW (rs (rs q' 13 1) 15 0) (e + 100) := by
      refine RW_set ?_ (by omega) (by omega) (by omega) (by omega) (by omega) (by omega) (by omega) (by omega) (by omega) (by omega) (by omega) (by omega)
      exact RW_set w1 (by omega) (by omega) (by omega) (by omega) (by omega) (by omega) (by omega) (by omega) (by omega) (by omega) (by omega) (by omega)
    have hg := RW_gl w2
    refine (c_X6_tells (S := sr T (rs (rs q' 13 1) 15 0)) hl hg.1 (by rw [sr_0]; omega)).cl0 (by decide) ?_
    simp (disch := omega) only [sr_0, sr_sr, sr_st, true_implies, false_implies, not_true_eq_false, not_false_eq_true, I_n, I_neg, I_add, I_sub, I_mul, I_le4, I_lt4, I_eq4, I_div4, I_bi0, I_bi01, I_bi1, nor_em, rI_of, rV_of, zI_of, zV_of, nz_and, br_T, br_F, br_T2, br_F2, st_eq, st9_0, st_k, st_i, true_and, and_true, Classical.not_not, mp_isO, mp_gI4, mp_gI5, mp_gI7, mp_gI8, mp_gI9, mp_gI10, mp_gI11, mp_gI12, mp_gI13, mp_gI14, mp_gI15, mp_gI19, mp_gI20, mp_gI21, mp_gI23, mp_pI4, mp_pI5, mp_pI7, mp_pI8, mp_pI9, mp_pI10, mp_pI11, mp_pI12, mp_pI13, mp_pI14, mp_pI15, mp_pI19, mp_pI20, mp_pI21, mp_pI23, mp_gR0, mp_gR1, mp_gR2, mp_gR3, mp_gR6, mp_gR16, mp_gR17, mp_gR18, mp_gR22, mp_aI0, mp_aI1, mp_aI2, mp_aI3, mp_aI4, mp_aI5, mp_aI6, mp_aZ7, mp_aI8, mp_sI0, mp_sI1, mp_sI2, mp_sI3, mp_sI4, mp_sI5, mp_sI6, mp_sI8, mp_sZ0, mp_sZ1]
    exact fin _ (by unfold rBan; rw [if_pos ⟨h, by omega⟩])
theorem c_X6_searches (hl : l.stackTraces = false) (w : RW (S 0) e) (he : e + 3000 ≤ 2000000000) {k : Int} (h0 : 0 ≤ k) (h1 : k < gN (S 0)) (hp : ∀ i, 0 ≤ i → i < gPo (S 0) k → S 0 (96 + (gF (S 0) k + i)) ≠ 0) : Ct l X 6 M_X6_searches [.ref o, .int (I k)] (mp X o B S) 0 0 (fun ot A1 => ot = Ri (I (lk0 (S 0) k).2) ∧ ∃ S', A1 = mp X o B S' ∧ S' 0 = rSe (S 0) k ∧ SE S S') := by
  obtain ⟨p1, p2, -⟩ := gPo_b w.1 h0 h1
  obtain ⟨q1, q2, -⟩ := gE_b w.1
  obtain ⟨b1, b2, b3, b4⟩ := look_b (r := S 0) (f := gF (S 0) k) 6 0 (gPo (S 0) k) p1
  have hlen : ((lk0 (S 0) k).1.length : Int) ≤ gPo (S 0) k := b2
  have ha2 : 0 ≤ (lk0 (S 0) k).2 ∧ (lk0 (S 0) k).2 ≤ 2 * (gPo (S 0) k - 1) := b1
  refine Ct.of hl rfl rfl (Nat.le_of_ble_eq_true rfl) (k_X6_searches_0 ⟨mp_isO, (c_X6_looks hl w h0 h1).cl0 (by decide) ?_⟩)
  rintro o1 A1 ⟨rfl, F, M, rfl⟩
  obtain ⟨fd, hfd⟩ : ∃ fd, fd = mark (zer (S 7) 48) (lk0 (S 0) k).1 := ⟨_, rfl⟩
  rw [← hfd]
  obtain ⟨T, hT⟩ : ∃ T, T = lkS S F M fd (lk0 (S 0) k).2 (lk0 (S 0) k).1.length := ⟨_, rfl⟩
  rw [← hT]
  have T0 : T 0 = S 0 := by rw [hT, lk_0]
  have T7 : T 7 = fd := by rw [hT, lk_7]
  have T19 : T 9 19 = (lk0 (S 0) k).2 := by rw [hT, lk_19]
  have T20 : T 9 20 = (lk0 (S 0) k).1.length := by rw [hT, lk_20]
  have TS : SE S T := by rw [hT]; exact SE_lk
  simp (disch := omega) only [I_n, I_neg, I_add, I_sub, I_mul, I_le4, I_lt4, I_eq4, I_div4, I_bi0, I_bi01, I_bi1, nor_em, rI_of, rV_of, zI_of, zV_of, nz_and, br_T, br_F, br_T2, br_F2, st_eq, st9_0, st_k, st_i, true_and, and_true, Classical.not_not, mp_isO, mp_gI4, mp_gI5, mp_gI7, mp_gI8, mp_gI9, mp_gI10, mp_gI11, mp_gI12, mp_gI13, mp_gI14, mp_gI15, mp_gI19, mp_gI20, mp_gI21, mp_gI23, mp_pI4, mp_pI5, mp_pI7, mp_pI8, mp_pI9, mp_pI10, mp_pI11, mp_pI12, mp_pI13, mp_pI14, mp_pI15, mp_pI19, mp_pI20, mp_pI21, mp_pI23, mp_gR0, mp_gR1, mp_gR2, mp_gR3, mp_gR6, mp_gR16, mp_gR17, mp_gR18, mp_gR22, mp_aI0, mp_aI1, mp_aI2, mp_aI3, mp_aI4, mp_aI5, mp_aI6, mp_aZ7, mp_aI8, mp_sI0, mp_sI1, mp_sI2, mp_sI3, mp_sI4, mp_sI5, mp_sI6, mp_sI8, mp_sZ0, mp_sZ1]
  have af := c_X6_firstPart (X := X) (o := o) (B := B) (S := T) hl (by rw [T0]; exact w.1) (k := k)
  rw [T0] at af
  refine af.cl0 (by decide) ?_
  simp (disch := omega) only [I_n, I_neg, I_add, I_sub, I_mul, I_le4, I_lt4, I_eq4, I_div4, I_bi0, I_bi01, I_bi1, nor_em, rI_of, rV_of, zI_of, zV_of, nz_and, br_T, br_F, br_T2, br_F2, st_eq, st9_0, st_k, st_i, true_and, and_true, Classical.not_not, mp_isO, mp_gI4, mp_gI5, mp_gI7, mp_gI8, mp_gI9, mp_gI10, mp_gI11, mp_gI12, mp_gI13, mp_gI14, mp_gI15, mp_gI19, mp_gI20, mp_gI21, mp_gI23, mp_pI4, mp_pI5, mp_pI7, mp_pI8, mp_pI9, mp_pI10, mp_pI11, mp_pI12, mp_pI13, mp_pI14, mp_pI15, mp_pI19, mp_pI20, mp_pI21, mp_pI23, mp_gR0, mp_gR1, mp_gR2, mp_gR3, mp_gR6, mp_gR16, mp_gR17, mp_gR18, mp_gR22, mp_aI0, mp_aI1, mp_aI2, mp_aI3, mp_aI4, mp_aI5, mp_aI6, mp_aZ7, mp_aI8, mp_sI0, mp_sI1, mp_sI2, mp_sI3, mp_sI4, mp_sI5, mp_sI6, mp_sI8, mp_sZ0, mp_sZ1]
  have eT : mp X o B T = mp X o B (sr T (S 0)) := by rw [← T0, sr_self]
  rw [eT]
  have hf01 : ∀ i, 0 ≤ i → i < 48 → 0 ≤ T 7 i ∧ T 7 i ≤ 1 := by
    intro i i0 i1
    rw [T7, hfd]
    refine mark_b ?_
    unfold zer
    rw [if_pos ⟨i0, i1⟩]
    decide
  have hds : rDs (T 7) (lk0 (S 0) k).1.length (gF (S 0) k) (gPo (S 0) k).toNat 0 (S 0) = rSe0 (S 0) k := by
    unfold rSe0
    refine rDs_c _ _ _ fun i i0 i1 => ?_
    rw [T7, hfd]
    refine mark_c ?_
    unfold zer
    rw [if_pos ⟨i0, by omega⟩]
  refine L_drops hl (k := k) (f := gF (S 0) k) T20 ⟨by omega, by omega⟩ hf01 (gPo (S 0) k).toNat 0 (S 0) e w (by omega) (by omega) h0 h1 (by omega) rfl (fun i i0 i1 => hp i i0 i1) ?_
  intro e' we he'
  rw [hds] at we ⊢
  have hgl := RW_gl we
  have goal : ∀ q', q' = rSe1 (S 0) k → RW q' (e' + 1) → G l X M_X6_searches 6 (fun ot A1 => ot = Ri (I (lk0 (S 0) k).2) ∧ ∃ S', A1 = mp X o B S' ∧ S' 0 = rSe (S 0) k ∧ SE S S') 77 [(0, .ref o)] [] (mp X o B (sr T q')) 0 0 := by
    intro q' hq wq
    refine L_ban hl wq (by omega) T19 (by omega) ⟨rfl, _, rfl, ?_, SE_sr TS⟩
    rw [sr_0, hq]
    rfl
  split
  · rename_i hc
    refine goal _ ?_ (RW_tell we (by omega) (by omega) (by obtain ⟨n1, n2, -⟩ := gN_b w.1; omega) (by omega))
    unfold rSe1
    rw [if_pos hc]
  · rename_i hc
    refine goal _ ?_ (RW_e we (by omega) (by omega))
    unfold rSe1
    rw [if_neg hc]
end MZ
