/-! the class: searches -/
theorem gLs_mono {r : Int → Int} (g : GW r) {p q : Int} (p0 : 0 ≤ p) (h : p ≤ q) (q1 : q ≤ gT r) : gLs r p ≤ gLs r q := by
  unfold gLs
  by_cases hq : q < gT r
  · rw [if_pos hq, if_pos (by omega)]
    have m := gPl_mono g (q - p).toNat p p0 (by omega)
    rw [show p + (((q - p).toNat : Nat) : Int) = q by omega] at m
    exact m
  · rw [if_neg hq]
    by_cases hp : p < gT r
    · rw [if_pos hp]
      obtain ⟨b1, b2, b3, b4, b5, b6⟩ := gPl_b g p0 hp
      omega
    · rw [if_neg hp]
      exact Int.le_refl _
/-- the bytes of parts that are all there, from part q on, n of them within a piece -/
theorem DX_rng {D : Nat → Int → Int} {r : Int → Int} {lo hi : Int} (g : GW r) (h : DX D r lo hi) {k i n : Int} (k0 : 0 ≤ k) (k1 : k < gN r) (hi0 : 0 ≤ i) (hn : 1 ≤ n) (hin : i + n ≤ gPo r k) (hp : ∀ j, i ≤ j → j < i + n → r (96 + (gF r k + j)) ≠ 0) : ∀ j, 0 ≤ j → j < gLn r (gF r k + i) n → D 0 (gPl r (gF r k + i) + j) = r (336 + gPl r (gF r k + i) + j) := by
  intro j j0 j1
  obtain ⟨f1, f2⟩ := gF_b g k0 k1
  obtain ⟨b1, b2, b3, b4, b5⟩ := gLn_b g k0 k1 hi0 hn hin
  have eL := gLs_n g (p := gF r k + i + n - 1) (by omega) b2
  obtain ⟨x, hx⟩ : ∃ x, x = gPl r (gF r k + i) + j := ⟨_, rfl⟩
  have e0 := gPl_of g k0 k1 hi0 (by omega : i < gPo r k)
  have m0 : 0 ≤ r 3 * i := Int.mul_nonneg (by have := g.2.2.2.2.1; omega) hi0
  -- the end of the range lies within the piece
  have eend : gPl r (gF r k + i) + gLn r (gF r k + i) n = gLs r (gF r k + i + n) := by
    rw [show gF r k + i + n - 1 + 1 = gF r k + i + n by omega] at eL
    unfold gLn
    omega
  obtain ⟨c1, c2, c3, c4, c5, c6⟩ := gPl_b g (p := gF r k + i + n - 1) (by omega) b2
  have cpc := gPc_of g k0 k1 (j := i + n - 1) (by omega) (by omega)
  rw [show gF r k + (i + n - 1) = gF r k + i + n - 1 by omega] at cpc
  rw [cpc] at c5
  have hx1 : x - r 2 * k < gLen r k := by
    unfold gLn at j1
    omega
  obtain ⟨p, y, p0, p1, pc, y0, y1, ey, q1, q2⟩ := place_part g k0 k1 (j := x - r 2 * k) (by omega) hx1
  have exy : gPl r p + y = x := by omega
  have lop : gF r k + i ≤ p := by
    by_cases hlt : p < gF r k + i
    · have := part_dj g p0 hlt (by omega)
      omega
    · omega
  have hip : p < gF r k + i + n := by
    by_cases hge : gF r k + i + n ≤ p
    · have m := gLs_mono g (p := gF r k + i + n) (q := p) (by omega) hge (by omega)
      have e : gLs r p = gPl r p := if_pos p1
      omega
    · omega
  have hpp := hp (p - gF r k) (by omega) (by omega)
  rw [show gF r k + (p - gF r k) = p by omega] at hpp
  have := h.1 p p0 p1 hpp y y0 y1
  rw [exy] at this
  rw [← hx, this]
  congr 1
  omega
def fD (r : Int → Int) (f : Int) (L : List Int) : Int → Int := L.foldl (fun q j => rDr q (f + j) 3) r
theorem fD_app {r : Int → Int} {f : Int} {L M : List Int} : fD r f (L ++ M) = fD (fD r f L) f M := List.foldl_append
/-- the drops of a list: what they keep -/
theorem fD_w {f : Int} : ∀ (L : List Int) (r : Int → Int) (e : Int), RW r e → e + 20 + 10 * L.length ≤ 2000000000 → (∀ x ∈ L, 0 ≤ f + x ∧ f + x < 240 ∧ r (96 + (f + x)) ≠ 0) → L.Pairwise (· < ·) →
    RW (fD r f L) (e + 2 * L.length) ∧ (∀ y, (∀ x ∈ L, y ≠ 96 + (f + x)) → y ≠ 7 → y ≠ 8 → y ≠ 18 → y ≠ 19 → y < 576 ∨ 696 ≤ y → fD r f L y = r y) ∧ fD r f L 8 = r 8 + L.length := by
  intro L
  induction L with
  | nil =>
    intro r e w he hx hp
    have h0 : ((([] : List Int).length : Nat) : Int) = 0 := rfl
    rw [h0] at he ⊢
    exact ⟨RW_e w (by omega) (by omega), fun _ _ _ _ _ _ _ => rfl, by show r 8 = r 8 + 0; omega⟩
  | cons x L ih =>
    intro r e w he hx hp
    have hlen : (((x :: L).length : Nat) : Int) = (L.length : Int) + 1 := by rw [List.length_cons]; rfl
    rw [hlen] at he ⊢
    obtain ⟨x0, x1, xz⟩ := hx x List.mem_cons_self
    obtain ⟨w1, o1⟩ := rDr_w (k := 3) w (by omega) x0 x1 xz
    have hlt : ∀ y ∈ L, x < y := fun y hy => (List.pairwise_cons.mp hp).1 y hy
    obtain ⟨i1, i2, i3⟩ := ih (rDr r (f + x) 3) (e + 2) w1 (by omega) (fun y hy => by
      obtain ⟨a, b, c⟩ := hx y (List.mem_cons_of_mem _ hy)
      have := hlt y hy
      exact ⟨a, b, by rw [o1 _ (by omega) (by omega) (by omega) (by omega) (by omega) (by omega)]; exact c⟩) (List.pairwise_cons.mp hp).2
    refine ⟨RW_e i1 (by omega) (by omega), fun y hy h7 h8 h18 h19 hr => ?_, ?_⟩
    · have := i2 y (fun z hz => hy z (List.mem_cons_of_mem _ hz)) h7 h8 h18 h19 hr
      exact this.trans (o1 y (hy x List.mem_cons_self) h7 h8 h18 h19 hr)
    · have e8 : rDr r (f + x) 3 8 = r 8 + 1 := by
        obtain ⟨w3, o3⟩ := rD3_w w (by omega) x0 x1 xz
        have hb := w.2.2.2.2.2.2.2.2.2.1 (f + x) x0 x1
        have hg := RW_gl w3
        unfold rDr
        rw [if_pos rfl, rTell_g hg.1 (by omega)]
        unfold rD3
        split
        · unfold rD2
          rw [rs_eq, rs_ne (by omega)]
        · rw [rs_ne (by omega)]
          unfold rD2
          rw [rs_eq, rs_ne (by omega)]
      show fD (rDr r (f + x) 3) f L 8 = _
      rw [i3, e8]
      omega
/-- looking only depends on bytes and configuration -/
theorem gRt_c {r q : Int → Int} {e : Int} (w : RW r e) (h : ∀ y, cf y ∨ 336 ≤ y ∧ y < 576 → q y = r y) {k i n : Int} (k0 : 0 ≤ k) (k1 : k < gN r) (hi : 0 ≤ i) (hn : 1 ≤ n) (hin : i + n ≤ gPo r k) : gRt q (gF r k + i) n = gRt r (gF r k + i) n := by
  obtain ⟨b1, b2, b3, b4, b5⟩ := gLn_b w.1 k0 k1 hi hn hin
  have lg := w.1.2.1
  obtain ⟨c0, c2, c3, hB⟩ := cfg_c w fun y hy => h y (Or.inl hy)
  have hc := geo_c c0 c2 c3
  have eln : gLn q (gF r k + i) n = gLn r (gF r k + i) n := by
    unfold gLn
    rw [hc.2.2.2.2.2.2.2.1, hc.2.2.2.2.2.2.2.1, hc.2.2.2.2.2.2.2.2]
  unfold gRt
  have e1 : gR' q (336 + gPl q (gF r k + i)) (gLn q (gF r k + i) n) = gR' r (336 + gPl r (gF r k + i)) (gLn r (gF r k + i) n) := by
    rw [hc.2.2.2.2.2.2.2.1, eln]
    exact gR'_c fun j j0 j1 => h _ (by omega)
  have e2 : gS q 0 (gPl q (gF r k + i)) (gLn q (gF r k + i) n) = gS r 0 (gPl r (gF r k + i)) (gLn r (gF r k + i) n) := by
    rw [hc.2.2.2.2.2.2.2.1, eln, gS_c hB]
  rw [e1, e2]
theorem look_c {r q : Int → Int} {e : Int} (w : RW r e) (h : ∀ y, cf y ∨ 336 ≤ y ∧ y < 576 → q y = r y) {k : Int} (k0 : 0 ≤ k) (k1 : k < gN r) : ∀ (d : Nat) (i n : Int), 0 ≤ i → 1 ≤ n → i + n ≤ gPo r k → look q (gF r k) d i n = look r (gF r k) d i n := by
  intro d
  induction d with
  | zero => intro i n _ _ _; rfl
  | succ d ih =>
    intro i n hi hn hin
    by_cases h1 : n ≤ 1
    · have e1 : look q (gF r k) (d + 1) i n = ([i], 0) := if_pos h1
      have e2 : look r (gF r k) (d + 1) i n = ([i], 0) := if_pos h1
      rw [e1, e2]
    · have g1 := gRt_c w h k0 k1 (i := i) (n := (n + 1) / 2) hi (by omega) (by omega)
      have g2 := gRt_c w h k0 k1 (i := i + (n + 1) / 2) (n := n - (n + 1) / 2) (by omega) (by omega) (by omega)
      have a1 := ih i ((n + 1) / 2) hi (by omega) (by omega)
      have a2 := ih (i + (n + 1) / 2) (n - (n + 1) / 2) (by omega) (by omega) (by omega)
      show (if n ≤ 1 then _ else _) = (if n ≤ 1 then _ else _)
      rw [if_neg h1, if_neg h1, g1, g2, a1, a2]
section CM
variable {l : Launch} {X : XT} {a p : Nat} {B : AH} {P : Nat → Int → Int}
theorem c_X1_isSame (hl : l.stackTraces = false) (hd : p + 10 < a ∨ a + 12 < p) (hP : PlanAt X B p P) {D : Nat → Int → Int} {r : Int → Int} {e : Int} (hR : PR P r) (w : RW r e) (h : DR D r) {k i n : Int} (k0 : 0 ≤ k) (k1 : k < gN r) (hi0 : 0 ≤ i) (hn : 1 ≤ n) (hin : i + n ≤ gPo r k) (hp : ∀ j, i ≤ j → j < i + n → r (96 + (gF r k + j)) ≠ 0) : Fn l X 2 M_X1_isSameAsOriginal [.ref a, .int (I (gF r k + i)), .int (I n)] (dp X a p B D) 0 0 (Ri (I (gRt r (gF r k + i) n))) (dp X a p B D) := by
  have g := w.1
  have lg := g.2.1
  obtain ⟨b1, b2, b3, b4, b5⟩ := gLn_b g k0 k1 hi0 hn hin
  have eL := gLs_n g (p := gF r k + i + n - 1) (by omega) b2
  have hpl := dp_pl (D := D) hd hP
  have ela : gLs r (gF r k + i) = gPl r (gF r k + i) := if_pos (by omega)
  have eend : gLs r (gF r k + i + n) - gPl r (gF r k + i) = gLn r (gF r k + i) n := by
    rw [show gF r k + i + n - 1 + 1 = gF r k + i + n by omega] at eL
    unfold gLn
    omega
  have rg := DX_rng g h k0 k1 hi0 hn hin hp
  have es : gR' (D 0) (gPl r (gF r k + i)) (gLn r (gF r k + i) n) = gR' r (336 + gPl r (gF r k + i)) (gLn r (gF r k + i) n) := gR'_c rg
  have eo : gR' (P 0) (gPl r (gF r k + i)) (gLn r (gF r k + i) n) = gS r 0 (gPl r (gF r k + i)) (gLn r (gF r k + i) n) := by
    unfold gR' gS
    rw [sg_congr (g := fun j => (j + 1) * gB r 0 (gPl r (gF r k + i) + j)) fun j hj => by rw [(hR.2.1 (gPl r (gF r k + i) + j) (by omega) (by omega)).1]]
  have hR1 : 0 ≤ gR' r (336 + gPl r (gF r k + i)) (gLn r (gF r k + i) n) ∧ gR' r (336 + gPl r (gF r k + i)) (gLn r (gF r k + i) n) < 9973 := by unfold gR'; omega
  have hS1 : 0 ≤ gS r 0 (gPl r (gF r k + i)) (gLn r (gF r k + i) n) ∧ gS r 0 (gPl r (gF r k + i)) (gLn r (gF r k + i) n) < 9973 := by unfold gS; omega
  refine Fn.of hl rfl rfl (Nat.le_of_ble_eq_true rfl) (k_X1_isSameAsOriginal_0 ?_)
  simp (disch := omega) only [true_implies, false_implies, not_true_eq_false, not_false_eq_true, I_n, I_neg, I_add, I_sub, I_mul, I_le4, I_lt4, I_eq4, I_div4, I_bi0, I_bi01, I_bi1, nor_em, rI_of, rV_of, zI_of, zV_of, nz_and, br_T, br_F, br_T2, br_F2, st_eq, st9_0, st_k, st_i, true_and, and_true, Classical.not_not, or_true, true_or, or_false, false_or, rR_of, dp_gI5, dp_gI6, dp_gI7, dp_gI8, dp_gI9, dp_gI10, dp_gI14, dp_pI5, dp_pI6, dp_pI7, dp_pI8, dp_pI9, dp_pI10, dp_pI14, dp_gR0, dp_gR1, dp_gR2, dp_gR3, dp_gR4, dp_gR11, dp_gR12, dp_gR13, dp_gR15, dp_gR16, dp_gA3, dp_pA3, dp_gAR0, dp_gAR1, dp_gAR2, dp_isO, dp_isA]
  refine ⟨hpl.isO, (c_X3_partStart hl hpl hR g (by omega) (by omega)).cl0 (by decide) ?_⟩
  rw [ela]
  simp (disch := omega) only [true_implies, false_implies, not_true_eq_false, not_false_eq_true, I_n, I_neg, I_add, I_sub, I_mul, I_le4, I_lt4, I_eq4, I_div4, I_bi0, I_bi01, I_bi1, nor_em, rI_of, rV_of, zI_of, zV_of, nz_and, br_T, br_F, br_T2, br_F2, st_eq, st9_0, st_k, st_i, true_and, and_true, Classical.not_not, or_true, true_or, or_false, false_or, rR_of, dp_gI5, dp_gI6, dp_gI7, dp_gI8, dp_gI9, dp_gI10, dp_gI14, dp_pI5, dp_pI6, dp_pI7, dp_pI8, dp_pI9, dp_pI10, dp_pI14, dp_gR0, dp_gR1, dp_gR2, dp_gR3, dp_gR4, dp_gR11, dp_gR12, dp_gR13, dp_gR15, dp_gR16, dp_gA3, dp_pA3, dp_gAR0, dp_gAR1, dp_gAR2, dp_isO, dp_isA]
  refine ⟨hpl.isO, (c_X3_partStart hl hpl hR g (k := gF r k + i + n) (by omega) (by omega)).cl0 (by decide) ?_⟩
  simp (disch := omega) only [true_implies, false_implies, not_true_eq_false, not_false_eq_true, I_n, I_neg, I_add, I_sub, I_mul, I_le4, I_lt4, I_eq4, I_div4, I_bi0, I_bi01, I_bi1, nor_em, rI_of, rV_of, zI_of, zV_of, nz_and, br_T, br_F, br_T2, br_F2, st_eq, st9_0, st_k, st_i, true_and, and_true, Classical.not_not, or_true, true_or, or_false, false_or, rR_of, dp_gI5, dp_gI6, dp_gI7, dp_gI8, dp_gI9, dp_gI10, dp_gI14, dp_pI5, dp_pI6, dp_pI7, dp_pI8, dp_pI9, dp_pI10, dp_pI14, dp_gR0, dp_gR1, dp_gR2, dp_gR3, dp_gR4, dp_gR11, dp_gR12, dp_gR13, dp_gR15, dp_gR16, dp_gA3, dp_pA3, dp_gAR0, dp_gAR1, dp_gAR2, dp_isO, dp_isA]
  rw [eend]
  refine (c_sumOf hl dp_k1 (by omega) (by omega) (by omega) (by omega) (by omega) fun y y0 y1 => h.2.2.2.2.2.2.2 y (by omega) (by omega)).cl0 (by decide) ?_
  rw [es]
  simp (disch := omega) only [true_implies, false_implies, not_true_eq_false, not_false_eq_true, I_n, I_neg, I_add, I_sub, I_mul, I_le4, I_lt4, I_eq4, I_div4, I_bi0, I_bi01, I_bi1, nor_em, rI_of, rV_of, zI_of, zV_of, nz_and, br_T, br_F, br_T2, br_F2, st_eq, st9_0, st_k, st_i, true_and, and_true, Classical.not_not, or_true, true_or, or_false, false_or, rR_of, dp_gI5, dp_gI6, dp_gI7, dp_gI8, dp_gI9, dp_gI10, dp_gI14, dp_pI5, dp_pI6, dp_pI7, dp_pI8, dp_pI9, dp_pI10, dp_pI14, dp_gR0, dp_gR1, dp_gR2, dp_gR3, dp_gR4, dp_gR11, dp_gR12, dp_gR13, dp_gR15, dp_gR16, dp_gA3, dp_pA3, dp_gAR0, dp_gAR1, dp_gAR2, dp_isO, dp_isA]
  rw [hpl.r4]
  refine (c_sumOf hl hpl.c0 (by omega) (by omega) (by omega) (by omega) (by omega) fun y y0 y1 => by rw [(hR.2.1 y (by omega) (by omega)).1]; exact gB_b).cl0 (by decide) ?_
  rw [eo]
  simp (disch := omega) only [true_implies, false_implies, not_true_eq_false, not_false_eq_true, I_n, I_neg, I_add, I_sub, I_mul, I_le4, I_lt4, I_eq4, I_div4, I_bi0, I_bi01, I_bi1, nor_em, rI_of, rV_of, zI_of, zV_of, nz_and, br_T, br_F, br_T2, br_F2, st_eq, st9_0, st_k, st_i, true_and, and_true, Classical.not_not, or_true, true_or, or_false, false_or, rR_of, dp_gI5, dp_gI6, dp_gI7, dp_gI8, dp_gI9, dp_gI10, dp_gI14, dp_pI5, dp_pI6, dp_pI7, dp_pI8, dp_pI9, dp_pI10, dp_pI14, dp_gR0, dp_gR1, dp_gR2, dp_gR3, dp_gR4, dp_gR11, dp_gR12, dp_gR13, dp_gR15, dp_gR16, dp_gA3, dp_pA3, dp_gAR0, dp_gAR1, dp_gAR2, dp_isO, dp_isA]
  unfold gRt
  refine ⟨fun q => ?_, fun q => ?_⟩
  · rw [bi_f q]
    all_goals first | rfl | exact ⟨rfl, rfl⟩
  · rw [bi_t q]
    all_goals first | rfl | exact ⟨rfl, rfl⟩
theorem gRt_01 {r : Int → Int} {x n : Int} : 0 ≤ gRt r x n ∧ gRt r x n ≤ 1 := bi_b
/-- counting only -/
theorem c_X1_range0 (hl : l.stackTraces = false) (hd : p + 10 < a ∨ a + 12 < p) (hP : PlanAt X B p P) {D : Nat → Int → Int} {r : Int → Int} {e : Int} (hR : PR P r) (w : RW r e) (h : DR D r) {k : Int} (k0 : 0 ≤ k) (k1 : k < gN r) (hp : ∀ j, 0 ≤ j → j < gPo r k → r (96 + (gF r k + j)) ≠ 0) : ∀ (d : Nat) (dep i n : Int), 0 ≤ dep → dep + d ≤ 8 → 0 ≤ i → 1 ≤ n → n ≤ 2 ^ d → i + n ≤ gPo r k →
    Fn l X (d + 3) M_X1_searchRange [.ref a, .int (I (gF r k + i)), .int (I n), .int (I 0), .int (I dep)] (dp X a p B D) 0 0 (Ri (I (look r (gF r k) d i n).2)) (dp X a p B D) := by
  obtain ⟨q1, q2, -⟩ := gE_b w.1
  obtain ⟨p1, p2, -⟩ := gPo_b w.1 k0 k1
  obtain ⟨f1, f2⟩ := gF_b w.1 k0 k1
  obtain ⟨t1, t2⟩ := gT_b w.1
  have lg := w.1.2.1
  have one : ∀ (d : Nat) (dep i : Int), Fn l X d M_X1_searchRange [.ref a, .int (I (gF r k + i)), .int (I 1), .int (I 0), .int (I dep)] (dp X a p B D) 0 0 (Ri (I 0)) (dp X a p B D) := by
    intro d dep i
    refine Fn.of hl rfl rfl (Nat.le_of_ble_eq_true rfl) (k_X1_searchRange_0 ?_)
    simp (disch := omega) only [true_implies, false_implies, not_true_eq_false, not_false_eq_true, I_n, I_neg, I_add, I_sub, I_mul, I_le4, I_lt4, I_eq4, I_div4, I_bi0, I_bi01, I_bi1, nor_em, rI_of, rV_of, zI_of, zV_of, nz_and, br_T, br_F, br_T2, br_F2, st_eq, st9_0, st_k, st_i, true_and, and_true, Classical.not_not, or_true, true_or, or_false, false_or, rR_of, dp_gI5, dp_gI6, dp_gI7, dp_gI8, dp_gI9, dp_gI10, dp_gI14, dp_pI5, dp_pI6, dp_pI7, dp_pI8, dp_pI9, dp_pI10, dp_pI14, dp_gR0, dp_gR1, dp_gR2, dp_gR3, dp_gR4, dp_gR11, dp_gR12, dp_gR13, dp_gR15, dp_gR16, dp_gA3, dp_pA3, dp_gAR0, dp_gAR1, dp_gAR2, dp_isO, dp_isA]
    refine k_X1_searchRange_12 ?_
    simp (disch := omega) only [true_implies, false_implies, not_true_eq_false, not_false_eq_true, I_n, I_neg, I_add, I_sub, I_mul, I_le4, I_lt4, I_eq4, I_div4, I_bi0, I_bi01, I_bi1, nor_em, rI_of, rV_of, zI_of, zV_of, nz_and, br_T, br_F, br_T2, br_F2, st_eq, st9_0, st_k, st_i, true_and, and_true, Classical.not_not, or_true, true_or, or_false, false_or, rR_of, dp_gI5, dp_gI6, dp_gI7, dp_gI8, dp_gI9, dp_gI10, dp_gI14, dp_pI5, dp_pI6, dp_pI7, dp_pI8, dp_pI9, dp_pI10, dp_pI14, dp_gR0, dp_gR1, dp_gR2, dp_gR3, dp_gR4, dp_gR11, dp_gR12, dp_gR13, dp_gR15, dp_gR16, dp_gA3, dp_pA3, dp_gAR0, dp_gAR1, dp_gAR2, dp_isO, dp_isA]
    all_goals first | rfl | exact ⟨rfl, rfl⟩
  intro d
  induction d with
  | zero =>
    intro dep i n d0 d1 i0 n0 n1 hin
    have e1 : n = 1 := by
      have : (2 : Int) ^ 0 = 1 := rfl
      omega
    subst e1
    exact one _ dep i
  | succ d ih =>
    intro dep i n d0 d1 i0 n0 n1 hin
    by_cases h1 : n ≤ 1
    · have e1 : n = 1 := by omega
      subst e1
      exact one _ dep i
    · have hpw : (2 : Int) ^ (d + 1) = 2 ^ d * 2 := Int.pow_succ 2 d
      obtain ⟨L, hL⟩ : ∃ L, L = (if gRt r (gF r k + i) ((n + 1) / 2) = 1 then ([], 0) else look r (gF r k) d i ((n + 1) / 2)) := ⟨_, rfl⟩
      obtain ⟨R, hRR⟩ : ∃ R, R = (if gRt r (gF r k + (i + (n + 1) / 2)) (n - (n + 1) / 2) = 1 then ([], 0) else look r (gF r k) d (i + (n + 1) / 2) (n - (n + 1) / 2)) := ⟨_, rfl⟩
      have e2 : (look r (gF r k) (d + 1) i n).2 = L.2 + 1 + (R.2 + 1) := by
        have e3 : look r (gF r k) (d + 1) i n = (L.1 ++ R.1, L.2 + 1 + (R.2 + 1)) := by
          rw [hL, hRR]
          exact if_neg h1
        rw [e3]
      have g1 := gRt_01 (r := r) (x := gF r k + i) (n := (n + 1) / 2)
      have g2 := gRt_01 (r := r) (x := gF r k + (i + (n + 1) / 2)) (n := n - (n + 1) / 2)
      have s1 := c_X1_isSame hl hd hP hR w h k0 k1 i0 (n := (n + 1) / 2) (by omega) (by omega) (fun j j0 j1 => hp j (by omega) (by omega))
      have s2 := c_X1_isSame hl hd hP hR w h k0 k1 (i := i + (n + 1) / 2) (n := n - (n + 1) / 2) (by omega) (by omega) (by omega) (fun j j0 j1 => hp j (by omega) (by omega))
      have second : ∀ v, v = 2 + L.2 → G l X M_X1_searchRange (d + 1 + 3) (fun o' A1 => o' = Ri (I (look r (gF r k) (d + 1) i n).2) ∧ A1 = dp X a p B D) 60 [(0, .ref a), (1, .int (I (gF r k + i))), (2, .int (I n)), (3, .int (I 0)), (4, .int (I dep)), (5, .int (I ((n + 1) / 2))), (6, .int (I v))] [] (dp X a p B D) 0 0 := by
        intro v hv
        refine k_X1_searchRange_60 ?_
        simp (disch := omega) only [true_implies, false_implies, not_true_eq_false, not_false_eq_true, I_n, I_neg, I_add, I_sub, I_mul, I_le4, I_lt4, I_eq4, I_div4, I_bi0, I_bi01, I_bi1, nor_em, rI_of, rV_of, zI_of, zV_of, nz_and, br_T, br_F, br_T2, br_F2, st_eq, st9_0, st_k, st_i, true_and, and_true, Classical.not_not, or_true, true_or, or_false, false_or, rR_of, dp_gI5, dp_gI6, dp_gI7, dp_gI8, dp_gI9, dp_gI10, dp_gI14, dp_pI5, dp_pI6, dp_pI7, dp_pI8, dp_pI9, dp_pI10, dp_pI14, dp_gR0, dp_gR1, dp_gR2, dp_gR3, dp_gR4, dp_gR11, dp_gR12, dp_gR13, dp_gR15, dp_gR16, dp_gA3, dp_pA3, dp_gAR0, dp_gAR1, dp_gAR2, dp_isO, dp_isA]
        rw [Int.add_assoc (gF r k)]
        refine s2.cl0 (by omega) ?_
        simp (disch := omega) only [true_implies, false_implies, not_true_eq_false, not_false_eq_true, I_n, I_neg, I_add, I_sub, I_mul, I_le4, I_lt4, I_eq4, I_div4, I_bi0, I_bi01, I_bi1, nor_em, rI_of, rV_of, zI_of, zV_of, nz_and, br_T, br_F, br_T2, br_F2, st_eq, st9_0, st_k, st_i, true_and, and_true, Classical.not_not, or_true, true_or, or_false, false_or, rR_of, dp_gI5, dp_gI6, dp_gI7, dp_gI8, dp_gI9, dp_gI10, dp_gI14, dp_pI5, dp_pI6, dp_pI7, dp_pI8, dp_pI9, dp_pI10, dp_pI14, dp_gR0, dp_gR1, dp_gR2, dp_gR3, dp_gR4, dp_gR11, dp_gR12, dp_gR13, dp_gR15, dp_gR16, dp_gA3, dp_pA3, dp_gAR0, dp_gAR1, dp_gAR2, dp_isO, dp_isA]
        refine ⟨fun hz => ?_, fun hz => ?_⟩
        · have e : gRt r (gF r k + (i + (n + 1) / 2)) (n - (n + 1) / 2) = 1 := by omega
          rw [if_pos e] at hRR
          rw [e2, hv, hRR]
          refine congrArg (fun z => Ri (I z)) ?_
          show 2 + L.2 = L.2 + 1 + (0 + 1)
          omega
        · rw [if_neg (by omega)] at hRR
          refine (ih (dep + 1) (i + (n + 1) / 2) (n - (n + 1) / 2) (by omega) (by omega) (by omega) (by omega) (by omega) (by omega)).cl0 (by omega) ?_
          rw [← hRR]
          simp (disch := omega) only [true_implies, false_implies, not_true_eq_false, not_false_eq_true, I_n, I_neg, I_add, I_sub, I_mul, I_le4, I_lt4, I_eq4, I_div4, I_bi0, I_bi01, I_bi1, nor_em, rI_of, rV_of, zI_of, zV_of, nz_and, br_T, br_F, br_T2, br_F2, st_eq, st9_0, st_k, st_i, true_and, and_true, Classical.not_not, or_true, true_or, or_false, false_or, rR_of, dp_gI5, dp_gI6, dp_gI7, dp_gI8, dp_gI9, dp_gI10, dp_gI14, dp_pI5, dp_pI6, dp_pI7, dp_pI8, dp_pI9, dp_pI10, dp_pI14, dp_gR0, dp_gR1, dp_gR2, dp_gR3, dp_gR4, dp_gR11, dp_gR12, dp_gR13, dp_gR15, dp_gR16, dp_gA3, dp_pA3, dp_gAR0, dp_gAR1, dp_gAR2, dp_isO, dp_isA]
          rw [e2, hv]
          refine congrArg (fun z => Ri (I z)) ?_
          omega
      refine Fn.of hl rfl rfl (Nat.le_of_ble_eq_true rfl) (k_X1_searchRange_0 ?_)
      simp (disch := omega) only [true_implies, false_implies, not_true_eq_false, not_false_eq_true, I_n, I_neg, I_add, I_sub, I_mul, I_le4, I_lt4, I_eq4, I_div4, I_bi0, I_bi01, I_bi1, nor_em, rI_of, rV_of, zI_of, zV_of, nz_and, br_T, br_F, br_T2, br_F2, st_eq, st9_0, st_k, st_i, true_and, and_true, Classical.not_not, or_true, true_or, or_false, false_or, rR_of, dp_gI5, dp_gI6, dp_gI7, dp_gI8, dp_gI9, dp_gI10, dp_gI14, dp_pI5, dp_pI6, dp_pI7, dp_pI8, dp_pI9, dp_pI10, dp_pI14, dp_gR0, dp_gR1, dp_gR2, dp_gR3, dp_gR4, dp_gR11, dp_gR12, dp_gR13, dp_gR15, dp_gR16, dp_gA3, dp_pA3, dp_gAR0, dp_gAR1, dp_gAR2, dp_isO, dp_isA]
      refine s1.cl0 (by omega) ?_
      simp (disch := omega) only [true_implies, false_implies, not_true_eq_false, not_false_eq_true, I_n, I_neg, I_add, I_sub, I_mul, I_le4, I_lt4, I_eq4, I_div4, I_bi0, I_bi01, I_bi1, nor_em, rI_of, rV_of, zI_of, zV_of, nz_and, br_T, br_F, br_T2, br_F2, st_eq, st9_0, st_k, st_i, true_and, and_true, Classical.not_not, or_true, true_or, or_false, false_or, rR_of, dp_gI5, dp_gI6, dp_gI7, dp_gI8, dp_gI9, dp_gI10, dp_gI14, dp_pI5, dp_pI6, dp_pI7, dp_pI8, dp_pI9, dp_pI10, dp_pI14, dp_gR0, dp_gR1, dp_gR2, dp_gR3, dp_gR4, dp_gR11, dp_gR12, dp_gR13, dp_gR15, dp_gR16, dp_gA3, dp_pA3, dp_gAR0, dp_gAR1, dp_gAR2, dp_isO, dp_isA]
      refine ⟨fun hz => ?_, fun hz => ?_⟩
      · have e : gRt r (gF r k + i) ((n + 1) / 2) = 1 := by omega
        rw [if_pos e] at hL
        exact second 2 (by rw [hL]; rfl)
      · rw [if_neg (by omega)] at hL
        refine (ih (dep + 1) i ((n + 1) / 2) (by omega) (by omega) i0 (by omega) (by omega) (by omega)).cl0 (by omega) ?_
        rw [← hL]
        simp (disch := omega) only [true_implies, false_implies, not_true_eq_false, not_false_eq_true, I_n, I_neg, I_add, I_sub, I_mul, I_le4, I_lt4, I_eq4, I_div4, I_bi0, I_bi01, I_bi1, nor_em, rI_of, rV_of, zI_of, zV_of, nz_and, br_T, br_F, br_T2, br_F2, st_eq, st9_0, st_k, st_i, true_and, and_true, Classical.not_not, or_true, true_or, or_false, false_or, rR_of, dp_gI5, dp_gI6, dp_gI7, dp_gI8, dp_gI9, dp_gI10, dp_gI14, dp_pI5, dp_pI6, dp_pI7, dp_pI8, dp_pI9, dp_pI10, dp_pI14, dp_gR0, dp_gR1, dp_gR2, dp_gR3, dp_gR4, dp_gR11, dp_gR12, dp_gR13, dp_gR15, dp_gR16, dp_gA3, dp_pA3, dp_gAR0, dp_gAR1, dp_gAR2, dp_isO, dp_isA]
        exact second _ rfl
/-- how many queries the search of a piece would take -/
theorem c_X1_queriesNeeded (hl : l.stackTraces = false) (hd : p + 10 < a ∨ a + 12 < p) (hP : PlanAt X B p P) {D : Nat → Int → Int} {r : Int → Int} {e : Int} (hR : PR P r) (w : RW r e) (h : DR D r) {k : Int} (k0 : 0 ≤ k) (k1 : k < gN r) (hp : ∀ j, 0 ≤ j → j < gPo r k → r (96 + (gF r k + j)) ≠ 0) :
    Fn l X 10 M_X1_queriesNeeded [.ref a, .int (I k)] (dp X a p B D) 0 0 (Ri (I (look r (gF r k) 6 0 (gPo r k)).2)) (dp X a p B D) := by
  obtain ⟨o1, o2, -⟩ := gPo_b w.1 k0 k1
  obtain ⟨q1, q2, -⟩ := gE_b w.1
  have hpl := dp_pl (D := D) hd hP
  have hq := c_X1_range0 (a := a) (B := B) hl hd hP hR w h k0 k1 hp 6 0 0 (gPo r k) (by omega) (by omega) (by omega) o1 (by have : (2 : Int) ^ 6 = 64 := rfl; omega) (by omega)
  rw [Int.add_zero] at hq
  refine Fn.of hl rfl rfl (Nat.le_of_ble_eq_true rfl) (k_X1_queriesNeeded_0 ?_)
  simp (disch := omega) only [true_implies, false_implies, not_true_eq_false, not_false_eq_true, I_n, I_neg, I_add, I_sub, I_mul, I_le4, I_lt4, I_eq4, I_div4, I_bi0, I_bi01, I_bi1, nor_em, rI_of, rV_of, zI_of, zV_of, nz_and, br_T, br_F, br_T2, br_F2, st_eq, st9_0, st_k, st_i, true_and, and_true, Classical.not_not, or_true, true_or, or_false, false_or, rR_of, dp_gI5, dp_gI6, dp_gI7, dp_gI8, dp_gI9, dp_gI10, dp_gI14, dp_pI5, dp_pI6, dp_pI7, dp_pI8, dp_pI9, dp_pI10, dp_pI14, dp_gR0, dp_gR1, dp_gR2, dp_gR3, dp_gR4, dp_gR11, dp_gR12, dp_gR13, dp_gR15, dp_gR16, dp_gA3, dp_pA3, dp_gAR0, dp_gAR1, dp_gAR2, dp_isO, dp_isA]
  refine ⟨hpl.isO, (c_X3_firstPart hl hpl hR w.1 k0 k1).cl0 (by decide) ?_⟩
  simp (disch := omega) only [true_implies, false_implies, not_true_eq_false, not_false_eq_true, I_n, I_neg, I_add, I_sub, I_mul, I_le4, I_lt4, I_eq4, I_div4, I_bi0, I_bi01, I_bi1, nor_em, rI_of, rV_of, zI_of, zV_of, nz_and, br_T, br_F, br_T2, br_F2, st_eq, st9_0, st_k, st_i, true_and, and_true, Classical.not_not, or_true, true_or, or_false, false_or, rR_of, dp_gI5, dp_gI6, dp_gI7, dp_gI8, dp_gI9, dp_gI10, dp_gI14, dp_pI5, dp_pI6, dp_pI7, dp_pI8, dp_pI9, dp_pI10, dp_pI14, dp_gR0, dp_gR1, dp_gR2, dp_gR3, dp_gR4, dp_gR11, dp_gR12, dp_gR13, dp_gR15, dp_gR16, dp_gA3, dp_pA3, dp_gAR0, dp_gAR1, dp_gAR2, dp_isO, dp_isA]
  refine ⟨hpl.isO, (c_X3_partsOf hl hpl hR w.1 k0 k1).cl0 (by decide) ?_⟩
  simp (disch := omega) only [true_implies, false_implies, not_true_eq_false, not_false_eq_true, I_n, I_neg, I_add, I_sub, I_mul, I_le4, I_lt4, I_eq4, I_div4, I_bi0, I_bi01, I_bi1, nor_em, rI_of, rV_of, zI_of, zV_of, nz_and, br_T, br_F, br_T2, br_F2, st_eq, st9_0, st_k, st_i, true_and, and_true, Classical.not_not, or_true, true_or, or_false, false_or, rR_of, dp_gI5, dp_gI6, dp_gI7, dp_gI8, dp_gI9, dp_gI10, dp_gI14, dp_pI5, dp_pI6, dp_pI7, dp_pI8, dp_pI9, dp_pI10, dp_pI14, dp_gR0, dp_gR1, dp_gR2, dp_gR3, dp_gR4, dp_gR11, dp_gR12, dp_gR13, dp_gR15, dp_gR16, dp_gA3, dp_pA3, dp_gAR0, dp_gAR1, dp_gAR2, dp_isO, dp_isA]
  refine hq.cl0 (by decide) ?_
  simp (disch := omega) only [true_implies, false_implies, not_true_eq_false, not_false_eq_true, I_n, I_neg, I_add, I_sub, I_mul, I_le4, I_lt4, I_eq4, I_div4, I_bi0, I_bi01, I_bi1, nor_em, rI_of, rV_of, zI_of, zV_of, nz_and, br_T, br_F, br_T2, br_F2, st_eq, st9_0, st_k, st_i, true_and, and_true, Classical.not_not, or_true, true_or, or_false, false_or, rR_of, dp_gI5, dp_gI6, dp_gI7, dp_gI8, dp_gI9, dp_gI10, dp_gI14, dp_pI5, dp_pI6, dp_pI7, dp_pI8, dp_pI9, dp_pI10, dp_pI14, dp_gR0, dp_gR1, dp_gR2, dp_gR3, dp_gR4, dp_gR11, dp_gR12, dp_gR13, dp_gR15, dp_gR16, dp_gA3, dp_pA3, dp_gAR0, dp_gAR1, dp_gAR2, dp_isO, dp_isA]
  all_goals first | rfl | exact ⟨rfl, rfl⟩
end CM
