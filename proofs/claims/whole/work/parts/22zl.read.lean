/-! the reference's reading, as functions of token states -/
def qw (q : TK) : Int := q.2.2.2.2.1
def fFail (q : TK) (c : Int) : TK := if q.2.2.2.2.1 = 0 then (q.1, q.2.1, q.2.2.1, q.2.2.2.1, c, q.1) else q
def fNx (t : Int → Int) (n : Int) (q : TK) : TK := if q.2.2.2.2.1 = 0 then nx t n q else q
def fMust (t : Int → Int) (n : Int) (q : TK) (v : Int) : TK := fNx t n (if v = 0 then fFail q (-2) else q)
def fTk1 (q : TK) (lo hi : Int) : TK := if q.2.2.2.2.1 = 0 then (if q.2.2.1 = 1 then (if lo ≤ q.2.2.2.1 ∧ q.2.2.2.1 ≤ hi then q else fFail q (-3)) else fFail q (-2)) else q
def fTkV (q : TK) (lo hi : Int) : Int := if (fTk1 q lo hi).2.2.2.2.1 = 0 then (fTk1 q lo hi).2.2.2.1 else 0
def fTk (t : Int → Int) (n : Int) (q : TK) (lo hi : Int) : TK := fNx t n (fTk1 q lo hi)
def wdEq (t : Int → Int) (a : Int) (i : Nat) : Nat → Int → Int
  | 0, _ => 1
  | m + 1, j => if t (a + j) = tC i j then wdEq t a i m (j + 1) else 0
def fWd (t : Int → Int) (i : Nat) (q : TK) : Int := if q.2.2.2.2.1 = 0 then (if q.2.2.1 = 0 then (if q.2.1 - q.1 = tL i then wdEq t q.1 i (tL i).toNat 0 else 0) else 0) else 0
def fEnd (t : Int → Int) (n : Int) (q : TK) : TK := fMust t n q (if q.2.2.1 = 2 then (if gSee t n q.1 = 59 then 1 else 0) else 0)
/-- what a token's state holds -/
def TI (n : Int) (q : TK) : Prop := (0 ≤ q.1 ∧ q.1 ≤ q.2.1 ∧ q.2.1 ≤ n) ∧ (0 ≤ q.2.2.1 ∧ q.2.2.1 ≤ 3) ∧ (q.2.2.1 = 1 → 0 ≤ q.2.2.2.1 ∧ q.2.2.2.1 ≤ 99999) ∧ (-4 ≤ q.2.2.2.2.1 ∧ q.2.2.2.2.1 ≤ 0) ∧ (q.2.2.1 = 0 → q.1 < q.2.1)
theorem TI_mk {n a b k nu w wa : Int} (h1 : 0 ≤ a ∧ a ≤ b ∧ b ≤ n) (h2 : 0 ≤ k ∧ k ≤ 3) (h3 : k = 1 → 0 ≤ nu ∧ nu ≤ 99999) (h4 : -4 ≤ w ∧ w ≤ 0) (h5 : k = 0 → a < b) : TI n (a, b, k, nu, w, wa) := ⟨h1, h2, h3, h4, h5⟩
theorem fFail_w {q : TK} {c : Int} : (fFail q c).2.2.2.2.1 = if q.2.2.2.2.1 = 0 then c else q.2.2.2.2.1 := by
  unfold fFail
  split
  · rfl
  · rfl
theorem TI_fail {n : Int} {q : TK} {c : Int} (h : TI n q) (hc : -4 ≤ c ∧ c ≤ 0) : TI n (fFail q c) := by
  unfold fFail
  split
  · obtain ⟨a1, a2, a3, a4, a5⟩ := h
    exact ⟨a1, a2, a3, hc, a5⟩
  · exact h
theorem TI_nx {t : Int → Int} {n : Int} {q : TK} (hb : 0 ≤ q.2.1 ∧ q.2.1 ≤ n) (hw : -4 ≤ q.2.2.2.2.1 ∧ q.2.2.2.2.1 ≤ 0) : TI n (nx t n q) ∧ (nx t n q).2.2.2.2.1 = q.2.2.2.2.1 ∧ q.2.1 ≤ (nx t n q).1 := by
  obtain ⟨b1, b2, b3⟩ := sk_b (t := t) (n := n) (p := q.2.1) hb.2
  obtain ⟨s, hs⟩ : ∃ s, s = sk t n q.2.1 := ⟨_, rfl⟩
  have e : nx t n q = (if n ≤ s then (s, s, 3, q.2.2.2) else if 97 ≤ gSee t n s ∧ gSee t n s ≤ 122 then (s, kLe t n (n - s).toNat s, 0, q.2.2.2) else if 48 ≤ gSee t n s ∧ gSee t n s ≤ 57 then (s, (kDi t n (n - s).toNat s 0).1, 1, (kDi t n (n - s).toNat s 0).2, q.2.2.2.2) else (s, s + 1, 2, q.2.2.2)) := by rw [hs]; rfl
  rw [← hs] at b1 b2
  rw [e]
  split
  · exact ⟨TI_mk (nu := q.2.2.2.1) (wa := q.2.2.2.2.2) ⟨by omega, Int.le_refl _, b2⟩ (by decide) (fun h => absurd h (by decide)) hw (fun h => absurd h (by decide)), rfl, b1⟩
  · rename_i hlt
    split
    · rename_i hL
      obtain ⟨c1, c2⟩ := kLe_b (t := t) (n := n) (n - s).toNat s (by omega)
      have c3 : s < kLe t n (n - s).toNat s := by
        obtain ⟨m, hm⟩ : ∃ m, (n - s).toNat = m + 1 := ⟨(n - s).toNat - 1, by omega⟩
        rw [hm]
        have e2 : kLe t n (m + 1) s = kLe t n m (s + 1) := if_pos hL
        rw [e2]
        have := (kLe_b (t := t) (n := n) m (s + 1) (by omega)).1
        omega
      exact ⟨TI_mk (nu := q.2.2.2.1) (wa := q.2.2.2.2.2) ⟨by omega, c1, c2⟩ (by decide) (fun h => absurd h (by decide)) hw (fun _ => c3), rfl, b1⟩
    · split
      · obtain ⟨c1, c2, c3, c4⟩ := kDi_b (t := t) (n := n) (n - s).toNat s 0 (by omega) (by omega) (by omega)
        exact ⟨TI_mk (wa := q.2.2.2.2.2) ⟨by omega, c1, c2⟩ (by decide) (fun _ => ⟨c3, c4⟩) hw (fun h => absurd h (by decide)), rfl, b1⟩
      · exact ⟨TI_mk (nu := q.2.2.2.1) (wa := q.2.2.2.2.2) ⟨by omega, by omega, by omega⟩ (by decide) (fun h => absurd h (by decide)) hw (fun h => absurd h (by decide)), rfl, b1⟩
theorem TI_fnx {t : Int → Int} {n : Int} {q : TK} (h : TI n q) : TI n (fNx t n q) ∧ (fNx t n q).2.2.2.2.1 = q.2.2.2.2.1 ∧ q.1 ≤ (fNx t n q).1 ∧ (q.2.2.2.2.1 = 0 → q.2.1 ≤ (fNx t n q).1) := by
  obtain ⟨a1, a2, a3, a4, a5⟩ := id h
  unfold fNx
  split
  · obtain ⟨b1, b2, b3⟩ := TI_nx (t := t) (n := n) (q := q) (by omega) a4
    exact ⟨b1, b2, by omega, fun _ => b3⟩
  · rename_i hw
    exact ⟨h, rfl, Int.le_refl _, fun h => absurd h hw⟩
theorem fFail_1 {q : TK} {c : Int} : (fFail q c).1 = q.1 ∧ (fFail q c).2.1 = q.2.1 := by
  unfold fFail
  split
  · exact ⟨rfl, rfl⟩
  · exact ⟨rfl, rfl⟩
theorem TI_must {t : Int → Int} {n : Int} {q : TK} {v : Int} (h : TI n q) : TI n (fMust t n q v) ∧ q.1 ≤ (fMust t n q v).1 ∧ ((fMust t n q v).2.2.2.2.1 = 0 → q.2.2.2.2.1 = 0 ∧ ¬ v = 0 ∧ q.2.1 ≤ (fMust t n q v).1) ∧ (q.2.2.2.2.1 = 0 → ¬ v = 0 → (fMust t n q v).2.2.2.2.1 = 0) := by
  unfold fMust
  split
  · rename_i hv
    obtain ⟨b1, b2, b3, b4⟩ := TI_fnx (t := t) (TI_fail (c := -2) h (by decide))
    obtain ⟨f1, f2⟩ := fFail_1 (q := q) (c := -2)
    refine ⟨b1, by omega, fun hz => ?_, fun _ h2 => absurd hv h2⟩
    rw [b2, fFail_w] at hz
    split at hz
    · exact absurd hz (by decide)
    · rename_i h0
      exact absurd hz h0
  · rename_i hv
    obtain ⟨b1, b2, b3, b4⟩ := TI_fnx (t := t) h
    refine ⟨b1, b3, fun hz => ⟨by rw [b2] at hz; exact hz, hv, b4 (by rw [b2] at hz; exact hz)⟩, fun h0 _ => by rw [b2]; exact h0⟩
theorem TI_tk1 {n : Int} {q : TK} {lo hi : Int} (h : TI n q) : TI n (fTk1 q lo hi) ∧ (fTk1 q lo hi).1 = q.1 ∧ (fTk1 q lo hi).2.1 = q.2.1 ∧ ((fTk1 q lo hi).2.2.2.2.1 = 0 → fTk1 q lo hi = q ∧ q.2.2.2.2.1 = 0 ∧ q.2.2.1 = 1 ∧ lo ≤ q.2.2.2.1 ∧ q.2.2.2.1 ≤ hi) := by
  unfold fTk1
  split
  · rename_i hw
    split
    · rename_i hk
      split
      · rename_i hb
        exact ⟨h, rfl, rfl, fun _ => ⟨rfl, hw, hk, hb⟩⟩
      · obtain ⟨f1, f2⟩ := fFail_1 (q := q) (c := -3)
        refine ⟨TI_fail h (by decide), f1, f2, fun hz => ?_⟩
        rw [fFail_w, if_pos hw] at hz
        exact absurd hz (by decide)
    · obtain ⟨f1, f2⟩ := fFail_1 (q := q) (c := -2)
      refine ⟨TI_fail h (by decide), f1, f2, fun hz => ?_⟩
      rw [fFail_w, if_pos hw] at hz
      exact absurd hz (by decide)
  · rename_i hw
    exact ⟨h, rfl, rfl, fun hz => absurd hz hw⟩
theorem TI_tk {t : Int → Int} {n : Int} {q : TK} {lo hi : Int} (h : TI n q) : TI n (fTk t n q lo hi) ∧ q.1 ≤ (fTk t n q lo hi).1 ∧ (fTk t n q lo hi).2.2.2.2.1 = (fTk1 q lo hi).2.2.2.2.1 ∧ ((fTk t n q lo hi).2.2.2.2.1 = 0 → q.2.2.2.2.1 = 0 ∧ lo ≤ fTkV q lo hi ∧ fTkV q lo hi ≤ hi) := by
  obtain ⟨a1, a2, a3, a4⟩ := TI_tk1 (lo := lo) (hi := hi) h
  obtain ⟨b1, b2, b3, b4⟩ := TI_fnx (t := t) a1
  refine ⟨b1, by rw [a2] at b3; exact b3, b2, fun hz => ?_⟩
  have hz' : (fTk1 q lo hi).2.2.2.2.1 = 0 := b2.symm.trans hz
  obtain ⟨c1, c2, c3, c4⟩ := a4 hz'
  refine ⟨c2, ?_⟩
  unfold fTkV
  rw [if_pos hz', c1]
  exact c4
theorem TI_end {t : Int → Int} {n : Int} {q : TK} (h : TI n q) : TI n (fEnd t n q) ∧ q.1 ≤ (fEnd t n q).1 ∧ ((fEnd t n q).2.2.2.2.1 = 0 → q.2.2.2.2.1 = 0) := by
  obtain ⟨a1, a2, a3, a4⟩ := TI_must (t := t) (v := (if q.2.2.1 = 2 then (if gSee t n q.1 = 59 then 1 else 0) else 0)) h
  exact ⟨a1, a2, fun hz => (a3 hz).1⟩
section MZL
variable {l : Launch} {X : XT} {o : Nat} {B A : AH} {S : Nat → Int → Int} {fr : Int → Int} {q : TK}
theorem c_X6_fails (hl : l.stackTraces = false) (h : TI (S 9 8) q) {c : Int} : Fn l X 0 M_X6_fails [.ref o, .int (I c)] (mp X o B (tkS S fr q)) 0 0 Rv (mp X o B (tkS S fr (fFail q c))) := by
  obtain ⟨a1, a2, a3, a4, a5⟩ := h
  refine Fn.of hl rfl rfl (Nat.le_of_ble_eq_true rfl) (k_X6_fails_0 ?_)
  simp (disch := omega) only [tk_0, tk_1, tk_4, tk_4n, tk_8, tk_9, tk_10, tk_11, tk_12, tk_13, tk_14, tk_7, tk_s9, tk_s10, tk_s11, tk_s12, tk_s13, tk_s14, tk_s1, true_implies, false_implies, not_true_eq_false, not_false_eq_true, I_n, I_neg, I_add, I_sub, I_mul, I_le4, I_lt4, I_eq4, I_div4, I_bi0, I_bi01, I_bi1, nor_em, rI_of, rV_of, zI_of, zV_of, nz_and, br_T, br_F, br_T2, br_F2, st_eq, st9_0, st_k, st_i, true_and, and_true, Classical.not_not, mp_isO, mp_gI4, mp_gI5, mp_gI7, mp_gI8, mp_gI9, mp_gI10, mp_gI11, mp_gI12, mp_gI13, mp_gI14, mp_gI15, mp_gI19, mp_gI20, mp_gI21, mp_gI23, mp_pI4, mp_pI5, mp_pI7, mp_pI8, mp_pI9, mp_pI10, mp_pI11, mp_pI12, mp_pI13, mp_pI14, mp_pI15, mp_pI19, mp_pI20, mp_pI21, mp_pI23, mp_gR0, mp_gR1, mp_gR2, mp_gR3, mp_gR6, mp_gR16, mp_gR17, mp_gR18, mp_gR22, mp_aI0, mp_aI1, mp_aI2, mp_aI3, mp_aI4, mp_aI5, mp_aI6, mp_aZ7, mp_aI8, mp_sI0, mp_sI1, mp_sI2, mp_sI3, mp_sI4, mp_sI5, mp_sI6, mp_sI8, mp_sZ0, mp_sZ1]
  unfold fFail
  refine ⟨fun h => ?_, fun h => ?_⟩
  · rw [if_pos h]
    all_goals first | rfl | exact ⟨rfl, rfl⟩
  · rw [if_neg h]
    all_goals first | rfl | exact ⟨rfl, rfl⟩
theorem L_fnx (hl : l.stackTraces = false) (hn : 0 ≤ S 9 8 ∧ S 9 8 ≤ 400) (hB : ∀ k, 0 ≤ k → k < 400 → 0 ≤ S 4 k ∧ S 4 k ≤ 255) (h : TI (S 9 8) q) : Fn l X 2 M_X6_next [.ref o] (mp X o B (tkS S fr q)) 0 0 Rv (mp X o B (tkS S fr (nx (S 4) (S 9 8) q))) := by
  obtain ⟨a1, a2, a3, a4, a5⟩ := h
  exact c_X6_next hl hn hB (by omega)
theorem c_X6_must (hl : l.stackTraces = false) (hn : 0 ≤ S 9 8 ∧ S 9 8 ≤ 400) (hB : ∀ k, 0 ≤ k → k < 400 → 0 ≤ S 4 k ∧ S 4 k ≤ 255) (h : TI (S 9 8) q) {v : Int} (hv : 0 ≤ v ∧ v ≤ 1) : Fn l X 3 M_X6_must [.ref o, .int (I v)] (mp X o B (tkS S fr q)) 0 0 Rv (mp X o B (tkS S fr (fMust (S 4) (S 9 8) q v))) := by
  have go : ∀ q1, TI (S 9 8) q1 → fMust (S 4) (S 9 8) q v = fNx (S 4) (S 9 8) q1 → G l X M_X6_must 3 (fun o' A1 => o' = Rv ∧ A1 = mp X o B (tkS S fr (fMust (S 4) (S 9 8) q v))) 10 [(0, .ref o)] [] (mp X o B (tkS S fr q1)) 0 0 := by
    intro q1 h1 he
    obtain ⟨b1, b2, b3, b4, b5⟩ := id h1
    rw [he]
    unfold fNx
    refine k_X6_must_10 ?_
    simp (disch := omega) only [tk_0, tk_1, tk_4, tk_4n, tk_8, tk_9, tk_10, tk_11, tk_12, tk_13, tk_14, tk_7, tk_s9, tk_s10, tk_s11, tk_s12, tk_s13, tk_s14, tk_s1, true_implies, false_implies, not_true_eq_false, not_false_eq_true, I_n, I_neg, I_add, I_sub, I_mul, I_le4, I_lt4, I_eq4, I_div4, I_bi0, I_bi01, I_bi1, nor_em, rI_of, rV_of, zI_of, zV_of, nz_and, br_T, br_F, br_T2, br_F2, st_eq, st9_0, st_k, st_i, true_and, and_true, Classical.not_not, mp_isO, mp_gI4, mp_gI5, mp_gI7, mp_gI8, mp_gI9, mp_gI10, mp_gI11, mp_gI12, mp_gI13, mp_gI14, mp_gI15, mp_gI19, mp_gI20, mp_gI21, mp_gI23, mp_pI4, mp_pI5, mp_pI7, mp_pI8, mp_pI9, mp_pI10, mp_pI11, mp_pI12, mp_pI13, mp_pI14, mp_pI15, mp_pI19, mp_pI20, mp_pI21, mp_pI23, mp_gR0, mp_gR1, mp_gR2, mp_gR3, mp_gR6, mp_gR16, mp_gR17, mp_gR18, mp_gR22, mp_aI0, mp_aI1, mp_aI2, mp_aI3, mp_aI4, mp_aI5, mp_aI6, mp_aZ7, mp_aI8, mp_sI0, mp_sI1, mp_sI2, mp_sI3, mp_sI4, mp_sI5, mp_sI6, mp_sI8, mp_sZ0, mp_sZ1]
    refine ⟨fun h0 => ?_, fun h0 => ?_⟩
    · rw [if_neg h0]
      all_goals first | rfl | exact ⟨rfl, rfl⟩
    · refine (L_fnx hl hn hB h1).cl0 (by decide) ?_
      rw [if_pos h0]
      simp (disch := omega) only [tk_0, tk_1, tk_4, tk_4n, tk_8, tk_9, tk_10, tk_11, tk_12, tk_13, tk_14, tk_7, tk_s9, tk_s10, tk_s11, tk_s12, tk_s13, tk_s14, tk_s1, true_implies, false_implies, not_true_eq_false, not_false_eq_true, I_n, I_neg, I_add, I_sub, I_mul, I_le4, I_lt4, I_eq4, I_div4, I_bi0, I_bi01, I_bi1, nor_em, rI_of, rV_of, zI_of, zV_of, nz_and, br_T, br_F, br_T2, br_F2, st_eq, st9_0, st_k, st_i, true_and, and_true, Classical.not_not, mp_isO, mp_gI4, mp_gI5, mp_gI7, mp_gI8, mp_gI9, mp_gI10, mp_gI11, mp_gI12, mp_gI13, mp_gI14, mp_gI15, mp_gI19, mp_gI20, mp_gI21, mp_gI23, mp_pI4, mp_pI5, mp_pI7, mp_pI8, mp_pI9, mp_pI10, mp_pI11, mp_pI12, mp_pI13, mp_pI14, mp_pI15, mp_pI19, mp_pI20, mp_pI21, mp_pI23, mp_gR0, mp_gR1, mp_gR2, mp_gR3, mp_gR6, mp_gR16, mp_gR17, mp_gR18, mp_gR22, mp_aI0, mp_aI1, mp_aI2, mp_aI3, mp_aI4, mp_aI5, mp_aI6, mp_aZ7, mp_aI8, mp_sI0, mp_sI1, mp_sI2, mp_sI3, mp_sI4, mp_sI5, mp_sI6, mp_sI8, mp_sZ0, mp_sZ1]
  refine Fn.of hl rfl rfl (Nat.le_of_ble_eq_true rfl) (k_X6_must_0 ?_)
  simp (disch := omega) only [tk_0, tk_1, tk_4, tk_4n, tk_8, tk_9, tk_10, tk_11, tk_12, tk_13, tk_14, tk_7, tk_s9, tk_s10, tk_s11, tk_s12, tk_s13, tk_s14, tk_s1, true_implies, false_implies, not_true_eq_false, not_false_eq_true, I_n, I_neg, I_add, I_sub, I_mul, I_le4, I_lt4, I_eq4, I_div4, I_bi0, I_bi01, I_bi1, nor_em, rI_of, rV_of, zI_of, zV_of, nz_and, br_T, br_F, br_T2, br_F2, st_eq, st9_0, st_k, st_i, true_and, and_true, Classical.not_not, mp_isO, mp_gI4, mp_gI5, mp_gI7, mp_gI8, mp_gI9, mp_gI10, mp_gI11, mp_gI12, mp_gI13, mp_gI14, mp_gI15, mp_gI19, mp_gI20, mp_gI21, mp_gI23, mp_pI4, mp_pI5, mp_pI7, mp_pI8, mp_pI9, mp_pI10, mp_pI11, mp_pI12, mp_pI13, mp_pI14, mp_pI15, mp_pI19, mp_pI20, mp_pI21, mp_pI23, mp_gR0, mp_gR1, mp_gR2, mp_gR3, mp_gR6, mp_gR16, mp_gR17, mp_gR18, mp_gR22, mp_aI0, mp_aI1, mp_aI2, mp_aI3, mp_aI4, mp_aI5, mp_aI6, mp_aZ7, mp_aI8, mp_sI0, mp_sI1, mp_sI2, mp_sI3, mp_sI4, mp_sI5, mp_sI6, mp_sI8, mp_sZ0, mp_sZ1]
  refine ⟨fun h0 => ?_, fun h0 => ?_⟩
  · exact go q h (by unfold fMust; rw [if_neg h0])
  · refine (c_X6_fails hl h).cl0 (by decide) ?_
    simp (disch := omega) only [tk_0, tk_1, tk_4, tk_4n, tk_8, tk_9, tk_10, tk_11, tk_12, tk_13, tk_14, tk_7, tk_s9, tk_s10, tk_s11, tk_s12, tk_s13, tk_s14, tk_s1, true_implies, false_implies, not_true_eq_false, not_false_eq_true, I_n, I_neg, I_add, I_sub, I_mul, I_le4, I_lt4, I_eq4, I_div4, I_bi0, I_bi01, I_bi1, nor_em, rI_of, rV_of, zI_of, zV_of, nz_and, br_T, br_F, br_T2, br_F2, st_eq, st9_0, st_k, st_i, true_and, and_true, Classical.not_not, mp_isO, mp_gI4, mp_gI5, mp_gI7, mp_gI8, mp_gI9, mp_gI10, mp_gI11, mp_gI12, mp_gI13, mp_gI14, mp_gI15, mp_gI19, mp_gI20, mp_gI21, mp_gI23, mp_pI4, mp_pI5, mp_pI7, mp_pI8, mp_pI9, mp_pI10, mp_pI11, mp_pI12, mp_pI13, mp_pI14, mp_pI15, mp_pI19, mp_pI20, mp_pI21, mp_pI23, mp_gR0, mp_gR1, mp_gR2, mp_gR3, mp_gR6, mp_gR16, mp_gR17, mp_gR18, mp_gR22, mp_aI0, mp_aI1, mp_aI2, mp_aI3, mp_aI4, mp_aI5, mp_aI6, mp_aZ7, mp_aI8, mp_sI0, mp_sI1, mp_sI2, mp_sI3, mp_sI4, mp_sI5, mp_sI6, mp_sI8, mp_sZ0, mp_sZ1]
    exact go _ (TI_fail h (by decide)) (by unfold fMust; rw [if_pos h0])
theorem c_X6_takes (hl : l.stackTraces = false) (hn : 0 ≤ S 9 8 ∧ S 9 8 ≤ 400) (hB : ∀ k, 0 ≤ k → k < 400 → 0 ≤ S 4 k ∧ S 4 k ≤ 255) (h : TI (S 9 8) q) {lo hi : Int} (hlo : sm lo) (hhi : sm hi) : Fn l X 3 M_X6_takes [.ref o, .int (I lo), .int (I hi)] (mp X o B (tkS S fr q)) 0 0 (Ri (I (fTkV q lo hi))) (mp X o B (tkS S fr (fTk (S 4) (S 9 8) q lo hi))) := by
  obtain ⟨a1, a2, a3, a4, a5⟩ := id h
  have go : ∀ q1, TI (S 9 8) q1 → fTk1 q lo hi = q1 → G l X M_X6_takes 3 (fun o' A1 => o' = Ri (I (fTkV q lo hi)) ∧ A1 = mp X o B (tkS S fr (fTk (S 4) (S 9 8) q lo hi))) 49 [(0, .ref o)] [] (mp X o B (tkS S fr q1)) 0 0 := by
    intro q1 h1 he
    obtain ⟨b1, b2, b3, b4, b5⟩ := id h1
    unfold fTkV fTk fNx
    rw [he]
    refine k_X6_takes_49 ?_
    simp (disch := omega) only [tk_0, tk_1, tk_4, tk_4n, tk_8, tk_9, tk_10, tk_11, tk_12, tk_13, tk_14, tk_7, tk_s9, tk_s10, tk_s11, tk_s12, tk_s13, tk_s14, tk_s1, true_implies, false_implies, not_true_eq_false, not_false_eq_true, I_n, I_neg, I_add, I_sub, I_mul, I_le4, I_lt4, I_eq4, I_div4, I_bi0, I_bi01, I_bi1, nor_em, rI_of, rV_of, zI_of, zV_of, nz_and, br_T, br_F, br_T2, br_F2, st_eq, st9_0, st_k, st_i, true_and, and_true, Classical.not_not, mp_isO, mp_gI4, mp_gI5, mp_gI7, mp_gI8, mp_gI9, mp_gI10, mp_gI11, mp_gI12, mp_gI13, mp_gI14, mp_gI15, mp_gI19, mp_gI20, mp_gI21, mp_gI23, mp_pI4, mp_pI5, mp_pI7, mp_pI8, mp_pI9, mp_pI10, mp_pI11, mp_pI12, mp_pI13, mp_pI14, mp_pI15, mp_pI19, mp_pI20, mp_pI21, mp_pI23, mp_gR0, mp_gR1, mp_gR2, mp_gR3, mp_gR6, mp_gR16, mp_gR17, mp_gR18, mp_gR22, mp_aI0, mp_aI1, mp_aI2, mp_aI3, mp_aI4, mp_aI5, mp_aI6, mp_aZ7, mp_aI8, mp_sI0, mp_sI1, mp_sI2, mp_sI3, mp_sI4, mp_sI5, mp_sI6, mp_sI8, mp_sZ0, mp_sZ1]
    refine ⟨fun h0 => k_X6_takes_64 ?_, fun h0 => k_X6_takes_64 ?_⟩
    · simp (disch := omega) only [tk_0, tk_1, tk_4, tk_4n, tk_8, tk_9, tk_10, tk_11, tk_12, tk_13, tk_14, tk_7, tk_s9, tk_s10, tk_s11, tk_s12, tk_s13, tk_s14, tk_s1, true_implies, false_implies, not_true_eq_false, not_false_eq_true, I_n, I_neg, I_add, I_sub, I_mul, I_le4, I_lt4, I_eq4, I_div4, I_bi0, I_bi01, I_bi1, nor_em, rI_of, rV_of, zI_of, zV_of, nz_and, br_T, br_F, br_T2, br_F2, st_eq, st9_0, st_k, st_i, true_and, and_true, Classical.not_not, mp_isO, mp_gI4, mp_gI5, mp_gI7, mp_gI8, mp_gI9, mp_gI10, mp_gI11, mp_gI12, mp_gI13, mp_gI14, mp_gI15, mp_gI19, mp_gI20, mp_gI21, mp_gI23, mp_pI4, mp_pI5, mp_pI7, mp_pI8, mp_pI9, mp_pI10, mp_pI11, mp_pI12, mp_pI13, mp_pI14, mp_pI15, mp_pI19, mp_pI20, mp_pI21, mp_pI23, mp_gR0, mp_gR1, mp_gR2, mp_gR3, mp_gR6, mp_gR16, mp_gR17, mp_gR18, mp_gR22, mp_aI0, mp_aI1, mp_aI2, mp_aI3, mp_aI4, mp_aI5, mp_aI6, mp_aZ7, mp_aI8, mp_sI0, mp_sI1, mp_sI2, mp_sI3, mp_sI4, mp_sI5, mp_sI6, mp_sI8, mp_sZ0, mp_sZ1]
      rw [if_neg h0, if_neg h0]
      all_goals first | rfl | exact ⟨rfl, rfl⟩
    · simp (disch := omega) only [tk_0, tk_1, tk_4, tk_4n, tk_8, tk_9, tk_10, tk_11, tk_12, tk_13, tk_14, tk_7, tk_s9, tk_s10, tk_s11, tk_s12, tk_s13, tk_s14, tk_s1, true_implies, false_implies, not_true_eq_false, not_false_eq_true, I_n, I_neg, I_add, I_sub, I_mul, I_le4, I_lt4, I_eq4, I_div4, I_bi0, I_bi01, I_bi1, nor_em, rI_of, rV_of, zI_of, zV_of, nz_and, br_T, br_F, br_T2, br_F2, st_eq, st9_0, st_k, st_i, true_and, and_true, Classical.not_not, mp_isO, mp_gI4, mp_gI5, mp_gI7, mp_gI8, mp_gI9, mp_gI10, mp_gI11, mp_gI12, mp_gI13, mp_gI14, mp_gI15, mp_gI19, mp_gI20, mp_gI21, mp_gI23, mp_pI4, mp_pI5, mp_pI7, mp_pI8, mp_pI9, mp_pI10, mp_pI11, mp_pI12, mp_pI13, mp_pI14, mp_pI15, mp_pI19, mp_pI20, mp_pI21, mp_pI23, mp_gR0, mp_gR1, mp_gR2, mp_gR3, mp_gR6, mp_gR16, mp_gR17, mp_gR18, mp_gR22, mp_aI0, mp_aI1, mp_aI2, mp_aI3, mp_aI4, mp_aI5, mp_aI6, mp_aZ7, mp_aI8, mp_sI0, mp_sI1, mp_sI2, mp_sI3, mp_sI4, mp_sI5, mp_sI6, mp_sI8, mp_sZ0, mp_sZ1]
      refine (L_fnx hl hn hB h1).cl0 (by decide) ?_
      rw [if_pos h0, if_pos h0]
      simp (disch := omega) only [tk_0, tk_1, tk_4, tk_4n, tk_8, tk_9, tk_10, tk_11, tk_12, tk_13, tk_14, tk_7, tk_s9, tk_s10, tk_s11, tk_s12, tk_s13, tk_s14, tk_s1, true_implies, false_implies, not_true_eq_false, not_false_eq_true, I_n, I_neg, I_add, I_sub, I_mul, I_le4, I_lt4, I_eq4, I_div4, I_bi0, I_bi01, I_bi1, nor_em, rI_of, rV_of, zI_of, zV_of, nz_and, br_T, br_F, br_T2, br_F2, st_eq, st9_0, st_k, st_i, true_and, and_true, Classical.not_not, mp_isO, mp_gI4, mp_gI5, mp_gI7, mp_gI8, mp_gI9, mp_gI10, mp_gI11, mp_gI12, mp_gI13, mp_gI14, mp_gI15, mp_gI19, mp_gI20, mp_gI21, mp_gI23, mp_pI4, mp_pI5, mp_pI7, mp_pI8, mp_pI9, mp_pI10, mp_pI11, mp_pI12, mp_pI13, mp_pI14, mp_pI15, mp_pI19, mp_pI20, mp_pI21, mp_pI23, mp_gR0, mp_gR1, mp_gR2, mp_gR3, mp_gR6, mp_gR16, mp_gR17, mp_gR18, mp_gR22, mp_aI0, mp_aI1, mp_aI2, mp_aI3, mp_aI4, mp_aI5, mp_aI6, mp_aZ7, mp_aI8, mp_sI0, mp_sI1, mp_sI2, mp_sI3, mp_sI4, mp_sI5, mp_sI6, mp_sI8, mp_sZ0, mp_sZ1]
  refine Fn.of hl rfl rfl (Nat.le_of_ble_eq_true rfl) (k_X6_takes_0 ?_)
  simp (disch := omega) only [tk_0, tk_1, tk_4, tk_4n, tk_8, tk_9, tk_10, tk_11, tk_12, tk_13, tk_14, tk_7, tk_s9, tk_s10, tk_s11, tk_s12, tk_s13, tk_s14, tk_s1, true_implies, false_implies, not_true_eq_false, not_false_eq_true, I_n, I_neg, I_add, I_sub, I_mul, I_le4, I_lt4, I_eq4, I_div4, I_bi0, I_bi01, I_bi1, nor_em, rI_of, rV_of, zI_of, zV_of, nz_and, br_T, br_F, br_T2, br_F2, st_eq, st9_0, st_k, st_i, true_and, and_true, Classical.not_not, mp_isO, mp_gI4, mp_gI5, mp_gI7, mp_gI8, mp_gI9, mp_gI10, mp_gI11, mp_gI12, mp_gI13, mp_gI14, mp_gI15, mp_gI19, mp_gI20, mp_gI21, mp_gI23, mp_pI4, mp_pI5, mp_pI7, mp_pI8, mp_pI9, mp_pI10, mp_pI11, mp_pI12, mp_pI13, mp_pI14, mp_pI15, mp_pI19, mp_pI20, mp_pI21, mp_pI23, mp_gR0, mp_gR1, mp_gR2, mp_gR3, mp_gR6, mp_gR16, mp_gR17, mp_gR18, mp_gR22, mp_aI0, mp_aI1, mp_aI2, mp_aI3, mp_aI4, mp_aI5, mp_aI6, mp_aZ7, mp_aI8, mp_sI0, mp_sI1, mp_sI2, mp_sI3, mp_sI4, mp_sI5, mp_sI6, mp_sI8, mp_sZ0, mp_sZ1]
  refine ⟨fun h0 => k_X6_takes_24 ?_, fun h0 => ⟨fun h2 => k_X6_takes_24 ?_, fun h2 => ?_⟩⟩
  · simp (disch := omega) only [tk_0, tk_1, tk_4, tk_4n, tk_8, tk_9, tk_10, tk_11, tk_12, tk_13, tk_14, tk_7, tk_s9, tk_s10, tk_s11, tk_s12, tk_s13, tk_s14, tk_s1, true_implies, false_implies, not_true_eq_false, not_false_eq_true, I_n, I_neg, I_add, I_sub, I_mul, I_le4, I_lt4, I_eq4, I_div4, I_bi0, I_bi01, I_bi1, nor_em, rI_of, rV_of, zI_of, zV_of, nz_and, br_T, br_F, br_T2, br_F2, st_eq, st9_0, st_k, st_i, true_and, and_true, Classical.not_not, mp_isO, mp_gI4, mp_gI5, mp_gI7, mp_gI8, mp_gI9, mp_gI10, mp_gI11, mp_gI12, mp_gI13, mp_gI14, mp_gI15, mp_gI19, mp_gI20, mp_gI21, mp_gI23, mp_pI4, mp_pI5, mp_pI7, mp_pI8, mp_pI9, mp_pI10, mp_pI11, mp_pI12, mp_pI13, mp_pI14, mp_pI15, mp_pI19, mp_pI20, mp_pI21, mp_pI23, mp_gR0, mp_gR1, mp_gR2, mp_gR3, mp_gR6, mp_gR16, mp_gR17, mp_gR18, mp_gR22, mp_aI0, mp_aI1, mp_aI2, mp_aI3, mp_aI4, mp_aI5, mp_aI6, mp_aZ7, mp_aI8, mp_sI0, mp_sI1, mp_sI2, mp_sI3, mp_sI4, mp_sI5, mp_sI6, mp_sI8, mp_sZ0, mp_sZ1]
    exact go q h (by unfold fTk1; rw [if_neg h0])
  · simp (disch := omega) only [tk_0, tk_1, tk_4, tk_4n, tk_8, tk_9, tk_10, tk_11, tk_12, tk_13, tk_14, tk_7, tk_s9, tk_s10, tk_s11, tk_s12, tk_s13, tk_s14, tk_s1, true_implies, false_implies, not_true_eq_false, not_false_eq_true, I_n, I_neg, I_add, I_sub, I_mul, I_le4, I_lt4, I_eq4, I_div4, I_bi0, I_bi01, I_bi1, nor_em, rI_of, rV_of, zI_of, zV_of, nz_and, br_T, br_F, br_T2, br_F2, st_eq, st9_0, st_k, st_i, true_and, and_true, Classical.not_not, mp_isO, mp_gI4, mp_gI5, mp_gI7, mp_gI8, mp_gI9, mp_gI10, mp_gI11, mp_gI12, mp_gI13, mp_gI14, mp_gI15, mp_gI19, mp_gI20, mp_gI21, mp_gI23, mp_pI4, mp_pI5, mp_pI7, mp_pI8, mp_pI9, mp_pI10, mp_pI11, mp_pI12, mp_pI13, mp_pI14, mp_pI15, mp_pI19, mp_pI20, mp_pI21, mp_pI23, mp_gR0, mp_gR1, mp_gR2, mp_gR3, mp_gR6, mp_gR16, mp_gR17, mp_gR18, mp_gR22, mp_aI0, mp_aI1, mp_aI2, mp_aI3, mp_aI4, mp_aI5, mp_aI6, mp_aZ7, mp_aI8, mp_sI0, mp_sI1, mp_sI2, mp_sI3, mp_sI4, mp_sI5, mp_sI6, mp_sI8, mp_sZ0, mp_sZ1]
    have a3' := a3 h2
    refine (c_X6_isIn hl ⟨by omega, by omega⟩ hlo hhi).cl0 (by decide) ?_
    simp (disch := omega) only [tk_0, tk_1, tk_4, tk_4n, tk_8, tk_9, tk_10, tk_11, tk_12, tk_13, tk_14, tk_7, tk_s9, tk_s10, tk_s11, tk_s12, tk_s13, tk_s14, tk_s1, true_implies, false_implies, not_true_eq_false, not_false_eq_true, I_n, I_neg, I_add, I_sub, I_mul, I_le4, I_lt4, I_eq4, I_div4, I_bi0, I_bi01, I_bi1, nor_em, rI_of, rV_of, zI_of, zV_of, nz_and, br_T, br_F, br_T2, br_F2, st_eq, st9_0, st_k, st_i, true_and, and_true, Classical.not_not, mp_isO, mp_gI4, mp_gI5, mp_gI7, mp_gI8, mp_gI9, mp_gI10, mp_gI11, mp_gI12, mp_gI13, mp_gI14, mp_gI15, mp_gI19, mp_gI20, mp_gI21, mp_gI23, mp_pI4, mp_pI5, mp_pI7, mp_pI8, mp_pI9, mp_pI10, mp_pI11, mp_pI12, mp_pI13, mp_pI14, mp_pI15, mp_pI19, mp_pI20, mp_pI21, mp_pI23, mp_gR0, mp_gR1, mp_gR2, mp_gR3, mp_gR6, mp_gR16, mp_gR17, mp_gR18, mp_gR22, mp_aI0, mp_aI1, mp_aI2, mp_aI3, mp_aI4, mp_aI5, mp_aI6, mp_aZ7, mp_aI8, mp_sI0, mp_sI1, mp_sI2, mp_sI3, mp_sI4, mp_sI5, mp_sI6, mp_sI8, mp_sZ0, mp_sZ1]
    refine ⟨fun h3 => ?_, fun h3 => ?_⟩
    · exact go q h (by unfold fTk1; rw [if_pos h0, if_pos h2, if_pos h3])
    · refine (c_X6_fails hl h).cl0 (by decide) ?_
      simp (disch := omega) only [tk_0, tk_1, tk_4, tk_4n, tk_8, tk_9, tk_10, tk_11, tk_12, tk_13, tk_14, tk_7, tk_s9, tk_s10, tk_s11, tk_s12, tk_s13, tk_s14, tk_s1, true_implies, false_implies, not_true_eq_false, not_false_eq_true, I_n, I_neg, I_add, I_sub, I_mul, I_le4, I_lt4, I_eq4, I_div4, I_bi0, I_bi01, I_bi1, nor_em, rI_of, rV_of, zI_of, zV_of, nz_and, br_T, br_F, br_T2, br_F2, st_eq, st9_0, st_k, st_i, true_and, and_true, Classical.not_not, mp_isO, mp_gI4, mp_gI5, mp_gI7, mp_gI8, mp_gI9, mp_gI10, mp_gI11, mp_gI12, mp_gI13, mp_gI14, mp_gI15, mp_gI19, mp_gI20, mp_gI21, mp_gI23, mp_pI4, mp_pI5, mp_pI7, mp_pI8, mp_pI9, mp_pI10, mp_pI11, mp_pI12, mp_pI13, mp_pI14, mp_pI15, mp_pI19, mp_pI20, mp_pI21, mp_pI23, mp_gR0, mp_gR1, mp_gR2, mp_gR3, mp_gR6, mp_gR16, mp_gR17, mp_gR18, mp_gR22, mp_aI0, mp_aI1, mp_aI2, mp_aI3, mp_aI4, mp_aI5, mp_aI6, mp_aZ7, mp_aI8, mp_sI0, mp_sI1, mp_sI2, mp_sI3, mp_sI4, mp_sI5, mp_sI6, mp_sI8, mp_sZ0, mp_sZ1]
      exact go _ (TI_fail h (by decide)) (by unfold fTk1; rw [if_pos h0, if_pos h2, if_neg h3])
  · refine (c_X6_fails hl h).cl0 (by decide) ?_
    simp (disch := omega) only [tk_0, tk_1, tk_4, tk_4n, tk_8, tk_9, tk_10, tk_11, tk_12, tk_13, tk_14, tk_7, tk_s9, tk_s10, tk_s11, tk_s12, tk_s13, tk_s14, tk_s1, true_implies, false_implies, not_true_eq_false, not_false_eq_true, I_n, I_neg, I_add, I_sub, I_mul, I_le4, I_lt4, I_eq4, I_div4, I_bi0, I_bi01, I_bi1, nor_em, rI_of, rV_of, zI_of, zV_of, nz_and, br_T, br_F, br_T2, br_F2, st_eq, st9_0, st_k, st_i, true_and, and_true, Classical.not_not, mp_isO, mp_gI4, mp_gI5, mp_gI7, mp_gI8, mp_gI9, mp_gI10, mp_gI11, mp_gI12, mp_gI13, mp_gI14, mp_gI15, mp_gI19, mp_gI20, mp_gI21, mp_gI23, mp_pI4, mp_pI5, mp_pI7, mp_pI8, mp_pI9, mp_pI10, mp_pI11, mp_pI12, mp_pI13, mp_pI14, mp_pI15, mp_pI19, mp_pI20, mp_pI21, mp_pI23, mp_gR0, mp_gR1, mp_gR2, mp_gR3, mp_gR6, mp_gR16, mp_gR17, mp_gR18, mp_gR22, mp_aI0, mp_aI1, mp_aI2, mp_aI3, mp_aI4, mp_aI5, mp_aI6, mp_aZ7, mp_aI8, mp_sI0, mp_sI1, mp_sI2, mp_sI3, mp_sI4, mp_sI5, mp_sI6, mp_sI8, mp_sZ0, mp_sZ1]
    exact go _ (TI_fail h (by decide)) (by unfold fTk1; rw [if_pos h0, if_neg h2])
theorem wdEq_b {t : Int → Int} {a : Int} {i : Nat} : ∀ (m : Nat) (j : Int), wdEq t a i m j = 0 ∨ wdEq t a i m j = 1 := by
  intro m
  induction m with
  | zero => intro j; exact Or.inr rfl
  | succ m ih =>
    intro j
    show (if t (a + j) = tC i j then wdEq t a i m (j + 1) else 0) = 0 ∨ (if t (a + j) = tC i j then wdEq t a i m (j + 1) else 0) = 1
    split
    · exact ih (j + 1)
    · exact Or.inl rfl
theorem fWd_b {t : Int → Int} {i : Nat} : 0 ≤ fWd t i q ∧ fWd t i q ≤ 1 := by
  have h := wdEq_b (t := t) (a := q.1) (i := i) (tL i).toNat 0
  unfold fWd
  split
  · split
    · split
      · omega
      · omega
    · omega
  · omega
theorem c_X6_isWord (hl : l.stackTraces = false) (hn : 0 ≤ S 9 8 ∧ S 9 8 ≤ 400) (hB : ∀ k, 0 ≤ k → k < 400 → 0 ≤ S 4 k ∧ S 4 k ≤ 255) (h : TI (S 9 8) q) {i : Nat} (hi : i < 12) : Fn l X 4 M_X6_isWord [.ref o, .ref (xK X i)] (mp X o B (tkS S fr q)) 0 0 (Ri (I (fWd (S 4) i q))) (mp X o B (tkS S fr q)) := by
  obtain ⟨a1, a2, a3, a4, a5⟩ := id h
  have hb := tL_b i hi
  have hnn := tL_n i hi
  unfold fWd
  refine Fn.of hl rfl rfl (Nat.le_of_ble_eq_true rfl) (k_X6_isWord_0 ?_)
  simp (disch := omega) only [tk_0, tk_1, tk_4, tk_4n, tk_8, tk_9, tk_10, tk_11, tk_12, tk_13, tk_14, tk_7, tk_s9, tk_s10, tk_s11, tk_s12, tk_s13, tk_s14, tk_s1, true_implies, false_implies, not_true_eq_false, not_false_eq_true, I_n, I_neg, I_add, I_sub, I_mul, I_le4, I_lt4, I_eq4, I_div4, I_bi0, I_bi01, I_bi1, nor_em, rI_of, rV_of, zI_of, zV_of, nz_and, br_T, br_F, br_T2, br_F2, st_eq, st9_0, st_k, st_i, true_and, and_true, Classical.not_not, mp_isO, mp_gI4, mp_gI5, mp_gI7, mp_gI8, mp_gI9, mp_gI10, mp_gI11, mp_gI12, mp_gI13, mp_gI14, mp_gI15, mp_gI19, mp_gI20, mp_gI21, mp_gI23, mp_pI4, mp_pI5, mp_pI7, mp_pI8, mp_pI9, mp_pI10, mp_pI11, mp_pI12, mp_pI13, mp_pI14, mp_pI15, mp_pI19, mp_pI20, mp_pI21, mp_pI23, mp_gR0, mp_gR1, mp_gR2, mp_gR3, mp_gR6, mp_gR16, mp_gR17, mp_gR18, mp_gR22, mp_aI0, mp_aI1, mp_aI2, mp_aI3, mp_aI4, mp_aI5, mp_aI6, mp_aZ7, mp_aI8, mp_sI0, mp_sI1, mp_sI2, mp_sI3, mp_sI4, mp_sI5, mp_sI6, mp_sI8, mp_sZ0, mp_sZ1]
  refine ⟨fun h0 => ?_, fun h0 => ⟨fun h1 => ?_, fun h1 => ⟨i, rfl, hi, (c_J0_length hl hi).cl0 (by decide) ?_⟩⟩⟩
  · rw [if_neg h0]
    all_goals first | rfl | exact ⟨rfl, rfl⟩
  · rw [if_pos h0, if_neg h1]
    all_goals first | rfl | exact ⟨rfl, rfl⟩
  · simp (disch := omega) only [tk_0, tk_1, tk_4, tk_4n, tk_8, tk_9, tk_10, tk_11, tk_12, tk_13, tk_14, tk_7, tk_s9, tk_s10, tk_s11, tk_s12, tk_s13, tk_s14, tk_s1, true_implies, false_implies, not_true_eq_false, not_false_eq_true, I_n, I_neg, I_add, I_sub, I_mul, I_le4, I_lt4, I_eq4, I_div4, I_bi0, I_bi01, I_bi1, nor_em, rI_of, rV_of, zI_of, zV_of, nz_and, br_T, br_F, br_T2, br_F2, st_eq, st9_0, st_k, st_i, true_and, and_true, Classical.not_not, mp_isO, mp_gI4, mp_gI5, mp_gI7, mp_gI8, mp_gI9, mp_gI10, mp_gI11, mp_gI12, mp_gI13, mp_gI14, mp_gI15, mp_gI19, mp_gI20, mp_gI21, mp_gI23, mp_pI4, mp_pI5, mp_pI7, mp_pI8, mp_pI9, mp_pI10, mp_pI11, mp_pI12, mp_pI13, mp_pI14, mp_pI15, mp_pI19, mp_pI20, mp_pI21, mp_pI23, mp_gR0, mp_gR1, mp_gR2, mp_gR3, mp_gR6, mp_gR16, mp_gR17, mp_gR18, mp_gR22, mp_aI0, mp_aI1, mp_aI2, mp_aI3, mp_aI4, mp_aI5, mp_aI6, mp_aZ7, mp_aI8, mp_sI0, mp_sI1, mp_sI2, mp_sI3, mp_sI4, mp_sI5, mp_sI6, mp_sI8, mp_sZ0, mp_sZ1]
    refine ⟨fun h2 => ?_, fun h2 => ?_⟩
    · rw [if_pos h0, if_pos h1, if_pos h2]
      have key : ∀ (m : Nat) (j : Int), 0 ≤ j → j + m = tL i → G l X M_X6_isWord 4 (fun o' A1 => o' = Ri (I (wdEq (S 4) q.1 i m j)) ∧ A1 = mp X o B (tkS S fr q)) 34 [(0, .ref o), (1, .ref (xK X i)), (2, .int (I j))] [] (mp X o B (tkS S fr q)) 0 0 := by
        intro m
        induction m with
        | zero =>
          intro j j0 hj
          refine k_X6_isWord_34 ⟨i, rfl, hi, (c_J0_length hl hi).cl0 (by decide) ?_⟩
          simp (disch := omega) only [tk_0, tk_1, tk_4, tk_4n, tk_8, tk_9, tk_10, tk_11, tk_12, tk_13, tk_14, tk_7, tk_s9, tk_s10, tk_s11, tk_s12, tk_s13, tk_s14, tk_s1, true_implies, false_implies, not_true_eq_false, not_false_eq_true, I_n, I_neg, I_add, I_sub, I_mul, I_le4, I_lt4, I_eq4, I_div4, I_bi0, I_bi01, I_bi1, nor_em, rI_of, rV_of, zI_of, zV_of, nz_and, br_T, br_F, br_T2, br_F2, st_eq, st9_0, st_k, st_i, true_and, and_true, Classical.not_not, mp_isO, mp_gI4, mp_gI5, mp_gI7, mp_gI8, mp_gI9, mp_gI10, mp_gI11, mp_gI12, mp_gI13, mp_gI14, mp_gI15, mp_gI19, mp_gI20, mp_gI21, mp_gI23, mp_pI4, mp_pI5, mp_pI7, mp_pI8, mp_pI9, mp_pI10, mp_pI11, mp_pI12, mp_pI13, mp_pI14, mp_pI15, mp_pI19, mp_pI20, mp_pI21, mp_pI23, mp_gR0, mp_gR1, mp_gR2, mp_gR3, mp_gR6, mp_gR16, mp_gR17, mp_gR18, mp_gR22, mp_aI0, mp_aI1, mp_aI2, mp_aI3, mp_aI4, mp_aI5, mp_aI6, mp_aZ7, mp_aI8, mp_sI0, mp_sI1, mp_sI2, mp_sI3, mp_sI4, mp_sI5, mp_sI6, mp_sI8, mp_sZ0, mp_sZ1]
          all_goals first | rfl | exact ⟨rfl, rfl⟩
        | succ m ih =>
          intro j j0 hj
          have hc := tC_b i hi j.toNat (by omega)
          rw [show ((j.toNat : Nat) : Int) = j by omega] at hc
          have hbj := hB (q.1 + j) (by omega) (by omega)
          refine k_X6_isWord_34 ⟨i, rfl, hi, (c_J0_length hl hi).cl0 (by decide) ?_⟩
          simp (disch := omega) only [tk_0, tk_1, tk_4, tk_4n, tk_8, tk_9, tk_10, tk_11, tk_12, tk_13, tk_14, tk_7, tk_s9, tk_s10, tk_s11, tk_s12, tk_s13, tk_s14, tk_s1, true_implies, false_implies, not_true_eq_false, not_false_eq_true, I_n, I_neg, I_add, I_sub, I_mul, I_le4, I_lt4, I_eq4, I_div4, I_bi0, I_bi01, I_bi1, nor_em, rI_of, rV_of, zI_of, zV_of, nz_and, br_T, br_F, br_T2, br_F2, st_eq, st9_0, st_k, st_i, true_and, and_true, Classical.not_not, mp_isO, mp_gI4, mp_gI5, mp_gI7, mp_gI8, mp_gI9, mp_gI10, mp_gI11, mp_gI12, mp_gI13, mp_gI14, mp_gI15, mp_gI19, mp_gI20, mp_gI21, mp_gI23, mp_pI4, mp_pI5, mp_pI7, mp_pI8, mp_pI9, mp_pI10, mp_pI11, mp_pI12, mp_pI13, mp_pI14, mp_pI15, mp_pI19, mp_pI20, mp_pI21, mp_pI23, mp_gR0, mp_gR1, mp_gR2, mp_gR3, mp_gR6, mp_gR16, mp_gR17, mp_gR18, mp_gR22, mp_aI0, mp_aI1, mp_aI2, mp_aI3, mp_aI4, mp_aI5, mp_aI6, mp_aZ7, mp_aI8, mp_sI0, mp_sI1, mp_sI2, mp_sI3, mp_sI4, mp_sI5, mp_sI6, mp_sI8, mp_sZ0, mp_sZ1]
          refine ⟨i, rfl, hi, (c_J0_charAt hl hi j0 (by omega)).cl0 (by decide) ?_⟩
          simp (disch := omega) only [tk_0, tk_1, tk_4, tk_4n, tk_8, tk_9, tk_10, tk_11, tk_12, tk_13, tk_14, tk_7, tk_s9, tk_s10, tk_s11, tk_s12, tk_s13, tk_s14, tk_s1, true_implies, false_implies, not_true_eq_false, not_false_eq_true, I_n, I_neg, I_add, I_sub, I_mul, I_le4, I_lt4, I_eq4, I_div4, I_bi0, I_bi01, I_bi1, nor_em, rI_of, rV_of, zI_of, zV_of, nz_and, br_T, br_F, br_T2, br_F2, st_eq, st9_0, st_k, st_i, true_and, and_true, Classical.not_not, mp_isO, mp_gI4, mp_gI5, mp_gI7, mp_gI8, mp_gI9, mp_gI10, mp_gI11, mp_gI12, mp_gI13, mp_gI14, mp_gI15, mp_gI19, mp_gI20, mp_gI21, mp_gI23, mp_pI4, mp_pI5, mp_pI7, mp_pI8, mp_pI9, mp_pI10, mp_pI11, mp_pI12, mp_pI13, mp_pI14, mp_pI15, mp_pI19, mp_pI20, mp_pI21, mp_pI23, mp_gR0, mp_gR1, mp_gR2, mp_gR3, mp_gR6, mp_gR16, mp_gR17, mp_gR18, mp_gR22, mp_aI0, mp_aI1, mp_aI2, mp_aI3, mp_aI4, mp_aI5, mp_aI6, mp_aZ7, mp_aI8, mp_sI0, mp_sI1, mp_sI2, mp_sI3, mp_sI4, mp_sI5, mp_sI6, mp_sI8, mp_sZ0, mp_sZ1]
          refine ⟨fun h3 => ?_, fun h3 => ?_⟩
          · have e : wdEq (S 4) q.1 i (m + 1) j = wdEq (S 4) q.1 i m (j + 1) := if_pos h3
            rw [e]
            exact ih (j + 1) (by omega) (by omega)
          · have e : wdEq (S 4) q.1 i (m + 1) j = 0 := if_neg h3
            rw [e]
            all_goals first | rfl | exact ⟨rfl, rfl⟩
      exact key (tL i).toNat 0 (by omega) (by omega)
    · rw [if_pos h0, if_pos h1, if_neg h2]
      all_goals first | rfl | exact ⟨rfl, rfl⟩
theorem c_X6_mustEnd (hl : l.stackTraces = false) (hn : 0 ≤ S 9 8 ∧ S 9 8 ≤ 400) (hB : ∀ k, 0 ≤ k → k < 400 → 0 ≤ S 4 k ∧ S 4 k ≤ 255) (h : TI (S 9 8) q) : Fn l X 4 M_X6_mustEnd [.ref o] (mp X o B (tkS S fr q)) 0 0 Rv (mp X o B (tkS S fr (fEnd (S 4) (S 9 8) q))) := by
  obtain ⟨a1, a2, a3, a4, a5⟩ := id h
  have go : ∀ v : Int, 0 ≤ v ∧ v ≤ 1 → (if q.2.2.1 = 2 then (if gSee (S 4) (S 9 8) q.1 = 59 then (1 : Int) else 0) else 0) = v → G l X M_X6_mustEnd 4 (fun o' A1 => o' = Rv ∧ A1 = mp X o B (tkS S fr (fEnd (S 4) (S 9 8) q))) 27 [] [.int (I v), .ref o] (mp X o B (tkS S fr q)) 0 0 := by
    intro v hv he
    refine k_X6_mustEnd_27 ⟨mp_isO, (c_X6_must hl hn hB h hv).cl0 (by decide) ?_⟩
    simp (disch := omega) only [tk_0, tk_1, tk_4, tk_4n, tk_8, tk_9, tk_10, tk_11, tk_12, tk_13, tk_14, tk_7, tk_s9, tk_s10, tk_s11, tk_s12, tk_s13, tk_s14, tk_s1, true_implies, false_implies, not_true_eq_false, not_false_eq_true, I_n, I_neg, I_add, I_sub, I_mul, I_le4, I_lt4, I_eq4, I_div4, I_bi0, I_bi01, I_bi1, nor_em, rI_of, rV_of, zI_of, zV_of, nz_and, br_T, br_F, br_T2, br_F2, st_eq, st9_0, st_k, st_i, true_and, and_true, Classical.not_not, mp_isO, mp_gI4, mp_gI5, mp_gI7, mp_gI8, mp_gI9, mp_gI10, mp_gI11, mp_gI12, mp_gI13, mp_gI14, mp_gI15, mp_gI19, mp_gI20, mp_gI21, mp_gI23, mp_pI4, mp_pI5, mp_pI7, mp_pI8, mp_pI9, mp_pI10, mp_pI11, mp_pI12, mp_pI13, mp_pI14, mp_pI15, mp_pI19, mp_pI20, mp_pI21, mp_pI23, mp_gR0, mp_gR1, mp_gR2, mp_gR3, mp_gR6, mp_gR16, mp_gR17, mp_gR18, mp_gR22, mp_aI0, mp_aI1, mp_aI2, mp_aI3, mp_aI4, mp_aI5, mp_aI6, mp_aZ7, mp_aI8, mp_sI0, mp_sI1, mp_sI2, mp_sI3, mp_sI4, mp_sI5, mp_sI6, mp_sI8, mp_sZ0, mp_sZ1]
    unfold fEnd
    rw [he]
    all_goals first | rfl | exact ⟨rfl, rfl⟩
  have hs := gSee_b (t := S 4) (n := S 9 8) (k := q.1) hn.2 a1.1 hB
  refine Fn.of hl rfl rfl (Nat.le_of_ble_eq_true rfl) (k_X6_mustEnd_0 ?_)
  simp (disch := omega) only [tk_0, tk_1, tk_4, tk_4n, tk_8, tk_9, tk_10, tk_11, tk_12, tk_13, tk_14, tk_7, tk_s9, tk_s10, tk_s11, tk_s12, tk_s13, tk_s14, tk_s1, true_implies, false_implies, not_true_eq_false, not_false_eq_true, I_n, I_neg, I_add, I_sub, I_mul, I_le4, I_lt4, I_eq4, I_div4, I_bi0, I_bi01, I_bi1, nor_em, rI_of, rV_of, zI_of, zV_of, nz_and, br_T, br_F, br_T2, br_F2, st_eq, st9_0, st_k, st_i, true_and, and_true, Classical.not_not, mp_isO, mp_gI4, mp_gI5, mp_gI7, mp_gI8, mp_gI9, mp_gI10, mp_gI11, mp_gI12, mp_gI13, mp_gI14, mp_gI15, mp_gI19, mp_gI20, mp_gI21, mp_gI23, mp_pI4, mp_pI5, mp_pI7, mp_pI8, mp_pI9, mp_pI10, mp_pI11, mp_pI12, mp_pI13, mp_pI14, mp_pI15, mp_pI19, mp_pI20, mp_pI21, mp_pI23, mp_gR0, mp_gR1, mp_gR2, mp_gR3, mp_gR6, mp_gR16, mp_gR17, mp_gR18, mp_gR22, mp_aI0, mp_aI1, mp_aI2, mp_aI3, mp_aI4, mp_aI5, mp_aI6, mp_aZ7, mp_aI8, mp_sI0, mp_sI1, mp_sI2, mp_sI3, mp_sI4, mp_sI5, mp_sI6, mp_sI8, mp_sZ0, mp_sZ1]
  refine ⟨fun h0 => ?_, fun h0 => ?_⟩
  · exact go 0 (by decide) (if_neg h0)
  · refine (see_tk hl hn a1.1 (by omega)).cl0 (by decide) ?_
    simp (disch := omega) only [tk_0, tk_1, tk_4, tk_4n, tk_8, tk_9, tk_10, tk_11, tk_12, tk_13, tk_14, tk_7, tk_s9, tk_s10, tk_s11, tk_s12, tk_s13, tk_s14, tk_s1, true_implies, false_implies, not_true_eq_false, not_false_eq_true, I_n, I_neg, I_add, I_sub, I_mul, I_le4, I_lt4, I_eq4, I_div4, I_bi0, I_bi01, I_bi1, nor_em, rI_of, rV_of, zI_of, zV_of, nz_and, br_T, br_F, br_T2, br_F2, st_eq, st9_0, st_k, st_i, true_and, and_true, Classical.not_not, mp_isO, mp_gI4, mp_gI5, mp_gI7, mp_gI8, mp_gI9, mp_gI10, mp_gI11, mp_gI12, mp_gI13, mp_gI14, mp_gI15, mp_gI19, mp_gI20, mp_gI21, mp_gI23, mp_pI4, mp_pI5, mp_pI7, mp_pI8, mp_pI9, mp_pI10, mp_pI11, mp_pI12, mp_pI13, mp_pI14, mp_pI15, mp_pI19, mp_pI20, mp_pI21, mp_pI23, mp_gR0, mp_gR1, mp_gR2, mp_gR3, mp_gR6, mp_gR16, mp_gR17, mp_gR18, mp_gR22, mp_aI0, mp_aI1, mp_aI2, mp_aI3, mp_aI4, mp_aI5, mp_aI6, mp_aZ7, mp_aI8, mp_sI0, mp_sI1, mp_sI2, mp_sI3, mp_sI4, mp_sI5, mp_sI6, mp_sI8, mp_sZ0, mp_sZ1]
    refine ⟨fun h2 => ?_, fun h2 => ?_⟩
    · exact go 0 (by decide) (by rw [if_pos h0, if_neg h2])
    · exact go 1 (by decide) (by rw [if_pos h0, if_pos h2])
end MZL
