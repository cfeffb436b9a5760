/-! the reference's tokens -/
def gSee (t : Int → Int) (n k : Int) : Int := if n ≤ k then -1 else t k
def kSk (t : Int → Int) (n : Int) : Nat → Int → Int
  | 0, p => p
  | m + 1, p => if gSee t n p = 32 then kSk t n m (p + 1) else p
def kLe (t : Int → Int) (n : Int) : Nat → Int → Int
  | 0, p => p
  | m + 1, p => if 97 ≤ gSee t n p ∧ gSee t n p ≤ 122 then kLe t n m (p + 1) else p
def kDi (t : Int → Int) (n : Int) : Nat → Int → Int → Int × Int
  | 0, p, v => (p, v)
  | m + 1, p, v => if 48 ≤ gSee t n p ∧ gSee t n p ≤ 57 then kDi t n m (p + 1) (if 10000 ≤ v then v else 10 * v + gSee t n p - 48) else (p, v)
/-- behind the spaces -/
def sk (t : Int → Int) (n p : Int) : Int := kSk t n (n - p).toNat p
/-- a token's state: at, behind, kind, number, wrong, wrongAt -/
abbrev TK : Type := Int × Int × Int × Int × Int × Int
def tkS (S : Nat → Int → Int) (fr : Int → Int) (q : TK) : Nat → Int → Int := st (st (st (st (st (st (sw S 1 fr) 9 9 q.1) 9 10 q.2.1) 9 11 q.2.2.1) 9 12 q.2.2.2.1) 9 13 q.2.2.2.2.1) 9 14 q.2.2.2.2.2
section TKL
variable {S : Nat → Int → Int} {fr : Int → Int} {q : TK}
theorem tk_0 : tkS S fr q 0 = S 0 := by
  unfold tkS
  rw [st9_0, st9_0, st9_0, st9_0, st9_0, st9_0, sw_j (by decide)]
theorem tk_1 : tkS S fr q 1 = fr := by
  unfold tkS
  rw [st9_j (by decide), st9_j (by decide), st9_j (by decide), st9_j (by decide), st9_j (by decide), st9_j (by decide), sw_i]
theorem tk_4 : tkS S fr q 4 = S 4 := by
  unfold tkS
  rw [st9_j (by decide), st9_j (by decide), st9_j (by decide), st9_j (by decide), st9_j (by decide), st9_j (by decide), sw_j (by decide)]
theorem tk_j {j : Nat} (h1 : j ≠ 1) (h9 : j ≠ 9) : tkS S fr q j = S j := by
  unfold tkS
  rw [st9_j h9, st9_j h9, st9_j h9, st9_j h9, st9_j h9, st9_j h9, sw_j h1]
theorem tk_k {k : Int} (h : k < 9 ∨ 14 < k) : tkS S fr q 9 k = S 9 k := by
  unfold tkS
  rw [st_k (by omega), st_k (by omega), st_k (by omega), st_k (by omega), st_k (by omega), st_k (by omega), sw_j (by decide)]
theorem tk_8 : tkS S fr q 9 8 = S 9 8 := tk_k (by omega)
theorem tk_7 : tkS S fr q 9 7 = S 9 7 := tk_k (by omega)
theorem tk_4n : tkS S fr q 9 4 = S 9 4 := tk_k (by omega)
theorem tk_9 : tkS S fr q 9 9 = q.1 := by
  unfold tkS
  rw [st_k (by omega), st_k (by omega), st_k (by omega), st_k (by omega), st_k (by omega), st_eq]
theorem tk_10 : tkS S fr q 9 10 = q.2.1 := by
  unfold tkS
  rw [st_k (by omega), st_k (by omega), st_k (by omega), st_k (by omega), st_eq]
theorem tk_11 : tkS S fr q 9 11 = q.2.2.1 := by
  unfold tkS
  rw [st_k (by omega), st_k (by omega), st_k (by omega), st_eq]
theorem tk_12 : tkS S fr q 9 12 = q.2.2.2.1 := by
  unfold tkS
  rw [st_k (by omega), st_k (by omega), st_eq]
theorem tk_13 : tkS S fr q 9 13 = q.2.2.2.2.1 := by
  unfold tkS
  rw [st_k (by omega), st_eq]
theorem tk_14 : tkS S fr q 9 14 = q.2.2.2.2.2 := by
  unfold tkS
  rw [st_eq]
theorem st_cm {S : Nat → Int → Int} {k j v w : Int} (h : k ≠ j) : st (st S 9 k v) 9 j w = st (st S 9 j w) 9 k v := by
  funext a b
  unfold st
  by_cases h1 : a = 9 ∧ b = j
  · rw [if_pos h1, if_neg (by omega), if_pos h1]
  · by_cases h2 : a = 9 ∧ b = k
    · rw [if_neg h1, if_pos h2, if_pos h2]
    · rw [if_neg h1, if_neg h2, if_neg h2, if_neg h1]
theorem tk_s9 {v : Int} : st (tkS S fr q) 9 9 v = tkS S fr (v, q.2) := by
  unfold tkS
  rw [st_cm (k := 14) (j := 9) (w := v) (by omega), st_cm (k := 13) (j := 9) (w := v) (by omega), st_cm (k := 12) (j := 9) (w := v) (by omega), st_cm (k := 11) (j := 9) (w := v) (by omega), st_cm (k := 10) (j := 9) (w := v) (by omega), st_st]
theorem tk_s10 {v : Int} : st (tkS S fr q) 9 10 v = tkS S fr (q.1, v, q.2.2) := by
  unfold tkS
  rw [st_cm (k := 14) (j := 10) (w := v) (by omega), st_cm (k := 13) (j := 10) (w := v) (by omega), st_cm (k := 12) (j := 10) (w := v) (by omega), st_cm (k := 11) (j := 10) (w := v) (by omega), st_st]
theorem tk_s11 {v : Int} : st (tkS S fr q) 9 11 v = tkS S fr (q.1, q.2.1, v, q.2.2.2) := by
  unfold tkS
  rw [st_cm (k := 14) (j := 11) (w := v) (by omega), st_cm (k := 13) (j := 11) (w := v) (by omega), st_cm (k := 12) (j := 11) (w := v) (by omega), st_st]
theorem tk_s12 {v : Int} : st (tkS S fr q) 9 12 v = tkS S fr (q.1, q.2.1, q.2.2.1, v, q.2.2.2.2) := by
  unfold tkS
  rw [st_cm (k := 14) (j := 12) (w := v) (by omega), st_cm (k := 13) (j := 12) (w := v) (by omega), st_st]
theorem tk_s13 {v : Int} : st (tkS S fr q) 9 13 v = tkS S fr (q.1, q.2.1, q.2.2.1, q.2.2.2.1, v, q.2.2.2.2.2) := by
  unfold tkS
  rw [st_cm (k := 14) (j := 13) (w := v) (by omega), st_st]
theorem tk_s14 {v : Int} : st (tkS S fr q) 9 14 v = tkS S fr (q.1, q.2.1, q.2.2.1, q.2.2.2.1, q.2.2.2.2.1, v) := by
  unfold tkS
  rw [st_st]
theorem tk_s1 {k v : Int} : st (tkS S fr q) 1 k v = tkS S (rs fr k v) q := by
  funext a b
  unfold tkS
  by_cases h1 : a = 1
  · subst h1
    unfold st sw rs
    by_cases h2 : b = k
    · simp [h2]
    · simp [h2]
  · unfold st sw
    simp [h1]
end TKL
theorem kSk_b {t : Int → Int} {n : Int} : ∀ (m : Nat) (p : Int), p + m = n → p ≤ kSk t n m p ∧ kSk t n m p ≤ n ∧ gSee t n (kSk t n m p) ≠ 32 := by
  intro m
  induction m with
  | zero =>
    intro p h
    refine ⟨Int.le_refl _, by show p ≤ n; omega, ?_⟩
    show gSee t n p ≠ 32
    unfold gSee
    rw [if_pos (by omega)]
    decide
  | succ m ih =>
    intro p h
    show p ≤ (if gSee t n p = 32 then kSk t n m (p + 1) else p) ∧ (if gSee t n p = 32 then kSk t n m (p + 1) else p) ≤ n ∧ gSee t n (if gSee t n p = 32 then kSk t n m (p + 1) else p) ≠ 32
    split
    · obtain ⟨a1, a2, a3⟩ := ih (p + 1) (by omega)
      exact ⟨by omega, a2, a3⟩
    · rename_i hs
      exact ⟨Int.le_refl _, by omega, hs⟩
theorem sk_b {t : Int → Int} {n p : Int} (h : p ≤ n) : p ≤ sk t n p ∧ sk t n p ≤ n ∧ gSee t n (sk t n p) ≠ 32 := kSk_b _ p (by omega)
theorem kLe_b {t : Int → Int} {n : Int} : ∀ (m : Nat) (p : Int), p + m = n → p ≤ kLe t n m p ∧ kLe t n m p ≤ n := by
  intro m
  induction m with
  | zero => intro p h; exact ⟨Int.le_refl _, by show p ≤ n; omega⟩
  | succ m ih =>
    intro p h
    show p ≤ (if 97 ≤ gSee t n p ∧ gSee t n p ≤ 122 then kLe t n m (p + 1) else p) ∧ (if 97 ≤ gSee t n p ∧ gSee t n p ≤ 122 then kLe t n m (p + 1) else p) ≤ n
    split
    · obtain ⟨a1, a2⟩ := ih (p + 1) (by omega)
      omega
    · omega
theorem kDi_b {t : Int → Int} {n : Int} : ∀ (m : Nat) (p v : Int), p + m = n → 0 ≤ v → v ≤ 99999 → p ≤ (kDi t n m p v).1 ∧ (kDi t n m p v).1 ≤ n ∧ 0 ≤ (kDi t n m p v).2 ∧ (kDi t n m p v).2 ≤ 99999 := by
  intro m
  induction m with
  | zero => intro p v h h0 h1; exact ⟨Int.le_refl _, by show p ≤ n; omega, h0, h1⟩
  | succ m ih =>
    intro p v h h0 h1
    show p ≤ (if 48 ≤ gSee t n p ∧ gSee t n p ≤ 57 then kDi t n m (p + 1) (if 10000 ≤ v then v else 10 * v + gSee t n p - 48) else (p, v)).1 ∧ (if 48 ≤ gSee t n p ∧ gSee t n p ≤ 57 then kDi t n m (p + 1) (if 10000 ≤ v then v else 10 * v + gSee t n p - 48) else (p, v)).1 ≤ n ∧ 0 ≤ (if 48 ≤ gSee t n p ∧ gSee t n p ≤ 57 then kDi t n m (p + 1) (if 10000 ≤ v then v else 10 * v + gSee t n p - 48) else (p, v)).2 ∧ (if 48 ≤ gSee t n p ∧ gSee t n p ≤ 57 then kDi t n m (p + 1) (if 10000 ≤ v then v else 10 * v + gSee t n p - 48) else (p, v)).2 ≤ 99999
    split
    · obtain ⟨a1, a2, a3, a4⟩ := ih (p + 1) (if 10000 ≤ v then v else 10 * v + gSee t n p - 48) (by omega) (by split <;> omega) (by split <;> omega)
      exact ⟨by omega, a2, a3, a4⟩
    · exact ⟨Int.le_refl _, by show p ≤ n; omega, h0, h1⟩
/-- the next token from behind b -/
def nx (t : Int → Int) (n : Int) (q : TK) : TK :=
  if n ≤ sk t n q.2.1 then (sk t n q.2.1, sk t n q.2.1, 3, q.2.2.2) else
  if 97 ≤ gSee t n (sk t n q.2.1) ∧ gSee t n (sk t n q.2.1) ≤ 122 then (sk t n q.2.1, kLe t n (n - sk t n q.2.1).toNat (sk t n q.2.1), 0, q.2.2.2) else
  if 48 ≤ gSee t n (sk t n q.2.1) ∧ gSee t n (sk t n q.2.1) ≤ 57 then (sk t n q.2.1, (kDi t n (n - sk t n q.2.1).toNat (sk t n q.2.1) 0).1, 1, (kDi t n (n - sk t n q.2.1).toNat (sk t n q.2.1) 0).2, q.2.2.2.2) else
  (sk t n q.2.1, sk t n q.2.1 + 1, 2, q.2.2.2)
theorem gSee_b {t : Int → Int} {n k : Int} (hn : n ≤ 400) (h0 : 0 ≤ k) (hB : ∀ k, 0 ≤ k → k < 400 → 0 ≤ t k ∧ t k ≤ 255) : -1 ≤ gSee t n k ∧ gSee t n k ≤ 255 := by
  unfold gSee
  split
  · omega
  · have := hB k h0 (by omega)
    omega
section MZK
variable {l : Launch} {X : XT} {o : Nat} {B A : AH} {S : Nat → Int → Int}
theorem c_X6_see (hl : l.stackTraces = false) (hn : 0 ≤ S 9 8 ∧ S 9 8 ≤ 400) {k : Int} (h0 : 0 ≤ k) (h1 : k ≤ 1000) : Fn l X 0 M_X6_see [.ref o, .int (I k)] (mp X o B S) 0 0 (Ri (I (gSee (S 4) (S 9 8) k))) (mp X o B S) := by
  refine Fn.of hl rfl rfl (Nat.le_of_ble_eq_true rfl) (k_X6_see_0 ?_)
  simp (disch := omega) only [I_n, I_neg, I_add, I_sub, I_mul, I_le4, I_lt4, I_eq4, I_div4, I_bi0, I_bi01, I_bi1, nor_em, rI_of, rV_of, zI_of, zV_of, nz_and, br_T, br_F, br_T2, br_F2, st_eq, st9_0, st_k, st_i, true_and, and_true, Classical.not_not, mp_isO, mp_gI4, mp_gI5, mp_gI7, mp_gI8, mp_gI9, mp_gI10, mp_gI11, mp_gI12, mp_gI13, mp_gI14, mp_gI15, mp_gI19, mp_gI20, mp_gI21, mp_gI23, mp_pI4, mp_pI5, mp_pI7, mp_pI8, mp_pI9, mp_pI10, mp_pI11, mp_pI12, mp_pI13, mp_pI14, mp_pI15, mp_pI19, mp_pI20, mp_pI21, mp_pI23, mp_gR0, mp_gR1, mp_gR2, mp_gR3, mp_gR6, mp_gR16, mp_gR17, mp_gR18, mp_gR22, mp_aI0, mp_aI1, mp_aI2, mp_aI3, mp_aI4, mp_aI5, mp_aI6, mp_aZ7, mp_aI8, mp_sI0, mp_sI1, mp_sI2, mp_sI3, mp_sI4, mp_sI5, mp_sI6, mp_sI8, mp_sZ0, mp_sZ1]
  unfold gSee
  refine ⟨fun h => ?_, fun h => ?_⟩
  · rw [if_pos h]
  · simp (disch := omega) only [I_n, I_neg, I_add, I_sub, I_mul, I_le4, I_lt4, I_eq4, I_div4, I_bi0, I_bi01, I_bi1, nor_em, rI_of, rV_of, zI_of, zV_of, nz_and, br_T, br_F, br_T2, br_F2, st_eq, st9_0, st_k, st_i, true_and, and_true, Classical.not_not, mp_isO, mp_gI4, mp_gI5, mp_gI7, mp_gI8, mp_gI9, mp_gI10, mp_gI11, mp_gI12, mp_gI13, mp_gI14, mp_gI15, mp_gI19, mp_gI20, mp_gI21, mp_gI23, mp_pI4, mp_pI5, mp_pI7, mp_pI8, mp_pI9, mp_pI10, mp_pI11, mp_pI12, mp_pI13, mp_pI14, mp_pI15, mp_pI19, mp_pI20, mp_pI21, mp_pI23, mp_gR0, mp_gR1, mp_gR2, mp_gR3, mp_gR6, mp_gR16, mp_gR17, mp_gR18, mp_gR22, mp_aI0, mp_aI1, mp_aI2, mp_aI3, mp_aI4, mp_aI5, mp_aI6, mp_aZ7, mp_aI8, mp_sI0, mp_sI1, mp_sI2, mp_sI3, mp_sI4, mp_sI5, mp_sI6, mp_sI8, mp_sZ0, mp_sZ1]
    rw [if_neg h]
    all_goals first | rfl | exact ⟨rfl, rfl⟩
theorem c_X6_isLetter (hl : l.stackTraces = false) {c : Int} (hc : sm c) : Fn l X 1 M_X6_isLetter [.int (I c)] A 0 0 (Ri (I (bi (97 ≤ c ∧ c ≤ 122)))) A := by
  refine Fn.of hl rfl rfl (Nat.le_of_ble_eq_true rfl) (k_X6_isLetter_0 ?_)
  simp only [I_n]
  refine (c_X6_isIn hl hc ⟨by omega, by omega⟩ ⟨by omega, by omega⟩).cl0 (by decide) ?_
  simp (disch := omega) only [I_n, I_neg, I_add, I_sub, I_mul, I_le4, I_lt4, I_eq4, I_div4, I_bi0, I_bi01, I_bi1, nor_em, rI_of, rV_of, zI_of, zV_of, nz_and, br_T, br_F, br_T2, br_F2, st_eq, st9_0, st_k, st_i, true_and, and_true, Classical.not_not, mp_isO, mp_gI4, mp_gI5, mp_gI7, mp_gI8, mp_gI9, mp_gI10, mp_gI11, mp_gI12, mp_gI13, mp_gI14, mp_gI15, mp_gI19, mp_gI20, mp_gI21, mp_gI23, mp_pI4, mp_pI5, mp_pI7, mp_pI8, mp_pI9, mp_pI10, mp_pI11, mp_pI12, mp_pI13, mp_pI14, mp_pI15, mp_pI19, mp_pI20, mp_pI21, mp_pI23, mp_gR0, mp_gR1, mp_gR2, mp_gR3, mp_gR6, mp_gR16, mp_gR17, mp_gR18, mp_gR22, mp_aI0, mp_aI1, mp_aI2, mp_aI3, mp_aI4, mp_aI5, mp_aI6, mp_aZ7, mp_aI8, mp_sI0, mp_sI1, mp_sI2, mp_sI3, mp_sI4, mp_sI5, mp_sI6, mp_sI8, mp_sZ0, mp_sZ1]
theorem c_X6_isDigit (hl : l.stackTraces = false) {c : Int} (hc : sm c) : Fn l X 1 M_X6_isDigit [.int (I c)] A 0 0 (Ri (I (bi (48 ≤ c ∧ c ≤ 57)))) A := by
  refine Fn.of hl rfl rfl (Nat.le_of_ble_eq_true rfl) (k_X6_isDigit_0 ?_)
  simp only [I_n]
  refine (c_X6_isIn hl hc ⟨by omega, by omega⟩ ⟨by omega, by omega⟩).cl0 (by decide) ?_
  simp (disch := omega) only [I_n, I_neg, I_add, I_sub, I_mul, I_le4, I_lt4, I_eq4, I_div4, I_bi0, I_bi01, I_bi1, nor_em, rI_of, rV_of, zI_of, zV_of, nz_and, br_T, br_F, br_T2, br_F2, st_eq, st9_0, st_k, st_i, true_and, and_true, Classical.not_not, mp_isO, mp_gI4, mp_gI5, mp_gI7, mp_gI8, mp_gI9, mp_gI10, mp_gI11, mp_gI12, mp_gI13, mp_gI14, mp_gI15, mp_gI19, mp_gI20, mp_gI21, mp_gI23, mp_pI4, mp_pI5, mp_pI7, mp_pI8, mp_pI9, mp_pI10, mp_pI11, mp_pI12, mp_pI13, mp_pI14, mp_pI15, mp_pI19, mp_pI20, mp_pI21, mp_pI23, mp_gR0, mp_gR1, mp_gR2, mp_gR3, mp_gR6, mp_gR16, mp_gR17, mp_gR18, mp_gR22, mp_aI0, mp_aI1, mp_aI2, mp_aI3, mp_aI4, mp_aI5, mp_aI6, mp_aZ7, mp_aI8, mp_sI0, mp_sI1, mp_sI2, mp_sI3, mp_sI4, mp_sI5, mp_sI6, mp_sI8, mp_sZ0, mp_sZ1]
theorem see_tk (hl : l.stackTraces = false) {fr : Int → Int} {q : TK} (hn : 0 ≤ S 9 8 ∧ S 9 8 ≤ 400) {k : Int} (h0 : 0 ≤ k) (h1 : k ≤ 1000) : Fn l X 0 M_X6_see [.ref o, .int (I k)] (mp X o B (tkS S fr q)) 0 0 (Ri (I (gSee (S 4) (S 9 8) k))) (mp X o B (tkS S fr q)) := by
  have a := c_X6_see (X := X) (o := o) (B := B) (S := tkS S fr q) hl (by rw [tk_8]; exact hn) h0 h1
  rw [tk_4, tk_8] at a
  exact a
theorem c_X6_next (hl : l.stackTraces = false) {fr : Int → Int} {q : TK} (hn : 0 ≤ S 9 8 ∧ S 9 8 ≤ 400) (hB : ∀ k, 0 ≤ k → k < 400 → 0 ≤ S 4 k ∧ S 4 k ≤ 255) (hb : 0 ≤ q.2.1 ∧ q.2.1 ≤ S 9 8) : Fn l X 2 M_X6_next [.ref o] (mp X o B (tkS S fr q)) 0 0 Rv (mp X o B (tkS S fr (nx (S 4) (S 9 8) q))) := by
  obtain ⟨a, b, k, nu, w, wa⟩ := q
  have hb : 0 ≤ b ∧ b ≤ S 9 8 := hb
  obtain ⟨n, hnn⟩ : ∃ n, n = S 9 8 := ⟨_, rfl⟩
  obtain ⟨t, htt⟩ : ∃ t, t = S 4 := ⟨_, rfl⟩
  rw [← hnn] at hn hb ⊢
  rw [← htt] at hB ⊢
  have sB : ∀ y, 0 ≤ y → -1 ≤ gSee t n y ∧ gSee t n y ≤ 255 := fun y h0 => gSee_b hn.2 h0 hB
  have se : ∀ (q : TK) (y : Int), 0 ≤ y → y ≤ 1000 → Fn l X 0 M_X6_see [.ref o, .int (I y)] (mp X o B (tkS S fr q)) 0 0 (Ri (I (gSee t n y))) (mp X o B (tkS S fr q)) := fun q y h0 h1 => by
    have := see_tk (X := X) (o := o) (B := B) (S := S) (fr := fr) (q := q) hl (by rw [← hnn]; exact hn) h0 h1
    rw [← hnn, ← htt] at this
    exact this
  have R : nx t n (a, b, k, nu, w, wa) = (if n ≤ sk t n b then (sk t n b, sk t n b, 3, nu, w, wa) else if 97 ≤ gSee t n (sk t n b) ∧ gSee t n (sk t n b) ≤ 122 then (sk t n b, kLe t n (n - sk t n b).toNat (sk t n b), 0, nu, w, wa) else if 48 ≤ gSee t n (sk t n b) ∧ gSee t n (sk t n b) ≤ 57 then (sk t n b, (kDi t n (n - sk t n b).toNat (sk t n b) 0).1, 1, (kDi t n (n - sk t n b).toNat (sk t n b) 0).2, w, wa) else (sk t n b, sk t n b + 1, 2, nu, w, wa)) := rfl
  obtain ⟨F, hF⟩ : ∃ F, F = nx t n (a, b, k, nu, w, wa) := ⟨_, rfl⟩
  rw [← hF] at R ⊢
  -- the letters
  have L75 : ∀ (m : Nat) (a' b' : Int), b' + m = n → 0 ≤ b' → F = (a', kLe t n m b', 0, nu, w, wa) → G l X M_X6_next 2 (fun o' A1 => o' = Rv ∧ A1 = mp X o B (tkS S fr F)) 75 [(0, .ref o)] [] (mp X o B (tkS S fr (a', b', k, nu, w, wa))) 0 0 := by
    intro m
    induction m with
    | zero =>
      intro a' b' h h0 hf
      have e : gSee t n b' = -1 := if_pos (by omega)
      refine k_X6_next_75 ?_
      simp (disch := omega) only [tk_0, tk_1, tk_4, tk_4n, tk_8, tk_9, tk_10, tk_11, tk_12, tk_13, tk_14, tk_7, tk_s9, tk_s10, tk_s11, tk_s12, tk_s13, tk_s14, tk_s1, true_implies, false_implies, not_true_eq_false, not_false_eq_true, I_n, I_neg, I_add, I_sub, I_mul, I_le4, I_lt4, I_eq4, I_div4, I_bi0, I_bi01, I_bi1, nor_em, rI_of, rV_of, zI_of, zV_of, nz_and, br_T, br_F, br_T2, br_F2, st_eq, st9_0, st_k, st_i, true_and, and_true, Classical.not_not, mp_isO, mp_gI4, mp_gI5, mp_gI7, mp_gI8, mp_gI9, mp_gI10, mp_gI11, mp_gI12, mp_gI13, mp_gI14, mp_gI15, mp_gI19, mp_gI20, mp_gI21, mp_gI23, mp_pI4, mp_pI5, mp_pI7, mp_pI8, mp_pI9, mp_pI10, mp_pI11, mp_pI12, mp_pI13, mp_pI14, mp_pI15, mp_pI19, mp_pI20, mp_pI21, mp_pI23, mp_gR0, mp_gR1, mp_gR2, mp_gR3, mp_gR6, mp_gR16, mp_gR17, mp_gR18, mp_gR22, mp_aI0, mp_aI1, mp_aI2, mp_aI3, mp_aI4, mp_aI5, mp_aI6, mp_aZ7, mp_aI8, mp_sI0, mp_sI1, mp_sI2, mp_sI3, mp_sI4, mp_sI5, mp_sI6, mp_sI8, mp_sZ0, mp_sZ1]
      refine (se _ b' h0 (by omega)).cl0 (by decide) ?_
      rw [e]
      simp (disch := omega) only [tk_0, tk_1, tk_4, tk_4n, tk_8, tk_9, tk_10, tk_11, tk_12, tk_13, tk_14, tk_7, tk_s9, tk_s10, tk_s11, tk_s12, tk_s13, tk_s14, tk_s1, true_implies, false_implies, not_true_eq_false, not_false_eq_true, I_n, I_neg, I_add, I_sub, I_mul, I_le4, I_lt4, I_eq4, I_div4, I_bi0, I_bi01, I_bi1, nor_em, rI_of, rV_of, zI_of, zV_of, nz_and, br_T, br_F, br_T2, br_F2, st_eq, st9_0, st_k, st_i, true_and, and_true, Classical.not_not, mp_isO, mp_gI4, mp_gI5, mp_gI7, mp_gI8, mp_gI9, mp_gI10, mp_gI11, mp_gI12, mp_gI13, mp_gI14, mp_gI15, mp_gI19, mp_gI20, mp_gI21, mp_gI23, mp_pI4, mp_pI5, mp_pI7, mp_pI8, mp_pI9, mp_pI10, mp_pI11, mp_pI12, mp_pI13, mp_pI14, mp_pI15, mp_pI19, mp_pI20, mp_pI21, mp_pI23, mp_gR0, mp_gR1, mp_gR2, mp_gR3, mp_gR6, mp_gR16, mp_gR17, mp_gR18, mp_gR22, mp_aI0, mp_aI1, mp_aI2, mp_aI3, mp_aI4, mp_aI5, mp_aI6, mp_aZ7, mp_aI8, mp_sI0, mp_sI1, mp_sI2, mp_sI3, mp_sI4, mp_sI5, mp_sI6, mp_sI8, mp_sZ0, mp_sZ1]
      refine (c_X6_isLetter hl ⟨by omega, by omega⟩).cl0 (by decide) ?_
      simp (disch := omega) only [tk_0, tk_1, tk_4, tk_4n, tk_8, tk_9, tk_10, tk_11, tk_12, tk_13, tk_14, tk_7, tk_s9, tk_s10, tk_s11, tk_s12, tk_s13, tk_s14, tk_s1, true_implies, false_implies, not_true_eq_false, not_false_eq_true, I_n, I_neg, I_add, I_sub, I_mul, I_le4, I_lt4, I_eq4, I_div4, I_bi0, I_bi01, I_bi1, nor_em, rI_of, rV_of, zI_of, zV_of, nz_and, br_T, br_F, br_T2, br_F2, st_eq, st9_0, st_k, st_i, true_and, and_true, Classical.not_not, mp_isO, mp_gI4, mp_gI5, mp_gI7, mp_gI8, mp_gI9, mp_gI10, mp_gI11, mp_gI12, mp_gI13, mp_gI14, mp_gI15, mp_gI19, mp_gI20, mp_gI21, mp_gI23, mp_pI4, mp_pI5, mp_pI7, mp_pI8, mp_pI9, mp_pI10, mp_pI11, mp_pI12, mp_pI13, mp_pI14, mp_pI15, mp_pI19, mp_pI20, mp_pI21, mp_pI23, mp_gR0, mp_gR1, mp_gR2, mp_gR3, mp_gR6, mp_gR16, mp_gR17, mp_gR18, mp_gR22, mp_aI0, mp_aI1, mp_aI2, mp_aI3, mp_aI4, mp_aI5, mp_aI6, mp_aZ7, mp_aI8, mp_sI0, mp_sI1, mp_sI2, mp_sI3, mp_sI4, mp_sI5, mp_sI6, mp_sI8, mp_sZ0, mp_sZ1]
      rw [hf]
      all_goals first | rfl | exact ⟨rfl, rfl⟩
    | succ m ih =>
      intro a' b' h h0 hf
      have hsb := sB b' h0
      refine k_X6_next_75 ?_
      simp (disch := omega) only [tk_0, tk_1, tk_4, tk_4n, tk_8, tk_9, tk_10, tk_11, tk_12, tk_13, tk_14, tk_7, tk_s9, tk_s10, tk_s11, tk_s12, tk_s13, tk_s14, tk_s1, true_implies, false_implies, not_true_eq_false, not_false_eq_true, I_n, I_neg, I_add, I_sub, I_mul, I_le4, I_lt4, I_eq4, I_div4, I_bi0, I_bi01, I_bi1, nor_em, rI_of, rV_of, zI_of, zV_of, nz_and, br_T, br_F, br_T2, br_F2, st_eq, st9_0, st_k, st_i, true_and, and_true, Classical.not_not, mp_isO, mp_gI4, mp_gI5, mp_gI7, mp_gI8, mp_gI9, mp_gI10, mp_gI11, mp_gI12, mp_gI13, mp_gI14, mp_gI15, mp_gI19, mp_gI20, mp_gI21, mp_gI23, mp_pI4, mp_pI5, mp_pI7, mp_pI8, mp_pI9, mp_pI10, mp_pI11, mp_pI12, mp_pI13, mp_pI14, mp_pI15, mp_pI19, mp_pI20, mp_pI21, mp_pI23, mp_gR0, mp_gR1, mp_gR2, mp_gR3, mp_gR6, mp_gR16, mp_gR17, mp_gR18, mp_gR22, mp_aI0, mp_aI1, mp_aI2, mp_aI3, mp_aI4, mp_aI5, mp_aI6, mp_aZ7, mp_aI8, mp_sI0, mp_sI1, mp_sI2, mp_sI3, mp_sI4, mp_sI5, mp_sI6, mp_sI8, mp_sZ0, mp_sZ1]
      refine (se _ b' h0 (by omega)).cl0 (by decide) ?_
      simp (disch := omega) only [tk_0, tk_1, tk_4, tk_4n, tk_8, tk_9, tk_10, tk_11, tk_12, tk_13, tk_14, tk_7, tk_s9, tk_s10, tk_s11, tk_s12, tk_s13, tk_s14, tk_s1, true_implies, false_implies, not_true_eq_false, not_false_eq_true, I_n, I_neg, I_add, I_sub, I_mul, I_le4, I_lt4, I_eq4, I_div4, I_bi0, I_bi01, I_bi1, nor_em, rI_of, rV_of, zI_of, zV_of, nz_and, br_T, br_F, br_T2, br_F2, st_eq, st9_0, st_k, st_i, true_and, and_true, Classical.not_not, mp_isO, mp_gI4, mp_gI5, mp_gI7, mp_gI8, mp_gI9, mp_gI10, mp_gI11, mp_gI12, mp_gI13, mp_gI14, mp_gI15, mp_gI19, mp_gI20, mp_gI21, mp_gI23, mp_pI4, mp_pI5, mp_pI7, mp_pI8, mp_pI9, mp_pI10, mp_pI11, mp_pI12, mp_pI13, mp_pI14, mp_pI15, mp_pI19, mp_pI20, mp_pI21, mp_pI23, mp_gR0, mp_gR1, mp_gR2, mp_gR3, mp_gR6, mp_gR16, mp_gR17, mp_gR18, mp_gR22, mp_aI0, mp_aI1, mp_aI2, mp_aI3, mp_aI4, mp_aI5, mp_aI6, mp_aZ7, mp_aI8, mp_sI0, mp_sI1, mp_sI2, mp_sI3, mp_sI4, mp_sI5, mp_sI6, mp_sI8, mp_sZ0, mp_sZ1]
      refine (c_X6_isLetter hl ⟨by omega, by omega⟩).cl0 (by decide) ?_
      simp (disch := omega) only [tk_0, tk_1, tk_4, tk_4n, tk_8, tk_9, tk_10, tk_11, tk_12, tk_13, tk_14, tk_7, tk_s9, tk_s10, tk_s11, tk_s12, tk_s13, tk_s14, tk_s1, true_implies, false_implies, not_true_eq_false, not_false_eq_true, I_n, I_neg, I_add, I_sub, I_mul, I_le4, I_lt4, I_eq4, I_div4, I_bi0, I_bi01, I_bi1, nor_em, rI_of, rV_of, zI_of, zV_of, nz_and, br_T, br_F, br_T2, br_F2, st_eq, st9_0, st_k, st_i, true_and, and_true, Classical.not_not, mp_isO, mp_gI4, mp_gI5, mp_gI7, mp_gI8, mp_gI9, mp_gI10, mp_gI11, mp_gI12, mp_gI13, mp_gI14, mp_gI15, mp_gI19, mp_gI20, mp_gI21, mp_gI23, mp_pI4, mp_pI5, mp_pI7, mp_pI8, mp_pI9, mp_pI10, mp_pI11, mp_pI12, mp_pI13, mp_pI14, mp_pI15, mp_pI19, mp_pI20, mp_pI21, mp_pI23, mp_gR0, mp_gR1, mp_gR2, mp_gR3, mp_gR6, mp_gR16, mp_gR17, mp_gR18, mp_gR22, mp_aI0, mp_aI1, mp_aI2, mp_aI3, mp_aI4, mp_aI5, mp_aI6, mp_aZ7, mp_aI8, mp_sI0, mp_sI1, mp_sI2, mp_sI3, mp_sI4, mp_sI5, mp_sI6, mp_sI8, mp_sZ0, mp_sZ1]
      refine ⟨fun h2 => ?_, fun h2 => ?_⟩
      · have e : kLe t n (m + 1) b' = b' := if_neg h2
        rw [hf, e]
        all_goals first | rfl | exact ⟨rfl, rfl⟩
      · have e : kLe t n (m + 1) b' = kLe t n m (b' + 1) := if_pos h2
        exact ih a' (b' + 1) (by omega) (by omega) (by rw [hf, e])
  have L129 : ∀ (m : Nat) (a' b' v : Int), b' + m = n → 0 ≤ b' → 0 ≤ v → v ≤ 99999 → F = (a', (kDi t n m b' v).1, 1, (kDi t n m b' v).2, w, wa) → G l X M_X6_next 2 (fun o' A1 => o' = Rv ∧ A1 = mp X o B (tkS S fr F)) 129 [(0, .ref o)] [] (mp X o B (tkS S fr (a', b', k, v, w, wa))) 0 0 := by
    intro m
    induction m with
    | zero =>
      intro a' b' v h h0 v0 v1 hf
      have e : gSee t n b' = -1 := if_pos (by omega)
      refine k_X6_next_129 ?_
      simp (disch := omega) only [tk_0, tk_1, tk_4, tk_4n, tk_8, tk_9, tk_10, tk_11, tk_12, tk_13, tk_14, tk_7, tk_s9, tk_s10, tk_s11, tk_s12, tk_s13, tk_s14, tk_s1, true_implies, false_implies, not_true_eq_false, not_false_eq_true, I_n, I_neg, I_add, I_sub, I_mul, I_le4, I_lt4, I_eq4, I_div4, I_bi0, I_bi01, I_bi1, nor_em, rI_of, rV_of, zI_of, zV_of, nz_and, br_T, br_F, br_T2, br_F2, st_eq, st9_0, st_k, st_i, true_and, and_true, Classical.not_not, mp_isO, mp_gI4, mp_gI5, mp_gI7, mp_gI8, mp_gI9, mp_gI10, mp_gI11, mp_gI12, mp_gI13, mp_gI14, mp_gI15, mp_gI19, mp_gI20, mp_gI21, mp_gI23, mp_pI4, mp_pI5, mp_pI7, mp_pI8, mp_pI9, mp_pI10, mp_pI11, mp_pI12, mp_pI13, mp_pI14, mp_pI15, mp_pI19, mp_pI20, mp_pI21, mp_pI23, mp_gR0, mp_gR1, mp_gR2, mp_gR3, mp_gR6, mp_gR16, mp_gR17, mp_gR18, mp_gR22, mp_aI0, mp_aI1, mp_aI2, mp_aI3, mp_aI4, mp_aI5, mp_aI6, mp_aZ7, mp_aI8, mp_sI0, mp_sI1, mp_sI2, mp_sI3, mp_sI4, mp_sI5, mp_sI6, mp_sI8, mp_sZ0, mp_sZ1]
      refine (se _ b' h0 (by omega)).cl0 (by decide) ?_
      rw [e]
      simp (disch := omega) only [tk_0, tk_1, tk_4, tk_4n, tk_8, tk_9, tk_10, tk_11, tk_12, tk_13, tk_14, tk_7, tk_s9, tk_s10, tk_s11, tk_s12, tk_s13, tk_s14, tk_s1, true_implies, false_implies, not_true_eq_false, not_false_eq_true, I_n, I_neg, I_add, I_sub, I_mul, I_le4, I_lt4, I_eq4, I_div4, I_bi0, I_bi01, I_bi1, nor_em, rI_of, rV_of, zI_of, zV_of, nz_and, br_T, br_F, br_T2, br_F2, st_eq, st9_0, st_k, st_i, true_and, and_true, Classical.not_not, mp_isO, mp_gI4, mp_gI5, mp_gI7, mp_gI8, mp_gI9, mp_gI10, mp_gI11, mp_gI12, mp_gI13, mp_gI14, mp_gI15, mp_gI19, mp_gI20, mp_gI21, mp_gI23, mp_pI4, mp_pI5, mp_pI7, mp_pI8, mp_pI9, mp_pI10, mp_pI11, mp_pI12, mp_pI13, mp_pI14, mp_pI15, mp_pI19, mp_pI20, mp_pI21, mp_pI23, mp_gR0, mp_gR1, mp_gR2, mp_gR3, mp_gR6, mp_gR16, mp_gR17, mp_gR18, mp_gR22, mp_aI0, mp_aI1, mp_aI2, mp_aI3, mp_aI4, mp_aI5, mp_aI6, mp_aZ7, mp_aI8, mp_sI0, mp_sI1, mp_sI2, mp_sI3, mp_sI4, mp_sI5, mp_sI6, mp_sI8, mp_sZ0, mp_sZ1]
      refine (c_X6_isDigit hl ⟨by omega, by omega⟩).cl0 (by decide) ?_
      simp (disch := omega) only [tk_0, tk_1, tk_4, tk_4n, tk_8, tk_9, tk_10, tk_11, tk_12, tk_13, tk_14, tk_7, tk_s9, tk_s10, tk_s11, tk_s12, tk_s13, tk_s14, tk_s1, true_implies, false_implies, not_true_eq_false, not_false_eq_true, I_n, I_neg, I_add, I_sub, I_mul, I_le4, I_lt4, I_eq4, I_div4, I_bi0, I_bi01, I_bi1, nor_em, rI_of, rV_of, zI_of, zV_of, nz_and, br_T, br_F, br_T2, br_F2, st_eq, st9_0, st_k, st_i, true_and, and_true, Classical.not_not, mp_isO, mp_gI4, mp_gI5, mp_gI7, mp_gI8, mp_gI9, mp_gI10, mp_gI11, mp_gI12, mp_gI13, mp_gI14, mp_gI15, mp_gI19, mp_gI20, mp_gI21, mp_gI23, mp_pI4, mp_pI5, mp_pI7, mp_pI8, mp_pI9, mp_pI10, mp_pI11, mp_pI12, mp_pI13, mp_pI14, mp_pI15, mp_pI19, mp_pI20, mp_pI21, mp_pI23, mp_gR0, mp_gR1, mp_gR2, mp_gR3, mp_gR6, mp_gR16, mp_gR17, mp_gR18, mp_gR22, mp_aI0, mp_aI1, mp_aI2, mp_aI3, mp_aI4, mp_aI5, mp_aI6, mp_aZ7, mp_aI8, mp_sI0, mp_sI1, mp_sI2, mp_sI3, mp_sI4, mp_sI5, mp_sI6, mp_sI8, mp_sZ0, mp_sZ1]
      rw [hf]
      all_goals first | rfl | exact ⟨rfl, rfl⟩
    | succ m ih =>
      intro a' b' v h h0 v0 v1 hf
      have hsb := sB b' h0
      refine k_X6_next_129 ?_
      simp (disch := omega) only [tk_0, tk_1, tk_4, tk_4n, tk_8, tk_9, tk_10, tk_11, tk_12, tk_13, tk_14, tk_7, tk_s9, tk_s10, tk_s11, tk_s12, tk_s13, tk_s14, tk_s1, true_implies, false_implies, not_true_eq_false, not_false_eq_true, I_n, I_neg, I_add, I_sub, I_mul, I_le4, I_lt4, I_eq4, I_div4, I_bi0, I_bi01, I_bi1, nor_em, rI_of, rV_of, zI_of, zV_of, nz_and, br_T, br_F, br_T2, br_F2, st_eq, st9_0, st_k, st_i, true_and, and_true, Classical.not_not, mp_isO, mp_gI4, mp_gI5, mp_gI7, mp_gI8, mp_gI9, mp_gI10, mp_gI11, mp_gI12, mp_gI13, mp_gI14, mp_gI15, mp_gI19, mp_gI20, mp_gI21, mp_gI23, mp_pI4, mp_pI5, mp_pI7, mp_pI8, mp_pI9, mp_pI10, mp_pI11, mp_pI12, mp_pI13, mp_pI14, mp_pI15, mp_pI19, mp_pI20, mp_pI21, mp_pI23, mp_gR0, mp_gR1, mp_gR2, mp_gR3, mp_gR6, mp_gR16, mp_gR17, mp_gR18, mp_gR22, mp_aI0, mp_aI1, mp_aI2, mp_aI3, mp_aI4, mp_aI5, mp_aI6, mp_aZ7, mp_aI8, mp_sI0, mp_sI1, mp_sI2, mp_sI3, mp_sI4, mp_sI5, mp_sI6, mp_sI8, mp_sZ0, mp_sZ1]
      refine (se _ b' h0 (by omega)).cl0 (by decide) ?_
      simp (disch := omega) only [tk_0, tk_1, tk_4, tk_4n, tk_8, tk_9, tk_10, tk_11, tk_12, tk_13, tk_14, tk_7, tk_s9, tk_s10, tk_s11, tk_s12, tk_s13, tk_s14, tk_s1, true_implies, false_implies, not_true_eq_false, not_false_eq_true, I_n, I_neg, I_add, I_sub, I_mul, I_le4, I_lt4, I_eq4, I_div4, I_bi0, I_bi01, I_bi1, nor_em, rI_of, rV_of, zI_of, zV_of, nz_and, br_T, br_F, br_T2, br_F2, st_eq, st9_0, st_k, st_i, true_and, and_true, Classical.not_not, mp_isO, mp_gI4, mp_gI5, mp_gI7, mp_gI8, mp_gI9, mp_gI10, mp_gI11, mp_gI12, mp_gI13, mp_gI14, mp_gI15, mp_gI19, mp_gI20, mp_gI21, mp_gI23, mp_pI4, mp_pI5, mp_pI7, mp_pI8, mp_pI9, mp_pI10, mp_pI11, mp_pI12, mp_pI13, mp_pI14, mp_pI15, mp_pI19, mp_pI20, mp_pI21, mp_pI23, mp_gR0, mp_gR1, mp_gR2, mp_gR3, mp_gR6, mp_gR16, mp_gR17, mp_gR18, mp_gR22, mp_aI0, mp_aI1, mp_aI2, mp_aI3, mp_aI4, mp_aI5, mp_aI6, mp_aZ7, mp_aI8, mp_sI0, mp_sI1, mp_sI2, mp_sI3, mp_sI4, mp_sI5, mp_sI6, mp_sI8, mp_sZ0, mp_sZ1]
      refine (c_X6_isDigit hl ⟨by omega, by omega⟩).cl0 (by decide) ?_
      simp (disch := omega) only [tk_0, tk_1, tk_4, tk_4n, tk_8, tk_9, tk_10, tk_11, tk_12, tk_13, tk_14, tk_7, tk_s9, tk_s10, tk_s11, tk_s12, tk_s13, tk_s14, tk_s1, true_implies, false_implies, not_true_eq_false, not_false_eq_true, I_n, I_neg, I_add, I_sub, I_mul, I_le4, I_lt4, I_eq4, I_div4, I_bi0, I_bi01, I_bi1, nor_em, rI_of, rV_of, zI_of, zV_of, nz_and, br_T, br_F, br_T2, br_F2, st_eq, st9_0, st_k, st_i, true_and, and_true, Classical.not_not, mp_isO, mp_gI4, mp_gI5, mp_gI7, mp_gI8, mp_gI9, mp_gI10, mp_gI11, mp_gI12, mp_gI13, mp_gI14, mp_gI15, mp_gI19, mp_gI20, mp_gI21, mp_gI23, mp_pI4, mp_pI5, mp_pI7, mp_pI8, mp_pI9, mp_pI10, mp_pI11, mp_pI12, mp_pI13, mp_pI14, mp_pI15, mp_pI19, mp_pI20, mp_pI21, mp_pI23, mp_gR0, mp_gR1, mp_gR2, mp_gR3, mp_gR6, mp_gR16, mp_gR17, mp_gR18, mp_gR22, mp_aI0, mp_aI1, mp_aI2, mp_aI3, mp_aI4, mp_aI5, mp_aI6, mp_aZ7, mp_aI8, mp_sI0, mp_sI1, mp_sI2, mp_sI3, mp_sI4, mp_sI5, mp_sI6, mp_sI8, mp_sZ0, mp_sZ1]
      refine ⟨fun h2 => ?_, fun h2 => ?_⟩
      · have e : kDi t n (m + 1) b' v = (b', v) := if_neg h2
        rw [hf, e]
        all_goals first | rfl | exact ⟨rfl, rfl⟩
      · have e : kDi t n (m + 1) b' v = kDi t n m (b' + 1) (if 10000 ≤ v then v else 10 * v + gSee t n b' - 48) := if_pos h2
        refine ⟨fun h3 => ?_, fun h3 => ?_⟩
        · rw [if_pos h3] at e
          refine k_X6_next_176 ?_
          simp (disch := omega) only [tk_0, tk_1, tk_4, tk_4n, tk_8, tk_9, tk_10, tk_11, tk_12, tk_13, tk_14, tk_7, tk_s9, tk_s10, tk_s11, tk_s12, tk_s13, tk_s14, tk_s1, true_implies, false_implies, not_true_eq_false, not_false_eq_true, I_n, I_neg, I_add, I_sub, I_mul, I_le4, I_lt4, I_eq4, I_div4, I_bi0, I_bi01, I_bi1, nor_em, rI_of, rV_of, zI_of, zV_of, nz_and, br_T, br_F, br_T2, br_F2, st_eq, st9_0, st_k, st_i, true_and, and_true, Classical.not_not, mp_isO, mp_gI4, mp_gI5, mp_gI7, mp_gI8, mp_gI9, mp_gI10, mp_gI11, mp_gI12, mp_gI13, mp_gI14, mp_gI15, mp_gI19, mp_gI20, mp_gI21, mp_gI23, mp_pI4, mp_pI5, mp_pI7, mp_pI8, mp_pI9, mp_pI10, mp_pI11, mp_pI12, mp_pI13, mp_pI14, mp_pI15, mp_pI19, mp_pI20, mp_pI21, mp_pI23, mp_gR0, mp_gR1, mp_gR2, mp_gR3, mp_gR6, mp_gR16, mp_gR17, mp_gR18, mp_gR22, mp_aI0, mp_aI1, mp_aI2, mp_aI3, mp_aI4, mp_aI5, mp_aI6, mp_aZ7, mp_aI8, mp_sI0, mp_sI1, mp_sI2, mp_sI3, mp_sI4, mp_sI5, mp_sI6, mp_sI8, mp_sZ0, mp_sZ1]
          exact ih a' (b' + 1) v (by omega) (by omega) v0 v1 (by rw [hf, e])
        · rw [if_neg h3] at e
          refine (se _ b' h0 (by omega)).cl0 (by decide) ?_
          simp (disch := omega) only [tk_0, tk_1, tk_4, tk_4n, tk_8, tk_9, tk_10, tk_11, tk_12, tk_13, tk_14, tk_7, tk_s9, tk_s10, tk_s11, tk_s12, tk_s13, tk_s14, tk_s1, true_implies, false_implies, not_true_eq_false, not_false_eq_true, I_n, I_neg, I_add, I_sub, I_mul, I_le4, I_lt4, I_eq4, I_div4, I_bi0, I_bi01, I_bi1, nor_em, rI_of, rV_of, zI_of, zV_of, nz_and, br_T, br_F, br_T2, br_F2, st_eq, st9_0, st_k, st_i, true_and, and_true, Classical.not_not, mp_isO, mp_gI4, mp_gI5, mp_gI7, mp_gI8, mp_gI9, mp_gI10, mp_gI11, mp_gI12, mp_gI13, mp_gI14, mp_gI15, mp_gI19, mp_gI20, mp_gI21, mp_gI23, mp_pI4, mp_pI5, mp_pI7, mp_pI8, mp_pI9, mp_pI10, mp_pI11, mp_pI12, mp_pI13, mp_pI14, mp_pI15, mp_pI19, mp_pI20, mp_pI21, mp_pI23, mp_gR0, mp_gR1, mp_gR2, mp_gR3, mp_gR6, mp_gR16, mp_gR17, mp_gR18, mp_gR22, mp_aI0, mp_aI1, mp_aI2, mp_aI3, mp_aI4, mp_aI5, mp_aI6, mp_aZ7, mp_aI8, mp_sI0, mp_sI1, mp_sI2, mp_sI3, mp_sI4, mp_sI5, mp_sI6, mp_sI8, mp_sZ0, mp_sZ1]
          refine k_X6_next_176 ?_
          simp (disch := omega) only [tk_0, tk_1, tk_4, tk_4n, tk_8, tk_9, tk_10, tk_11, tk_12, tk_13, tk_14, tk_7, tk_s9, tk_s10, tk_s11, tk_s12, tk_s13, tk_s14, tk_s1, true_implies, false_implies, not_true_eq_false, not_false_eq_true, I_n, I_neg, I_add, I_sub, I_mul, I_le4, I_lt4, I_eq4, I_div4, I_bi0, I_bi01, I_bi1, nor_em, rI_of, rV_of, zI_of, zV_of, nz_and, br_T, br_F, br_T2, br_F2, st_eq, st9_0, st_k, st_i, true_and, and_true, Classical.not_not, mp_isO, mp_gI4, mp_gI5, mp_gI7, mp_gI8, mp_gI9, mp_gI10, mp_gI11, mp_gI12, mp_gI13, mp_gI14, mp_gI15, mp_gI19, mp_gI20, mp_gI21, mp_gI23, mp_pI4, mp_pI5, mp_pI7, mp_pI8, mp_pI9, mp_pI10, mp_pI11, mp_pI12, mp_pI13, mp_pI14, mp_pI15, mp_pI19, mp_pI20, mp_pI21, mp_pI23, mp_gR0, mp_gR1, mp_gR2, mp_gR3, mp_gR6, mp_gR16, mp_gR17, mp_gR18, mp_gR22, mp_aI0, mp_aI1, mp_aI2, mp_aI3, mp_aI4, mp_aI5, mp_aI6, mp_aZ7, mp_aI8, mp_sI0, mp_sI1, mp_sI2, mp_sI3, mp_sI4, mp_sI5, mp_sI6, mp_sI8, mp_sZ0, mp_sZ1]
          exact ih a' (b' + 1) (10 * v + gSee t n b' - 48) (by omega) (by omega) (by omega) (by omega) (by rw [hf, e])
  have L8 : ∀ (m : Nat) (a' : Int), a' + m = n → 0 ≤ a' → sk t n b = kSk t n m a' → G l X M_X6_next 2 (fun o' A1 => o' = Rv ∧ A1 = mp X o B (tkS S fr F)) 8 [(0, .ref o)] [] (mp X o B (tkS S fr (a', b, k, nu, w, wa))) 0 0 := by
    have stop : ∀ a', 0 ≤ a' → a' ≤ n → sk t n b = a' → ¬ gSee t n a' = 32 → G l X M_X6_next 2 (fun o' A1 => o' = Rv ∧ A1 = mp X o B (tkS S fr F)) 8 [(0, .ref o)] [] (mp X o B (tkS S fr (a', b, k, nu, w, wa))) 0 0 := by
      intro a' h0 h1 hs h32
      have hsb := sB a' h0
      rw [hs] at R
      refine k_X6_next_8 ?_
      simp (disch := omega) only [tk_0, tk_1, tk_4, tk_4n, tk_8, tk_9, tk_10, tk_11, tk_12, tk_13, tk_14, tk_7, tk_s9, tk_s10, tk_s11, tk_s12, tk_s13, tk_s14, tk_s1, true_implies, false_implies, not_true_eq_false, not_false_eq_true, I_n, I_neg, I_add, I_sub, I_mul, I_le4, I_lt4, I_eq4, I_div4, I_bi0, I_bi01, I_bi1, nor_em, rI_of, rV_of, zI_of, zV_of, nz_and, br_T, br_F, br_T2, br_F2, st_eq, st9_0, st_k, st_i, true_and, and_true, Classical.not_not, mp_isO, mp_gI4, mp_gI5, mp_gI7, mp_gI8, mp_gI9, mp_gI10, mp_gI11, mp_gI12, mp_gI13, mp_gI14, mp_gI15, mp_gI19, mp_gI20, mp_gI21, mp_gI23, mp_pI4, mp_pI5, mp_pI7, mp_pI8, mp_pI9, mp_pI10, mp_pI11, mp_pI12, mp_pI13, mp_pI14, mp_pI15, mp_pI19, mp_pI20, mp_pI21, mp_pI23, mp_gR0, mp_gR1, mp_gR2, mp_gR3, mp_gR6, mp_gR16, mp_gR17, mp_gR18, mp_gR22, mp_aI0, mp_aI1, mp_aI2, mp_aI3, mp_aI4, mp_aI5, mp_aI6, mp_aZ7, mp_aI8, mp_sI0, mp_sI1, mp_sI2, mp_sI3, mp_sI4, mp_sI5, mp_sI6, mp_sI8, mp_sZ0, mp_sZ1]
      refine (se _ a' h0 (by omega)).cl0 (by decide) ?_
      simp (disch := omega) only [tk_0, tk_1, tk_4, tk_4n, tk_8, tk_9, tk_10, tk_11, tk_12, tk_13, tk_14, tk_7, tk_s9, tk_s10, tk_s11, tk_s12, tk_s13, tk_s14, tk_s1, true_implies, false_implies, not_true_eq_false, not_false_eq_true, I_n, I_neg, I_add, I_sub, I_mul, I_le4, I_lt4, I_eq4, I_div4, I_bi0, I_bi01, I_bi1, nor_em, rI_of, rV_of, zI_of, zV_of, nz_and, br_T, br_F, br_T2, br_F2, st_eq, st9_0, st_k, st_i, true_and, and_true, Classical.not_not, mp_isO, mp_gI4, mp_gI5, mp_gI7, mp_gI8, mp_gI9, mp_gI10, mp_gI11, mp_gI12, mp_gI13, mp_gI14, mp_gI15, mp_gI19, mp_gI20, mp_gI21, mp_gI23, mp_pI4, mp_pI5, mp_pI7, mp_pI8, mp_pI9, mp_pI10, mp_pI11, mp_pI12, mp_pI13, mp_pI14, mp_pI15, mp_pI19, mp_pI20, mp_pI21, mp_pI23, mp_gR0, mp_gR1, mp_gR2, mp_gR3, mp_gR6, mp_gR16, mp_gR17, mp_gR18, mp_gR22, mp_aI0, mp_aI1, mp_aI2, mp_aI3, mp_aI4, mp_aI5, mp_aI6, mp_aZ7, mp_aI8, mp_sI0, mp_sI1, mp_sI2, mp_sI3, mp_sI4, mp_sI5, mp_sI6, mp_sI8, mp_sZ0, mp_sZ1]
      rw [← hnn]
      refine ⟨fun h2 => ?_, fun h2 => ?_⟩
      · rw [if_neg (by omega)] at R
        refine (se _ a' h0 (by omega)).cl0 (by decide) ?_
        simp (disch := omega) only [tk_0, tk_1, tk_4, tk_4n, tk_8, tk_9, tk_10, tk_11, tk_12, tk_13, tk_14, tk_7, tk_s9, tk_s10, tk_s11, tk_s12, tk_s13, tk_s14, tk_s1, true_implies, false_implies, not_true_eq_false, not_false_eq_true, I_n, I_neg, I_add, I_sub, I_mul, I_le4, I_lt4, I_eq4, I_div4, I_bi0, I_bi01, I_bi1, nor_em, rI_of, rV_of, zI_of, zV_of, nz_and, br_T, br_F, br_T2, br_F2, st_eq, st9_0, st_k, st_i, true_and, and_true, Classical.not_not, mp_isO, mp_gI4, mp_gI5, mp_gI7, mp_gI8, mp_gI9, mp_gI10, mp_gI11, mp_gI12, mp_gI13, mp_gI14, mp_gI15, mp_gI19, mp_gI20, mp_gI21, mp_gI23, mp_pI4, mp_pI5, mp_pI7, mp_pI8, mp_pI9, mp_pI10, mp_pI11, mp_pI12, mp_pI13, mp_pI14, mp_pI15, mp_pI19, mp_pI20, mp_pI21, mp_pI23, mp_gR0, mp_gR1, mp_gR2, mp_gR3, mp_gR6, mp_gR16, mp_gR17, mp_gR18, mp_gR22, mp_aI0, mp_aI1, mp_aI2, mp_aI3, mp_aI4, mp_aI5, mp_aI6, mp_aZ7, mp_aI8, mp_sI0, mp_sI1, mp_sI2, mp_sI3, mp_sI4, mp_sI5, mp_sI6, mp_sI8, mp_sZ0, mp_sZ1]
        refine (c_X6_isLetter hl ⟨by omega, by omega⟩).cl0 (by decide) ?_
        simp (disch := omega) only [tk_0, tk_1, tk_4, tk_4n, tk_8, tk_9, tk_10, tk_11, tk_12, tk_13, tk_14, tk_7, tk_s9, tk_s10, tk_s11, tk_s12, tk_s13, tk_s14, tk_s1, true_implies, false_implies, not_true_eq_false, not_false_eq_true, I_n, I_neg, I_add, I_sub, I_mul, I_le4, I_lt4, I_eq4, I_div4, I_bi0, I_bi01, I_bi1, nor_em, rI_of, rV_of, zI_of, zV_of, nz_and, br_T, br_F, br_T2, br_F2, st_eq, st9_0, st_k, st_i, true_and, and_true, Classical.not_not, mp_isO, mp_gI4, mp_gI5, mp_gI7, mp_gI8, mp_gI9, mp_gI10, mp_gI11, mp_gI12, mp_gI13, mp_gI14, mp_gI15, mp_gI19, mp_gI20, mp_gI21, mp_gI23, mp_pI4, mp_pI5, mp_pI7, mp_pI8, mp_pI9, mp_pI10, mp_pI11, mp_pI12, mp_pI13, mp_pI14, mp_pI15, mp_pI19, mp_pI20, mp_pI21, mp_pI23, mp_gR0, mp_gR1, mp_gR2, mp_gR3, mp_gR6, mp_gR16, mp_gR17, mp_gR18, mp_gR22, mp_aI0, mp_aI1, mp_aI2, mp_aI3, mp_aI4, mp_aI5, mp_aI6, mp_aZ7, mp_aI8, mp_sI0, mp_sI1, mp_sI2, mp_sI3, mp_sI4, mp_sI5, mp_sI6, mp_sI8, mp_sZ0, mp_sZ1]
        refine ⟨fun h3 => ?_, fun h3 => ?_⟩
        · rw [if_neg h3] at R
          refine (se _ a' h0 (by omega)).cl0 (by decide) ?_
          simp (disch := omega) only [tk_0, tk_1, tk_4, tk_4n, tk_8, tk_9, tk_10, tk_11, tk_12, tk_13, tk_14, tk_7, tk_s9, tk_s10, tk_s11, tk_s12, tk_s13, tk_s14, tk_s1, true_implies, false_implies, not_true_eq_false, not_false_eq_true, I_n, I_neg, I_add, I_sub, I_mul, I_le4, I_lt4, I_eq4, I_div4, I_bi0, I_bi01, I_bi1, nor_em, rI_of, rV_of, zI_of, zV_of, nz_and, br_T, br_F, br_T2, br_F2, st_eq, st9_0, st_k, st_i, true_and, and_true, Classical.not_not, mp_isO, mp_gI4, mp_gI5, mp_gI7, mp_gI8, mp_gI9, mp_gI10, mp_gI11, mp_gI12, mp_gI13, mp_gI14, mp_gI15, mp_gI19, mp_gI20, mp_gI21, mp_gI23, mp_pI4, mp_pI5, mp_pI7, mp_pI8, mp_pI9, mp_pI10, mp_pI11, mp_pI12, mp_pI13, mp_pI14, mp_pI15, mp_pI19, mp_pI20, mp_pI21, mp_pI23, mp_gR0, mp_gR1, mp_gR2, mp_gR3, mp_gR6, mp_gR16, mp_gR17, mp_gR18, mp_gR22, mp_aI0, mp_aI1, mp_aI2, mp_aI3, mp_aI4, mp_aI5, mp_aI6, mp_aZ7, mp_aI8, mp_sI0, mp_sI1, mp_sI2, mp_sI3, mp_sI4, mp_sI5, mp_sI6, mp_sI8, mp_sZ0, mp_sZ1]
          refine (c_X6_isDigit hl ⟨by omega, by omega⟩).cl0 (by decide) ?_
          simp (disch := omega) only [tk_0, tk_1, tk_4, tk_4n, tk_8, tk_9, tk_10, tk_11, tk_12, tk_13, tk_14, tk_7, tk_s9, tk_s10, tk_s11, tk_s12, tk_s13, tk_s14, tk_s1, true_implies, false_implies, not_true_eq_false, not_false_eq_true, I_n, I_neg, I_add, I_sub, I_mul, I_le4, I_lt4, I_eq4, I_div4, I_bi0, I_bi01, I_bi1, nor_em, rI_of, rV_of, zI_of, zV_of, nz_and, br_T, br_F, br_T2, br_F2, st_eq, st9_0, st_k, st_i, true_and, and_true, Classical.not_not, mp_isO, mp_gI4, mp_gI5, mp_gI7, mp_gI8, mp_gI9, mp_gI10, mp_gI11, mp_gI12, mp_gI13, mp_gI14, mp_gI15, mp_gI19, mp_gI20, mp_gI21, mp_gI23, mp_pI4, mp_pI5, mp_pI7, mp_pI8, mp_pI9, mp_pI10, mp_pI11, mp_pI12, mp_pI13, mp_pI14, mp_pI15, mp_pI19, mp_pI20, mp_pI21, mp_pI23, mp_gR0, mp_gR1, mp_gR2, mp_gR3, mp_gR6, mp_gR16, mp_gR17, mp_gR18, mp_gR22, mp_aI0, mp_aI1, mp_aI2, mp_aI3, mp_aI4, mp_aI5, mp_aI6, mp_aZ7, mp_aI8, mp_sI0, mp_sI1, mp_sI2, mp_sI3, mp_sI4, mp_sI5, mp_sI6, mp_sI8, mp_sZ0, mp_sZ1]
          refine ⟨fun h4 => ?_, fun h4 => ?_⟩
          · rw [if_neg h4] at R
            rw [R]
            all_goals first | rfl | exact ⟨rfl, rfl⟩
          · rw [if_pos h4] at R
            exact L129 (n - a').toNat a' a' 0 (by omega) h0 (by omega) (by omega) R
        · rw [if_pos h3] at R
          exact L75 (n - a').toNat a' a' (by omega) h0 R
      · rw [if_pos (by omega)] at R
        rw [R]
        all_goals first | rfl | exact ⟨rfl, rfl⟩
    intro m
    induction m with
    | zero =>
      intro a' h h0 hs
      refine stop a' h0 (by omega) hs ?_
      have e : gSee t n a' = -1 := if_pos (by omega)
      rw [e]
      decide
    | succ m ih =>
      intro a' h h0 hs
      by_cases h32 : gSee t n a' = 32
      · have e : kSk t n (m + 1) a' = kSk t n m (a' + 1) := if_pos h32
        refine k_X6_next_8 ?_
        simp (disch := omega) only [tk_0, tk_1, tk_4, tk_4n, tk_8, tk_9, tk_10, tk_11, tk_12, tk_13, tk_14, tk_7, tk_s9, tk_s10, tk_s11, tk_s12, tk_s13, tk_s14, tk_s1, true_implies, false_implies, not_true_eq_false, not_false_eq_true, I_n, I_neg, I_add, I_sub, I_mul, I_le4, I_lt4, I_eq4, I_div4, I_bi0, I_bi01, I_bi1, nor_em, rI_of, rV_of, zI_of, zV_of, nz_and, br_T, br_F, br_T2, br_F2, st_eq, st9_0, st_k, st_i, true_and, and_true, Classical.not_not, mp_isO, mp_gI4, mp_gI5, mp_gI7, mp_gI8, mp_gI9, mp_gI10, mp_gI11, mp_gI12, mp_gI13, mp_gI14, mp_gI15, mp_gI19, mp_gI20, mp_gI21, mp_gI23, mp_pI4, mp_pI5, mp_pI7, mp_pI8, mp_pI9, mp_pI10, mp_pI11, mp_pI12, mp_pI13, mp_pI14, mp_pI15, mp_pI19, mp_pI20, mp_pI21, mp_pI23, mp_gR0, mp_gR1, mp_gR2, mp_gR3, mp_gR6, mp_gR16, mp_gR17, mp_gR18, mp_gR22, mp_aI0, mp_aI1, mp_aI2, mp_aI3, mp_aI4, mp_aI5, mp_aI6, mp_aZ7, mp_aI8, mp_sI0, mp_sI1, mp_sI2, mp_sI3, mp_sI4, mp_sI5, mp_sI6, mp_sI8, mp_sZ0, mp_sZ1]
        refine (se _ a' h0 (by omega)).cl0 (by decide) ?_
        simp (disch := omega) only [tk_0, tk_1, tk_4, tk_4n, tk_8, tk_9, tk_10, tk_11, tk_12, tk_13, tk_14, tk_7, tk_s9, tk_s10, tk_s11, tk_s12, tk_s13, tk_s14, tk_s1, true_implies, false_implies, not_true_eq_false, not_false_eq_true, I_n, I_neg, I_add, I_sub, I_mul, I_le4, I_lt4, I_eq4, I_div4, I_bi0, I_bi01, I_bi1, nor_em, rI_of, rV_of, zI_of, zV_of, nz_and, br_T, br_F, br_T2, br_F2, st_eq, st9_0, st_k, st_i, true_and, and_true, Classical.not_not, mp_isO, mp_gI4, mp_gI5, mp_gI7, mp_gI8, mp_gI9, mp_gI10, mp_gI11, mp_gI12, mp_gI13, mp_gI14, mp_gI15, mp_gI19, mp_gI20, mp_gI21, mp_gI23, mp_pI4, mp_pI5, mp_pI7, mp_pI8, mp_pI9, mp_pI10, mp_pI11, mp_pI12, mp_pI13, mp_pI14, mp_pI15, mp_pI19, mp_pI20, mp_pI21, mp_pI23, mp_gR0, mp_gR1, mp_gR2, mp_gR3, mp_gR6, mp_gR16, mp_gR17, mp_gR18, mp_gR22, mp_aI0, mp_aI1, mp_aI2, mp_aI3, mp_aI4, mp_aI5, mp_aI6, mp_aZ7, mp_aI8, mp_sI0, mp_sI1, mp_sI2, mp_sI3, mp_sI4, mp_sI5, mp_sI6, mp_sI8, mp_sZ0, mp_sZ1]
        exact ih (a' + 1) (by omega) (by omega) (by rw [hs, e])
      · have e : kSk t n (m + 1) a' = a' := if_neg h32
        exact stop a' h0 (by omega) (by rw [hs, e]) h32
  refine Fn.of hl rfl rfl (Nat.le_of_ble_eq_true rfl) (k_X6_next_0 ?_)
  simp (disch := omega) only [tk_0, tk_1, tk_4, tk_4n, tk_8, tk_9, tk_10, tk_11, tk_12, tk_13, tk_14, tk_7, tk_s9, tk_s10, tk_s11, tk_s12, tk_s13, tk_s14, tk_s1, true_implies, false_implies, not_true_eq_false, not_false_eq_true, I_n, I_neg, I_add, I_sub, I_mul, I_le4, I_lt4, I_eq4, I_div4, I_bi0, I_bi01, I_bi1, nor_em, rI_of, rV_of, zI_of, zV_of, nz_and, br_T, br_F, br_T2, br_F2, st_eq, st9_0, st_k, st_i, true_and, and_true, Classical.not_not, mp_isO, mp_gI4, mp_gI5, mp_gI7, mp_gI8, mp_gI9, mp_gI10, mp_gI11, mp_gI12, mp_gI13, mp_gI14, mp_gI15, mp_gI19, mp_gI20, mp_gI21, mp_gI23, mp_pI4, mp_pI5, mp_pI7, mp_pI8, mp_pI9, mp_pI10, mp_pI11, mp_pI12, mp_pI13, mp_pI14, mp_pI15, mp_pI19, mp_pI20, mp_pI21, mp_pI23, mp_gR0, mp_gR1, mp_gR2, mp_gR3, mp_gR6, mp_gR16, mp_gR17, mp_gR18, mp_gR22, mp_aI0, mp_aI1, mp_aI2, mp_aI3, mp_aI4, mp_aI5, mp_aI6, mp_aZ7, mp_aI8, mp_sI0, mp_sI1, mp_sI2, mp_sI3, mp_sI4, mp_sI5, mp_sI6, mp_sI8, mp_sZ0, mp_sZ1]
  exact L8 (n - b).toNat b (by omega) hb.1 rfl
end MZK
