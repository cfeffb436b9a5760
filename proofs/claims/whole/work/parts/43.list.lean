/-! ArrayList over a map: at most four elements -/
theorem up_q {A : AH} {q : Nat} {e : va_E} : (up A q e).2 q = some e := if_pos rfl
theorem up_b {A : AH} {q b : Nat} {e : va_E} (h : b ≠ q) : (up A q e).2 b = A.2 b := if_neg h
theorem nw_q {A : AH} {e : va_E} : (nw A e).2 A.1 = some e := if_pos rfl
theorem nw_b {A : AH} {b : Nat} {e : va_E} (h : b ≠ A.1) : (nw A e).2 b = A.2 b := if_neg h
theorem nw_1 {A : AH} {e : va_E} : (nw A e).1 = A.1 + 1 := rfl
theorem up_1 {A : AH} {q : Nat} {e : va_E} : (up A q e).1 = A.1 := rfl
/-- a list at q: its elements' array la, their number n, the array's rows g, what it counts m -/
def LST (X : XT) (A : AH) (q la : Nat) (n : Int) (g : Nat → Option Nat) (m : Int32) : Prop :=
  A.2 q = some (ob 0 [.int m, .ref la, .int (I n)]) ∧ (0 ≤ n ∧ n ≤ 4) ∧ ((la = xE X ∧ n = 0 ∧ A.2 la = some (ra X 4 0 (fun _ => none))) ∨ A.2 la = some (ra X 4 10 g)) ∧ A.2 (xE X) = some (ra X 4 0 (fun _ => none))
theorem LST.ne {X : XT} {A : AH} {q la : Nat} {n : Int} {g : Nat → Option Nat} {m : Int32} (h : LST X A q la n g m) : q ≠ la := by
  rintro rfl
  obtain ⟨h1, h2, h3 | h3, h4⟩ := h
  · exact absurd (h1.symm.trans h3.2.2) (by simp)
  · exact absurd (h1.symm.trans h3) (by simp)
theorem LST.nE {X : XT} {A : AH} {q la : Nat} {n : Int} {g : Nat → Option Nat} {m : Int32} (h : LST X A q la n g m) : q ≠ xE X := by
  rintro rfl
  obtain ⟨h1, h2, h3, h4⟩ := h
  exact absurd (h1.symm.trans h4) (by simp)
/-- what keeps a list -/
theorem LST.of {X : XT} {A A' : AH} {q la : Nat} {n : Int} {g : Nat → Option Nat} {m : Int32} (h : LST X A q la n g m) (h1 : A'.2 q = A.2 q) (h2 : A'.2 la = A.2 la) (h3 : A'.2 (xE X) = A.2 (xE X)) : LST X A' q la n g m := by
  unfold LST
  rw [h1, h2, h3]
  exact h
section LI
variable {l : Launch} {X : XT} {A : AH} {q la : Nat} {n : Int} {g : Nat → Option Nat} {m : Int32}
theorem LST.arr (h : LST X A q la n g m) (hn : 0 < n) : A.2 la = some (ra X 4 10 g) := by
  obtain ⟨h1, h2, h3 | h3, h4⟩ := h
  · omega
  · exact h3
theorem c_li_size (hl : l.stackTraces = false) (h : LST X A q la n g m) : Fn l X 0 M_Jx4a65c_size_8abf5 [.ref q] A 0 0 (Ri (I n)) A := by
  refine Fn.of hl rfl rfl (Nat.le_of_ble_eq_true rfl) (k_Jx4a65c_size_8abf5_0 ?_)
  rw [gI_iff h.1 rfl]
  exact ⟨rfl, rfl⟩
theorem c_li_check (hl : l.stackTraces = false) {i : Int} (h0 : 0 ≤ i) (h1 : i < n) (hn : n ≤ 4) : Fn l X 1 M_J15_checkIndex_7cf53 [.int (I i), .int (I n)] A 0 0 (Ri (I i)) A := by
  have k0 : Fn l X 0 M_J3_checkIndex_8e157 [.int (I i), .int (I n), .null] A 0 0 (Ri (I i)) A := by
    refine Fn.of hl rfl rfl (Nat.le_of_ble_eq_true rfl) (k_J3_checkIndex_8e157_0 (v2 := none) ?_)
    simp (disch := omega) only [true_implies, false_implies, not_true_eq_false, not_false_eq_true, I_n, I_neg, I_add, I_sub, I_mul, I_le4, I_lt4, I_eq4, I_div4, I_bi0, I_bi01, I_bi1, nor_em, rI_of, rV_of, zI_of, zV_of, nz_and, br_T, br_F, br_T2, br_F2, st_eq, st9_0, st_k, st_i, true_and, and_true, Classical.not_not]
    all_goals first | rfl | exact ⟨rfl, rfl⟩
  refine Fn.of hl rfl rfl (Nat.le_of_ble_eq_true rfl) (k_J15_checkIndex_7cf53_0 ?_)
  refine k0.cl0 (by decide) ?_
  simp (disch := omega) only [true_implies, false_implies, not_true_eq_false, not_false_eq_true, I_n, I_neg, I_add, I_sub, I_mul, I_le4, I_lt4, I_eq4, I_div4, I_bi0, I_bi01, I_bi1, nor_em, rI_of, rV_of, zI_of, zV_of, nz_and, br_T, br_F, br_T2, br_F2, st_eq, st9_0, st_k, st_i, true_and, and_true, Classical.not_not]
  all_goals first | rfl | exact ⟨rfl, rfl⟩
theorem c_li_elem (hl : l.stackTraces = false) (h : LST X A q la n g m) {i : Int} (h0 : 0 ≤ i) (h1 : i < n) : Fn l X 0 M_Jx4a65c_elementData_915e3 [.ref q, .int (I i)] A 0 0 (Rq (g i.toNat)) A := by
  have hn := h.2.1
  refine Fn.of hl rfl rfl (Nat.le_of_ble_eq_true rfl) (k_Jx4a65c_elementData_915e3_0 ?_)
  rw [gR_iff h.1 rfl]
  refine ⟨10, g, h.arr (by omega), in_I h0 (by omega) (by decide), ?_⟩
  rw [cl_I ⟨by omega, by omega⟩]
  exact ⟨rfl, rfl⟩
theorem rQ_of {o : Option Nat} {T : String → Prop} {K : Option Nat → Prop} (k : K o) : rQ (Rq o) T K := Or.inl ⟨o, rfl, k⟩
theorem c_li_get (hl : l.stackTraces = false) (h : LST X A q la n g m) {i : Int} (h0 : 0 ≤ i) (h1 : i < n) : Fn l X 2 M_Jx4a65c_get_915e3 [.ref q, .int (I i)] A 0 0 (Rq (g i.toNat)) A := by
  have hn := h.2.1
  refine Fn.of hl rfl rfl (Nat.le_of_ble_eq_true rfl) (k_Jx4a65c_get_915e3_0 ?_)
  rw [gI_iff h.1 rfl]
  refine (c_li_check hl h0 h1 (by omega)).cl0 (by decide) ?_
  rw [rI_of]
  refine ⟨⟨_, h.1⟩, (c_li_elem hl h h0 h1).cl0 (by decide) (rQ_of ⟨rfl, rfl⟩)⟩
theorem c_li_set (hl : l.stackTraces = false) (h : LST X A q la n g m) {i : Int} (h0 : 0 ≤ i) (h1 : i < n) {v : Nat} {vs : List Value} (hv : A.2 v = some (ob 3 vs)) : Fn l X 2 M_Jx4a65c_set_bcc79 [.ref q, .int (I i), .ref v] A 0 0 (Rq (g i.toNat)) (up A la (ra X 4 10 (va_up g i.toNat (some v)))) := by
  have hn := h.2.1
  refine Fn.of hl rfl rfl (Nat.le_of_ble_eq_true rfl) (k_Jx4a65c_set_bcc79_0 ?_)
  rw [gI_iff h.1 rfl]
  refine (c_li_check hl h0 h1 (by omega)).cl0 (by decide) ?_
  rw [rI_of]
  refine ⟨⟨_, h.1⟩, (c_li_elem hl h h0 h1).cl0 (by decide) (rQ_of ?_)⟩
  rw [gR_iff h.1 rfl]
  refine ⟨10, g, vs, h.arr (by omega), hv, in_I h0 (by omega) (by decide), ?_⟩
  rw [cl_I ⟨by omega, by omega⟩]
  exact ⟨rfl, rfl⟩
/-- .. and what it leaves -/
theorem LST.set (h : LST X A q la n g m) (hn : 0 < n) (i v : Nat) : LST X (up A la (ra X 4 10 (va_up g i (some v)))) q la n (va_up g i (some v)) m := by
  have e : la ≠ xE X := fun e => absurd ((h.arr hn).symm.trans (e ▸ h.2.2.2)) (by simp)
  exact ⟨(up_b h.ne).trans h.1, h.2.1, Or.inr up_q, (up_b (Ne.symm e)).trans h.2.2.2⟩
theorem c_li_grow (hl : l.stackTraces = false) (hq : A.2 q = some (ob 0 [.int m, .ref (xE X), .int (I 0)])) (hE : A.2 (xE X) = some (ra X 4 0 (fun _ => none))) (hlt : q < A.1) : Fn l X 1 M_Jx4a65c_grow_d5877 [.ref q] A 1 10 (Ra A.1) (up (nw A (ra X 4 10 (fun _ => none))) q (ob 0 [.int m, .ref A.1, .int (I 0)])) := by
  have k0 : Fn l X 0 M_Jx4a65c_grow_92f84 [.ref q, .int (I 1)] A 1 10 (Ra A.1) (up (nw A (ra X 4 10 (fun _ => none))) q (ob 0 [.int m, .ref A.1, .int (I 0)])) := by
    refine Fn.of hl rfl rfl (Nat.le_of_ble_eq_true rfl) (k_Jx4a65c_grow_92f84_0 ?_)
    rw [gR_iff hq rfl]
    refine ⟨0, _, hE, ⟨fun h => ?_, fun _ => ?_⟩⟩
    · exact absurd h (by decide)
    rw [gR_iff hq rfl]
    refine ⟨fun _ => ?_, fun h => absurd rfl h⟩
    refine ⟨10, by decide, by decide, by decide, by decide, by decide, ?_⟩
    refine (pV_iff (k := 1) ((nw_b (by omega)).trans hq) (by simp)).mpr ?_
    exact ⟨rfl, rfl⟩
  refine Fn.of hl rfl rfl (Nat.le_of_ble_eq_true rfl) (k_Jx4a65c_grow_d5877_0 ?_)
  rw [gI_iff hq rfl]
  refine ⟨⟨_, hq⟩, Fn.cal k0 (by decide) (by decide) (by decide) ?_⟩
  rw [rR_of]
  exact ⟨rfl, rfl⟩
theorem c_li_add (hl : l.stackTraces = false) (h : LST X A q la n g m) (hn : n ≤ 3) {v : Nat} {vs : List Value} (hv : A.2 v = some (ob 3 vs)) (hq1 : q < A.1) (hla : la < A.1) (hE1 : xE X < A.1) (hv1 : v < A.1) : Ct l X 3 M_Jx4a65c_add_9ea2d [.ref q, .ref v] A 1 10 (fun o' A' => o' = Ri (I 1) ∧ ∃ la' g', LST X A' q la' (n + 1) g' (m + 1) ∧ g' n.toNat = some v ∧ (∀ i : Nat, i < n.toNat → g' i = g i) ∧ la' < A'.1 ∧ A.1 ≤ A'.1 ∧ (la' = la ∧ la ≠ xE X ∨ la' = A.1) ∧ ∀ b, b ≠ q → b ≠ la' → A'.2 b = A.2 b) := by
  have nn := h.2.1
  have hqv : q ≠ v := fun e => absurd (h.1.symm.trans (e ▸ hv)) (by simp)
  have hqE := h.nE
  have hql := h.ne
  have e1 : (I 1 : Int32) = 1 := rfl
  refine Ct.of hl rfl rfl (Nat.le_of_ble_eq_true rfl) (k_Jx4a65c_add_9ea2d_0 ?_)
  rw [gI_iff h.1 rfl]
  refine (pV_iff (k := 0) h.1 (by simp)).mpr ?_
  obtain ⟨A1, hA1⟩ : ∃ A1, A1 = up A q (ob 0 ([.int m, .ref la, .int (I n)].set 0 (.int (m + 1)))) := ⟨_, rfl⟩
  have a1 : A1.1 = A.1 := by rw [hA1]; rfl
  have aq : A1.2 q = some (ob 0 [.int (m + 1), .ref la, .int (I n)]) := by rw [hA1]; exact up_q
  have ao : ∀ b, b ≠ q → A1.2 b = A.2 b := fun b hb => by rw [hA1]; exact up_b hb
  rw [← hA1, gR_iff aq rfl, gI_iff aq rfl]
  refine ⟨⟨_, aq⟩, ?_⟩
  have key : Ct l X 2 M_Jx4a65c_add_72be8 [.ref q, .ref v, .ref la, .int (I n)] A1 1 10 (fun o' A' => o' = Rv ∧ ∃ la' g', LST X A' q la' (n + 1) g' (m + 1) ∧ g' n.toNat = some v ∧ (∀ i : Nat, i < n.toNat → g' i = g i) ∧ la' < A'.1 ∧ A.1 ≤ A'.1 ∧ (la' = la ∧ la ≠ xE X ∨ la' = A.1) ∧ ∀ b, b ≠ q → b ≠ la' → A'.2 b = A.2 b) := by
    refine Ct.of hl rfl rfl (Nat.le_of_ble_eq_true rfl) (k_Jx4a65c_add_72be8_0 ?_)
    rcases h.2.2.1 with ⟨hE, h0, hz⟩ | ha
    · subst hE h0
      refine ⟨0, _, (ao _ (Ne.symm hql)).trans hz, ⟨fun h => absurd rfl h, fun _ => ?_⟩⟩
      refine ⟨⟨_, aq⟩, Fn.cal (c_li_grow hl aq ((ao _ (Ne.symm hql)).trans hz) (by omega)) (by decide) (by decide) (by decide) ?_⟩
      rw [rR_of]
      refine k_Jx4a65c_add_72be8_11 ⟨10, fun _ => none, vs, ?_, ?_, in_I (by omega) (by decide) (by decide), ?_⟩
      · exact (up_b (by omega)).trans nw_q
      · exact (up_b (Ne.symm hqv)).trans ((nw_b (by omega)).trans ((ao v (Ne.symm hqv)).trans hv))
      refine (pV_iff (k := 2) ((up_b (by omega)).trans up_q) (by simp)).mpr ?_
      refine ⟨rfl, A1.1, va_up (fun _ => none) 0 (some v), ⟨up_q, by omega, Or.inr ((up_b (by omega)).trans up_q), ?_⟩, rfl, fun i hi => ?_, ?_, ?_, Or.inr a1, fun b hb hb2 => ?_⟩
      · exact (up_b (Ne.symm hqE)).trans ((up_b (by omega)).trans ((up_b (Ne.symm hqE)).trans ((nw_b (by omega)).trans ((ao _ (Ne.symm hqE)).trans h.2.2.2))))
      · exact absurd hi (by omega)
      · show A1.1 < A1.1 + 1
        omega
      · show A.1 ≤ A1.1 + 1
        omega
      · exact (up_b hb).trans ((up_b hb2).trans ((up_b hb).trans ((nw_b hb2).trans (ao b hb))))
    · have la1 : A1.2 la = some (ra X 4 10 g) := (ao la (Ne.symm hql)).trans ha
      have hlE : la ≠ xE X := fun e => absurd (ha.symm.trans (e ▸ h.2.2.2)) (by simp)
      refine ⟨10, g, la1, ⟨fun _ => ?_, fun hh => absurd hh ?_⟩⟩
      · refine k_Jx4a65c_add_72be8_11 ⟨10, g, vs, la1, (ao v (Ne.symm hqv)).trans hv, in_I (by omega) (by omega) (by decide), ?_⟩
        rw [cl_I ⟨by omega, by omega⟩]
        refine (pV_iff (k := 2) ((up_b hql).trans aq) (by simp)).mpr ?_
        refine ⟨rfl, la, va_up g n.toNat (some v), ⟨?_, by omega, Or.inr ((up_b (Ne.symm hql)).trans up_q), ?_⟩, if_pos rfl, fun i hi => if_neg (by omega), ?_, ?_, Or.inl ⟨rfl, hlE⟩, fun b hb hb2 => ?_⟩
        · rw [← I_add]
          exact up_q
        · exact (up_b (Ne.symm hqE)).trans ((up_b (Ne.symm hlE)).trans ((ao _ (Ne.symm hqE)).trans h.2.2.2))
        · show la < A1.1
          omega
        · show A.1 ≤ A1.1
          omega
        · exact (up_b hb).trans ((up_b hb2).trans (ao b hb))
      · rw [I_ofNat, I_eq ⟨by omega, by omega⟩ ⟨by decide, by decide⟩]
        omega
  refine Cal.of key (by decide) (by decide) (by decide) ?_
  rintro o1 A2 ⟨rfl, x⟩
  rw [rV_of]
  exact ⟨rfl, x⟩
theorem c_li_clear (hl : l.stackTraces = false) (h : LST X A q la n g m) : Ct l X 0 M_Jx4a65c_clear_da8c8 [.ref q] A 0 0 (fun o' A' => o' = Rv ∧ ∃ g', LST X A' q la 0 g' (m + 1) ∧ A'.1 = A.1 ∧ ∀ b, b ≠ q → (b ≠ la ∨ la = xE X) → A'.2 b = A.2 b) := by
  have nn := h.2.1
  have hqE := h.nE
  have hql := h.ne
  refine Ct.of hl rfl rfl (Nat.le_of_ble_eq_true rfl) (k_Jx4a65c_clear_da8c8_0 ?_)
  rw [gI_iff h.1 rfl]
  refine (pV_iff (k := 0) h.1 (by simp)).mpr ?_
  refine (gR_iff (i := la) up_q rfl).mpr ((gI_iff (i := I n) up_q rfl).mpr ((pV_iff (k := 2) up_q (by simp)).mpr ?_))
  obtain ⟨A1, hA1⟩ : ∃ A1, A1 = up (up A q (ob 0 ([.int m, .ref la, .int (I n)].set 0 (.int (m + 1))))) q (ob 0 (([.int m, .ref la, .int (I n)].set 0 (.int (m + 1))).set 2 (.int 0))) := ⟨_, rfl⟩
  have a1 : A1.1 = A.1 := by rw [hA1]; rfl
  have aq : A1.2 q = some (ob 0 [.int (m + 1), .ref la, .int (I 0)]) := by rw [hA1]; exact up_q
  have ao : ∀ b, b ≠ q → A1.2 b = A.2 b := fun b hb => by rw [hA1]; exact (up_b hb).trans (up_b hb)
  rw [← hA1]
  have step : ∀ (j : Nat) (i : Int) (A2 : AH) (g2 : Nat → Option Nat), 0 ≤ i → i + j = n → A2.1 = A.1 → LST X A2 q la 0 g2 (m + 1) → (0 < n → A2.2 la = some (ra X 4 10 g2)) → (∀ b, b ≠ q → (b ≠ la ∨ la = xE X) → A2.2 b = A.2 b) →
      G l X M_Jx4a65c_clear_da8c8 0 (fun o' A' => o' = Rv ∧ ∃ g', LST X A' q la 0 g' (m + 1) ∧ A'.1 = A.1 ∧ ∀ b, b ≠ q → (b ≠ la ∨ la = xE X) → A'.2 b = A.2 b) 27 [(1, .ref la), (2, .int (I n)), (3, .int (I i))] [] A2 0 0 := by
    intro j
    induction j with
    | zero =>
      intro i A2 g2 i0 ij e1 e2 e3 e4
      refine k_Jx4a65c_clear_da8c8_27 ?_
      simp (disch := omega) only [true_implies, false_implies, not_true_eq_false, not_false_eq_true, I_n, I_neg, I_add, I_sub, I_mul, I_le4, I_lt4, I_eq4, I_div4, I_bi0, I_bi01, I_bi1, nor_em, rI_of, rV_of, zI_of, zV_of, nz_and, br_T, br_F, br_T2, br_F2, st_eq, st9_0, st_k, st_i, true_and, and_true, Classical.not_not]
      exact ⟨g2, e2, e1, e4⟩
    | succ j ih =>
      intro i A2 g2 i0 ij e1 e2 e3 e4
      have hlE : la ≠ xE X := fun e => absurd ((e3 (by omega)).symm.trans (e ▸ e2.2.2.2)) (by simp)
      refine k_Jx4a65c_clear_da8c8_27 ?_
      simp (disch := omega) only [true_implies, false_implies, not_true_eq_false, not_false_eq_true, I_n, I_neg, I_add, I_sub, I_mul, I_le4, I_lt4, I_eq4, I_div4, I_bi0, I_bi01, I_bi1, nor_em, rI_of, rV_of, zI_of, zV_of, nz_and, br_T, br_F, br_T2, br_F2, st_eq, st9_0, st_k, st_i, true_and, and_true, Classical.not_not]
      refine ⟨10, g2, e3 (by omega), in_I i0 (by omega) (by decide), ?_⟩
      refine ih (i + 1) _ (va_up g2 (I i).toNatClampNeg none) (by omega) (by omega) e1 ⟨(up_b hql).trans e2.1, by omega, Or.inr up_q, (up_b (Ne.symm hlE)).trans e2.2.2.2⟩ (fun _ => up_q) fun b hb hb2 => ?_
      exact (up_b (by rcases hb2 with h | h; exact h; exact absurd h hlE)).trans (e4 b hb hb2)
  have hE1 := (ao _ (Ne.symm hqE)).trans h.2.2.2
  have g0 := step n.toNat 0 A1 g (by omega) (by omega) a1 ⟨aq, by omega, by rcases h.2.2.1 with ⟨x1, x2, x3⟩ | x; exact Or.inl ⟨x1, rfl, (ao _ (Ne.symm hql)).trans x3⟩; exact Or.inr ((ao _ (Ne.symm hql)).trans x), hE1⟩ (fun hn => (ao _ (Ne.symm hql)).trans (h.arr hn)) fun b hb _ => ao b hb
  exact g0
theorem c_li_remove (hl : l.stackTraces = false) (h : LST X A q la n g m) {i : Int} (h0 : 0 ≤ i) (h1 : i < n) (hv : ∀ j : Nat, j < n.toNat → ∃ (y : Nat) (fs : List Value), g j = some y ∧ A.2 y = some (ob 3 fs)) : Ct l X 2 M_Jx4a65c_remove_915e3 [.ref q, .int (I i)] A 0 0 (fun o' A' => o' = Rq (g i.toNat) ∧ ∃ g', LST X A' q la (n - 1) g' (m + 1) ∧ (∀ j : Nat, j < (n - 1).toNat → g' j = if j < i.toNat then g j else g (j + 1)) ∧ A'.1 = A.1 ∧ ∀ b, b ≠ q → b ≠ la → A'.2 b = A.2 b) := by
  have nn := h.2.1
  have hqE := h.nE
  have hql := h.ne
  have ha := h.arr (by omega)
  have hlE : la ≠ xE X := fun e => absurd (ha.symm.trans (e ▸ h.2.2.2)) (by simp)
  have key : Ct l X 0 M_Jx4a65c_fastRemove_b59b0 [.ref q, .ref la, .int (I i)] A 0 0 (fun o' A' => o' = Rv ∧ ∃ g', LST X A' q la (n - 1) g' (m + 1) ∧ (∀ j : Nat, j < (n - 1).toNat → g' j = if j < i.toNat then g j else g (j + 1)) ∧ A'.1 = A.1 ∧ ∀ b, b ≠ q → b ≠ la → A'.2 b = A.2 b) := by
    refine Ct.of hl rfl rfl (Nat.le_of_ble_eq_true rfl) (k_Jx4a65c_fastRemove_b59b0_0 ?_)
    rw [gI_iff h.1 rfl]
    refine (pV_iff (k := 0) h.1 (by simp)).mpr ?_
    obtain ⟨A1, hA1⟩ : ∃ A1, A1 = up A q (ob 0 ([.int m, .ref la, .int (I n)].set 0 (.int (m + 1)))) := ⟨_, rfl⟩
    have a1 : A1.1 = A.1 := by rw [hA1]; rfl
    have aq : A1.2 q = some (ob 0 [.int (m + 1), .ref la, .int (I n)]) := by rw [hA1]; exact up_q
    have ao : ∀ b, b ≠ q → A1.2 b = A.2 b := fun b hb => by rw [hA1]; exact up_b hb
    have la1 : A1.2 la = some (ra X 4 10 g) := (ao la (Ne.symm hql)).trans ha
    rw [← hA1, gI_iff aq rfl]
    have last : ∀ (A2 : AH) (g2 : Nat → Option Nat), A2.1 = A.1 → A2.2 q = A1.2 q → A2.2 la = some (ra X 4 10 g2) → (∀ j : Nat, j < (n - 1).toNat → g2 j = if j < i.toNat then g j else g (j + 1)) → (∀ b, b ≠ q → b ≠ la → A2.2 b = A.2 b) →
        G l X M_Jx4a65c_fastRemove_b59b0 0 (fun o' A' => o' = Rv ∧ ∃ g', LST X A' q la (n - 1) g' (m + 1) ∧ (∀ j : Nat, j < (n - 1).toNat → g' j = if j < i.toNat then g j else g (j + 1)) ∧ A'.1 = A.1 ∧ ∀ b, b ≠ q → b ≠ la → A'.2 b = A.2 b) 34 [(0, .ref q), (1, .ref la), (3, .int (I (n - 1)))] [] A2 0 0 := by
      intro A2 g2 e1 e2 e3 e4 e5
      refine k_Jx4a65c_fastRemove_b59b0_34 ?_
      refine (pV_iff (k := 2) (e2.trans aq) (by simp)).mpr ?_
      refine ⟨10, g2, (up_b (Ne.symm hql)).trans e3, in_I (by omega) (by omega) (by decide), ?_⟩
      refine ⟨rfl, va_up g2 (I (n - 1)).toNatClampNeg none, ⟨(up_b hql).trans up_q, by omega, Or.inr up_q, ?_⟩, fun j hj => ?_, e1, fun b hb hb2 => ?_⟩
      · exact (up_b (Ne.symm hlE)).trans ((up_b (Ne.symm hqE)).trans ((e5 _ (Ne.symm hqE) (Ne.symm hlE)).trans h.2.2.2))
      · rw [cl_I ⟨by omega, by omega⟩]
        exact (if_neg (by omega)).trans (e4 j hj)
      · exact (up_b hb2).trans ((up_b hb).trans (e5 b hb hb2))
    simp (disch := omega) only [true_implies, false_implies, not_true_eq_false, not_false_eq_true, I_n, I_neg, I_add, I_sub, I_mul, I_le4, I_lt4, I_eq4, I_div4, I_bi0, I_bi01, I_bi1, nor_em, rI_of, rV_of, zI_of, zV_of, nz_and, br_T, br_F, br_T2, br_F2, st_eq, st9_0, st_k, st_i, true_and, and_true, Classical.not_not]
    refine ⟨fun hi => last A1 g a1 rfl la1 (fun j hj => (if_pos (by omega)).symm) fun b hb _ => ao b hb, fun hi => ?_⟩
    refine ⟨10, g, la1, by decide, fun j hj y hy => ?_, ?_, ?_, ?_, ?_, ?_, ?_⟩
    · rw [cl_I ⟨by omega, by omega⟩] at hj
      rw [cl_I ⟨by omega, by omega⟩] at hy
      obtain ⟨z, fs, z1, z2⟩ := hv ((i + 1).toNat + j) (by omega)
      rw [hy] at z1
      injection z1 with z1
      subst z1
      refine ⟨fs, (ao y ?_).trans z2⟩
      rintro rfl
      exact absurd (h.1.symm.trans z2) (by simp)
    · rw [show ((0 : Int32)) = I 0 from rfl, I_lt4 (by omega) (by omega) (by omega) (by omega)]
      omega
    · rw [show ((0 : Int32)) = I 0 from rfl, I_lt4 (by omega) (by omega) (by omega) (by omega)]
      omega
    · rw [show ((0 : Int32)) = I 0 from rfl, I_lt4 (by omega) (by omega) (by omega) (by omega)]
      omega
    · rw [cl_I ⟨by omega, by omega⟩, cl_I ⟨by omega, by omega⟩]
      omega
    · rw [cl_I ⟨by omega, by omega⟩, cl_I ⟨by omega, by omega⟩]
      omega
    · refine last _ _ a1 (up_b hql) up_q (fun j hj => ?_) fun b hb hb2 => (up_b hb2).trans (ao b hb)
      rw [cl_I ⟨by omega, by omega⟩, cl_I ⟨by omega, by omega⟩, cl_I ⟨by omega, by omega⟩]
      unfold va_cpy
      by_cases hj2 : j < i.toNat
      · rw [if_neg (by omega), if_pos hj2]
      · rw [if_pos (by omega), if_neg hj2]
        exact congrArg g (by omega)
  refine Ct.of hl rfl rfl (Nat.le_of_ble_eq_true rfl) (k_Jx4a65c_remove_915e3_0 ?_)
  rw [gI_iff h.1 rfl]
  refine (c_li_check hl h0 h1 (by omega)).cl0 (by decide) ?_
  rw [rI_of, gR_iff h.1 rfl]
  refine ⟨10, g, ha, in_I h0 (by omega) (by decide), ?_⟩
  refine ⟨⟨_, h.1⟩, key.cl0 (by decide) ?_⟩
  rintro o1 A2 ⟨rfl, x⟩
  rw [rV_of, cl_I ⟨by omega, by omega⟩]
  exact ⟨rfl, x⟩
end LI
