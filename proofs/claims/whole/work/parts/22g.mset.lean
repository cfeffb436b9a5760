/-! the row, written: what it keeps -/
theorem rs_rng {r : Int → Int} {k v b lo hi : Int} (h1 : lo ≤ r b ∧ r b ≤ hi) (h2 : b = k → lo ≤ v ∧ v ≤ hi) : lo ≤ rs r k v b ∧ rs r k v b ≤ hi := by
  unfold rs
  split
  · rename_i h
    exact h2 h
  · exact h1
theorem RW_set {r : Int → Int} {e k v : Int} (w : RW r e) (hk : 5 ≤ k ∧ k ≤ 8 ∨ 13 ≤ k ∧ k ≤ 19 ∨ 96 ≤ k ∧ k < 1664) (hv : -2147483648 ≤ v ∧ v < 2147483648)
    (v1 : 5 ≤ k ∧ k ≤ 8 ∨ 16 ≤ k ∧ k ≤ 19 → 0 ≤ v ∧ v ≤ e) (v2 : 13 ≤ k → k ≤ 15 → 0 ≤ v ∧ v ≤ 1) (v3 : 96 ≤ k → k < 336 → 0 ≤ v ∧ v ≤ 3) (v4 : 336 ≤ k → k < 576 → 0 ≤ v ∧ v ≤ 255)
    (v5 : ∀ i, 0 ≤ i → i < 40 → 576 + 3 * i = k → 0 ≤ v ∧ v ≤ 8) (v6 : ∀ i, 0 ≤ i → i < 40 → 576 + 3 * i + 1 = k → 0 ≤ v ∧ v ≤ 999) (v7 : ∀ i, 0 ≤ i → i < 40 → 576 + 3 * i + 2 = k → 0 ≤ v ∧ v ≤ e + 240)
    (v8 : ∀ i, 0 ≤ i → i < 4 → 696 + 242 * i = k → 0 ≤ v ∧ v ≤ 999) (v9 : ∀ i, 0 ≤ i → i < 4 → 696 + 242 * i + 1 = k → 0 ≤ v ∧ v ≤ 240) (v10 : ∀ i q, 0 ≤ i → i < 4 → 0 ≤ q → q < 240 → 696 + 242 * i + 2 + q = k → 0 ≤ v ∧ v ≤ 255) : RW (rs r k v) e := by
  obtain ⟨g, c1, c2, c3, c4, c5, f1, f2, f3, f4, f5, f6, f7, f8, f9, f10⟩ := w
  have e9 : rs r k v 9 = r 9 := rs_ne (by omega)
  have e10 : rs r k v 10 = r 10 := rs_ne (by omega)
  have e11 : rs r k v 11 = r 11 := rs_ne (by omega)
  have e12 : rs r k v 12 = r 12 := rs_ne (by omega)
  refine ⟨?_, ?_, ?_, ?_, ?_, ?_, ?_, ?_, ?_, ?_, ?_, ?_, ?_, ?_, f9, ?_⟩
  · unfold GW
    simp (disch := omega) only [rs_ne]
    exact g
  · simp (disch := omega) only [rs_ne]
    exact c1
  · simp (disch := omega) only [rs_ne]
    exact c2
  · rw [e9, e10, e11, e12]
    exact c3
  · obtain ⟨a1, a2, a3, a4, a5, a6⟩ := c4
    have b1 := rs_rng (k := k) (v := v) ⟨a1, a2⟩ fun q => v2 (by omega) (by omega)
    have b2 := rs_rng (k := k) (v := v) ⟨a3, a4⟩ fun q => v2 (by omega) (by omega)
    have b3 := rs_rng (k := k) (v := v) ⟨a5, a6⟩ fun q => v2 (by omega) (by omega)
    exact ⟨b1.1, b1.2, b2.1, b2.2, b3.1, b3.2⟩
  · obtain ⟨a1, a2, a3, a4, a5, a6, a7, a8, a9, a10, a11, a12, a13, a14, a15, a16⟩ := c5
    have b1 := rs_rng (k := k) (v := v) ⟨a1, a2⟩ fun q => v1 (by omega)
    have b2 := rs_rng (k := k) (v := v) ⟨a3, a4⟩ fun q => v1 (by omega)
    have b3 := rs_rng (k := k) (v := v) ⟨a5, a6⟩ fun q => v1 (by omega)
    have b4 := rs_rng (k := k) (v := v) ⟨a7, a8⟩ fun q => v1 (by omega)
    have b5 := rs_rng (k := k) (v := v) ⟨a9, a10⟩ fun q => v1 (by omega)
    have b6 := rs_rng (k := k) (v := v) ⟨a11, a12⟩ fun q => v1 (by omega)
    have b7 := rs_rng (k := k) (v := v) ⟨a13, a14⟩ fun q => v1 (by omega)
    have b8 := rs_rng (k := k) (v := v) ⟨a15, a16⟩ fun q => v1 (by omega)
    exact ⟨b1.1, b1.2, b2.1, b2.2, b3.1, b3.2, b4.1, b4.2, b5.1, b5.2, b6.1, b6.2, b7.1, b7.2, b8.1, b8.2⟩
  · intro f h0 h1
    rw [e10] at h1
    simp (disch := omega) only [rs_ne]
    exact f1 f h0 h1
  · intro f h0 h1
    rw [e11] at h1
    simp (disch := omega) only [rs_ne]
    exact f2 f h0 h1
  · intro f h0 h1
    rw [e12] at h1
    simp (disch := omega) only [rs_ne]
    exact f3 f h0 h1
  · intro p h0 h1
    exact rs_rng (f4 p h0 h1) fun q => v3 (by omega) (by omega)
  · intro p h0 h1
    exact rs_rng (f5 p h0 h1) fun q => v4 (by omega) (by omega)
  · intro i h0 h1
    obtain ⟨a1, a2, a3, a4, a5, a6⟩ := f6 i h0 h1
    have b1 := rs_rng (k := k) (v := v) ⟨a1, a2⟩ fun q => v5 i h0 h1 q
    have b2 := rs_rng (k := k) (v := v) ⟨a3, a4⟩ fun q => v6 i h0 h1 q
    have b3 := rs_rng (k := k) (v := v) ⟨a5, a6⟩ fun q => v7 i h0 h1 q
    exact ⟨b1.1, b1.2, b2.1, b2.2, b3.1, b3.2⟩
  · intro i h0 h1
    rw [e9] at h1
    obtain ⟨a1, a2, a3, a4⟩ := f7 i h0 h1
    have b1 := rs_rng (k := k) (v := v) ⟨a1, a2⟩ fun q => v8 i h0 (by omega) q
    have b2 := rs_rng (k := k) (v := v) ⟨a3, a4⟩ fun q => v9 i h0 (by omega) q
    exact ⟨b1.1, b1.2, b2.1, b2.2⟩
  · intro i q h0 h1 h2 h3
    exact rs_rng (f8 i q h0 h1 h2 h3) fun y => v10 i q h0 (by omega) h2 h3 y
  · intro b h0 h1
    have a := f10 b h0 h1
    unfold rs
    split
    · exact hv
    · exact a
theorem RW_e {r : Int → Int} {e e' : Int} (w : RW r e) (h : e ≤ e') (h' : e' ≤ 2000000000) : RW r e' := by
  obtain ⟨g, c1, c2, c3, c4, c5, f1, f2, f3, f4, f5, f6, f7, f8, f9, f10⟩ := w
  refine ⟨g, c1, c2, c3, c4, by omega, f1, f2, f3, f4, f5, ?_, f7, f8, by omega, f10⟩
  intro i h0 h1
  have := f6 i h0 h1
  omega
/-- an event, told -/
theorem RW_tell {r : Int → Int} {e k a b : Int} (w : RW r e) (he : e < 2000000000) (hk : 0 ≤ k ∧ k ≤ 8) (ha : 0 ≤ a ∧ a ≤ 999) (hb : 0 ≤ b ∧ b ≤ e + 240) : RW (rTell r k a b) (e + 1) := by
  have c5 := w.2.2.2.2.2.1
  have w1 := RW_e w (e' := e + 1) (by omega) (by omega)
  unfold rTell
  refine RW_set ?_ (by omega) (by omega) (by omega) (by omega) (by omega) (by omega) (by omega) (by omega) (by omega) (by omega) (by omega) (by omega)
  refine RW_set ?_ (by omega) (by omega) (by omega) (by omega) (by omega) (by omega) (by omega) (by omega) (by omega) (by omega) (by omega) (by omega)
  refine RW_set ?_ (by omega) (by omega) (by omega) (by omega) (by omega) (by omega) (by omega) (by omega) (by omega) (by omega) (by omega) (by omega)
  exact RW_set w1 (by omega) (by omega) (by omega) (by omega) (by omega) (by omega) (by omega) (by omega) (by omega) (by omega) (by omega) (by omega)
theorem rTell_g {r : Int → Int} {k a b : Int} (h0 : 0 ≤ r 7) {j : Int} (hj : j < 7 ∨ 7 < j ∧ j < 576 ∨ 696 ≤ j) : rTell r k a b j = r j := by
  unfold rTell
  rw [rs_ne (by omega), rs_ne (by omega), rs_ne (by omega), rs_ne (by omega)]
section ME
variable {l : Launch} {X : XT} {o : Nat} {B A : AH} {S : Nat → Int → Int} {e : Int}
theorem c_X6_event (hl : l.stackTraces = false) (w : RW (S 0) e) {p k : Int} (hp : sm p) (hk : sm k) : Fn l X 1 M_X6_event [.ref o, .int (I p), .int (I k)] (mp X o B S) 0 0 (Ri (I (if 0 ≤ p ∧ p ≤ gK (S 0) - 1 then if 0 ≤ k ∧ k ≤ 2 then gEv (S 0) p k else 0 else 0))) (mp X o B (st S 9 5 (tr2 (0 ≤ p ∧ p ≤ gK (S 0) - 1) (0 ≤ k ∧ k ≤ 2)))) := by
  have c5 := w.2.2.2.2.2.1
  have f9 := w.2.2.2.2.2.2.2.2.2.2.2.2.2.2.1
  have hK : 0 ≤ gK (S 0) ∧ gK (S 0) ≤ S 0 7 ∧ gK (S 0) ≤ 40 := by
    unfold gK
    split
    · omega
    · omega
  refine Fn.of hl rfl rfl (Nat.le_of_ble_eq_true rfl) (k_X6_event_0 ?_)
  simp only [I_n]
  refine ⟨mp_isO, (c_X6_eventsKept hl (by omega) (by omega)).cl0 (by decide) ?_⟩
  simp (disch := omega) only [I_n, I_neg, I_add, I_sub, I_mul, I_le4, I_lt4, I_eq4, I_div4, I_bi0, I_bi01, I_bi1, nor_em, rI_of, rV_of, zI_of, zV_of, nz_and, br_T, br_F, br_T2, br_F2, st_eq, st9_0, st_k, st_i, true_and, and_true, Classical.not_not, mp_isO, mp_gI4, mp_gI5, mp_gI7, mp_gI8, mp_gI9, mp_gI10, mp_gI11, mp_gI12, mp_gI13, mp_gI14, mp_gI15, mp_gI19, mp_gI20, mp_gI21, mp_gI23, mp_pI4, mp_pI5, mp_pI7, mp_pI8, mp_pI9, mp_pI10, mp_pI11, mp_pI12, mp_pI13, mp_pI14, mp_pI15, mp_pI19, mp_pI20, mp_pI21, mp_pI23, mp_gR0, mp_gR1, mp_gR2, mp_gR3, mp_gR6, mp_gR16, mp_gR17, mp_gR18, mp_gR22, mp_aI0, mp_aI1, mp_aI2, mp_aI3, mp_aI4, mp_aI5, mp_aI6, mp_aZ7, mp_aI8, mp_sI0, mp_sI1, mp_sI2, mp_sI3, mp_sI4, mp_sI5, mp_sI6, mp_sI8, mp_sZ0, mp_sZ1]
  refine (c_X6_isIn hl hp ⟨by omega, by omega⟩ ⟨by omega, by omega⟩).cl0 (by decide) ?_
  simp (disch := omega) only [I_n, I_neg, I_add, I_sub, I_mul, I_le4, I_lt4, I_eq4, I_div4, I_bi0, I_bi01, I_bi1, nor_em, rI_of, rV_of, zI_of, zV_of, nz_and, br_T, br_F, br_T2, br_F2, st_eq, st9_0, st_k, st_i, true_and, and_true, Classical.not_not, mp_isO, mp_gI4, mp_gI5, mp_gI7, mp_gI8, mp_gI9, mp_gI10, mp_gI11, mp_gI12, mp_gI13, mp_gI14, mp_gI15, mp_gI19, mp_gI20, mp_gI21, mp_gI23, mp_pI4, mp_pI5, mp_pI7, mp_pI8, mp_pI9, mp_pI10, mp_pI11, mp_pI12, mp_pI13, mp_pI14, mp_pI15, mp_pI19, mp_pI20, mp_pI21, mp_pI23, mp_gR0, mp_gR1, mp_gR2, mp_gR3, mp_gR6, mp_gR16, mp_gR17, mp_gR18, mp_gR22, mp_aI0, mp_aI1, mp_aI2, mp_aI3, mp_aI4, mp_aI5, mp_aI6, mp_aZ7, mp_aI8, mp_sI0, mp_sI1, mp_sI2, mp_sI3, mp_sI4, mp_sI5, mp_sI6, mp_sI8, mp_sZ0, mp_sZ1]
  unfold tr2
  refine ⟨fun h => ?_, fun h => ?_⟩
  · refine (c_X6_isIn hl hk ⟨by omega, by omega⟩ ⟨by omega, by omega⟩).cl0 (by decide) ?_
    simp (disch := omega) only [I_n, I_neg, I_add, I_sub, I_mul, I_le4, I_lt4, I_eq4, I_div4, I_bi0, I_bi01, I_bi1, nor_em, rI_of, rV_of, zI_of, zV_of, nz_and, br_T, br_F, br_T2, br_F2, st_eq, st9_0, st_k, st_i, true_and, and_true, Classical.not_not, mp_isO, mp_gI4, mp_gI5, mp_gI7, mp_gI8, mp_gI9, mp_gI10, mp_gI11, mp_gI12, mp_gI13, mp_gI14, mp_gI15, mp_gI19, mp_gI20, mp_gI21, mp_gI23, mp_pI4, mp_pI5, mp_pI7, mp_pI8, mp_pI9, mp_pI10, mp_pI11, mp_pI12, mp_pI13, mp_pI14, mp_pI15, mp_pI19, mp_pI20, mp_pI21, mp_pI23, mp_gR0, mp_gR1, mp_gR2, mp_gR3, mp_gR6, mp_gR16, mp_gR17, mp_gR18, mp_gR22, mp_aI0, mp_aI1, mp_aI2, mp_aI3, mp_aI4, mp_aI5, mp_aI6, mp_aZ7, mp_aI8, mp_sI0, mp_sI1, mp_sI2, mp_sI3, mp_sI4, mp_sI5, mp_sI6, mp_sI8, mp_sZ0, mp_sZ1]
    rw [if_pos h, if_pos h]
    refine ⟨fun h2 => k_X6_event_33 ?_, fun h2 => k_X6_event_33 ?_⟩
    · simp (disch := omega) only [I_n, I_neg, I_add, I_sub, I_mul, I_le4, I_lt4, I_eq4, I_div4, I_bi0, I_bi01, I_bi1, nor_em, rI_of, rV_of, zI_of, zV_of, nz_and, br_T, br_F, br_T2, br_F2, st_eq, st9_0, st_k, st_i, true_and, and_true, Classical.not_not, mp_isO, mp_gI4, mp_gI5, mp_gI7, mp_gI8, mp_gI9, mp_gI10, mp_gI11, mp_gI12, mp_gI13, mp_gI14, mp_gI15, mp_gI19, mp_gI20, mp_gI21, mp_gI23, mp_pI4, mp_pI5, mp_pI7, mp_pI8, mp_pI9, mp_pI10, mp_pI11, mp_pI12, mp_pI13, mp_pI14, mp_pI15, mp_pI19, mp_pI20, mp_pI21, mp_pI23, mp_gR0, mp_gR1, mp_gR2, mp_gR3, mp_gR6, mp_gR16, mp_gR17, mp_gR18, mp_gR22, mp_aI0, mp_aI1, mp_aI2, mp_aI3, mp_aI4, mp_aI5, mp_aI6, mp_aZ7, mp_aI8, mp_sI0, mp_sI1, mp_sI2, mp_sI3, mp_sI4, mp_sI5, mp_sI6, mp_sI8, mp_sZ0, mp_sZ1]
      rw [if_neg h2, if_neg h2]
      all_goals first | rfl | exact ⟨rfl, rfl⟩
    · simp (disch := omega) only [I_n, I_neg, I_add, I_sub, I_mul, I_le4, I_lt4, I_eq4, I_div4, I_bi0, I_bi01, I_bi1, nor_em, rI_of, rV_of, zI_of, zV_of, nz_and, br_T, br_F, br_T2, br_F2, st_eq, st9_0, st_k, st_i, true_and, and_true, Classical.not_not, mp_isO, mp_gI4, mp_gI5, mp_gI7, mp_gI8, mp_gI9, mp_gI10, mp_gI11, mp_gI12, mp_gI13, mp_gI14, mp_gI15, mp_gI19, mp_gI20, mp_gI21, mp_gI23, mp_pI4, mp_pI5, mp_pI7, mp_pI8, mp_pI9, mp_pI10, mp_pI11, mp_pI12, mp_pI13, mp_pI14, mp_pI15, mp_pI19, mp_pI20, mp_pI21, mp_pI23, mp_gR0, mp_gR1, mp_gR2, mp_gR3, mp_gR6, mp_gR16, mp_gR17, mp_gR18, mp_gR22, mp_aI0, mp_aI1, mp_aI2, mp_aI3, mp_aI4, mp_aI5, mp_aI6, mp_aZ7, mp_aI8, mp_sI0, mp_sI1, mp_sI2, mp_sI3, mp_sI4, mp_sI5, mp_sI6, mp_sI8, mp_sZ0, mp_sZ1]
      rw [if_pos h2, if_pos h2]
      refine (c_X6_eventAt hl (by rw [st9_0]; omega) h.1 (by rw [st9_0]; omega) h2.1 h2.2).cl0 (by decide) ?_
      simp (disch := omega) only [I_n, I_neg, I_add, I_sub, I_mul, I_le4, I_lt4, I_eq4, I_div4, I_bi0, I_bi01, I_bi1, nor_em, rI_of, rV_of, zI_of, zV_of, nz_and, br_T, br_F, br_T2, br_F2, st_eq, st9_0, st_k, st_i, true_and, and_true, Classical.not_not, mp_isO, mp_gI4, mp_gI5, mp_gI7, mp_gI8, mp_gI9, mp_gI10, mp_gI11, mp_gI12, mp_gI13, mp_gI14, mp_gI15, mp_gI19, mp_gI20, mp_gI21, mp_gI23, mp_pI4, mp_pI5, mp_pI7, mp_pI8, mp_pI9, mp_pI10, mp_pI11, mp_pI12, mp_pI13, mp_pI14, mp_pI15, mp_pI19, mp_pI20, mp_pI21, mp_pI23, mp_gR0, mp_gR1, mp_gR2, mp_gR3, mp_gR6, mp_gR16, mp_gR17, mp_gR18, mp_gR22, mp_aI0, mp_aI1, mp_aI2, mp_aI3, mp_aI4, mp_aI5, mp_aI6, mp_aZ7, mp_aI8, mp_sI0, mp_sI1, mp_sI2, mp_sI3, mp_sI4, mp_sI5, mp_sI6, mp_sI8, mp_sZ0, mp_sZ1]
      all_goals first | rfl | exact ⟨rfl, rfl⟩
  · refine k_X6_event_33 ?_
    simp (disch := omega) only [I_n, I_neg, I_add, I_sub, I_mul, I_le4, I_lt4, I_eq4, I_div4, I_bi0, I_bi01, I_bi1, nor_em, rI_of, rV_of, zI_of, zV_of, nz_and, br_T, br_F, br_T2, br_F2, st_eq, st9_0, st_k, st_i, true_and, and_true, Classical.not_not, mp_isO, mp_gI4, mp_gI5, mp_gI7, mp_gI8, mp_gI9, mp_gI10, mp_gI11, mp_gI12, mp_gI13, mp_gI14, mp_gI15, mp_gI19, mp_gI20, mp_gI21, mp_gI23, mp_pI4, mp_pI5, mp_pI7, mp_pI8, mp_pI9, mp_pI10, mp_pI11, mp_pI12, mp_pI13, mp_pI14, mp_pI15, mp_pI19, mp_pI20, mp_pI21, mp_pI23, mp_gR0, mp_gR1, mp_gR2, mp_gR3, mp_gR6, mp_gR16, mp_gR17, mp_gR18, mp_gR22, mp_aI0, mp_aI1, mp_aI2, mp_aI3, mp_aI4, mp_aI5, mp_aI6, mp_aZ7, mp_aI8, mp_sI0, mp_sI1, mp_sI2, mp_sI3, mp_sI4, mp_sI5, mp_sI6, mp_sI8, mp_sZ0, mp_sZ1]
    rw [if_neg h, if_neg h]
    all_goals first | rfl | exact ⟨rfl, rfl⟩
end ME
