/-! the class: keepArrived -/
theorem up_nw {A : AH} {e e' : va_E} : up (nw A e) A.1 e' = nw A e' := by
  refine Prod.ext rfl (funext fun c => ?_)
  by_cases hc : c = A.1
  · rw [hc]
    exact up_q.trans nw_q.symm
  · exact ((up_b hc).trans (nw_b hc)).trans (nw_b hc).symm
section CK
variable {l : Launch} {X : XT} {A B : AH} {a p b n : Nat} {D P : Nat → Int → Int} {r g : Int → Int}
theorem c_copyOf (hl : l.stackTraces = false) (hb : A.2 b = some (ia X n (fun k => I (g k)))) (hn : n ≤ 240) (hlt : b < A.1) {v : Int} (v0 : 0 ≤ v) (v1 : v ≤ n) : Ct l X 0 M_J7_copyOf_59c91 [.ref b, .int (I v)] A 1 240 (fun o' A' => o' = Ra A.1 ∧ ∃ h : Int → Int, A' = nw A (ia X v.toNat (fun k => I (h k))) ∧ ∀ k, 0 ≤ k → k < v → h k = g k) := by
  refine Ct.of hl rfl rfl (Nat.le_of_ble_eq_true rfl) (k_J7_copyOf_59c91_0 ?_)
  rw [nI_iff hb, I_ofNat]
  have z : (0 : Int32).toNatClampNeg = 0 := by decide
  have zn : (I v).toNatClampNeg = v.toNat := cl_I ⟨by omega, by omega⟩
  have nn : ¬ I v < 0 := by
    rw [show (0 : Int32) = I 0 from rfl, I_lt4 (by omega) (by omega) (by omega) (by omega)]
    omega
  refine ⟨fun hne => ?_, fun he => ?_⟩
  · rw [I_eq ⟨by omega, by omega⟩ ⟨by omega, by omega⟩] at hne
    refine ⟨v.toNat, nn, zn, by omega, by omega, by omega, ?_⟩
    have hb2 : (nw A (ia X v.toNat (fun _ => 0))).2 b = some (ia X n (fun k => I (g k))) := (nw_b (by omega)).trans hb
    refine (nI_iff hb2).mpr ?_
    have hlt2 : I v < I (n : Int) := by
      rw [I_lt4 (by omega) (by omega) (by omega) (by omega)]
      omega
    rw [I_ofNat, if_pos hlt2]
    refine ⟨n, v.toNat, _, _, hb2, nw_q, by decide, by decide, nn, by rw [z, zn]; omega, by rw [z, zn]; omega, ?_⟩
    rw [z, zn, up_nw]
    refine ⟨rfl, cpy (fun _ => 0) g 0 0 v, ?_, fun k k0 k1 => cpy_in _ _ _ _ k0 k1⟩
    have e : va_cpy (fun k : Nat => I (g k)) (fun _ => 0) 0 0 v.toNat = fun k : Nat => I (cpy (fun _ => 0) g 0 0 v k) := by
      funext k
      unfold va_cpy cpy
      by_cases hk : k < v.toNat
      · rw [if_pos (by omega), if_pos (by omega)]
        exact congrArg (fun z => I (g z)) (by omega)
      · rw [if_neg (by omega), if_neg (by omega)]
        rfl
    rw [e]
  · rw [I_eq ⟨by omega, by omega⟩ ⟨by omega, by omega⟩] at he
    refine ⟨n, _, hb, by omega, by omega, ⟨_, _, nw_q⟩, rfl, g, ?_, fun _ _ _ => rfl⟩
    rw [show v.toNat = n by omega]
theorem c_X2_init (hl : l.stackTraces = false) {y z : Nat} {x : Int32} (hy : A.2 y = some (ob 3 df_3)) : Fn l X 0 M_X2_init [.ref y, .int x, .ref z] A 0 0 Rv (up A y (ob 3 [.int x, .ref z])) := by
  refine Fn.of hl rfl rfl (Nat.le_of_ble_eq_true rfl) (k_X2_init_0 ?_)
  refine (pV_iff (k := 0) hy (by simp [df_3])).mpr ((pV_iff (k := 1) up_q (by simp [df_3])).mpr ?_)
  rw [up_up]
  exact ⟨rfl, rfl⟩
theorem DR_keep {e x : Int} (w : RW r e) (he : e + 10 ≤ 2000000000) (h : tKee r x = 0) (hD : DR D r) (hR : PR P r) : DR (kLa r (kTell D 7 x (gKl r))) (rKeep r x) ∧ PR P (rKeep r x) ∧ (∀ y, y < 7 ∨ 9 < y ∧ y < 96 ∨ 336 ≤ y ∧ y < 576 → rKeep r x y = r y) := by
  obtain ⟨⟨wb, b9, ob⟩, wz, wK⟩ := rK_w w he h
  obtain ⟨t1, t2⟩ := gT_b w.1
  have lg := w.1.2.1
  have hg := RW_gl w
  have c3 := w.2.2.2.1
  have oc : ∀ y, y ≠ 9 → y < 96 ∨ 96 + gT r ≤ y → rKc r x y = rKb r x y := fun y h9 hy => by
    unfold rKc zr
    rw [if_neg (by omega), rs_ne h9]
  have c7 : rKc r x 7 = r 7 := (oc 7 (by omega) (by omega)).trans (ob 7 (by omega))
  have og : ∀ y, y ≠ 7 → y < 576 ∨ 696 ≤ y → rKeep r x y = rKc r x y := fun y h7 hy => rTell_g (by rw [c7]; exact hg.1) (by omega)
  have o : ∀ y, y ≠ 7 → y ≠ 9 → y < 96 ∨ 336 ≤ y ∧ y < 576 → rKeep r x y = r y := fun y h7 h9 hy => by
    rw [og y h7 (by omega), oc y h9 (by omega), ob y (by omega)]
  have hc := geo_c (o 0 (by omega) (by omega) (by omega)) (o 2 (by omega) (by omega) (by omega)) (o 3 (by omega) (by omega) (by omega))
  have cf2 : ∀ y, cf y → rKeep r x y = r y := fun y hy => o y (by unfold cf at hy; omega) (by unfold cf at hy; omega) (by unfold cf at hy; omega)
  have e7 : rKeep r x 7 = r 7 + 1 := by
    show rTell (rKc r x) 7 x (gKl r) 7 = _
    rw [← c7]
    exact rs_eq
  obtain ⟨a1, a2, a3, a4, a5, a6, a7, a8⟩ := id hD
  have hk : kLa r (kTell D 7 x (gKl r)) = kLa (rKeep r x) (kTell D 7 x (gKl r)) := by
    have hPo : gPo (rKeep r x) = gPo r := funext hc.2.2.2.1
    unfold kLa
    rw [hPo, hc.1, hc.2.2.2.2.2.1]
  refine ⟨?_, PR_c w cf2 hR, fun y hy => o y (by omega) (by omega) (by omega)⟩
  rw [hk]
  have hev := kTell_ev (D := D) (r := rKc r x) (κ := 7) (a := x) (b := gKl r) (by rw [c7]; exact hg.1) (by rw [c7]; exact a5.2.2.2.2) (fun j j0 j1 j2 => by
    rw [c7] at j2
    rw [oc _ (by omega) (by omega), oc _ (by omega) (by omega), oc _ (by omega) (by omega), ob _ (by omega), ob _ (by omega), ob _ (by omega)]
    exact a7 j j0 j1 j2)
  refine DR_la wK.1 (fun q q0 q1 => ?_) ?_ ?_ hev ?_
  · rw [hc.2.2.2.2.2.1] at q1
    rw [og _ (by omega) (by omega)]
    unfold rKc zr
    rw [if_pos (by omega)]
  · rw [kTell_j (by decide) (by decide) (by decide) (by decide), kTell_11, e7, o 5 (by omega) (by omega) (by omega), o 6 (by omega) (by omega) (by omega), o 8 (by omega) (by omega) (by omega), o 13 (by omega) (by omega) (by omega)]
    exact ⟨a5.1, a5.2.1, a5.2.2.1, a5.2.2.2.1, by rw [a5.2.2.2.2]⟩
  · intro s s0 s1
    rw [kTell_j (by decide) (by decide) (by decide) (by decide), kTell_j (by decide) (by decide) (by decide) (by decide), kTell_j (by decide) (by decide) (by decide) (by decide), o _ (by omega) (by omega) (by omega), o _ (by omega) (by omega) (by omega), o _ (by omega) (by omega) (by omega)]
    exact a6 s s0 s1
  · intro k k0 k1
    rw [kTell_j (by decide) (by decide) (by decide) (by decide)]
    exact a8 k k0 k1
theorem c_X1_keepArrived (hl : l.stackTraces = false) {e x : Int} (h : DlA X A a p D) (hd : p + 10 < a ∨ a + 12 < p) (hP : PlanAt X A p P) (hp1 : p + 10 < A.1) (hR : PR P r) (w : RW r e) (he : e + 10 ≤ 2000000000) (hD : DR D r) (hx : tKee r x = 0) (ha : a + 12 < A.1)
    {la : Nat} {gg : Nat → Option Nat} {m : Int32} (L : LST X A (a + 8) la (r 9) gg m) (hla : la < a ∨ a + 12 < la) (hlp : la < p ∨ p + 10 < la) (hE : xE X < a ∨ a + 12 < xE X) (hla1 : la < A.1) (hE1 : xE X < A.1) :
    Ct l X 4 M_X1_keepArrived [.ref a, .int (I x)] A 3 252 (fun o' A' => o' = Ri (I (gKl r)) ∧ ∃ (F : Nat → Int → Int) (la' : Nat) (g' : Nat → Option Nat) (m' : Int32) (y z : Nat) (hh : Int → Int), DlA X A' a p F ∧ DR F (rKeep r x) ∧ LST X A' (a + 8) la' (r 9 + 1) g' m' ∧ g' (r 9).toNat = some y ∧ (∀ i : Nat, i < (r 9).toNat → g' i = gg i) ∧ (A.1 ≤ y ∧ y < A'.1 ∧ A.1 ≤ z ∧ z < A'.1) ∧ A'.2 y = some (ob 3 [.int (I x), .ref z]) ∧ A'.2 z = some (ia X (gKl r).toNat (fun k => I (hh k))) ∧ (∀ k, 0 ≤ k → k < gKl r → hh k = D 0 k) ∧ (la' = la ∨ A.1 ≤ la') ∧ la' < A'.1 ∧ A.1 ≤ A'.1 ∧ ∀ b, b < A.1 → (b < a ∨ a + 12 < b) → (b ≠ la ∨ la = xE X) → A'.2 b = A.2 b) := by
  have hx2 : (0 ≤ x ∧ x ≤ 999) ∧ ¬ r 96 = 0 ∧ ¬ r 9 = 4 := by
    unfold tKee tr2 at hx
    split at hx
    · rename_i h1
      split at hx
      · rename_i h2; exact ⟨h1, h2⟩
      · exact absurd hx (by decide)
    · exact absurd hx (by decide)
  obtain ⟨-, h96, h9⟩ := hx2
  obtain ⟨k1, k2, k3⟩ := gKl_b w.1 h96
  obtain ⟨t1, t2⟩ := gT_b w.1
  have lg := w.1.2.1
  have hg := RW_gl w
  have c3 := w.2.2.2.1
  obtain ⟨DK, PK, oK⟩ := DR_keep w he hx hD hR
  obtain ⟨Q, hQ⟩ : ∃ Q : Ot → AH → Prop, Q = (fun o' A' => o' = Ri (I (gKl r)) ∧ ∃ (F : Nat → Int → Int) (la' : Nat) (g' : Nat → Option Nat) (m' : Int32) (y z : Nat) (hh : Int → Int), DlA X A' a p F ∧ DR F (rKeep r x) ∧ LST X A' (a + 8) la' (r 9 + 1) g' m' ∧ g' (r 9).toNat = some y ∧ (∀ i : Nat, i < (r 9).toNat → g' i = gg i) ∧ (A.1 ≤ y ∧ y < A'.1 ∧ A.1 ≤ z ∧ z < A'.1) ∧ A'.2 y = some (ob 3 [.int (I x), .ref z]) ∧ A'.2 z = some (ia X (gKl r).toNat (fun k => I (hh k))) ∧ (∀ k, 0 ≤ k → k < gKl r → hh k = D 0 k) ∧ (la' = la ∨ A.1 ≤ la') ∧ la' < A'.1 ∧ A.1 ≤ A'.1 ∧ ∀ b, b < A.1 → (b < a ∨ a + 12 < b) → (b ≠ la ∨ la = xE X) → A'.2 b = A.2 b) := ⟨_, rfl⟩
  rw [← hQ]
  have mid : G l X M_X1_keepArrived 4 Q 28 [(0, .ref a), (1, .int (I x))] [.int (I (gKl r))] A 3 252 := by
    refine k_X1_keepArrived_28 ?_
    rw [gR_iff h.k0 rfl]
    have kn : ¬ I (gKl r) < 0 := by
      rw [show (0 : Int32) = I 0 from rfl, I_lt4 (by omega) (by omega) (by omega) (by omega)]
      omega
    rw [if_neg kn]
    refine Cal.of (c_copyOf (v := gKl r) hl h.k1 (by decide) (by omega) (by omega) (by omega)) (by decide) (by decide) (by decide) ?_
    rintro o1 A1 ⟨rfl, hh, rfl, hh1⟩
    rw [rR_of, gR_iff ((nw_b (by omega)).trans h.k0) rfl]
    obtain ⟨C1, hC1⟩ : ∃ C1, C1 = nw A (ia X (gKl r).toNat (fun k => I (hh k))) := ⟨_, rfl⟩
    have c11 : C1.1 = A.1 + 1 := by rw [hC1]; rfl
    have c1z : C1.2 A.1 = some (ia X (gKl r).toNat (fun k => I (hh k))) := by rw [hC1]; exact nw_q
    have c1o : ∀ b, b < A.1 → C1.2 b = A.2 b := fun b hb => by rw [hC1]; exact nw_b (by omega)
    rw [← hC1]
    refine ⟨by decide, by decide, ?_⟩
    refine (c_X2_init hl nw_q).cl0 (by decide) ?_
    obtain ⟨C3, hC3⟩ : ∃ C3, C3 = up (nw C1 (ob 3 df_3)) C1.1 (ob 3 [.int (I x), .ref A.1]) := ⟨_, rfl⟩
    have c31 : C3.1 = A.1 + 2 := by rw [hC3]; show C1.1 + 1 = _; omega
    have c3y : C3.2 C1.1 = some (ob 3 [.int (I x), .ref A.1]) := by rw [hC3]; exact up_q
    have c3o : ∀ b, b < A.1 + 1 → C3.2 b = C1.2 b := fun b hb => by rw [hC3]; exact (up_b (by omega)).trans (nw_b (by omega))
    have c3a : ∀ b, b < A.1 → C3.2 b = A.2 b := fun b hb => (c3o b (by omega)).trans (c1o b hb)
    have L3 : LST X C3 (a + 8) la (r 9) gg m := L.of (c3a _ (by omega)) (c3a _ hla1) (c3a _ hE1)
    rw [zV_of, ← hC3]
    refine ⟨⟨_, L3.1⟩, ?_⟩
    refine Cal.of (c_li_add hl L3 (by omega) c3y (by omega) (by omega) (by omega) (by omega)) (by decide) (by decide) (by decide) ?_
    rintro o2 C4 ⟨rfl, la', g', x1, x2, x3, x4, x5, x6, x7⟩
    rw [rI_of]
    have hla' : la' < a ∨ a + 12 < la' := by omega
    have c4o : ∀ b, b < A.1 → b ≠ a + 8 → (b ≠ la ∨ la = xE X) → C4.2 b = A.2 b := fun b b0 b1 b2 => by
      refine (x7 b b1 ?_).trans (c3a b b0)
      omega
    have l0 : la' ≠ A.1 := by omega
    have l1 : la' ≠ C1.1 := by
      rintro rfl
      omega
    have c4z : C4.2 A.1 = some (ia X (gKl r).toNat (fun k => I (hh k))) := (x7 _ (by omega) (Ne.symm l0)).trans ((c3o _ (by omega)).trans c1z)
    have c4y : C4.2 C1.1 = some (ob 3 [.int (I x), .ref A.1]) := (x7 _ (by omega) (Ne.symm l1)).trans c3y
    have d4 : DlA X C4 a p D := h.of fun b b0 b1 b2 => c4o b (by omega) b2 (Or.inl (by omega))
    rw [gR_iff d4.k0 rfl, nI_iff c4z, I_ofNat, show (((gKl r).toNat : Nat) : Int) = gKl r by omega, show (7 : Int32) = I 7 from rfl]
    refine ⟨⟨_, d4.k9⟩, ?_⟩
    obtain ⟨B4, hB4⟩ : ∃ B4, B4 = C4 := ⟨_, rfl⟩
    have eC4 : C4 = dp X a p B4 D := by rw [hB4]; exact (dp_of d4).symm
    have hP4 : PlanAt X B4 p P := by
      rw [hB4]
      exact hP.of fun b b0 b1 => c4o b (by omega) (by omega) (Or.inl (by omega))
    have oo : ∀ b G', b < a ∨ a + 12 < b ∨ b = a + 8 → (dp X a p B4 G').2 b = C4.2 b := fun b G' hb => by
      rw [← hB4]
      rcases hb with h | h | h
      · exact dp_out (Or.inl h)
      · exact dp_out (Or.inr h)
      · rw [h]
        exact dp_li
    rw [eC4]
    refine (c_X0_write hl (by rw [hD.2.2.2.2.1.2.2.2.2]; omega)).cl0 (by decide) ?_
    rw [rV_of]
    refine ⟨dp_isO, (c_X1_loseAll hl hd hP4 hR w.1).cl0 (by decide) ?_⟩
    rw [rV_of, nI_iff ((oo _ _ (by omega)).trans c4z), I_ofNat, show (((gKl r).toNat : Nat) : Int) = gKl r by omega, hQ]
    refine ⟨rfl, _, la', g', m + 1, C1.1, A.1, hh, dp_dl, DK, x1.of (oo _ _ (by omega)) (oo _ _ (by omega)) (oo _ _ (by omega)), x2, x3, ?_, (oo _ _ (by omega)).trans c4y, (oo _ _ (by omega)).trans c4z, hh1, by omega, ?_, ?_, ?_⟩
    · show _ ∧ _ < B4.1 ∧ _ ∧ _ < B4.1
      rw [hB4]
      omega
    · show _ < B4.1
      rw [hB4]
      exact x4
    · show _ ≤ B4.1
      rw [hB4]
      omega
    · intro b b0 b1 b2
      exact (oo b _ (by omega)).trans (c4o b b0 (by omega) b2)
  obtain ⟨B, hB⟩ : ∃ B, B = A := ⟨_, rfl⟩
  have eA : A = dp X a p B D := by rw [hB]; exact (dp_of h).symm
  have hPB : PlanAt X B p P := by rw [hB]; exact hP
  have hp := fun D => dp_pl (D := D) hd hPB
  refine Ct.of hl rfl rfl (Nat.le_of_ble_eq_true rfl) (k_X1_keepArrived_0 ?_)
  rw [eA] at mid
  rw [eA]
  have mMs : D 10 5 = gMs r := hD.2.2.2.1.1
  have bMs : 0 ≤ gMs r := sg_bi.1
  have bMs2 : gMs r ≤ (gT r).toNat := sg_bi.2
  have lo := gMs_lo w.1
  simp (disch := omega) only [true_implies, false_implies, not_true_eq_false, not_false_eq_true, I_n, I_neg, I_add, I_sub, I_mul, I_le4, I_lt4, I_eq4, I_div4, I_bi0, I_bi01, I_bi1, nor_em, rI_of, rV_of, zI_of, zV_of, nz_and, br_T, br_F, br_T2, br_F2, st_eq, st9_0, st_k, st_i, true_and, and_true, Classical.not_not, or_true, true_or, or_false, false_or, rR_of, dp_gI5, dp_gI6, dp_gI7, dp_gI8, dp_gI9, dp_gI10, dp_gI14, dp_pI5, dp_pI6, dp_pI7, dp_pI8, dp_pI9, dp_pI10, dp_pI14, dp_gR0, dp_gR1, dp_gR2, dp_gR3, dp_gR4, dp_gR11, dp_gR12, dp_gR13, dp_gR15, dp_gR16, dp_gA3, dp_pA3, dp_gAR0, dp_gAR1, dp_gAR2, dp_isO, dp_isA]
  refine ⟨fun hne => ?_, fun he0 => ?_⟩
  · have hlo : ¬ gLo r = -1 := lo.mp (by omega)
    have hlb := gLo_b w.1
    refine (c_X1_lowestMissing hl hd hPB hR w hD).cl0 (by decide) ?_
    rw [rI_of]
    have hb2 : 0 ≤ gLo r ∧ gLo r < gT r := by
      rcases hlb with ⟨z, -⟩ | ⟨z1, z2, -⟩
      · exact absurd z hlo
      · exact ⟨z1, z2⟩
    refine ⟨(hp _).isO, (c_X3_partStart hl (hp _) hR w.1 hb2.1 (by omega)).cl0 (by decide) ?_⟩
    rw [rI_of]
    have e1 : gLs r (gLo r) = gKl r := by
      unfold gLs gKl
      rw [if_pos hb2.2, if_neg hlo]
    rw [e1]
    exact mid
  · have hlo : gLo r = -1 := Classical.byContradiction fun hc => by have := lo.mpr hc; omega
    rw [(hp _).g0, hR.1.1]
    have e1 : r 0 = gKl r := by
      unfold gKl
      rw [if_pos hlo]
    rw [e1]
    exact mid
end CK
