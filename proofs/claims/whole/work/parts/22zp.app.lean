/-! bits (the first rows out of kit/laws/BITS.to-paste); append and load of the reference -/
def bt (x : Int32) (i : Nat) : Bool := x.toBitVec.getLsbD i
theorem b_ext {x y : Int32} (h : ∀ i, i < 32 → bt x i = bt y i) : x = y := Int32.toBitVec_inj.mp (BitVec.eq_of_getLsbD_eq (fun i hi => h i hi))
theorem b_or (x y : Int32) (i : Nat) : bt (x ||| y) i = (bt x i || bt y i) := by unfold bt; rw [Int32.toBitVec_or, BitVec.getLsbD_or]
theorem b_and (x y : Int32) (i : Nat) : bt (x &&& y) i = (bt x i && bt y i) := by unfold bt; rw [Int32.toBitVec_and, BitVec.getLsbD_and]
theorem b_big {x : Int32} {i : Nat} (h : 32 ≤ i) : bt x i = false := BitVec.getLsbD_of_ge _ _ h
theorem b_255 (i : Nat) : bt 255 i = decide (i < 8) := by
  rcases Nat.lt_or_ge i 32 with h | h
  · exact (by decide +kernel : ∀ i, i < 32 → bt 255 i = decide (i < 8)) i h
  · rw [b_big h, decide_eq_false (by omega)]
theorem s_l : ∀ n, n < 32 → ((nI n &&& 31).toBitVec.smod 32).toNat = n := by decide +kernel
theorem s_u : ∀ n, n < 32 → (((nI n).toUInt32 &&& Int32.toUInt32 31).toBitVec % 32).toNat = n := by decide +kernel
theorem b_ushr (n : Nat) (hn : n < 32) (x : Int32) (i : Nat) : bt ((x.toUInt32 >>> ((nI n).toUInt32 &&& Int32.toUInt32 31)).toInt32) i = bt x (n + i) := by
  show (x.toUInt32 >>> ((nI n).toUInt32 &&& Int32.toUInt32 31)).toBitVec.getLsbD i = x.toUInt32.toBitVec.getLsbD (n + i)
  rw [UInt32.toBitVec_shiftRight]
  show (x.toUInt32.toBitVec >>> (((nI n).toUInt32 &&& Int32.toUInt32 31).toBitVec % 32).toNat).getLsbD i = _
  rw [s_u n hn, BitVec.getLsbD_ushiftRight]
theorem b_sshr (n : Nat) (hn : n < 32) (x : Int32) {i : Nat} (hi : i < 32) : bt (x >>> (nI n &&& 31)) i = if n + i < 32 then bt x (n + i) else bt x 31 := by
  unfold bt
  rw [Int32.toBitVec_shiftRight]
  show (x.toBitVec.sshiftRight ((nI n &&& 31).toBitVec.smod 32).toNat).getLsbD i = _
  rw [s_l n hn, BitVec.getLsbD_sshiftRight, BitVec.msb_eq_getLsbD_last]
  simp [hi]
theorem nx_and (a b : Nat) : nI a &&& nI b = nI (a &&& b) := by
  apply Int32.toBitVec_inj.1
  show BitVec.ofNat 32 a &&& BitVec.ofNat 32 b = BitVec.ofNat 32 (a &&& b)
  apply BitVec.eq_of_getLsbD_eq
  intro i hi
  simp [hi]
theorem I_nI (n : Nat) : I (n : Int) = nI n := (I_ofNat n).symm
theorem I_and255 {z : Int} (h : 0 ≤ z) : I z &&& I 255 = I (z % 256) := by
  obtain ⟨n, rfl⟩ : ∃ n : Nat, z = n := ⟨z.toNat, by omega⟩
  have e : I (255 : Int) = nI 255 := I_nI 255
  rw [e, I_nI, nx_and, show (255 : Nat) = 2 ^ 8 - 1 from rfl, Nat.and_two_pow_sub_one_eq_mod, ← I_nI]
  rfl
theorem and255_b (y : Int32) : 0 ≤ (y &&& I 255).toInt ∧ (y &&& I 255).toInt ≤ 255 := by
  have hy : y = nI y.toBitVec.toNat := Int32.toBitVec_inj.mp (by show _ = BitVec.ofNat 32 _; simp)
  have e : I (255 : Int) = nI 255 := I_nI 255
  rw [hy, e, nx_and, show (255 : Nat) = 2 ^ 8 - 1 from rfl, Nat.and_two_pow_sub_one_eq_mod]
  have h : y.toBitVec.toNat % 2 ^ 8 < 256 := Nat.mod_lt _ (by decide)
  rw [← I_nI, t_I ⟨by omega, by omega⟩]
  omega
/-- the byte of v that lies s bits up -/
def gBy (v : Int32) (s : Int) : Int := ((v >>> (I s &&& I 31)) &&& I 255).toInt
theorem gBy_b {v : Int32} {s : Int} : 0 ≤ gBy v s ∧ gBy v s ≤ 255 := and255_b _
theorem gBy_s {v : Int32} {s : Int} : (v >>> (I s &&& I 31)) &&& I 255 = I (gBy v s) := (I_t _).symm
theorem gBy_u {v : Int32} {s : Int} (h0 : 0 ≤ s) (h1 : s ≤ 24) : ((v.toUInt32 >>> (Int32.toUInt32 (I s) &&& Int32.toUInt32 (I 31))).toInt32) &&& I 255 = I (gBy v s) := by
  obtain ⟨n, rfl⟩ : ∃ n : Nat, s = n := ⟨s.toNat, by omega⟩
  rw [← gBy_s, I_nI]
  have e31 : I (31 : Int) = 31 := (I_n 31).symm
  have e255 : I (255 : Int) = 255 := (I_n 255).symm
  rw [e31, e255]
  refine b_ext fun i hi => ?_
  rw [b_and, b_and, b_255]
  by_cases h8 : i < 8
  · rw [b_ushr n (by omega), b_sshr n (by omega) v hi, if_pos (by omega)]
  · rw [decide_eq_false h8, Bool.and_false, Bool.and_false]
def apV (v1 v2 v3 v4 v5 : Int32) (k : Int) : Int32 := if 4 ≤ k then (if 8 ≤ k then (if 12 ≤ k then (if 16 ≤ k then v5 else v4) else v3) else v2) else v1
def apB (v1 v2 v3 v4 v5 : Int32) (k : Int) : Int := gBy (apV v1 v2 v3 v4 v5 k) (24 - 8 * (k - k / 4 * 4))
def apS (S : Nat → Int → Int) (q : Int → Int) (n : Int) : Nat → Int → Int := st (sw (st S 9 5 0) 4 (cpy (S 4) q 0 (S 9 7) n)) 9 7 (S 9 7 + n)
/-- what load reads: the row, the token at the end -/
def pLd (S : Nat → Int → Int) (k : Int) : PS := fStms (S 4) k 401 (fHead (S 4) k (S 1, nx (S 4) k (S 9 9, 0, S 9 11, S 9 12, 0, S 9 14)))
theorem kS_3 {S : Nat → Int → Int} : kS S 3 = cpy (kT S) (S 0) 0 (1664 * kM S) 1664 := by
  unfold kS
  rw [st9_j (by decide), sw_33]
theorem kS_94 {S : Nat → Int → Int} : kS S 9 4 = kM S + 1 := st_eq
theorem kS_j {S : Nat → Int → Int} {j : Nat} (h3 : j ≠ 3) (h9 : j ≠ 9) : kS S j = S j := by
  unfold kS
  rw [st9_j h9, sw_j h3]
theorem kS_9 {S : Nat → Int → Int} {k : Int} (h : k ≠ 4) : kS S 9 k = S 9 k := by
  unfold kS
  rw [st_k h, sw_39]
theorem fStms_w {t : Int → Int} {n : Int} : ∀ (m : Nat) (s : PS), TI n s.2 → (s.2.2.2.2.2.1 = 0 → RW s.1 0) → n - s.2.1 < m → TI n (fStms t n m s).2 ∧ ((fStms t n m s).2.2.2.2.2.1 = 0 → RW (fStms t n m s).1 0 ∧ (fStms t n m s).2.2.2.1 = 3) := by
  intro m
  induction m with
  | zero => intro s h w hm; have := h.1; omega
  | succ m ih =>
    intro s h w hm
    by_cases hc : s.2.2.2.2.2.1 = 0 ∧ ¬ s.2.2.2.1 = 3
    · have e : fStms t n (m + 1) s = fStms t n m (fStm t n s) := if_pos hc
      rw [e]
      have hr := w hc.1
      obtain ⟨a1, a2, a3⟩ := fStm_w (t := t) h (RW_WF hr)
      by_cases hz : (fStm t n s).2.2.2.2.2.1 = 0
      · have := a3 hz
        exact ih _ a1 (fun _ => fStm_RW h hr hz) (by omega)
      · have e2 : fStms t n m (fStm t n s) = fStm t n s := by
          cases m with
          | zero => rfl
          | succ m => exact if_neg fun q => hz q.1
        rw [e2]
        exact ⟨a1, fun q => absurd q hz⟩
    · have e : fStms t n (m + 1) s = s := if_neg hc
      rw [e]
      refine ⟨h, fun hz => ⟨w hz, ?_⟩⟩
      by_cases h3 : s.2.2.2.1 = 3
      · exact h3
      · exact absurd ⟨hz, h3⟩ hc
section MZP
variable {l : Launch} {X : XT} {o : Nat} {B A : AH} {S : Nat → Int → Int}
theorem c_X6_append (hl : l.stackTraces = false) (hb : 0 ≤ S 9 7 ∧ S 9 7 ≤ 400) {v1 v2 v3 v4 v5 : Int32} : Fn l X 0 M_X6_append [.ref o, .int v1, .int v2, .int v3, .int v4, .int v5] (mp X o B S) 0 0 (Ri (I (if S 9 7 + 20 ≤ 400 then S 9 7 + 20 else 0))) (mp X o B (if S 9 7 + 20 ≤ 400 then apS S (apB v1 v2 v3 v4 v5) 20 else st S 9 5 1)) := by
  refine Fn.of hl rfl rfl (Nat.le_of_ble_eq_true rfl) (k_X6_append_0 ?_)
  simp (disch := omega) only [I_n, I_neg, I_add, I_sub, I_mul, I_le4, I_lt4, I_eq4, I_div4, I_bi0, I_bi01, I_bi1, nor_em, rI_of, rV_of, zI_of, zV_of, nz_and, br_T, br_F, br_T2, br_F2, st_eq, st9_0, st_k, st_i, true_and, and_true, Classical.not_not, mp_isO, mp_gI4, mp_gI5, mp_gI7, mp_gI8, mp_gI9, mp_gI10, mp_gI11, mp_gI12, mp_gI13, mp_gI14, mp_gI15, mp_gI19, mp_gI20, mp_gI21, mp_gI23, mp_pI4, mp_pI5, mp_pI7, mp_pI8, mp_pI9, mp_pI10, mp_pI11, mp_pI12, mp_pI13, mp_pI14, mp_pI15, mp_pI19, mp_pI20, mp_pI21, mp_pI23, mp_gR0, mp_gR1, mp_gR2, mp_gR3, mp_gR6, mp_gR16, mp_gR17, mp_gR18, mp_gR22, mp_aI0, mp_aI1, mp_aI2, mp_aI3, mp_aI4, mp_aI5, mp_aI6, mp_aZ7, mp_aI8, mp_sI0, mp_sI1, mp_sI2, mp_sI3, mp_sI4, mp_sI5, mp_sI6, mp_sI8, mp_sZ0, mp_sZ1]
  refine ⟨fun h => k_X6_append_19 ?_, fun h => k_X6_append_19 ?_⟩
  · rw [if_pos h, if_pos h]
    simp (disch := omega) only [I_n, I_neg, I_add, I_sub, I_mul, I_le4, I_lt4, I_eq4, I_div4, I_bi0, I_bi01, I_bi1, nor_em, rI_of, rV_of, zI_of, zV_of, nz_and, br_T, br_F, br_T2, br_F2, st_eq, st9_0, st_k, st_i, true_and, and_true, Classical.not_not, mp_isO, mp_gI4, mp_gI5, mp_gI7, mp_gI8, mp_gI9, mp_gI10, mp_gI11, mp_gI12, mp_gI13, mp_gI14, mp_gI15, mp_gI19, mp_gI20, mp_gI21, mp_gI23, mp_pI4, mp_pI5, mp_pI7, mp_pI8, mp_pI9, mp_pI10, mp_pI11, mp_pI12, mp_pI13, mp_pI14, mp_pI15, mp_pI19, mp_pI20, mp_pI21, mp_pI23, mp_gR0, mp_gR1, mp_gR2, mp_gR3, mp_gR6, mp_gR16, mp_gR17, mp_gR18, mp_gR22, mp_aI0, mp_aI1, mp_aI2, mp_aI3, mp_aI4, mp_aI5, mp_aI6, mp_aZ7, mp_aI8, mp_sI0, mp_sI1, mp_sI2, mp_sI3, mp_sI4, mp_sI5, mp_sI6, mp_sI8, mp_sZ0, mp_sZ1]
    have e0 : mp X o B (st S 9 5 0) = mp X o B (apS S (apB v1 v2 v3 v4 v5) ((0 : Nat) : Int)) := by
      unfold apS
      rw [show ((0 : Nat) : Int) = 0 from rfl, cpy_z, Int.add_zero]
      congr 1
      funext a b
      unfold st sw
      by_cases h4 : a = 4
      · subst h4
        simp
      · simp [h4]
        intro h9 h7
        rw [if_neg (by omega), h9, h7]
    rw [e0]
    refine up_to (n := 20) (P := fun j => G l X M_X6_append 0 (fun o' A1 => o' = Ri (I (S 9 7 + 20)) ∧ A1 = mp X o B (apS S (apB v1 v2 v3 v4 v5) 20)) 34 [(0, .ref o), (1, .int v1), (2, .int v2), (3, .int v3), (4, .int v4), (5, .int v5), (6, .int (I j))] [] (mp X o B (apS S (apB v1 v2 v3 v4 v5) j)) 0 0) ?_ ?_
    · have e7 : apS S (apB v1 v2 v3 v4 v5) ((20 : Nat) : Int) 9 7 = S 9 7 + 20 := st_eq
      refine k_X6_append_34 ?_
      simp (disch := omega) only [I_n, I_neg, I_add, I_sub, I_mul, I_le4, I_lt4, I_eq4, I_div4, I_bi0, I_bi01, I_bi1, nor_em, rI_of, rV_of, zI_of, zV_of, nz_and, br_T, br_F, br_T2, br_F2, st_eq, st9_0, st_k, st_i, true_and, and_true, Classical.not_not, mp_isO, mp_gI4, mp_gI5, mp_gI7, mp_gI8, mp_gI9, mp_gI10, mp_gI11, mp_gI12, mp_gI13, mp_gI14, mp_gI15, mp_gI19, mp_gI20, mp_gI21, mp_gI23, mp_pI4, mp_pI5, mp_pI7, mp_pI8, mp_pI9, mp_pI10, mp_pI11, mp_pI12, mp_pI13, mp_pI14, mp_pI15, mp_pI19, mp_pI20, mp_pI21, mp_pI23, mp_gR0, mp_gR1, mp_gR2, mp_gR3, mp_gR6, mp_gR16, mp_gR17, mp_gR18, mp_gR22, mp_aI0, mp_aI1, mp_aI2, mp_aI3, mp_aI4, mp_aI5, mp_aI6, mp_aZ7, mp_aI8, mp_sI0, mp_sI1, mp_sI2, mp_sI3, mp_sI4, mp_sI5, mp_sI6, mp_sI8, mp_sZ0, mp_sZ1]
      rw [e7]
      exact ⟨rfl, rfl⟩
    · intro j hj ih
      have e7 : apS S (apB v1 v2 v3 v4 v5) j 9 7 = S 9 7 + j := st_eq
      have go : ∀ s0, s0 = apV v1 v2 v3 v4 v5 j → G l X M_X6_append 0 (fun o' A1 => o' = Ri (I (S 9 7 + 20)) ∧ A1 = mp X o B (apS S (apB v1 v2 v3 v4 v5) 20)) 87 [(0, .ref o), (1, .int v1), (2, .int v2), (3, .int v3), (4, .int v4), (5, .int v5), (6, .int (I j))] [.int s0] (mp X o B (apS S (apB v1 v2 v3 v4 v5) j)) 0 0 := by
        intro s0 hs
        refine k_X6_append_87 ?_
        simp (disch := omega) only [I_n, I_neg, I_add, I_sub, I_mul, I_le4, I_lt4, I_eq4, I_div4, I_bi0, I_bi01, I_bi1, nor_em, rI_of, rV_of, zI_of, zV_of, nz_and, br_T, br_F, br_T2, br_F2, st_eq, st9_0, st_k, st_i, true_and, and_true, Classical.not_not, mp_isO, mp_gI4, mp_gI5, mp_gI7, mp_gI8, mp_gI9, mp_gI10, mp_gI11, mp_gI12, mp_gI13, mp_gI14, mp_gI15, mp_gI19, mp_gI20, mp_gI21, mp_gI23, mp_pI4, mp_pI5, mp_pI7, mp_pI8, mp_pI9, mp_pI10, mp_pI11, mp_pI12, mp_pI13, mp_pI14, mp_pI15, mp_pI19, mp_pI20, mp_pI21, mp_pI23, mp_gR0, mp_gR1, mp_gR2, mp_gR3, mp_gR6, mp_gR16, mp_gR17, mp_gR18, mp_gR22, mp_aI0, mp_aI1, mp_aI2, mp_aI3, mp_aI4, mp_aI5, mp_aI6, mp_aZ7, mp_aI8, mp_sI0, mp_sI1, mp_sI2, mp_sI3, mp_sI4, mp_sI5, mp_sI6, mp_sI8, mp_sZ0, mp_sZ1]
        rw [gBy_s, e7]
        simp (disch := omega) only [I_n, I_neg, I_add, I_sub, I_mul, I_le4, I_lt4, I_eq4, I_div4, I_bi0, I_bi01, I_bi1, nor_em, rI_of, rV_of, zI_of, zV_of, nz_and, br_T, br_F, br_T2, br_F2, st_eq, st9_0, st_k, st_i, true_and, and_true, Classical.not_not, mp_isO, mp_gI4, mp_gI5, mp_gI7, mp_gI8, mp_gI9, mp_gI10, mp_gI11, mp_gI12, mp_gI13, mp_gI14, mp_gI15, mp_gI19, mp_gI20, mp_gI21, mp_gI23, mp_pI4, mp_pI5, mp_pI7, mp_pI8, mp_pI9, mp_pI10, mp_pI11, mp_pI12, mp_pI13, mp_pI14, mp_pI15, mp_pI19, mp_pI20, mp_pI21, mp_pI23, mp_gR0, mp_gR1, mp_gR2, mp_gR3, mp_gR6, mp_gR16, mp_gR17, mp_gR18, mp_gR22, mp_aI0, mp_aI1, mp_aI2, mp_aI3, mp_aI4, mp_aI5, mp_aI6, mp_aZ7, mp_aI8, mp_sI0, mp_sI1, mp_sI2, mp_sI3, mp_sI4, mp_sI5, mp_sI6, mp_sI8, mp_sZ0, mp_sZ1]
        rw [e7]
        have en : st (st (apS S (apB v1 v2 v3 v4 v5) j) 4 (S 9 7 + j) (gBy s0 (24 - 8 * (j - (j : Int) / 4 * 4)))) 9 7 (S 9 7 + j + 1) = apS S (apB v1 v2 v3 v4 v5) ((j + 1 : Nat) : Int) := by
          have c := cpy_s (r := S 4) (q := apB v1 v2 v3 v4 v5) (f := 0) (t := S 9 7) (n := j) (by omega)
          rw [Int.zero_add] at c
          have e1 : ((j + 1 : Nat) : Int) = (j : Int) + 1 := rfl
          rw [e1]
          unfold apS
          rw [← c, ← Int.add_assoc]
          have eb : apB v1 v2 v3 v4 v5 j = gBy s0 (24 - 8 * (j - (j : Int) / 4 * 4)) := by rw [hs]; rfl
          rw [eb]
          funext a b
          unfold st sw rs
          by_cases h4 : a = 4
          · subst h4
            simp
          · by_cases h9 : a = 9
            · subst h9
              simp
              by_cases h7 : b = 7
              · simp [h7]
              · simp [h7]
            · simp [h4, h9]
        rw [en]
        exact ih
      refine k_X6_append_34 ?_
      simp (disch := omega) only [I_n, I_neg, I_add, I_sub, I_mul, I_le4, I_lt4, I_eq4, I_div4, I_bi0, I_bi01, I_bi1, nor_em, rI_of, rV_of, zI_of, zV_of, nz_and, br_T, br_F, br_T2, br_F2, st_eq, st9_0, st_k, st_i, true_and, and_true, Classical.not_not, mp_isO, mp_gI4, mp_gI5, mp_gI7, mp_gI8, mp_gI9, mp_gI10, mp_gI11, mp_gI12, mp_gI13, mp_gI14, mp_gI15, mp_gI19, mp_gI20, mp_gI21, mp_gI23, mp_pI4, mp_pI5, mp_pI7, mp_pI8, mp_pI9, mp_pI10, mp_pI11, mp_pI12, mp_pI13, mp_pI14, mp_pI15, mp_pI19, mp_pI20, mp_pI21, mp_pI23, mp_gR0, mp_gR1, mp_gR2, mp_gR3, mp_gR6, mp_gR16, mp_gR17, mp_gR18, mp_gR22, mp_aI0, mp_aI1, mp_aI2, mp_aI3, mp_aI4, mp_aI5, mp_aI6, mp_aZ7, mp_aI8, mp_sI0, mp_sI1, mp_sI2, mp_sI3, mp_sI4, mp_sI5, mp_sI6, mp_sI8, mp_sZ0, mp_sZ1]
      refine ⟨fun a1 => ⟨fun a2 => ⟨fun a3 => ⟨fun a4 => ?_, fun a4 => ?_⟩, fun a3 => ?_⟩, fun a2 => ?_⟩, fun a1 => ?_⟩
      · exact go _ (by unfold apV; rw [if_pos a1, if_pos a2, if_pos a3, if_pos a4])
      · exact go _ (by unfold apV; rw [if_pos a1, if_pos a2, if_pos a3, if_neg a4])
      · exact go _ (by unfold apV; rw [if_pos a1, if_pos a2, if_neg a3])
      · exact go _ (by unfold apV; rw [if_pos a1, if_neg a2])
      · exact go _ (by unfold apV; rw [if_neg a1])
  · rw [if_neg h, if_neg h]
    simp (disch := omega) only [I_n, I_neg, I_add, I_sub, I_mul, I_le4, I_lt4, I_eq4, I_div4, I_bi0, I_bi01, I_bi1, nor_em, rI_of, rV_of, zI_of, zV_of, nz_and, br_T, br_F, br_T2, br_F2, st_eq, st9_0, st_k, st_i, true_and, and_true, Classical.not_not, mp_isO, mp_gI4, mp_gI5, mp_gI7, mp_gI8, mp_gI9, mp_gI10, mp_gI11, mp_gI12, mp_gI13, mp_gI14, mp_gI15, mp_gI19, mp_gI20, mp_gI21, mp_gI23, mp_pI4, mp_pI5, mp_pI7, mp_pI8, mp_pI9, mp_pI10, mp_pI11, mp_pI12, mp_pI13, mp_pI14, mp_pI15, mp_pI19, mp_pI20, mp_pI21, mp_pI23, mp_gR0, mp_gR1, mp_gR2, mp_gR3, mp_gR6, mp_gR16, mp_gR17, mp_gR18, mp_gR22, mp_aI0, mp_aI1, mp_aI2, mp_aI3, mp_aI4, mp_aI5, mp_aI6, mp_aZ7, mp_aI8, mp_sI0, mp_sI1, mp_sI2, mp_sI3, mp_sI4, mp_sI5, mp_sI6, mp_sI8, mp_sZ0, mp_sZ1]
    all_goals first | rfl | exact ⟨rfl, rfl⟩
end MZP
