/-! the class: the ring of earlier states, the whole state -/
/-- row i of the kept rows -/
def krow (S3 : Int → Int) (i : Int) : Int → Int := fun y => S3 (1664 * i + y)
/-- the ring: np the next place, n that can be undone, a what is now -/
def RG (X : XT) (A : AH) (w : Nat → Nat) (t a : Nat) (f : Nat → Option Nat) (np n : Int) (S3 : Int → Int) : Prop :=
  (0 ≤ np ∧ np < 8 ∧ 0 ≤ n ∧ n ≤ 8) ∧
  (∀ i, 0 ≤ i → i < n → ∃ b, f ((np - n + i) % 8).toNat = some b ∧ DAt X A w b (krow S3 i)) ∧
  (∀ k : Nat, k < 8 → ∀ b, f k = some b → DSh X A w b ∧ b ≠ a ∧ b ≠ t) ∧
  (∀ j k : Nat, j < 8 → k < 8 → ∀ b, f j = some b → f k = some b → j = k)
/-- the class's state against the reference's rows -/
def TAt (X : XT) (A : AH) (w : Nat → Nat) (t : Nat) (V : Nat → Int → Int) (a : Nat) (f : Nat → Option Nat) (c : Option Nat) (S : Nat → Int → Int) : Prop :=
  TlA X A t V a f c ∧ (t + 3 < A.1 ∧ ∀ b, t ≤ b → b ≤ t + 3 → w b = t + 1) ∧ (DAt X A w a (S 0) ∧ a ≠ t) ∧ (RG X A w t a f (V 2 7) (V 2 8) (S 3) ∧ V 2 8 = S 9 4) ∧
  (∀ b, c = some b → DSh X A w b ∧ b ≠ a ∧ b ≠ t ∧ ∀ k : Nat, k < 8 → f k ≠ some b) ∧
  V 2 2 = S 9 15 ∧ TY V (S 4) (S 9 7) ∧ V 2 4 = S 9 23 ∧ ∀ k, 0 ≤ k → k < S 9 23 → V 1 k = S 8 k
/-- what the reference's rows hold -/
def RI (S : Nat → Int → Int) (e : Int) : Prop := RW (S 0) e ∧ (0 ≤ S 9 4 ∧ S 9 4 ≤ 8) ∧ (∀ i, 0 ≤ i → i < S 9 4 → RW (krow (S 3) i) e) ∧ (0 ≤ S 9 7 ∧ S 9 7 ≤ 400) ∧ (∀ k, 0 ≤ k → k < 400 → 0 ≤ S 4 k ∧ S 4 k ≤ 255) ∧ (0 ≤ S 9 23 ∧ S 9 23 ≤ 60)
theorem kS_row {S : Nat → Int → Int} (h : 0 ≤ S 9 4 ∧ S 9 4 ≤ 8) : EQ (S 0) (krow (kS S 3) (kM S)) ∧ ∀ i, 0 ≤ i → i < kM S → EQ (krow (S 3) (if S 9 4 = 8 then i + 1 else i)) (krow (kS S 3) i) := by
  have e3 : kS S 3 = cpy (kT S) (S 0) 0 (1664 * kM S) 1664 := by
    unfold kS
    rw [st_row (by decide), sw_i]
  have hm : 0 ≤ kM S ∧ kM S ≤ 7 := by
    unfold kM
    split <;> omega
  refine ⟨fun y y0 y1 => ?_, fun i i0 i1 y y0 y1 => ?_⟩
  · unfold krow
    rw [e3]
    unfold cpy
    rw [if_pos (by omega)]
    exact congrArg (S 0) (by omega)
  · unfold krow
    rw [e3]
    unfold cpy
    rw [if_neg (by omega)]
    unfold kT
    by_cases h8 : S 9 4 = 8
    · rw [if_pos h8, if_pos h8]
      have hk : kM S = 7 := by unfold kM; rw [if_pos h8]
      unfold cpy
      rw [if_pos (by omega)]
      exact congrArg (S 3) (by omega)
    · rw [if_neg h8, if_neg h8]
theorem RG_push {X : XT} {A A' : AH} {w w' : Nat → Nat} {t a b : Nat} {f : Nat → Option Nat} {np : Int} {S : Nat → Int → Int} {e : Int} (h : RG X A w t a f np (S 9 4) (S 3)) (hb : f np.toNat = some b) (ri : RI S e) (c : Chg w w' (b + 1) A A') (hD : DAt X A' w' b (S 0)) : RG X A' w' t a f ((np + 1) % 8) (kS S 9 4) (kS S 3) := by
  obtain ⟨⟨n0, n1, n2, n3⟩, h1, h2, h3⟩ := h
  obtain ⟨w0, -, wk, -⟩ := ri
  have e94 : kS S 9 4 = kM S + 1 := by
    unfold kS
    exact st_eq
  obtain ⟨k1, k2⟩ := kS_row (S := S) ⟨n2, n3⟩
  have hm : kM S = if S 9 4 = 8 then 7 else S 9 4 := rfl
  have hm2 : 0 ≤ kM S ∧ kM S ≤ 7 := by
    rw [hm]
    split <;> omega
  have other : ∀ d k : Nat, k < 8 → f k = some d → k ≠ np.toNat → d ≠ b := fun d k k0 k1 k2 => by
    rintro rfl
    exact k2 (h3 k np.toNat k0 (by omega) d k1 hb)
  rw [e94]
  refine ⟨by omega, fun i i0 i1 => ?_, fun k k0 d kd => ?_, h3⟩
  · by_cases hi : i = kM S
    · refine ⟨b, ?_, ?_⟩
      · rw [hi, show (((np + 1) % 8 - (kM S + 1) + kM S) % 8).toNat = np.toNat by omega]
        exact hb
      · rw [hi]
        exact hD.eq w0 k1
    · have i2 : i < kM S := by omega
      have hj : 0 ≤ (if S 9 4 = 8 then i + 1 else i) ∧ (if S 9 4 = 8 then i + 1 else i) < S 9 4 := by
        rw [hm] at i2
        split at i2 <;> rename_i h8
        · rw [if_pos h8]; omega
        · rw [if_neg h8]; omega
      obtain ⟨d, d1, d2⟩ := h1 _ hj.1 hj.2
      have es : ((np - S 9 4 + (if S 9 4 = 8 then i + 1 else i)) % 8).toNat = (((np + 1) % 8 - (kM S + 1) + i) % 8).toNat := by
        rw [hm]
        by_cases h8 : S 9 4 = 8
        · rw [if_pos h8, if_pos h8]; omega
        · rw [if_neg h8, if_neg h8]; omega
      have ne : (((np + 1) % 8 - (kM S + 1) + i) % 8).toNat ≠ np.toNat := by
        rw [hm] at i2
        rw [hm]
        split at i2 <;> rename_i h8
        · rw [if_pos h8]; omega
        · rw [if_neg h8]; omega
      rw [es] at d1
      have db := other d _ (by omega) d1 ne
      exact ⟨d, d1, (d2.chg c (by omega) (by omega)).eq (wk _ hj.1 hj.2) (k2 i i0 i2)⟩
  · obtain ⟨x1, x2, x3⟩ := h2 k k0 d kd
    refine ⟨?_, x2, x3⟩
    by_cases hd : d = b
    · rw [hd]
      exact hD.sh
    · exact x1.chg c (by omega) (by omega)
