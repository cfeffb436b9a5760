/-! the law: its state, one call of the class and one of the reference -/
section LW
variable {l : Launch} {X : XT} {A A1 A' B B' : AH} {w w' w1 : Nat → Nat} {o t u : Nat} {S S' T : Nat → Int → Int} {e e' : Int} {n v : Int}
theorem mp_in {b : Nat} (h0 : o ≤ b) (h1 : b ≤ o + 9) : (mp X o B S).2 b = (mp X o B' S).2 b := by
  have : b = o ∨ b = o + 1 ∨ b = o + 2 ∨ b = o + 3 ∨ b = o + 4 ∨ b = o + 5 ∨ b = o + 6 ∨ b = o + 7 ∨ b = o + 8 ∨ b = o + 9 := by omega
  rcases this with rfl | rfl | rfl | rfl | rfl | rfl | rfl | rfl | rfl | rfl
  · rw [mp_o, mp_o]
  · rw [mp_c0, mp_c0]
  · rw [mp_c1, mp_c1]
  · rw [mp_c2, mp_c2]
  · rw [mp_c3, mp_c3]
  · rw [mp_c4, mp_c4]
  · rw [mp_c5, mp_c5]
  · rw [mp_c6, mp_c6]
  · rw [mp_c7, mp_c7]
  · rw [mp_c8, mp_c8]
theorem mp_self (h : mp X o A S = A) (k : ∀ b, o ≤ b → b ≤ o + 9 → A1.2 b = A.2 b) : mp X o A1 S = A1 := by
  refine Prod.ext rfl (funext fun b => ?_)
  by_cases hb : b < o ∨ o + 9 < b
  · exact mp_out hb
  · rw [k b (by omega) (by omega), mp_in (B' := A) (by omega) (by omega), h]
/-- what the law's loop keeps -/
def LWS (X : XT) (A : AH) (w : Nat → Nat) (o t u : Nat) (S : Nat → Int → Int) (e : Int) : Prop := (∃ V a f c, TAt X A w t V a f c S) ∧ RI S e ∧ mp X o A S = A ∧ OC X A o u w ∧ t ≠ o
theorem EQ.sy {r q : Int → Int} (h : EQ r q) : EQ q r := fun y y0 y1 => (h y y0 y1).symm
theorem LWS.next (h : LWS X A w o t u S e) (ht : ∃ V a f c, TAt X A1 w1 t V a f c T) (h1 : A.1 ≤ A1.1) (h2 : ∀ b, b < A.1 → w1 b = w b) (h3 : ∀ b, o ≤ b → b ≤ o + 9 → A1.2 b = A.2 b) (h4 : ∃ f0 : Nat → Int64, A1.2 u = some (la X 1 f0)) (cg : CG T S') (ri : RI S' e') : mp X o A1 S = A1 ∧ LWS X (mp X o A1 S') w1 o t u S' e' := by
  obtain ⟨-, -, hmp, ⟨⟨o1, o2⟩, ⟨u1, u2, u3, -⟩, -⟩, hto⟩ := h
  obtain ⟨f0, u4⟩ := h4
  obtain ⟨V, a, f, c, ht⟩ := ht
  have e1 := mp_self (A1 := A1) hmp h3
  have ho1 : A1.2 o = some (ob 7 (mfs o (S 9))) := by rw [← e1]; exact mp_o
  have ch : Chg w1 w1 (o + 1) A1 (mp X o A1 S') := ⟨Nat.le_refl _, fun _ _ => rfl, fun b b0 b1 => mp_out (by
    by_cases hb : o ≤ b ∧ b ≤ o + 9
    · exact absurd ((h2 b (by omega)).trans (o2 b hb.1 hb.2)) b1
    · omega)⟩
  obtain ⟨c1, c2, c3, c4, c5, c6, c7, c8⟩ := cg
  refine ⟨e1, ⟨V, a, f, c, (ht.chg ch (by omega) (by omega) (fun d hd k => hd.no ho1 (by omega))).cong (RW_EQ ri.1 c1.sy) c1 c2 c3 c4 c5 c6 c7 c8⟩, ri, mp_mp, ⟨⟨by show o + 9 < A1.1; omega, fun b b0 b1 => (h2 b (by omega)).trans (o2 b b0 b1)⟩, ⟨by show u < A1.1; omega, (h2 u u1).trans u2, u3, f0, (mp_out u3).trans u4⟩, _, mp_o⟩, hto⟩
theorem law_inner (hl : l.stackTraces = false) (hLS : LWS X A w o t u S e) {o4 : Ot} {M6 : MT} {a6 : List Value} {dR d b2 c3 : Nat} {Q : Ot → AH → Prop} {R : AH → Nat → Nat → Prop} (hq : LQ X A w o t u n (Int32.toInt64 (I v)) T o4 A1) (hR : REF l X o dR M6 a6 S n v T e') (hn : 0 ≤ n ∧ n ≤ 2) (hd : dR + 1 ≤ d) (hd1 : 1 ≤ d) (K : ∀ A' w' S', LWS X A' w' o t u S' e' → R A' b2 c3) :
    isO A1 o 7 ∧ Cal l X d b2 c3 M6 (.ref o :: a6) A1 (fun o9 A6 b7 c8 => rI o9 (fun E => Q (.inr E) A6) fun i10 => isO A6 o 7 ∧ Cal l X d b7 c8 M_X6_thrown [.ref o] A6 fun o14 A11 b12 c13 => rI o14 (fun E => Q (.inr E) A11) fun i15 => (i15 = I n → (¬ I n = 0 → R A11 b12 c13) ∧ (I n = 0 → aL X A11 u 0 fun i16 => (lg_cmp i16 (Int32.toInt64 i10) = 0 → R A11 b12 c13) ∧ (¬ lg_cmp i16 (Int32.toInt64 i10) = 0 → Q (Ri 0) A11))) ∧ (¬ i15 = I n → Q (Ri 0) A11)) := by
  obtain ⟨-, w1, ht, h1, h2, h3, f0, h4, h5⟩ := hq
  have e1 := mp_self (A1 := A1) hLS.2.2.1 h3
  have ho1 : A1.2 o = some (ob 7 (mfs o (S 9))) := by rw [← e1]; exact mp_o
  have hc := hR A1
  rw [e1] at hc
  refine ⟨⟨_, ho1⟩, Cal.of hc hd (Nat.zero_le _) (Nat.zero_le _) ?_⟩
  rintro o9 A6 ⟨⟨z, rfl, hz⟩, S', rfl, h6, cg, ri⟩
  obtain ⟨-, ls⟩ := hLS.next ht h1 h2 h3 ⟨f0, h4⟩ cg ri
  rw [rI_of]
  refine ⟨⟨_, mp_o⟩, (c_X6_thrown hl).cl0 (by omega) ?_⟩
  rw [rI_of, h6]
  have k := K _ _ _ ls
  refine ⟨fun _ => ⟨fun _ => k, fun q => ?_⟩, fun q => absurd rfl q⟩
  have hn0 : n = 0 := by
    rw [I_n 0, I_eq ⟨by omega, by omega⟩ ⟨by decide, by decide⟩] at q
    exact q
  have u4 := ls.2.2.2.1.2.1
  refine ⟨1, f0, (mp_out u4.2.2.1).trans h4, in_I (z := 0) (by decide) (by decide) (by decide), fun _ => k, fun q2 => ?_⟩
  have e2 : f0 (0 : Int32).toNatClampNeg = f0 0 := rfl
  rw [e2, h5 hn0, hz hn0] at q2
  exact absurd ((lg_cmp_eq _ _).mpr rfl) q2
theorem law_inner2 (hLS : LWS X A w o t u S e) {o4 : Ot} {E1 E2 : String} {M6 : MT} {a6 : List Value} {dR d b2 c3 : Nat} {Q : Ot → AH → Prop} {R : AH → Nat → Nat → Prop} (hq : LPP X A w o t 0 E1 E2 (Ri (I v)) T o4 A1) (hR : REF l X o dR M6 a6 S 0 v T e') (hd : dR + 1 ≤ d) (K : ∀ A' w' S', LWS X A' w' o t u S' e' → R A' b2 c3) :
    rI o4 (fun E => Q (.inr E) A1) fun i5 => isO A1 o 7 ∧ Cal l X d b2 c3 M6 (.ref o :: a6) A1 (fun o9 A6 b7 c8 => rI o9 (fun E => Q (.inr E) A6) fun i10 => (i5 = i10 → R A6 b7 c8) ∧ (¬ i5 = i10 → Q (Ri 0) A6)) := by
  obtain ⟨h0, w1, V', a', f', c', ht, f1, f2, f3⟩ := hq
  obtain ⟨⟨o1, o2⟩, ⟨u1, u2, u3, f0, u4⟩, -⟩ := hLS.2.2.2.1
  have h3 : ∀ b, o ≤ b → b ≤ o + 9 → A1.2 b = A.2 b := fun b b0 b1 => f3 b (by omega) (Or.inr (o2 b b0 b1))
  have e1 := mp_self (A1 := A1) hLS.2.2.1 h3
  have ho1 : A1.2 o = some (ob 7 (mfs o (S 9))) := by rw [← e1]; exact mp_o
  rcases h0 with ⟨-, rfl⟩ | ⟨q, -⟩ | ⟨q, -⟩
  · rw [rI_of]
    have hc := hR A1
    rw [e1] at hc
    refine ⟨⟨_, ho1⟩, Cal.of hc hd (Nat.zero_le _) (Nat.zero_le _) ?_⟩
    rintro o9 A6 ⟨⟨z, rfl, hz⟩, S', rfl, h6, cg, ri⟩
    obtain ⟨-, ls⟩ := hLS.next ⟨_, _, _, _, ht⟩ f1 f2 h3 ⟨f0, (f3 u u1 (Or.inr u2)).trans u4⟩ cg ri
    rw [rI_of]
    exact ⟨fun _ => K _ _ _ ls, fun q => absurd (hz rfl).symm q⟩
  · exact absurd q (by decide)
  · exact absurd q (by decide)
theorem tr2_b {a b : Prop} [Decidable a] [Decidable b] : 0 ≤ tr2 a b ∧ tr2 a b ≤ 2 := by
  unfold tr2
  split
  · split <;> decide
  · decide
theorem tCon_b {r : Int → Int} {s v : Int} : 0 ≤ tCon r s v ∧ tCon r s v ≤ 2 := by
  unfold tCon
  split
  · split <;> decide
  · decide
theorem if_b {a : Prop} [Decidable a] {x y : Int} (hx : 0 ≤ x ∧ x ≤ 1) (hy : 0 ≤ y ∧ y ≤ 1) : 0 ≤ (if a then x else y) ∧ (if a then x else y) ≤ 1 := by
  split
  · exact hx
  · exact hy
theorem b2 {x : Int} (h : 0 ≤ x ∧ x ≤ 1) : 0 ≤ x ∧ x ≤ 2 := ⟨h.1, by omega⟩
theorem n2 {x : Int} (h : 0 ≤ x ∧ x ≤ 1) : x ≠ 2 := by omega
end LW
