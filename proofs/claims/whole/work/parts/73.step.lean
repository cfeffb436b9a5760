/-! the class: steps of the whole state -/
section ST
variable {l : Launch} {X : XT} {A A' : AH} {w w' : Nat → Nat} {t a p : Nat} {V : Nat → Int → Int} {f : Nat → Option Nat} {c : Option Nat} {S T : Nat → Int → Int} {e : Int} {D D' P : Nat → Int → Int} {la : Nat} {g : Nat → Option Nat} {m : Int32} {q : Int → Int}
theorem OW.disj (h : OW X A w a la) (k : OP A w p) : p + 10 < a ∨ a + 12 < p := by
  obtain ⟨a1, a2, -⟩ := h
  obtain ⟨b1, b2⟩ := k
  by_cases h1 : p + 10 < a
  · exact Or.inl h1
  · by_cases h2 : a + 12 < p
    · exact Or.inr h2
    · by_cases h3 : a ≤ p
      · have x := a2 p h3 (by omega)
        have y := b2 p (by omega) (by omega)
        omega
      · have x := a2 a (by omega) (by omega)
        have y := b2 a (by omega) (by omega)
        omega
/-- what is now, changed -/
theorem TAt.now (h : TAt X A w t V a f c S) (k : Chg w w' (a + 1) A A') (hD : DAt X A' w' a q) : TAt X A' w' t V a f c (sr S q) := by
  obtain ⟨hT, hO, ⟨hN, hat⟩, ⟨⟨g0, g1, g2, g3⟩, hn⟩, hc, h15, h4, h23, h8⟩ := h
  refine ⟨hT.of fun y y0 y1 => k.2.2 y (by have := hO.1; omega) (by rw [hO.2 y y0 y1]; omega), ⟨by have := hO.1; have := k.1; omega, fun y y0 y1 => (k.2.1 y (by have := hO.1; omega)).trans (hO.2 y y0 y1)⟩, ⟨hD, hat⟩, ⟨⟨g0, fun i i0 i1 => ?_, fun j j0 b hb => ?_, g3⟩, hn⟩, fun b hb => ?_, h15, h4, h23, h8⟩
  · obtain ⟨b, b1, b2⟩ := g1 i i0 i1
    obtain ⟨-, x2, -⟩ := g2 _ (by omega) b b1
    exact ⟨b, b1, b2.chg k (by omega) (by omega)⟩
  · obtain ⟨x1, x2, x3⟩ := g2 j j0 b hb
    exact ⟨x1.chg k (by omega) (by omega), x2, x3⟩
  · obtain ⟨x1, x2, x3, x4⟩ := hc b hb
    exact ⟨x1.chg k (by omega) (by omega), x2, x3, x4⟩
/-- the same for rows that agree where the class looks -/
theorem TAt.cong (h : TAt X A w t V a f c S) (rw' : RW (S 0) e) (h0 : EQ (S 0) (T 0)) (h3 : T 3 = S 3) (h4 : T 4 = S 4) (h8 : T 8 = S 8) (k4 : T 9 4 = S 9 4) (k7 : T 9 7 = S 9 7) (k15 : T 9 15 = S 9 15) (k23 : T 9 23 = S 9 23) : TAt X A w t V a f c T := by
  obtain ⟨hT, hO, ⟨hN, hat⟩, ⟨hG, hn⟩, hc, x15, x4, x23, x8⟩ := h
  refine ⟨hT, hO, ⟨hN.eq rw' h0, hat⟩, ⟨?_, by rw [k4]; exact hn⟩, hc, by rw [k15]; exact x15, ?_, by rw [k23]; exact x23, ?_⟩
  · rw [h3]
    exact hG
  · rw [h4, k7]
    exact x4
  · rw [k23, h8]
    exact x8
theorem RI.cong {e' : Int} (h : RI S e) (he : e ≤ e') (he' : e' ≤ 2000000000) (w0 : RW (T 0) e') (h3 : T 3 = S 3) (h4 : T 4 = S 4) (k4 : T 9 4 = S 9 4) (k7 : 0 ≤ T 9 7 ∧ T 9 7 ≤ 400) (k23 : 0 ≤ T 9 23 ∧ T 9 23 ≤ 60) : RI T e' := by
  obtain ⟨a1, a2, a3, a4, a5, a6⟩ := h
  refine ⟨w0, by rw [k4]; exact a2, fun i i0 i1 => ?_, k7, by rw [h4]; exact a5, k23⟩
  rw [k4] at i1
  rw [h3]
  exact RW_e (a3 i i0 i1) he he'
/-- a row kept -/
theorem RI.keep (h : RI S e) : RI (kS S) e := by
  obtain ⟨a1, a2, a3, a4, a5, a6⟩ := h
  obtain ⟨k1, k2⟩ := kS_row (S := S) a2
  have hm : kM S = if S 9 4 = 8 then 7 else S 9 4 := rfl
  have hm2 : 0 ≤ kM S ∧ kM S ≤ 7 := by
    rw [hm]
    split <;> omega
  refine ⟨by rw [kS_0]; exact a1, by rw [kS_94]; omega, fun i i0 i1 => ?_, by rw [kS_9 (by decide)]; exact a4, by rw [kS_j (by decide) (by decide)]; exact a5, by rw [kS_9 (by decide)]; exact a6⟩
  rw [kS_94] at i1
  by_cases hi : i = kM S
  · rw [hi]
    exact RW_EQ a1 k1
  · have i2 : i < kM S := by omega
    refine RW_EQ (a3 (if S 9 4 = 8 then i + 1 else i) ?_ ?_) (k2 i i0 i2)
    · split <;> omega
    · rw [hm] at i2
      split at i2 <;> rename_i h8
      · rw [if_pos h8]; omega
      · rw [if_neg h8]; omega
/-- a step of the Download that is now -/
theorem TAt.down (h : TAt X A w t V a f c T) (rw' : RW (T 0) e) (hD : DlA X A a p D) (hP : PlanAt X A p P) (hL : LST X A (a + 8) la (T 0 9) g m) (hPT : PT X A w g (T 0)) (hO : OW X A w a la) (hOP : OP A w p) (hR : PR P (T 0)) (hk : ∀ y, kp y → q y = T 0 y) (hq : DR D' q) : TAt X (dp X a p A D') w t V a f c (sr T q) ∧ Chg w w (a + 1) A (dp X a p A D') := by
  have hcf : ∀ y, cf y → q y = T 0 y := fun y hy => hk y (by unfold cf at hy; unfold kp; omega)
  obtain ⟨x1, x2⟩ := DAt_next hD hP hL hPT hO hOP (PR_c rw' hcf hR) hq (hk 9 (by unfold kp; omega)) (hk 0 (by unfold kp; omega)) (fun y hy => hk y (by unfold kp; omega))
  exact ⟨h.now x2 x1, x2⟩
/-- an answer, and what it leaves -/
def MP (X : XT) (A : AH) (w : Nat → Nat) (o t : Nat) (S : Nat → Int → Int) (n : Int) (E1 E2 : String) (v : Ot) (S1 : Nat → Int → Int) : Ot → AH → Prop := fun o' A' => RS o' n E1 E2 v ∧ ∃ w' V' a' f' c', TAt X A' w' t V' a' f' c' (if n = 0 then S1 else S) ∧ Fr w w' o A A'
theorem MP_ok {o : Nat} {n : Int} {E1 E2 : String} {v o' : Ot} {S1 V' : Nat → Int → Int} {a' : Nat} {f' : Nat → Option Nat} {c' : Option Nat} (h : n = 0) (e1 : o' = v) (ht : TAt X A' w' t V' a' f' c' S1) (hf : Fr w w' o A A') : MP X A w o t S n E1 E2 v S1 o' A' :=
  ⟨Or.inl ⟨h, e1⟩, w', V', a', f', c', by rw [if_pos h]; exact ht, hf⟩
theorem TAt.same (h : TAt X A w t V a f c S) (h1 : A.1 ≤ A'.1) (h2 : A'.2 = A.2) : TAt X A' w t V a f c S :=
  h.chg (s := A.1 + 1 + t + 1) ⟨h1, fun _ _ => rfl, fun b _ _ => by rw [h2]⟩ (by omega) (by omega) (fun d hd => by have := hd.lt; omega)
theorem Fr.same {o : Nat} (h1 : A.1 ≤ A'.1) (h2 : A'.2 = A.2) : Fr w w o A A' := ⟨h1, fun _ _ => rfl, fun b _ _ => by rw [h2]⟩
theorem MP_1 {o : Nat} {n : Int} {E1 E2 : String} {v : Ot} {S1 : Nat → Int → Int} (ht : TAt X A w t V a f c S) (h : n = 1) (h1 : A.1 ≤ A'.1) (h2 : A'.2 = A.2) : MP X A w o t S n E1 E2 v S1 (Th E1) A' :=
  ⟨Or.inr (Or.inl ⟨h, rfl⟩), w, V, a, f, c, by rw [if_neg (by omega)]; exact ht.same h1 h2, Fr.same h1 h2⟩
theorem MP_2 {o : Nat} {n : Int} {E1 E2 : String} {v : Ot} {S1 : Nat → Int → Int} (ht : TAt X A w t V a f c S) (h : n = 2) (h1 : A.1 ≤ A'.1) (h2 : A'.2 = A.2) : MP X A w o t S n E1 E2 v S1 (Th E2) A' :=
  ⟨Or.inr (Or.inr ⟨h, rfl⟩), w, V, a, f, c, by rw [if_neg (by omega)]; exact ht.same h1 h2, Fr.same h1 h2⟩
/-- remember, called -/
theorem cal_rem (hl : l.stackTraces = false) {o : Nat} {fs : List Value} (h : TAt X A w t V a f c S) (ri : RI S e) (ho : A.2 o = some (ob 7 fs)) (hto : t ≠ o) (hol : o < A.1) {d bc bs : Nat} {Q : Ot → AH → Prop} {K : AH → Nat → Nat → Prop} (hd : 6 ≤ d) (hb : 17 ≤ bc) (hs : 790 ≤ bs) (k : ∀ A' w' V' f', TAt X A' w' t V' a f' c (kS S) → Fr w w' o A A' → K A' (bc - 17) (bs - 790)) :
    Cal l X d bc bs M_X5_remember [.ref t] A (fun o' A1 b1 c1 => rV o' (fun E' => Q (.inr E') A1) (K A1 b1 c1)) := by
  refine Cal.of (c_X5_remember hl h ri ho hto hol) hd hb hs ?_
  rintro o1 A1 ⟨rfl, w', V', f', x1, x2⟩
  rw [rV_of]
  exact k A1 w' V' f' x1 x2
theorem Fr.o {o : Nat} {v : va_E} (h : Fr w w' o A A') (ho : A.2 o = some v) (hw : w o = o + 1) (hol : o < A.1) : A'.2 o = some v := (h.2.2 o hol (Or.inr hw)).trans ho
theorem DAt.parts (h : DAt X A w a q) : ∃ (p : Nat) (D P : Nat → Int → Int) (la : Nat) (g : Nat → Option Nat) (m : Int32), DlA X A a p D ∧ PlanAt X A p P ∧ PR P q ∧ DR D q ∧ LST X A (a + 8) la (q 9) g m ∧ PT X A w g q ∧ OW X A w a la ∧ OP A w p ∧ (p + 10 < a ∨ a + 12 < p) := by
  obtain ⟨p, D, P, la, g, m, h1, h2, h3, h4, h5, h6, h7, h8⟩ := h
  exact ⟨p, D, P, la, g, m, h1, h2, h3, h4, h5, h6, h7, h8, h7.disj h8⟩
/-- a contract over the map of a Download, over any map that holds one -/
theorem qC {l : Launch} {d mc ms : Nat} {M : MT} {args : List Value} {Q : Ot → AH → Prop} (hD : DlA X A a p D) (h : Ct l X d M args (dp X a p A D) mc ms Q) : Ct l X d M args A mc ms Q := by
  rw [dp_of hD] at h
  exact h
end ST
