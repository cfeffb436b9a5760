/-! the class: copyFrom, owned -/
section DC
variable {l : Launch} {X : XT} {A : AH} {w : Nat → Nat} {a a2 : Nat} {r : Int → Int} {e : Int}
theorem OW.out {la b : Nat} (o : OW X A w a la) (h : w b ≠ a + 1) : (b < a ∨ a + 12 < b) ∧ (b ≠ la ∨ la = xE X) := by
  obtain ⟨a1, a2, a3, a4, a5, a6, a7⟩ := o
  refine ⟨?_, ?_⟩
  · by_cases hb : a ≤ b ∧ b ≤ a + 12
    · exact absurd (a2 b hb.1 hb.2) h
    · omega
  · rcases a3 with x | x
    · exact Or.inr x
    · refine Or.inl ?_
      rintro rfl
      exact h x
theorem c_copyD (hl : l.stackTraces = false) (hne : a ≠ a2) (h : DSh X A w a) (h2 : DAt X A w a2 r) (hw : RW r e) :
    Ct l X 4 M_X1_copyFrom [.ref a, .ref a2] A 4 40 (fun o' A' => o' = Rv ∧ ∃ w', DAt X A' w' a r ∧ Chg w w' (a + 1) A A') := by
  obtain ⟨p, D, la, n, g, m, hD, hL, hO⟩ := h
  obtain ⟨p2, E, P, la2, g2, m2, hE, hP, hR, hDR, hL2, hT, hO2, hOP⟩ := h2
  obtain ⟨u1, u2, u3, u4, u5, u6, u7⟩ := id hO
  obtain ⟨v1, v2, v3, v4, v5, v6, v7⟩ := id hO2
  have w9 := hw.2.2.2.1
  have w13 := hw.2.2.2.2.1
  have hd : a2 + 12 < a ∨ a + 12 < a2 := by
    by_cases hh : a2 + 12 < a ∨ a + 12 < a2
    · exact hh
    · by_cases hle : a ≤ a2
      · have x1 := u2 a2 hle (by omega)
        have x2 := v2 a2 (by omega) (by omega)
        omega
      · have x1 := u2 a (by omega) (by omega)
        have x2 := v2 a (by omega) (by omega)
        omega
  have wla2 : w la2 ≠ a + 1 := by
    rcases v3 with x | x
    · rw [x, v7]; omega
    · omega
  have wla : w la ≠ a2 + 1 := by
    rcases u3 with x | x
    · rw [x, u7]; omega
    · omega
  have hE14 : E 10 14 = 0 ∨ E 10 14 = 1 := by
    have := hDR.2.2.2.2.1.2.2.2.1
    omega
  have hPE : PE A (r 9) g2 := fun j hj => by
    obtain ⟨y, z, f, e1, ⟨e2, e3, e4, e5⟩, e6, e7, e8⟩ := hT j (by omega)
    exact ⟨y, _, e1, e2, e6⟩
  refine (c_X1_copyFrom hl hD hE hd u1 v1 hE14 hL hL2 u5 ?_ u4 (hO.out wla2).1 v4 (hO.out (by rw [u7]; omega)).1 u6 ?_ hPE ?_).mono ?_
  · exact (hO2.out wla).1
  · by_cases hh : la2 = la
    · refine Or.inr ?_
      rcases v3 with x | x
      · exact x
      · rcases u3 with y | y
        · rw [hh]; exact y
        · rw [hh] at x
          omega
    · exact Or.inl hh
  · intro j y hj hy
    obtain ⟨y', z, f, e1, ⟨e2, e3, e4, e5⟩, e6, e7, e8⟩ := hT j (by omega)
    rw [hy] at e1
    injection e1 with e1
    subst e1
    exact (hO.out (by rw [e3]; omega)).1
  · rintro o1 A' ⟨rfl, F, la', g', m', x1, x2, x3, x4, x5, x6, x7, x8⟩
    have wn : ∀ b, b < A.1 → (if b < A.1 then w b else if b = la' then a + 1 else 0) = w b := fun b hb => if_pos hb
    have ch : Chg w (fun b => if b < A.1 then w b else if b = la' then a + 1 else 0) (a + 1) A A' := ⟨x7, wn, fun b b0 b1 => x8 b b0 (hO.out b1).1 (hO.out b1).2⟩
    have chO : OW X A' (fun b => if b < A.1 then w b else if b = la' then a + 1 else 0) a la' := by
      refine ⟨by omega, fun b b0 b1 => (wn b (by omega)).trans (u2 b b0 b1), ?_, x6, by omega, by omega, (wn _ u6).trans u7⟩
      rcases x5 with y | y
      · rw [y]
        rcases u3 with z | z
        · exact Or.inl z
        · exact Or.inr ((if_pos u4).trans z)
      · refine Or.inr ?_
        show (if la' < A.1 then w la' else if la' = la' then a + 1 else 0) = a + 1
        rw [if_neg (by omega), if_pos rfl]
    refine ⟨rfl, _, ⟨p2, F, P, la', g', m', x1, ?_, hR, DR_AG hw.1 hDR x2, x3, ?_, chO, hOP.of x7 wn⟩, ch⟩
    · exact hP.of fun b b0 b1 => ch.2.2 b (by have := hOP.1; omega) (by rw [hOP.2 b b0 b1]; omega)
    · intro i hi
      obtain ⟨y, z, f, e1, e2⟩ := hT.of ch (by omega) i hi
      exact ⟨y, z, f, (x4 i (by omega)).trans e1, e2⟩
/-- a step of a Download whose list stays -/
theorem DAt_next {p : Nat} {D D' P : Nat → Int → Int} {la : Nat} {g : Nat → Option Nat} {m : Int32} {q : Int → Int} (hD : DlA X A a p D) (hP : PlanAt X A p P) (hL : LST X A (a + 8) la (r 9) g m) (hT : PT X A w g r) (hO : OW X A w a la) (hOP : OP A w p) (hR : PR P q) (hDR : DR D' q) (k9 : q 9 = r 9) (k0 : q 0 = r 0) (k6 : ∀ y, 696 ≤ y → q y = r y) :
    DAt X (dp X a p A D') w a q ∧ Chg w w (a + 1) A (dp X a p A D') := by
  have c : Chg w w (a + 1) A (dp X a p A D') := ⟨Nat.le_refl _, fun _ _ => rfl, fun b b0 b1 => dp_out (hO.out b1).1⟩
  refine ⟨⟨p, D', P, la, g, m, dp_dl, ?_, hR, hDR, ?_, ?_, hO.of (Nat.le_refl _) fun _ _ => rfl, hOP.of (Nat.le_refl _) fun _ _ => rfl⟩, c⟩
  · exact hP.of fun b b0 b1 => c.2.2 b (by have := hOP.1; omega) (by rw [hOP.2 b b0 b1]; omega)
  · rw [k9]
    have hE : w (xE X) ≠ a + 1 := by rw [hO.2.2.2.2.2.2]; omega
    exact hL.of dp_li (dp_out hO.2.2.2.2.1) (dp_out (hO.out hE).1)
  · intro i hi
    rw [k9] at hi
    rw [k6 _ (by omega), k6 (696 + 242 * (i : Int) + 1) (by omega)]
    obtain ⟨y, z, f, e1, e2, e3, e4, e5, e6⟩ := hT.of c (by omega) i hi
    refine ⟨y, z, f, e1, e2, e3, e4, fun k k0 k1 => ?_, by rw [k0]; exact e6⟩
    rw [k6 _ (by omega)]
    exact e5 k k0 k1
end DC
