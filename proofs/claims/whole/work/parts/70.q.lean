/-! the class: what an instruction asks, where the cells are known (laid by wip/whole/gen/mk70.py) -/
section TQ
variable {l : Launch} {X : XT} {t : Nat} {A : AH} {V : Nat → Int → Int} {a p : Nat} {f : Nat → Option Nat} {c : Option Nat} {D : Nat → Int → Int}
theorem TlA.g1 (h : TlA X A t V a f c) {K : Int32 → Prop} : gI A t 6 1 K ↔ K (I (V 2 1)) := gI_iff h.1 rfl
theorem TlA.g2 (h : TlA X A t V a f c) {K : Int32 → Prop} : gI A t 6 2 K ↔ K (I (V 2 2)) := gI_iff h.1 rfl
theorem TlA.g4 (h : TlA X A t V a f c) {K : Int32 → Prop} : gI A t 6 4 K ↔ K (I (V 2 4)) := gI_iff h.1 rfl
theorem TlA.g7 (h : TlA X A t V a f c) {K : Int32 → Prop} : gI A t 6 7 K ↔ K (I (V 2 7)) := gI_iff h.1 rfl
theorem TlA.g8 (h : TlA X A t V a f c) {K : Int32 → Prop} : gI A t 6 8 K ↔ K (I (V 2 8)) := gI_iff h.1 rfl
theorem TlA.r0 (h : TlA X A t V a f c) {K : Nat → Prop} : gR A t 6 0 K ↔ K (t + 1) := gR_iff h.1 rfl
theorem TlA.r3 (h : TlA X A t V a f c) {K : Nat → Prop} : gR A t 6 3 K ↔ K (t + 2) := gR_iff h.1 rfl
theorem TlA.r6 (h : TlA X A t V a f c) {K : Nat → Prop} : gR A t 6 6 K ↔ K (t + 3) := gR_iff h.1 rfl
theorem TlA.r5 (h : TlA X A t V a f c) {K : Nat → Prop} : gR A t 6 5 K ↔ K a := gR_iff h.1 rfl
theorem TlA.o (h : TlA X A t V a f c) : isO A t 6 ↔ True := ⟨fun _ => trivial, fun _ => ⟨_, h.1⟩⟩
theorem DlA.g5 (h : DlA X A a p D) {K : Int32 → Prop} : gI A a 2 5 K ↔ K (I (D 10 5)) := gI_iff h.1 rfl
theorem DlA.g6 (h : DlA X A a p D) {K : Int32 → Prop} : gI A a 2 6 K ↔ K (I (D 10 6)) := gI_iff h.1 rfl
theorem DlA.g7 (h : DlA X A a p D) {K : Int32 → Prop} : gI A a 2 7 K ↔ K (I (D 10 7)) := gI_iff h.1 rfl
theorem DlA.g8 (h : DlA X A a p D) {K : Int32 → Prop} : gI A a 2 8 K ↔ K (I (D 10 8)) := gI_iff h.1 rfl
theorem DlA.g9 (h : DlA X A a p D) {K : Int32 → Prop} : gI A a 2 9 K ↔ K (I (D 10 9)) := gI_iff h.1 rfl
theorem DlA.g10 (h : DlA X A a p D) {K : Int32 → Prop} : gI A a 2 10 K ↔ K (I (D 10 10)) := gI_iff h.1 rfl
theorem DlA.g14 (h : DlA X A a p D) {K : Int32 → Prop} : gI A a 2 14 K ↔ K (I (D 10 14)) := gI_iff h.1 rfl
theorem DlA.r0 (h : DlA X A a p D) {K : Nat → Prop} : gR A a 2 0 K ↔ K p := gR_iff h.1 rfl
theorem DlA.r1 (h : DlA X A a p D) {K : Nat → Prop} : gR A a 2 1 K ↔ K (a + 1) := gR_iff h.1 rfl
theorem DlA.r2 (h : DlA X A a p D) {K : Nat → Prop} : gR A a 2 2 K ↔ K (a + 2) := gR_iff h.1 rfl
theorem DlA.r3 (h : DlA X A a p D) {K : Nat → Prop} : gR A a 2 3 K ↔ K (a + 3) := gR_iff h.1 rfl
theorem DlA.r4 (h : DlA X A a p D) {K : Nat → Prop} : gR A a 2 4 K ↔ K (a + 4) := gR_iff h.1 rfl
theorem DlA.r11 (h : DlA X A a p D) {K : Nat → Prop} : gR A a 2 11 K ↔ K (a + 5) := gR_iff h.1 rfl
theorem DlA.r12 (h : DlA X A a p D) {K : Nat → Prop} : gR A a 2 12 K ↔ K (a + 6) := gR_iff h.1 rfl
theorem DlA.r13 (h : DlA X A a p D) {K : Nat → Prop} : gR A a 2 13 K ↔ K (a + 7) := gR_iff h.1 rfl
theorem DlA.r15 (h : DlA X A a p D) {K : Nat → Prop} : gR A a 2 15 K ↔ K (a + 8) := gR_iff h.1 rfl
theorem DlA.r16 (h : DlA X A a p D) {K : Nat → Prop} : gR A a 2 16 K ↔ K (a + 9) := gR_iff h.1 rfl
theorem DlA.gA3 (h : DlA X A a p D) {K : Int32 → Prop} : gI A (a + 9) 1 3 K ↔ K (I (D 11 3)) := gI_iff h.k9 rfl
theorem DlA.rA0 (h : DlA X A a p D) {K : Nat → Prop} : gR A (a + 9) 1 0 K ↔ K (a + 10) := gR_iff h.k9 rfl
theorem DlA.rA1 (h : DlA X A a p D) {K : Nat → Prop} : gR A (a + 9) 1 1 K ↔ K (a + 11) := gR_iff h.k9 rfl
theorem DlA.rA2 (h : DlA X A a p D) {K : Nat → Prop} : gR A (a + 9) 1 2 K ↔ K (a + 12) := gR_iff h.k9 rfl
theorem DlA.o (h : DlA X A a p D) : isO A a 2 ↔ True := ⟨fun _ => trivial, fun _ => ⟨_, h.1⟩⟩
theorem DlA.oA (h : DlA X A a p D) : isO A (a + 9) 1 ↔ True := ⟨fun _ => trivial, fun _ => ⟨_, h.k9⟩⟩
/-- a contract over the map of a Download, over any map that holds one -/
theorem qD {d mc ms : Nat} {M : MT} {args : List Value} {r : Ot} (hD : DlA X A a p D) (h : Fn l X d M args (dp X a p A D) mc ms r (dp X a p A D)) : Fn l X d M args A mc ms r A := by
  rw [dp_of hD] at h
  exact h
end TQ
/-- an answer: the value, or the first or the second exception -/
def RS (o' : Ot) (n : Int) (E1 E2 : String) (v : Ot) : Prop := (n = 0 ∧ o' = v) ∨ (n = 1 ∧ o' = Th E1) ∨ (n = 2 ∧ o' = Th E2)
/-- .. and nothing is changed -/
def QP (A : AH) (n : Int) (E1 E2 : String) (v : Ot) : Ot → AH → Prop := fun o' A' => RS o' n E1 E2 v ∧ A.1 ≤ A'.1 ∧ A'.2 = A.2
theorem QP_ok {A : AH} {n : Int} {E1 E2 : String} {v o' : Ot} (h : n = 0) (e : o' = v) : QP A n E1 E2 v o' A := ⟨Or.inl ⟨h, e⟩, Nat.le_refl _, rfl⟩
theorem QP_1 {A A' : AH} {n : Int} {E1 E2 : String} {v : Ot} (h : n = 1) (h1 : A.1 ≤ A'.1) (h2 : A'.2 = A.2) : QP A n E1 E2 v (Th E1) A' := ⟨Or.inr (Or.inl ⟨h, rfl⟩), h1, h2⟩
theorem QP_2 {A A' : AH} {n : Int} {E1 E2 : String} {v : Ot} (h : n = 2) (h1 : A.1 ≤ A'.1) (h2 : A'.2 = A.2) : QP A n E1 E2 v (Th E2) A' := ⟨Or.inr (Or.inr ⟨h, rfl⟩), h1, h2⟩
theorem tq_0 {a b : Prop} [Decidable a] [Decidable b] (h : a) (k : b) : tr2 a b = 0 := by
  unfold tr2
  rw [if_pos h, if_pos k]
theorem tq_1 {a b : Prop} [Decidable a] [Decidable b] (h : ¬ a) : tr2 a b = 1 := by
  unfold tr2
  rw [if_neg h]
theorem tq_2 {a b : Prop} [Decidable a] [Decidable b] (h : a) (k : ¬ b) : tr2 a b = 2 := by
  unfold tr2
  rw [if_pos h, if_neg k]
/-- a test, called -/
theorem cal_NE {l : Launch} {X : XT} {A : AH} {d bc bs : Nat} {M : MT} {args : List Value} {c : Prop} {E : String} {Q : Ot → AH → Prop} {K : AH → Nat → Nat → Prop} (h : Ct l X 0 M args A 1 6 (NE A c E)) (hd : 1 ≤ d) (hb : 1 ≤ bc) (hs : 6 ≤ bs) (ky : c → K A (bc - 1) (bs - 6)) (kn : ¬ c → ∀ A' : AH, A.1 ≤ A'.1 → A'.2 = A.2 → Q (Th E) A') :
    Cal l X d bc bs M args A (fun o' A1 b1 c1 => rV o' (fun E' => Q (.inr E') A1) (K A1 b1 c1)) := by
  refine Cal.of h hd hb hs ?_
  rintro o1 A1 (⟨h1, rfl, rfl⟩ | ⟨h1, rfl, h2, h3⟩)
  · rw [rV_of]
    exact ky h1
  · exact Or.inr ⟨_, rfl, kn h1 A1 h2 h3⟩
