/-! the reference's methods, as the law sees them: what they answer, the code of what they throw, what they leave -/
section RF
variable {l : Launch} {X : XT} {o : Nat} {A B : AH} {S S' T : Nat → Int → Int} {e e' : Int} {d : Nat} {M : MT} {args : List Value} {n v v' : Int} {q : Int → Int}
/-- rows that agree where the class looks -/
def CG (T S' : Nat → Int → Int) : Prop := EQ (T 0) (S' 0) ∧ S' 3 = T 3 ∧ S' 4 = T 4 ∧ S' 8 = T 8 ∧ S' 9 4 = T 9 4 ∧ S' 9 7 = T 9 7 ∧ S' 9 15 = T 9 15 ∧ S' 9 23 = T 9 23
theorem EQ_rf {r : Int → Int} : EQ r r := fun _ _ _ => rfl
theorem CG.rf : CG T T := ⟨EQ_rf, rfl, rfl, rfl, rfl, rfl, rfl, rfl⟩
theorem CG.tr {U : Nat → Int → Int} (h : CG T S') (k : CG S' U) : CG T U := by
  obtain ⟨a1, a2, a3, a4, a5, a6, a7, a8⟩ := h
  obtain ⟨b1, b2, b3, b4, b5, b6, b7, b8⟩ := k
  exact ⟨fun y y0 y1 => (b1 y y0 y1).trans (a1 y y0 y1), b2.trans a2, b3.trans a3, b4.trans a4, b5.trans a5, b6.trans a6, b7.trans a7, b8.trans a8⟩
theorem CG_5 : CG S (st S 9 5 v) := by
  have h : ∀ j : Nat, j ≠ 9 → st S 9 5 v j = S j := fun j hj => st_row hj
  have k : ∀ y : Int, y ≠ 5 → st S 9 5 v 9 y = S 9 y := fun y hy => st_k hy
  refine ⟨by rw [h 0 (by decide)]; exact EQ_rf, h 3 (by decide), h 4 (by decide), h 8 (by decide), k 4 (by decide), k 7 (by decide), k 15 (by decide), k 23 (by decide)⟩
theorem CG_se (h : SE T S') (h0 : EQ (T 0) (S' 0)) : CG T S' :=
  ⟨h0, h.1 3 (by omega), h.1 4 (by omega), h.1 8 (by omega), h.2 4 (by decide) (by decide) (by decide), h.2 7 (by decide) (by decide) (by decide), h.2 15 (by decide) (by decide) (by decide), h.2 23 (by decide) (by decide) (by decide)⟩
theorem kS5_3 : kS (st S 9 5 v) 3 = kS S 3 := by
  have e0 : st S 9 5 v 0 = S 0 := st_row (by decide)
  have e3 : st S 9 5 v 3 = S 3 := st_row (by decide)
  have e94 : st S 9 5 v 9 4 = S 9 4 := st_k (by decide)
  rw [kS_3, kS_3]
  unfold kT kM
  rw [e0, e3, e94]
theorem kS5_94 : kS (st S 9 5 v) 9 4 = kS S 9 4 := by
  have e94 : st S 9 5 v 9 4 = S 9 4 := st_k (by decide)
  rw [kS_94, kS_94]
  unfold kM
  rw [e94]
theorem CG_kS (h0 : EQ q (S' 0)) (h : SE (kS (st S 9 5 v)) S') : CG (sr (kS S) q) S' := by
  obtain ⟨h1, h2⟩ := h
  have s9 : ∀ y : Int, y ≠ 4 → y ≠ 5 → kS (st S 9 5 v) 9 y = kS S 9 y := fun y h4 h5 => by rw [kS_9 h4, kS_9 h4, st_k h5]
  refine ⟨h0, (h1 3 (by omega)).trans kS5_3, ?_, ?_, (h2 4 (by decide) (by decide) (by decide)).trans kS5_94, (h2 7 (by decide) (by decide) (by decide)).trans (s9 7 (by decide) (by decide)), (h2 15 (by decide) (by decide) (by decide)).trans (s9 15 (by decide) (by decide)), (h2 23 (by decide) (by decide) (by decide)).trans (s9 23 (by decide) (by decide))⟩
  · show S' 4 = kS S 4
    rw [h1 4 (by omega), kS_j (by decide) (by decide), kS_j (by decide) (by decide), st_row (by decide)]
  · show S' 8 = kS S 8
    rw [h1 8 (by omega), kS_j (by decide) (by decide), kS_j (by decide) (by decide), st_row (by decide)]
/-- a method of the reference -/
def REF (l : Launch) (X : XT) (o : Nat) (d : Nat) (M : MT) (args : List Value) (S : Nat → Int → Int) (n v : Int) (T : Nat → Int → Int) (e' : Int) : Prop :=
  ∀ B : AH, Ct l X d M (.ref o :: args) (mp X o B S) 0 0 (fun o' A2 => (∃ z : Int32, o' = Ri z ∧ (n = 0 → z = I v)) ∧ ∃ S', A2 = mp X o B S' ∧ S' 9 5 = n ∧ CG T S' ∧ RI S' e')
theorem RI.cg (h : RI T e) (k : CG T S') : RI S' e := by
  obtain ⟨a1, a2, a3, a4, a5, a6⟩ := h
  obtain ⟨b1, b2, b3, b4, b5, b6, b7, b8⟩ := k
  refine ⟨RW_EQ a1 b1, by rw [b5]; exact a2, fun i i0 i1 => ?_, by rw [b6]; exact a4, by rw [b3]; exact a5, by rw [b8]; exact a6⟩
  rw [b5] at i1
  rw [b2]
  exact a3 i i0 i1
theorem RI.up (h : RI S e) (he : e ≤ e') (he' : e' ≤ 2000000000) : RI S e' := by
  obtain ⟨a1, a2, a3, a4, a5, a6⟩ := h
  exact ⟨RW_e a1 he he', a2, fun i i0 i1 => RW_e (a3 i i0 i1) he he', a4, a5, a6⟩
theorem RI.row (h : RI T e) (w : RW q e) : RI (sr T q) e := ⟨w, h.2.1, h.2.2.1, h.2.2.2.1, h.2.2.2.2.1, h.2.2.2.2.2⟩
theorem REF.of (cg : CG T S') (ri : RI T e') (h5 : S' 9 5 = n) {z : Int32} (hz : n = 0 → z = I v) : (∃ z' : Int32, Ri z = Ri z' ∧ (n = 0 → z' = I v)) ∧ ∃ S'', mp X o B S' = mp X o B S'' ∧ S'' 9 5 = n ∧ CG T S'' ∧ RI S'' e' :=
  ⟨⟨z, rfl, hz⟩, S', rfl, h5, cg, ri.cg cg⟩
theorem REF.fn (ri : RI S e) (he : e ≤ e') (he' : e' ≤ 2000000000) (hv : n = 0 → v' = v) (h : ∀ B, Fn l X d M (.ref o :: args) (mp X o B S) 0 0 (Ri (I v')) (mp X o B (st S 9 5 n))) : REF l X o d M args S n v S e' := by
  intro B
  refine (h B).mono ?_
  rintro o1 A1 ⟨rfl, rfl⟩
  exact REF.of CG_5 (ri.up he he') st_eq (fun hn => by rw [hv hn])
theorem CG_mu : CG (sr (kS S) q) (sr (kS (st S 9 5 v)) q) := CG_kS (v := v) EQ_rf ⟨fun i hi => by
  rcases hi with rfl | rfl | rfl | rfl | rfl <;> rfl, fun j _ _ _ => rfl⟩
theorem REF.mu (ri : RI S e) (he : e ≤ e') (he' : e' ≤ 2000000000) (hv : n = 0 → v' = v) (wq : n = 0 → RW q e') (h : ∀ B, Fn l X d M (.ref o :: args) (mp X o B S) 0 0 (Ri (I v')) (mp X o B (if n = 0 then sr (kS (st S 9 5 0)) q else st S 9 5 n))) : REF l X o d M args S n v (if n = 0 then sr (kS S) q else S) e' := by
  intro B
  refine (h B).mono ?_
  rintro o1 A1 ⟨rfl, rfl⟩
  by_cases hn : n = 0
  · rw [if_pos hn, if_pos hn]
    refine REF.of CG_mu ((ri.keep.up he he').row (wq hn)) ?_ (fun hn => by rw [hv hn])
    show kS (st S 9 5 0) 9 5 = n
    rw [kS_9 (by decide), st_eq, hn]
  · rw [if_neg hn, if_neg hn]
    exact REF.of CG_5 (ri.up he he') st_eq (fun hn => by rw [hv hn])
theorem REF.se (ri : RI S e) (he : e ≤ e') (he' : e' ≤ 2000000000) (hv : n = 0 → v' = v) (wq : n = 0 → RW q e') (h : ∀ B, Ct l X d M (.ref o :: args) (mp X o B S) 0 0 (fun o' A1 => o' = Ri (I v') ∧ ∃ S', A1 = mp X o B S' ∧ S' 0 = (if n = 0 then q else S 0) ∧ SE (if n = 0 then kS (st S 9 5 0) else st S 9 5 n) S')) : REF l X o d M args S n v (if n = 0 then sr (kS S) q else S) e' := by
  intro B
  refine (h B).mono ?_
  rintro o1 A1 ⟨rfl, S', rfl, h0, h1⟩
  by_cases hn : n = 0
  · rw [if_pos hn] at h0 h1
    rw [if_pos hn]
    refine REF.of (CG_kS (by rw [h0]; exact EQ_rf) h1) ((ri.keep.up he he').row (wq hn)) ?_ (fun hn => by rw [hv hn])
    rw [h1.2 5 (by decide) (by decide) (by decide), kS_9 (by decide), st_eq, hn]
  · rw [if_neg hn] at h0 h1
    rw [if_neg hn]
    refine REF.of (CG_5.tr (CG_se h1 ?_)) (ri.up he he') ?_ (fun hn => by rw [hv hn])
    · rw [h0, st_row (by decide)]
      exact EQ_rf
    · rw [h1.2 5 (by decide) (by decide) (by decide), st_eq]
theorem tr2_v {a b : Prop} [Decidable a] [Decidable b] {x y : Int} (h : tr2 a b = 0) : (if a then if b then x else 0 else y) = x := by
  by_cases ha : a
  · by_cases hb : b
    · rw [if_pos ha, if_pos hb]
    · rw [tr2_2 ha hb] at h
      exact absurd h (by decide)
  · rw [tr2_1 ha] at h
    exact absurd h (by decide)
theorem bi_v {a : Prop} [Decidable a] {x y : Int} (h : bi (¬ a) = 0) : (if a then x else y) = x := by
  by_cases ha : a
  · rw [if_pos ha]
  · rw [bi_t ha] at h
    exact absurd h (by decide)
theorem tr2_z {a b : Prop} [Decidable a] [Decidable b] (h : tr2 a b = 0) : a ∧ b := by
  by_cases ha : a
  · by_cases hb : b
    · exact ⟨ha, hb⟩
    · rw [tr2_2 ha hb] at h
      exact absurd h (by decide)
  · rw [tr2_1 ha] at h
    exact absurd h (by decide)
end RF
