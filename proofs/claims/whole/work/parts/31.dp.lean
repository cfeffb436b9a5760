/-! the class: a Download as rows of numbers over a map, a Plan likewise (laid by wip/whole/gen/mk31.py) -/
def dfs (a p : Nat) (g : Int → Int) : List Value := [.ref p, .ref (a + 1), .ref (a + 2), .ref (a + 3), .ref (a + 4), .int (I (g 5)), .int (I (g 6)), .int (I (g 7)), .int (I (g 8)), .int (I (g 9)), .int (I (g 10)), .ref (a + 5), .ref (a + 6), .ref (a + 7), .int (I (g 14)), .ref (a + 8), .ref (a + 9)]
def afs (a : Nat) (g : Int → Int) : List Value := [.ref (a + 10), .ref (a + 11), .ref (a + 12), .int (I (g 3))]
def dp (X : XT) (a p : Nat) (B : AH) (D : Nat → Int → Int) : AH := (B.1, fun b => if b = a then some (ob 2 (dfs a p (D 10))) else if b = a + 1 then some (ia X 240 (fun k => I (D 0 k))) else if b = a + 2 then some (ia X 240 (fun k => I (D 1 k))) else if b = a + 3 then some (ia X 60 (fun k => I (D 2 k))) else if b = a + 4 then some (ia X 60 (fun k => I (D 3 k))) else if b = a + 5 then some (ia X 2 (fun k => I (D 4 k))) else if b = a + 6 then some (ia X 2 (fun k => I (D 5 k))) else if b = a + 7 then some (ia X 2 (fun k => I (D 6 k))) else if b = a + 9 then some (ob 1 (afs a (D 11))) else if b = a + 10 then some (ia X 40 (fun k => I (D 7 k))) else if b = a + 11 then some (ia X 40 (fun k => I (D 8 k))) else if b = a + 12 then some (ia X 40 (fun k => I (D 9 k))) else B.2 b)
section DP
variable {X : XT} {a p : Nat} {B : AH} {D : Nat → Int → Int}
theorem dp_1 : (dp X a p B D).1 = B.1 := rfl
theorem dp_k0 : (dp X a p B D).2 (a) = some (ob 2 (dfs a p (D 10))) := by simp [dp]
theorem dp_k1 : (dp X a p B D).2 (a + 1) = some (ia X 240 (fun k => I (D 0 k))) := by simp [dp]
theorem dp_k2 : (dp X a p B D).2 (a + 2) = some (ia X 240 (fun k => I (D 1 k))) := by simp [dp]
theorem dp_k3 : (dp X a p B D).2 (a + 3) = some (ia X 60 (fun k => I (D 2 k))) := by simp [dp]
theorem dp_k4 : (dp X a p B D).2 (a + 4) = some (ia X 60 (fun k => I (D 3 k))) := by simp [dp]
theorem dp_k5 : (dp X a p B D).2 (a + 5) = some (ia X 2 (fun k => I (D 4 k))) := by simp [dp]
theorem dp_k6 : (dp X a p B D).2 (a + 6) = some (ia X 2 (fun k => I (D 5 k))) := by simp [dp]
theorem dp_k7 : (dp X a p B D).2 (a + 7) = some (ia X 2 (fun k => I (D 6 k))) := by simp [dp]
theorem dp_k9 : (dp X a p B D).2 (a + 9) = some (ob 1 (afs a (D 11))) := by simp [dp]
theorem dp_k10 : (dp X a p B D).2 (a + 10) = some (ia X 40 (fun k => I (D 7 k))) := by simp [dp]
theorem dp_k11 : (dp X a p B D).2 (a + 11) = some (ia X 40 (fun k => I (D 8 k))) := by simp [dp]
theorem dp_k12 : (dp X a p B D).2 (a + 12) = some (ia X 40 (fun k => I (D 9 k))) := by simp [dp]
theorem dp_out {b : Nat} (h : b < a ∨ a + 12 < b) : (dp X a p B D).2 b = B.2 b := by
  unfold dp
  simp only []
  rw [if_neg (by omega), if_neg (by omega), if_neg (by omega), if_neg (by omega), if_neg (by omega), if_neg (by omega), if_neg (by omega), if_neg (by omega), if_neg (by omega), if_neg (by omega), if_neg (by omega), if_neg (by omega)]
theorem dp_li : (dp X a p B D).2 (a + 8) = B.2 (a + 8) := by
  unfold dp
  simp only []
  rw [if_neg (by omega), if_neg (by omega), if_neg (by omega), if_neg (by omega), if_neg (by omega), if_neg (by omega), if_neg (by omega), if_neg (by omega), if_neg (by omega), if_neg (by omega), if_neg (by omega), if_neg (by omega)]
theorem dp_set {k : Nat} {z : Int} (h : (dfs a p (D 10)).set k (.int (I z)) = dfs a p (st D 10 k z 10)) : up (dp X a p B D) a (ob 2 ((dfs a p (D 10)).set k (.int (I z)))) = dp X a p B (st D 10 k z) := by
  rw [h]
  refine Prod.ext rfl (funext fun b => ?_)
  by_cases hb : b = a
  · subst hb
    exact (if_pos rfl).trans dp_k0.symm
  · refine (if_neg hb).trans ?_
    unfold dp
    simp only [if_neg hb, st_row (show (0 : Nat) ≠ 10 by decide), st_row (show (1 : Nat) ≠ 10 by decide), st_row (show (2 : Nat) ≠ 10 by decide), st_row (show (3 : Nat) ≠ 10 by decide), st_row (show (4 : Nat) ≠ 10 by decide), st_row (show (5 : Nat) ≠ 10 by decide), st_row (show (6 : Nat) ≠ 10 by decide), st_row (show (7 : Nat) ≠ 10 by decide), st_row (show (8 : Nat) ≠ 10 by decide), st_row (show (9 : Nat) ≠ 10 by decide), st_row (show (11 : Nat) ≠ 10 by decide)]
theorem dp_gI5 {K : Int32 → Prop} : gI (dp X a p B D) a 2 5 K ↔ K (I (D 10 5)) := gI_iff dp_k0 rfl
theorem dp_pI5 {z : Int} {K : AH → Prop} : pV (dp X a p B D) a 2 5 (.int (I z)) K ↔ K (dp X a p B (st D 10 5 z)) := by
  rw [pV_iff dp_k0 (show 5 < (dfs a p (D 10)).length from (by decide : 5 < 17)), dp_set (k := 5) (by simp [dfs, st])]
  rfl
theorem dp_gI6 {K : Int32 → Prop} : gI (dp X a p B D) a 2 6 K ↔ K (I (D 10 6)) := gI_iff dp_k0 rfl
theorem dp_pI6 {z : Int} {K : AH → Prop} : pV (dp X a p B D) a 2 6 (.int (I z)) K ↔ K (dp X a p B (st D 10 6 z)) := by
  rw [pV_iff dp_k0 (show 6 < (dfs a p (D 10)).length from (by decide : 6 < 17)), dp_set (k := 6) (by simp [dfs, st])]
  rfl
theorem dp_gI7 {K : Int32 → Prop} : gI (dp X a p B D) a 2 7 K ↔ K (I (D 10 7)) := gI_iff dp_k0 rfl
theorem dp_pI7 {z : Int} {K : AH → Prop} : pV (dp X a p B D) a 2 7 (.int (I z)) K ↔ K (dp X a p B (st D 10 7 z)) := by
  rw [pV_iff dp_k0 (show 7 < (dfs a p (D 10)).length from (by decide : 7 < 17)), dp_set (k := 7) (by simp [dfs, st])]
  rfl
theorem dp_gI8 {K : Int32 → Prop} : gI (dp X a p B D) a 2 8 K ↔ K (I (D 10 8)) := gI_iff dp_k0 rfl
theorem dp_pI8 {z : Int} {K : AH → Prop} : pV (dp X a p B D) a 2 8 (.int (I z)) K ↔ K (dp X a p B (st D 10 8 z)) := by
  rw [pV_iff dp_k0 (show 8 < (dfs a p (D 10)).length from (by decide : 8 < 17)), dp_set (k := 8) (by simp [dfs, st])]
  rfl
theorem dp_gI9 {K : Int32 → Prop} : gI (dp X a p B D) a 2 9 K ↔ K (I (D 10 9)) := gI_iff dp_k0 rfl
theorem dp_pI9 {z : Int} {K : AH → Prop} : pV (dp X a p B D) a 2 9 (.int (I z)) K ↔ K (dp X a p B (st D 10 9 z)) := by
  rw [pV_iff dp_k0 (show 9 < (dfs a p (D 10)).length from (by decide : 9 < 17)), dp_set (k := 9) (by simp [dfs, st])]
  rfl
theorem dp_gI10 {K : Int32 → Prop} : gI (dp X a p B D) a 2 10 K ↔ K (I (D 10 10)) := gI_iff dp_k0 rfl
theorem dp_pI10 {z : Int} {K : AH → Prop} : pV (dp X a p B D) a 2 10 (.int (I z)) K ↔ K (dp X a p B (st D 10 10 z)) := by
  rw [pV_iff dp_k0 (show 10 < (dfs a p (D 10)).length from (by decide : 10 < 17)), dp_set (k := 10) (by simp [dfs, st])]
  rfl
theorem dp_gI14 {K : Int32 → Prop} : gI (dp X a p B D) a 2 14 K ↔ K (I (D 10 14)) := gI_iff dp_k0 rfl
theorem dp_pI14 {z : Int} {K : AH → Prop} : pV (dp X a p B D) a 2 14 (.int (I z)) K ↔ K (dp X a p B (st D 10 14 z)) := by
  rw [pV_iff dp_k0 (show 14 < (dfs a p (D 10)).length from (by decide : 14 < 17)), dp_set (k := 14) (by simp [dfs, st])]
  rfl
theorem dp_gR0 {K : Nat → Prop} : gR (dp X a p B D) a 2 0 K ↔ K p := gR_iff dp_k0 rfl
theorem dp_gR1 {K : Nat → Prop} : gR (dp X a p B D) a 2 1 K ↔ K (a + 1) := gR_iff dp_k0 rfl
theorem dp_gR2 {K : Nat → Prop} : gR (dp X a p B D) a 2 2 K ↔ K (a + 2) := gR_iff dp_k0 rfl
theorem dp_gR3 {K : Nat → Prop} : gR (dp X a p B D) a 2 3 K ↔ K (a + 3) := gR_iff dp_k0 rfl
theorem dp_gR4 {K : Nat → Prop} : gR (dp X a p B D) a 2 4 K ↔ K (a + 4) := gR_iff dp_k0 rfl
theorem dp_gR11 {K : Nat → Prop} : gR (dp X a p B D) a 2 11 K ↔ K (a + 5) := gR_iff dp_k0 rfl
theorem dp_gR12 {K : Nat → Prop} : gR (dp X a p B D) a 2 12 K ↔ K (a + 6) := gR_iff dp_k0 rfl
theorem dp_gR13 {K : Nat → Prop} : gR (dp X a p B D) a 2 13 K ↔ K (a + 7) := gR_iff dp_k0 rfl
theorem dp_gR15 {K : Nat → Prop} : gR (dp X a p B D) a 2 15 K ↔ K (a + 8) := gR_iff dp_k0 rfl
theorem dp_gR16 {K : Nat → Prop} : gR (dp X a p B D) a 2 16 K ↔ K (a + 9) := gR_iff dp_k0 rfl
theorem dp_pR0 {q : Nat} {K : AH → Prop} : pV (dp X a p B D) a 2 0 (.ref q) K ↔ K (dp X a q B D) := by
  rw [pV_iff dp_k0 (show 0 < (dfs a p (D 10)).length from (by decide : 0 < 17))]
  have e : up (dp X a p B D) a (ob 2 ((dfs a p (D 10)).set 0 (.ref q))) = dp X a q B D := by
    refine Prod.ext rfl (funext fun b => ?_)
    by_cases hb : b = a
    · subst hb
      exact (if_pos rfl).trans dp_k0.symm
    · refine (if_neg hb).trans ?_
      unfold dp
      simp only [if_neg hb]
  rw [e]
theorem dp_gA3 {K : Int32 → Prop} : gI (dp X a p B D) (a + 9) 1 3 K ↔ K (I (D 11 3)) := gI_iff dp_k9 rfl
theorem dp_pA3 {z : Int} {K : AH → Prop} : pV (dp X a p B D) (a + 9) 1 3 (.int (I z)) K ↔ K (dp X a p B (st D 11 3 z)) := by
  rw [pV_iff dp_k9 (show 3 < (afs a (D 11)).length from (by decide : 3 < 4))]
  have e : up (dp X a p B D) (a + 9) (ob 1 ((afs a (D 11)).set 3 (.int (I z)))) = dp X a p B (st D 11 3 z) := by
    have h : (afs a (D 11)).set 3 (.int (I z)) = afs a (st D 11 3 z 11) := by simp [afs, st]
    rw [h]
    refine Prod.ext rfl (funext fun b => ?_)
    by_cases hb : b = a + 9
    · subst hb
      exact (if_pos rfl).trans dp_k9.symm
    · refine (if_neg hb).trans ?_
      unfold dp
      simp only [if_neg hb, st_row (show (0 : Nat) ≠ 11 by decide), st_row (show (1 : Nat) ≠ 11 by decide), st_row (show (2 : Nat) ≠ 11 by decide), st_row (show (3 : Nat) ≠ 11 by decide), st_row (show (4 : Nat) ≠ 11 by decide), st_row (show (5 : Nat) ≠ 11 by decide), st_row (show (6 : Nat) ≠ 11 by decide), st_row (show (7 : Nat) ≠ 11 by decide), st_row (show (8 : Nat) ≠ 11 by decide), st_row (show (9 : Nat) ≠ 11 by decide), st_row (show (10 : Nat) ≠ 11 by decide)]
  rw [e]
theorem dp_gAR0 {K : Nat → Prop} : gR (dp X a p B D) (a + 9) 1 0 K ↔ K (a + 10) := gR_iff dp_k9 rfl
theorem dp_gAR1 {K : Nat → Prop} : gR (dp X a p B D) (a + 9) 1 1 K ↔ K (a + 11) := gR_iff dp_k9 rfl
theorem dp_gAR2 {K : Nat → Prop} : gR (dp X a p B D) (a + 9) 1 2 K ↔ K (a + 12) := gR_iff dp_k9 rfl
theorem dp_isO : isO (dp X a p B D) a 2 := ⟨_, dp_k0⟩
theorem dp_isA : isO (dp X a p B D) (a + 9) 1 := ⟨_, dp_k9⟩
theorem dp_u0 {z v : Int} (h0 : 0 ≤ z) (h1 : z < 240) : up (dp X a p B D) (a + 1) (ia X 240 (upd (fun k => I (D 0 k)) (I z).toNatClampNeg (I v))) = dp X a p B (st D 0 z v) := by
  rw [upd_st h0 (by omega)]
  refine Prod.ext rfl (funext fun b => ?_)
  by_cases hb : b = a + 1
  · subst hb
    exact (if_pos rfl).trans dp_k1.symm
  · refine (if_neg hb).trans ?_
    unfold dp
    simp only [if_neg hb, st_row (show (1 : Nat) ≠ 0 by decide), st_row (show (2 : Nat) ≠ 0 by decide), st_row (show (3 : Nat) ≠ 0 by decide), st_row (show (4 : Nat) ≠ 0 by decide), st_row (show (5 : Nat) ≠ 0 by decide), st_row (show (6 : Nat) ≠ 0 by decide), st_row (show (7 : Nat) ≠ 0 by decide), st_row (show (8 : Nat) ≠ 0 by decide), st_row (show (9 : Nat) ≠ 0 by decide), st_row (show (10 : Nat) ≠ 0 by decide), st_row (show (11 : Nat) ≠ 0 by decide)]
theorem dp_w0 {q : Int → Int} : up (dp X a p B D) (a + 1) (ia X 240 (fun k => I (q k))) = dp X a p B (sw D 0 q) := by
  refine Prod.ext rfl (funext fun b => ?_)
  by_cases hb : b = a + 1
  · subst hb
    refine (if_pos rfl).trans ?_
    rw [dp_k1, sw_i]
  · refine (if_neg hb).trans ?_
    unfold dp
    simp only [if_neg hb, sw_j (show (1 : Nat) ≠ 0 by decide), sw_j (show (2 : Nat) ≠ 0 by decide), sw_j (show (3 : Nat) ≠ 0 by decide), sw_j (show (4 : Nat) ≠ 0 by decide), sw_j (show (5 : Nat) ≠ 0 by decide), sw_j (show (6 : Nat) ≠ 0 by decide), sw_j (show (7 : Nat) ≠ 0 by decide), sw_j (show (8 : Nat) ≠ 0 by decide), sw_j (show (9 : Nat) ≠ 0 by decide), sw_j (show (10 : Nat) ≠ 0 by decide), sw_j (show (11 : Nat) ≠ 0 by decide)]
theorem dp_u1 {z v : Int} (h0 : 0 ≤ z) (h1 : z < 240) : up (dp X a p B D) (a + 2) (ia X 240 (upd (fun k => I (D 1 k)) (I z).toNatClampNeg (I v))) = dp X a p B (st D 1 z v) := by
  rw [upd_st h0 (by omega)]
  refine Prod.ext rfl (funext fun b => ?_)
  by_cases hb : b = a + 2
  · subst hb
    exact (if_pos rfl).trans dp_k2.symm
  · refine (if_neg hb).trans ?_
    unfold dp
    simp only [if_neg hb, st_row (show (0 : Nat) ≠ 1 by decide), st_row (show (2 : Nat) ≠ 1 by decide), st_row (show (3 : Nat) ≠ 1 by decide), st_row (show (4 : Nat) ≠ 1 by decide), st_row (show (5 : Nat) ≠ 1 by decide), st_row (show (6 : Nat) ≠ 1 by decide), st_row (show (7 : Nat) ≠ 1 by decide), st_row (show (8 : Nat) ≠ 1 by decide), st_row (show (9 : Nat) ≠ 1 by decide), st_row (show (10 : Nat) ≠ 1 by decide), st_row (show (11 : Nat) ≠ 1 by decide)]
theorem dp_w1 {q : Int → Int} : up (dp X a p B D) (a + 2) (ia X 240 (fun k => I (q k))) = dp X a p B (sw D 1 q) := by
  refine Prod.ext rfl (funext fun b => ?_)
  by_cases hb : b = a + 2
  · subst hb
    refine (if_pos rfl).trans ?_
    rw [dp_k2, sw_i]
  · refine (if_neg hb).trans ?_
    unfold dp
    simp only [if_neg hb, sw_j (show (0 : Nat) ≠ 1 by decide), sw_j (show (2 : Nat) ≠ 1 by decide), sw_j (show (3 : Nat) ≠ 1 by decide), sw_j (show (4 : Nat) ≠ 1 by decide), sw_j (show (5 : Nat) ≠ 1 by decide), sw_j (show (6 : Nat) ≠ 1 by decide), sw_j (show (7 : Nat) ≠ 1 by decide), sw_j (show (8 : Nat) ≠ 1 by decide), sw_j (show (9 : Nat) ≠ 1 by decide), sw_j (show (10 : Nat) ≠ 1 by decide), sw_j (show (11 : Nat) ≠ 1 by decide)]
theorem dp_u2 {z v : Int} (h0 : 0 ≤ z) (h1 : z < 60) : up (dp X a p B D) (a + 3) (ia X 60 (upd (fun k => I (D 2 k)) (I z).toNatClampNeg (I v))) = dp X a p B (st D 2 z v) := by
  rw [upd_st h0 (by omega)]
  refine Prod.ext rfl (funext fun b => ?_)
  by_cases hb : b = a + 3
  · subst hb
    exact (if_pos rfl).trans dp_k3.symm
  · refine (if_neg hb).trans ?_
    unfold dp
    simp only [if_neg hb, st_row (show (0 : Nat) ≠ 2 by decide), st_row (show (1 : Nat) ≠ 2 by decide), st_row (show (3 : Nat) ≠ 2 by decide), st_row (show (4 : Nat) ≠ 2 by decide), st_row (show (5 : Nat) ≠ 2 by decide), st_row (show (6 : Nat) ≠ 2 by decide), st_row (show (7 : Nat) ≠ 2 by decide), st_row (show (8 : Nat) ≠ 2 by decide), st_row (show (9 : Nat) ≠ 2 by decide), st_row (show (10 : Nat) ≠ 2 by decide), st_row (show (11 : Nat) ≠ 2 by decide)]
theorem dp_w2 {q : Int → Int} : up (dp X a p B D) (a + 3) (ia X 60 (fun k => I (q k))) = dp X a p B (sw D 2 q) := by
  refine Prod.ext rfl (funext fun b => ?_)
  by_cases hb : b = a + 3
  · subst hb
    refine (if_pos rfl).trans ?_
    rw [dp_k3, sw_i]
  · refine (if_neg hb).trans ?_
    unfold dp
    simp only [if_neg hb, sw_j (show (0 : Nat) ≠ 2 by decide), sw_j (show (1 : Nat) ≠ 2 by decide), sw_j (show (3 : Nat) ≠ 2 by decide), sw_j (show (4 : Nat) ≠ 2 by decide), sw_j (show (5 : Nat) ≠ 2 by decide), sw_j (show (6 : Nat) ≠ 2 by decide), sw_j (show (7 : Nat) ≠ 2 by decide), sw_j (show (8 : Nat) ≠ 2 by decide), sw_j (show (9 : Nat) ≠ 2 by decide), sw_j (show (10 : Nat) ≠ 2 by decide), sw_j (show (11 : Nat) ≠ 2 by decide)]
theorem dp_u3 {z v : Int} (h0 : 0 ≤ z) (h1 : z < 60) : up (dp X a p B D) (a + 4) (ia X 60 (upd (fun k => I (D 3 k)) (I z).toNatClampNeg (I v))) = dp X a p B (st D 3 z v) := by
  rw [upd_st h0 (by omega)]
  refine Prod.ext rfl (funext fun b => ?_)
  by_cases hb : b = a + 4
  · subst hb
    exact (if_pos rfl).trans dp_k4.symm
  · refine (if_neg hb).trans ?_
    unfold dp
    simp only [if_neg hb, st_row (show (0 : Nat) ≠ 3 by decide), st_row (show (1 : Nat) ≠ 3 by decide), st_row (show (2 : Nat) ≠ 3 by decide), st_row (show (4 : Nat) ≠ 3 by decide), st_row (show (5 : Nat) ≠ 3 by decide), st_row (show (6 : Nat) ≠ 3 by decide), st_row (show (7 : Nat) ≠ 3 by decide), st_row (show (8 : Nat) ≠ 3 by decide), st_row (show (9 : Nat) ≠ 3 by decide), st_row (show (10 : Nat) ≠ 3 by decide), st_row (show (11 : Nat) ≠ 3 by decide)]
theorem dp_w3 {q : Int → Int} : up (dp X a p B D) (a + 4) (ia X 60 (fun k => I (q k))) = dp X a p B (sw D 3 q) := by
  refine Prod.ext rfl (funext fun b => ?_)
  by_cases hb : b = a + 4
  · subst hb
    refine (if_pos rfl).trans ?_
    rw [dp_k4, sw_i]
  · refine (if_neg hb).trans ?_
    unfold dp
    simp only [if_neg hb, sw_j (show (0 : Nat) ≠ 3 by decide), sw_j (show (1 : Nat) ≠ 3 by decide), sw_j (show (2 : Nat) ≠ 3 by decide), sw_j (show (4 : Nat) ≠ 3 by decide), sw_j (show (5 : Nat) ≠ 3 by decide), sw_j (show (6 : Nat) ≠ 3 by decide), sw_j (show (7 : Nat) ≠ 3 by decide), sw_j (show (8 : Nat) ≠ 3 by decide), sw_j (show (9 : Nat) ≠ 3 by decide), sw_j (show (10 : Nat) ≠ 3 by decide), sw_j (show (11 : Nat) ≠ 3 by decide)]
theorem dp_u4 {z v : Int} (h0 : 0 ≤ z) (h1 : z < 2) : up (dp X a p B D) (a + 5) (ia X 2 (upd (fun k => I (D 4 k)) (I z).toNatClampNeg (I v))) = dp X a p B (st D 4 z v) := by
  rw [upd_st h0 (by omega)]
  refine Prod.ext rfl (funext fun b => ?_)
  by_cases hb : b = a + 5
  · subst hb
    exact (if_pos rfl).trans dp_k5.symm
  · refine (if_neg hb).trans ?_
    unfold dp
    simp only [if_neg hb, st_row (show (0 : Nat) ≠ 4 by decide), st_row (show (1 : Nat) ≠ 4 by decide), st_row (show (2 : Nat) ≠ 4 by decide), st_row (show (3 : Nat) ≠ 4 by decide), st_row (show (5 : Nat) ≠ 4 by decide), st_row (show (6 : Nat) ≠ 4 by decide), st_row (show (7 : Nat) ≠ 4 by decide), st_row (show (8 : Nat) ≠ 4 by decide), st_row (show (9 : Nat) ≠ 4 by decide), st_row (show (10 : Nat) ≠ 4 by decide), st_row (show (11 : Nat) ≠ 4 by decide)]
theorem dp_w4 {q : Int → Int} : up (dp X a p B D) (a + 5) (ia X 2 (fun k => I (q k))) = dp X a p B (sw D 4 q) := by
  refine Prod.ext rfl (funext fun b => ?_)
  by_cases hb : b = a + 5
  · subst hb
    refine (if_pos rfl).trans ?_
    rw [dp_k5, sw_i]
  · refine (if_neg hb).trans ?_
    unfold dp
    simp only [if_neg hb, sw_j (show (0 : Nat) ≠ 4 by decide), sw_j (show (1 : Nat) ≠ 4 by decide), sw_j (show (2 : Nat) ≠ 4 by decide), sw_j (show (3 : Nat) ≠ 4 by decide), sw_j (show (5 : Nat) ≠ 4 by decide), sw_j (show (6 : Nat) ≠ 4 by decide), sw_j (show (7 : Nat) ≠ 4 by decide), sw_j (show (8 : Nat) ≠ 4 by decide), sw_j (show (9 : Nat) ≠ 4 by decide), sw_j (show (10 : Nat) ≠ 4 by decide), sw_j (show (11 : Nat) ≠ 4 by decide)]
theorem dp_u5 {z v : Int} (h0 : 0 ≤ z) (h1 : z < 2) : up (dp X a p B D) (a + 6) (ia X 2 (upd (fun k => I (D 5 k)) (I z).toNatClampNeg (I v))) = dp X a p B (st D 5 z v) := by
  rw [upd_st h0 (by omega)]
  refine Prod.ext rfl (funext fun b => ?_)
  by_cases hb : b = a + 6
  · subst hb
    exact (if_pos rfl).trans dp_k6.symm
  · refine (if_neg hb).trans ?_
    unfold dp
    simp only [if_neg hb, st_row (show (0 : Nat) ≠ 5 by decide), st_row (show (1 : Nat) ≠ 5 by decide), st_row (show (2 : Nat) ≠ 5 by decide), st_row (show (3 : Nat) ≠ 5 by decide), st_row (show (4 : Nat) ≠ 5 by decide), st_row (show (6 : Nat) ≠ 5 by decide), st_row (show (7 : Nat) ≠ 5 by decide), st_row (show (8 : Nat) ≠ 5 by decide), st_row (show (9 : Nat) ≠ 5 by decide), st_row (show (10 : Nat) ≠ 5 by decide), st_row (show (11 : Nat) ≠ 5 by decide)]
theorem dp_w5 {q : Int → Int} : up (dp X a p B D) (a + 6) (ia X 2 (fun k => I (q k))) = dp X a p B (sw D 5 q) := by
  refine Prod.ext rfl (funext fun b => ?_)
  by_cases hb : b = a + 6
  · subst hb
    refine (if_pos rfl).trans ?_
    rw [dp_k6, sw_i]
  · refine (if_neg hb).trans ?_
    unfold dp
    simp only [if_neg hb, sw_j (show (0 : Nat) ≠ 5 by decide), sw_j (show (1 : Nat) ≠ 5 by decide), sw_j (show (2 : Nat) ≠ 5 by decide), sw_j (show (3 : Nat) ≠ 5 by decide), sw_j (show (4 : Nat) ≠ 5 by decide), sw_j (show (6 : Nat) ≠ 5 by decide), sw_j (show (7 : Nat) ≠ 5 by decide), sw_j (show (8 : Nat) ≠ 5 by decide), sw_j (show (9 : Nat) ≠ 5 by decide), sw_j (show (10 : Nat) ≠ 5 by decide), sw_j (show (11 : Nat) ≠ 5 by decide)]
theorem dp_u6 {z v : Int} (h0 : 0 ≤ z) (h1 : z < 2) : up (dp X a p B D) (a + 7) (ia X 2 (upd (fun k => I (D 6 k)) (I z).toNatClampNeg (I v))) = dp X a p B (st D 6 z v) := by
  rw [upd_st h0 (by omega)]
  refine Prod.ext rfl (funext fun b => ?_)
  by_cases hb : b = a + 7
  · subst hb
    exact (if_pos rfl).trans dp_k7.symm
  · refine (if_neg hb).trans ?_
    unfold dp
    simp only [if_neg hb, st_row (show (0 : Nat) ≠ 6 by decide), st_row (show (1 : Nat) ≠ 6 by decide), st_row (show (2 : Nat) ≠ 6 by decide), st_row (show (3 : Nat) ≠ 6 by decide), st_row (show (4 : Nat) ≠ 6 by decide), st_row (show (5 : Nat) ≠ 6 by decide), st_row (show (7 : Nat) ≠ 6 by decide), st_row (show (8 : Nat) ≠ 6 by decide), st_row (show (9 : Nat) ≠ 6 by decide), st_row (show (10 : Nat) ≠ 6 by decide), st_row (show (11 : Nat) ≠ 6 by decide)]
theorem dp_w6 {q : Int → Int} : up (dp X a p B D) (a + 7) (ia X 2 (fun k => I (q k))) = dp X a p B (sw D 6 q) := by
  refine Prod.ext rfl (funext fun b => ?_)
  by_cases hb : b = a + 7
  · subst hb
    refine (if_pos rfl).trans ?_
    rw [dp_k7, sw_i]
  · refine (if_neg hb).trans ?_
    unfold dp
    simp only [if_neg hb, sw_j (show (0 : Nat) ≠ 6 by decide), sw_j (show (1 : Nat) ≠ 6 by decide), sw_j (show (2 : Nat) ≠ 6 by decide), sw_j (show (3 : Nat) ≠ 6 by decide), sw_j (show (4 : Nat) ≠ 6 by decide), sw_j (show (5 : Nat) ≠ 6 by decide), sw_j (show (7 : Nat) ≠ 6 by decide), sw_j (show (8 : Nat) ≠ 6 by decide), sw_j (show (9 : Nat) ≠ 6 by decide), sw_j (show (10 : Nat) ≠ 6 by decide), sw_j (show (11 : Nat) ≠ 6 by decide)]
theorem dp_u7 {z v : Int} (h0 : 0 ≤ z) (h1 : z < 40) : up (dp X a p B D) (a + 10) (ia X 40 (upd (fun k => I (D 7 k)) (I z).toNatClampNeg (I v))) = dp X a p B (st D 7 z v) := by
  rw [upd_st h0 (by omega)]
  refine Prod.ext rfl (funext fun b => ?_)
  by_cases hb : b = a + 10
  · subst hb
    exact (if_pos rfl).trans dp_k10.symm
  · refine (if_neg hb).trans ?_
    unfold dp
    simp only [if_neg hb, st_row (show (0 : Nat) ≠ 7 by decide), st_row (show (1 : Nat) ≠ 7 by decide), st_row (show (2 : Nat) ≠ 7 by decide), st_row (show (3 : Nat) ≠ 7 by decide), st_row (show (4 : Nat) ≠ 7 by decide), st_row (show (5 : Nat) ≠ 7 by decide), st_row (show (6 : Nat) ≠ 7 by decide), st_row (show (8 : Nat) ≠ 7 by decide), st_row (show (9 : Nat) ≠ 7 by decide), st_row (show (10 : Nat) ≠ 7 by decide), st_row (show (11 : Nat) ≠ 7 by decide)]
theorem dp_w7 {q : Int → Int} : up (dp X a p B D) (a + 10) (ia X 40 (fun k => I (q k))) = dp X a p B (sw D 7 q) := by
  refine Prod.ext rfl (funext fun b => ?_)
  by_cases hb : b = a + 10
  · subst hb
    refine (if_pos rfl).trans ?_
    rw [dp_k10, sw_i]
  · refine (if_neg hb).trans ?_
    unfold dp
    simp only [if_neg hb, sw_j (show (0 : Nat) ≠ 7 by decide), sw_j (show (1 : Nat) ≠ 7 by decide), sw_j (show (2 : Nat) ≠ 7 by decide), sw_j (show (3 : Nat) ≠ 7 by decide), sw_j (show (4 : Nat) ≠ 7 by decide), sw_j (show (5 : Nat) ≠ 7 by decide), sw_j (show (6 : Nat) ≠ 7 by decide), sw_j (show (8 : Nat) ≠ 7 by decide), sw_j (show (9 : Nat) ≠ 7 by decide), sw_j (show (10 : Nat) ≠ 7 by decide), sw_j (show (11 : Nat) ≠ 7 by decide)]
theorem dp_u8 {z v : Int} (h0 : 0 ≤ z) (h1 : z < 40) : up (dp X a p B D) (a + 11) (ia X 40 (upd (fun k => I (D 8 k)) (I z).toNatClampNeg (I v))) = dp X a p B (st D 8 z v) := by
  rw [upd_st h0 (by omega)]
  refine Prod.ext rfl (funext fun b => ?_)
  by_cases hb : b = a + 11
  · subst hb
    exact (if_pos rfl).trans dp_k11.symm
  · refine (if_neg hb).trans ?_
    unfold dp
    simp only [if_neg hb, st_row (show (0 : Nat) ≠ 8 by decide), st_row (show (1 : Nat) ≠ 8 by decide), st_row (show (2 : Nat) ≠ 8 by decide), st_row (show (3 : Nat) ≠ 8 by decide), st_row (show (4 : Nat) ≠ 8 by decide), st_row (show (5 : Nat) ≠ 8 by decide), st_row (show (6 : Nat) ≠ 8 by decide), st_row (show (7 : Nat) ≠ 8 by decide), st_row (show (9 : Nat) ≠ 8 by decide), st_row (show (10 : Nat) ≠ 8 by decide), st_row (show (11 : Nat) ≠ 8 by decide)]
theorem dp_w8 {q : Int → Int} : up (dp X a p B D) (a + 11) (ia X 40 (fun k => I (q k))) = dp X a p B (sw D 8 q) := by
  refine Prod.ext rfl (funext fun b => ?_)
  by_cases hb : b = a + 11
  · subst hb
    refine (if_pos rfl).trans ?_
    rw [dp_k11, sw_i]
  · refine (if_neg hb).trans ?_
    unfold dp
    simp only [if_neg hb, sw_j (show (0 : Nat) ≠ 8 by decide), sw_j (show (1 : Nat) ≠ 8 by decide), sw_j (show (2 : Nat) ≠ 8 by decide), sw_j (show (3 : Nat) ≠ 8 by decide), sw_j (show (4 : Nat) ≠ 8 by decide), sw_j (show (5 : Nat) ≠ 8 by decide), sw_j (show (6 : Nat) ≠ 8 by decide), sw_j (show (7 : Nat) ≠ 8 by decide), sw_j (show (9 : Nat) ≠ 8 by decide), sw_j (show (10 : Nat) ≠ 8 by decide), sw_j (show (11 : Nat) ≠ 8 by decide)]
theorem dp_u9 {z v : Int} (h0 : 0 ≤ z) (h1 : z < 40) : up (dp X a p B D) (a + 12) (ia X 40 (upd (fun k => I (D 9 k)) (I z).toNatClampNeg (I v))) = dp X a p B (st D 9 z v) := by
  rw [upd_st h0 (by omega)]
  refine Prod.ext rfl (funext fun b => ?_)
  by_cases hb : b = a + 12
  · subst hb
    exact (if_pos rfl).trans dp_k12.symm
  · refine (if_neg hb).trans ?_
    unfold dp
    simp only [if_neg hb, st_row (show (0 : Nat) ≠ 9 by decide), st_row (show (1 : Nat) ≠ 9 by decide), st_row (show (2 : Nat) ≠ 9 by decide), st_row (show (3 : Nat) ≠ 9 by decide), st_row (show (4 : Nat) ≠ 9 by decide), st_row (show (5 : Nat) ≠ 9 by decide), st_row (show (6 : Nat) ≠ 9 by decide), st_row (show (7 : Nat) ≠ 9 by decide), st_row (show (8 : Nat) ≠ 9 by decide), st_row (show (10 : Nat) ≠ 9 by decide), st_row (show (11 : Nat) ≠ 9 by decide)]
theorem dp_w9 {q : Int → Int} : up (dp X a p B D) (a + 12) (ia X 40 (fun k => I (q k))) = dp X a p B (sw D 9 q) := by
  refine Prod.ext rfl (funext fun b => ?_)
  by_cases hb : b = a + 12
  · subst hb
    refine (if_pos rfl).trans ?_
    rw [dp_k12, sw_i]
  · refine (if_neg hb).trans ?_
    unfold dp
    simp only [if_neg hb, sw_j (show (0 : Nat) ≠ 9 by decide), sw_j (show (1 : Nat) ≠ 9 by decide), sw_j (show (2 : Nat) ≠ 9 by decide), sw_j (show (3 : Nat) ≠ 9 by decide), sw_j (show (4 : Nat) ≠ 9 by decide), sw_j (show (5 : Nat) ≠ 9 by decide), sw_j (show (6 : Nat) ≠ 9 by decide), sw_j (show (7 : Nat) ≠ 9 by decide), sw_j (show (8 : Nat) ≠ 9 by decide), sw_j (show (10 : Nat) ≠ 9 by decide), sw_j (show (11 : Nat) ≠ 9 by decide)]
end DP
def pfs (p : Nat) (g : Int → Int) : List Value := [.int (I (g 0)), .int (I (g 1)), .int (I (g 2)), .int (I (g 3)), .ref (p + 1), .ref (p + 2), .ref (p + 3), .ref (p + 4), .ref (p + 5), .ref (p + 6), .ref (p + 7), .ref (p + 8), .ref (p + 9), .int (I (g 13)), .ref (p + 10), .int (I (g 15))]
def pp (X : XT) (p : Nat) (B : AH) (P : Nat → Int → Int) : AH := (B.1, fun b => if b = p then some (ob 4 (pfs p (P 10))) else if b = p + 1 then some (ia X 240 (fun k => I (P 0 k))) else if b = p + 2 then some (ia X 240 (fun k => I (P 1 k))) else if b = p + 3 then some (ia X 60 (fun k => I (P 2 k))) else if b = p + 4 then some (ia X 61 (fun k => I (P 3 k))) else if b = p + 5 then some (ia X 61 (fun k => I (P 4 k))) else if b = p + 6 then some (ia X 241 (fun k => I (P 5 k))) else if b = p + 7 then some (ia X 240 (fun k => I (P 6 k))) else if b = p + 8 then some (ia X 240 (fun k => I (P 7 k))) else if b = p + 9 then some (ia X 36 (fun k => I (P 8 k))) else if b = p + 10 then some (ia X 16 (fun k => I (P 9 k))) else B.2 b)
/-- a Plan lies at p -/
def PlanAt (X : XT) (A : AH) (p : Nat) (P : Nat → Int → Int) : Prop := A.2 (p) = some (ob 4 (pfs p (P 10))) ∧ A.2 (p + 1) = some (ia X 240 (fun k => I (P 0 k))) ∧ A.2 (p + 2) = some (ia X 240 (fun k => I (P 1 k))) ∧ A.2 (p + 3) = some (ia X 60 (fun k => I (P 2 k))) ∧ A.2 (p + 4) = some (ia X 61 (fun k => I (P 3 k))) ∧ A.2 (p + 5) = some (ia X 61 (fun k => I (P 4 k))) ∧ A.2 (p + 6) = some (ia X 241 (fun k => I (P 5 k))) ∧ A.2 (p + 7) = some (ia X 240 (fun k => I (P 6 k))) ∧ A.2 (p + 8) = some (ia X 240 (fun k => I (P 7 k))) ∧ A.2 (p + 9) = some (ia X 36 (fun k => I (P 8 k))) ∧ A.2 (p + 10) = some (ia X 16 (fun k => I (P 9 k)))
section PP
variable {X : XT} {p : Nat} {A B : AH} {P : Nat → Int → Int}
theorem pp_k0 : (pp X p B P).2 (p) = some (ob 4 (pfs p (P 10))) := by simp [pp]
theorem pp_k1 : (pp X p B P).2 (p + 1) = some (ia X 240 (fun k => I (P 0 k))) := by simp [pp]
theorem pp_k2 : (pp X p B P).2 (p + 2) = some (ia X 240 (fun k => I (P 1 k))) := by simp [pp]
theorem pp_k3 : (pp X p B P).2 (p + 3) = some (ia X 60 (fun k => I (P 2 k))) := by simp [pp]
theorem pp_k4 : (pp X p B P).2 (p + 4) = some (ia X 61 (fun k => I (P 3 k))) := by simp [pp]
theorem pp_k5 : (pp X p B P).2 (p + 5) = some (ia X 61 (fun k => I (P 4 k))) := by simp [pp]
theorem pp_k6 : (pp X p B P).2 (p + 6) = some (ia X 241 (fun k => I (P 5 k))) := by simp [pp]
theorem pp_k7 : (pp X p B P).2 (p + 7) = some (ia X 240 (fun k => I (P 6 k))) := by simp [pp]
theorem pp_k8 : (pp X p B P).2 (p + 8) = some (ia X 240 (fun k => I (P 7 k))) := by simp [pp]
theorem pp_k9 : (pp X p B P).2 (p + 9) = some (ia X 36 (fun k => I (P 8 k))) := by simp [pp]
theorem pp_k10 : (pp X p B P).2 (p + 10) = some (ia X 16 (fun k => I (P 9 k))) := by simp [pp]
theorem pp_at : PlanAt X (pp X p B P) p P := ⟨pp_k0, pp_k1, pp_k2, pp_k3, pp_k4, pp_k5, pp_k6, pp_k7, pp_k8, pp_k9, pp_k10⟩
theorem pp_out {b : Nat} (h : b < p ∨ p + 10 < b) : (pp X p B P).2 b = B.2 b := by
  unfold pp
  simp only []
  rw [if_neg (by omega), if_neg (by omega), if_neg (by omega), if_neg (by omega), if_neg (by omega), if_neg (by omega), if_neg (by omega), if_neg (by omega), if_neg (by omega), if_neg (by omega), if_neg (by omega)]
theorem PlanAt.of {A' : AH} (h : PlanAt X A p P) (e : ∀ b, p ≤ b → b ≤ p + 10 → A'.2 b = A.2 b) : PlanAt X A' p P := by
  obtain ⟨h0, h1, h2, h3, h4, h5, h6, h7, h8, h9, h10⟩ := h
  exact ⟨(e _ (by omega) (by omega)).trans h0, (e _ (by omega) (by omega)).trans h1, (e _ (by omega) (by omega)).trans h2, (e _ (by omega) (by omega)).trans h3, (e _ (by omega) (by omega)).trans h4, (e _ (by omega) (by omega)).trans h5, (e _ (by omega) (by omega)).trans h6, (e _ (by omega) (by omega)).trans h7, (e _ (by omega) (by omega)).trans h8, (e _ (by omega) (by omega)).trans h9, (e _ (by omega) (by omega)).trans h10⟩
theorem PlanAt.g0 (h : PlanAt X A p P) {K : Int32 → Prop} : gI A p 4 0 K ↔ K (I (P 10 0)) := gI_iff h.1 rfl
theorem PlanAt.g1 (h : PlanAt X A p P) {K : Int32 → Prop} : gI A p 4 1 K ↔ K (I (P 10 1)) := gI_iff h.1 rfl
theorem PlanAt.g2 (h : PlanAt X A p P) {K : Int32 → Prop} : gI A p 4 2 K ↔ K (I (P 10 2)) := gI_iff h.1 rfl
theorem PlanAt.g3 (h : PlanAt X A p P) {K : Int32 → Prop} : gI A p 4 3 K ↔ K (I (P 10 3)) := gI_iff h.1 rfl
theorem PlanAt.g13 (h : PlanAt X A p P) {K : Int32 → Prop} : gI A p 4 13 K ↔ K (I (P 10 13)) := gI_iff h.1 rfl
theorem PlanAt.g15 (h : PlanAt X A p P) {K : Int32 → Prop} : gI A p 4 15 K ↔ K (I (P 10 15)) := gI_iff h.1 rfl
theorem PlanAt.r4 (h : PlanAt X A p P) {K : Nat → Prop} : gR A p 4 4 K ↔ K (p + 1) := gR_iff h.1 rfl
theorem PlanAt.r5 (h : PlanAt X A p P) {K : Nat → Prop} : gR A p 4 5 K ↔ K (p + 2) := gR_iff h.1 rfl
theorem PlanAt.r6 (h : PlanAt X A p P) {K : Nat → Prop} : gR A p 4 6 K ↔ K (p + 3) := gR_iff h.1 rfl
theorem PlanAt.r7 (h : PlanAt X A p P) {K : Nat → Prop} : gR A p 4 7 K ↔ K (p + 4) := gR_iff h.1 rfl
theorem PlanAt.r8 (h : PlanAt X A p P) {K : Nat → Prop} : gR A p 4 8 K ↔ K (p + 5) := gR_iff h.1 rfl
theorem PlanAt.r9 (h : PlanAt X A p P) {K : Nat → Prop} : gR A p 4 9 K ↔ K (p + 6) := gR_iff h.1 rfl
theorem PlanAt.r10 (h : PlanAt X A p P) {K : Nat → Prop} : gR A p 4 10 K ↔ K (p + 7) := gR_iff h.1 rfl
theorem PlanAt.r11 (h : PlanAt X A p P) {K : Nat → Prop} : gR A p 4 11 K ↔ K (p + 8) := gR_iff h.1 rfl
theorem PlanAt.r12 (h : PlanAt X A p P) {K : Nat → Prop} : gR A p 4 12 K ↔ K (p + 9) := gR_iff h.1 rfl
theorem PlanAt.r14 (h : PlanAt X A p P) {K : Nat → Prop} : gR A p 4 14 K ↔ K (p + 10) := gR_iff h.1 rfl
theorem PlanAt.isO (h : PlanAt X A p P) : isO A p 4 := ⟨_, h.1⟩
theorem PlanAt.c0 (h : PlanAt X A p P) : A.2 (p + 1) = some (ia X 240 (fun k => I (P 0 k))) := h.2.1
theorem PlanAt.c1 (h : PlanAt X A p P) : A.2 (p + 2) = some (ia X 240 (fun k => I (P 1 k))) := h.2.2.1
theorem PlanAt.c2 (h : PlanAt X A p P) : A.2 (p + 3) = some (ia X 60 (fun k => I (P 2 k))) := h.2.2.2.1
theorem PlanAt.c3 (h : PlanAt X A p P) : A.2 (p + 4) = some (ia X 61 (fun k => I (P 3 k))) := h.2.2.2.2.1
theorem PlanAt.c4 (h : PlanAt X A p P) : A.2 (p + 5) = some (ia X 61 (fun k => I (P 4 k))) := h.2.2.2.2.2.1
theorem PlanAt.c5 (h : PlanAt X A p P) : A.2 (p + 6) = some (ia X 241 (fun k => I (P 5 k))) := h.2.2.2.2.2.2.1
theorem PlanAt.c6 (h : PlanAt X A p P) : A.2 (p + 7) = some (ia X 240 (fun k => I (P 6 k))) := h.2.2.2.2.2.2.2.1
theorem PlanAt.c7 (h : PlanAt X A p P) : A.2 (p + 8) = some (ia X 240 (fun k => I (P 7 k))) := h.2.2.2.2.2.2.2.2.1
theorem PlanAt.c8 (h : PlanAt X A p P) : A.2 (p + 9) = some (ia X 36 (fun k => I (P 8 k))) := h.2.2.2.2.2.2.2.2.2.1
theorem PlanAt.c9 (h : PlanAt X A p P) : A.2 (p + 10) = some (ia X 16 (fun k => I (P 9 k))) := h.2.2.2.2.2.2.2.2.2.2
theorem pp_set {k : Nat} {z : Int} (h : (pfs p (P 10)).set k (.int (I z)) = pfs p (st P 10 k z 10)) : up (pp X p B P) p (ob 4 ((pfs p (P 10)).set k (.int (I z)))) = pp X p B (st P 10 k z) := by
  rw [h]
  refine Prod.ext rfl (funext fun b => ?_)
  by_cases hb : b = p
  · subst hb
    exact (if_pos rfl).trans pp_k0.symm
  · refine (if_neg hb).trans ?_
    unfold pp
    simp only [if_neg hb, st_row (show (0 : Nat) ≠ 10 by decide), st_row (show (1 : Nat) ≠ 10 by decide), st_row (show (2 : Nat) ≠ 10 by decide), st_row (show (3 : Nat) ≠ 10 by decide), st_row (show (4 : Nat) ≠ 10 by decide), st_row (show (5 : Nat) ≠ 10 by decide), st_row (show (6 : Nat) ≠ 10 by decide), st_row (show (7 : Nat) ≠ 10 by decide), st_row (show (8 : Nat) ≠ 10 by decide), st_row (show (9 : Nat) ≠ 10 by decide)]
theorem pp_gI0 {K : Int32 → Prop} : gI (pp X p B P) p 4 0 K ↔ K (I (P 10 0)) := gI_iff pp_k0 rfl
theorem pp_pI0 {z : Int} {K : AH → Prop} : pV (pp X p B P) p 4 0 (.int (I z)) K ↔ K (pp X p B (st P 10 0 z)) := by
  rw [pV_iff pp_k0 (show 0 < (pfs p (P 10)).length from (by decide : 0 < 16)), pp_set (k := 0) (by simp [pfs, st])]
  rfl
theorem pp_gI1 {K : Int32 → Prop} : gI (pp X p B P) p 4 1 K ↔ K (I (P 10 1)) := gI_iff pp_k0 rfl
theorem pp_pI1 {z : Int} {K : AH → Prop} : pV (pp X p B P) p 4 1 (.int (I z)) K ↔ K (pp X p B (st P 10 1 z)) := by
  rw [pV_iff pp_k0 (show 1 < (pfs p (P 10)).length from (by decide : 1 < 16)), pp_set (k := 1) (by simp [pfs, st])]
  rfl
theorem pp_gI2 {K : Int32 → Prop} : gI (pp X p B P) p 4 2 K ↔ K (I (P 10 2)) := gI_iff pp_k0 rfl
theorem pp_pI2 {z : Int} {K : AH → Prop} : pV (pp X p B P) p 4 2 (.int (I z)) K ↔ K (pp X p B (st P 10 2 z)) := by
  rw [pV_iff pp_k0 (show 2 < (pfs p (P 10)).length from (by decide : 2 < 16)), pp_set (k := 2) (by simp [pfs, st])]
  rfl
theorem pp_gI3 {K : Int32 → Prop} : gI (pp X p B P) p 4 3 K ↔ K (I (P 10 3)) := gI_iff pp_k0 rfl
theorem pp_pI3 {z : Int} {K : AH → Prop} : pV (pp X p B P) p 4 3 (.int (I z)) K ↔ K (pp X p B (st P 10 3 z)) := by
  rw [pV_iff pp_k0 (show 3 < (pfs p (P 10)).length from (by decide : 3 < 16)), pp_set (k := 3) (by simp [pfs, st])]
  rfl
theorem pp_gI13 {K : Int32 → Prop} : gI (pp X p B P) p 4 13 K ↔ K (I (P 10 13)) := gI_iff pp_k0 rfl
theorem pp_pI13 {z : Int} {K : AH → Prop} : pV (pp X p B P) p 4 13 (.int (I z)) K ↔ K (pp X p B (st P 10 13 z)) := by
  rw [pV_iff pp_k0 (show 13 < (pfs p (P 10)).length from (by decide : 13 < 16)), pp_set (k := 13) (by simp [pfs, st])]
  rfl
theorem pp_gI15 {K : Int32 → Prop} : gI (pp X p B P) p 4 15 K ↔ K (I (P 10 15)) := gI_iff pp_k0 rfl
theorem pp_pI15 {z : Int} {K : AH → Prop} : pV (pp X p B P) p 4 15 (.int (I z)) K ↔ K (pp X p B (st P 10 15 z)) := by
  rw [pV_iff pp_k0 (show 15 < (pfs p (P 10)).length from (by decide : 15 < 16)), pp_set (k := 15) (by simp [pfs, st])]
  rfl
theorem pp_gR4 {K : Nat → Prop} : gR (pp X p B P) p 4 4 K ↔ K (p + 1) := gR_iff pp_k0 rfl
theorem pp_gR5 {K : Nat → Prop} : gR (pp X p B P) p 4 5 K ↔ K (p + 2) := gR_iff pp_k0 rfl
theorem pp_gR6 {K : Nat → Prop} : gR (pp X p B P) p 4 6 K ↔ K (p + 3) := gR_iff pp_k0 rfl
theorem pp_gR7 {K : Nat → Prop} : gR (pp X p B P) p 4 7 K ↔ K (p + 4) := gR_iff pp_k0 rfl
theorem pp_gR8 {K : Nat → Prop} : gR (pp X p B P) p 4 8 K ↔ K (p + 5) := gR_iff pp_k0 rfl
theorem pp_gR9 {K : Nat → Prop} : gR (pp X p B P) p 4 9 K ↔ K (p + 6) := gR_iff pp_k0 rfl
theorem pp_gR10 {K : Nat → Prop} : gR (pp X p B P) p 4 10 K ↔ K (p + 7) := gR_iff pp_k0 rfl
theorem pp_gR11 {K : Nat → Prop} : gR (pp X p B P) p 4 11 K ↔ K (p + 8) := gR_iff pp_k0 rfl
theorem pp_gR12 {K : Nat → Prop} : gR (pp X p B P) p 4 12 K ↔ K (p + 9) := gR_iff pp_k0 rfl
theorem pp_gR14 {K : Nat → Prop} : gR (pp X p B P) p 4 14 K ↔ K (p + 10) := gR_iff pp_k0 rfl
theorem pp_isO : isO (pp X p B P) p 4 := ⟨_, pp_k0⟩
theorem pp_u0 {z v : Int} (h0 : 0 ≤ z) (h1 : z < 240) : up (pp X p B P) (p + 1) (ia X 240 (upd (fun k => I (P 0 k)) (I z).toNatClampNeg (I v))) = pp X p B (st P 0 z v) := by
  rw [upd_st h0 (by omega)]
  refine Prod.ext rfl (funext fun b => ?_)
  by_cases hb : b = p + 1
  · subst hb
    exact (if_pos rfl).trans pp_k1.symm
  · refine (if_neg hb).trans ?_
    unfold pp
    simp only [if_neg hb, st_row (show (1 : Nat) ≠ 0 by decide), st_row (show (2 : Nat) ≠ 0 by decide), st_row (show (3 : Nat) ≠ 0 by decide), st_row (show (4 : Nat) ≠ 0 by decide), st_row (show (5 : Nat) ≠ 0 by decide), st_row (show (6 : Nat) ≠ 0 by decide), st_row (show (7 : Nat) ≠ 0 by decide), st_row (show (8 : Nat) ≠ 0 by decide), st_row (show (9 : Nat) ≠ 0 by decide), st_row (show (10 : Nat) ≠ 0 by decide)]
theorem pp_u1 {z v : Int} (h0 : 0 ≤ z) (h1 : z < 240) : up (pp X p B P) (p + 2) (ia X 240 (upd (fun k => I (P 1 k)) (I z).toNatClampNeg (I v))) = pp X p B (st P 1 z v) := by
  rw [upd_st h0 (by omega)]
  refine Prod.ext rfl (funext fun b => ?_)
  by_cases hb : b = p + 2
  · subst hb
    exact (if_pos rfl).trans pp_k2.symm
  · refine (if_neg hb).trans ?_
    unfold pp
    simp only [if_neg hb, st_row (show (0 : Nat) ≠ 1 by decide), st_row (show (2 : Nat) ≠ 1 by decide), st_row (show (3 : Nat) ≠ 1 by decide), st_row (show (4 : Nat) ≠ 1 by decide), st_row (show (5 : Nat) ≠ 1 by decide), st_row (show (6 : Nat) ≠ 1 by decide), st_row (show (7 : Nat) ≠ 1 by decide), st_row (show (8 : Nat) ≠ 1 by decide), st_row (show (9 : Nat) ≠ 1 by decide), st_row (show (10 : Nat) ≠ 1 by decide)]
theorem pp_u2 {z v : Int} (h0 : 0 ≤ z) (h1 : z < 60) : up (pp X p B P) (p + 3) (ia X 60 (upd (fun k => I (P 2 k)) (I z).toNatClampNeg (I v))) = pp X p B (st P 2 z v) := by
  rw [upd_st h0 (by omega)]
  refine Prod.ext rfl (funext fun b => ?_)
  by_cases hb : b = p + 3
  · subst hb
    exact (if_pos rfl).trans pp_k3.symm
  · refine (if_neg hb).trans ?_
    unfold pp
    simp only [if_neg hb, st_row (show (0 : Nat) ≠ 2 by decide), st_row (show (1 : Nat) ≠ 2 by decide), st_row (show (3 : Nat) ≠ 2 by decide), st_row (show (4 : Nat) ≠ 2 by decide), st_row (show (5 : Nat) ≠ 2 by decide), st_row (show (6 : Nat) ≠ 2 by decide), st_row (show (7 : Nat) ≠ 2 by decide), st_row (show (8 : Nat) ≠ 2 by decide), st_row (show (9 : Nat) ≠ 2 by decide), st_row (show (10 : Nat) ≠ 2 by decide)]
theorem pp_u3 {z v : Int} (h0 : 0 ≤ z) (h1 : z < 61) : up (pp X p B P) (p + 4) (ia X 61 (upd (fun k => I (P 3 k)) (I z).toNatClampNeg (I v))) = pp X p B (st P 3 z v) := by
  rw [upd_st h0 (by omega)]
  refine Prod.ext rfl (funext fun b => ?_)
  by_cases hb : b = p + 4
  · subst hb
    exact (if_pos rfl).trans pp_k4.symm
  · refine (if_neg hb).trans ?_
    unfold pp
    simp only [if_neg hb, st_row (show (0 : Nat) ≠ 3 by decide), st_row (show (1 : Nat) ≠ 3 by decide), st_row (show (2 : Nat) ≠ 3 by decide), st_row (show (4 : Nat) ≠ 3 by decide), st_row (show (5 : Nat) ≠ 3 by decide), st_row (show (6 : Nat) ≠ 3 by decide), st_row (show (7 : Nat) ≠ 3 by decide), st_row (show (8 : Nat) ≠ 3 by decide), st_row (show (9 : Nat) ≠ 3 by decide), st_row (show (10 : Nat) ≠ 3 by decide)]
theorem pp_u4 {z v : Int} (h0 : 0 ≤ z) (h1 : z < 61) : up (pp X p B P) (p + 5) (ia X 61 (upd (fun k => I (P 4 k)) (I z).toNatClampNeg (I v))) = pp X p B (st P 4 z v) := by
  rw [upd_st h0 (by omega)]
  refine Prod.ext rfl (funext fun b => ?_)
  by_cases hb : b = p + 5
  · subst hb
    exact (if_pos rfl).trans pp_k5.symm
  · refine (if_neg hb).trans ?_
    unfold pp
    simp only [if_neg hb, st_row (show (0 : Nat) ≠ 4 by decide), st_row (show (1 : Nat) ≠ 4 by decide), st_row (show (2 : Nat) ≠ 4 by decide), st_row (show (3 : Nat) ≠ 4 by decide), st_row (show (5 : Nat) ≠ 4 by decide), st_row (show (6 : Nat) ≠ 4 by decide), st_row (show (7 : Nat) ≠ 4 by decide), st_row (show (8 : Nat) ≠ 4 by decide), st_row (show (9 : Nat) ≠ 4 by decide), st_row (show (10 : Nat) ≠ 4 by decide)]
theorem pp_u5 {z v : Int} (h0 : 0 ≤ z) (h1 : z < 241) : up (pp X p B P) (p + 6) (ia X 241 (upd (fun k => I (P 5 k)) (I z).toNatClampNeg (I v))) = pp X p B (st P 5 z v) := by
  rw [upd_st h0 (by omega)]
  refine Prod.ext rfl (funext fun b => ?_)
  by_cases hb : b = p + 6
  · subst hb
    exact (if_pos rfl).trans pp_k6.symm
  · refine (if_neg hb).trans ?_
    unfold pp
    simp only [if_neg hb, st_row (show (0 : Nat) ≠ 5 by decide), st_row (show (1 : Nat) ≠ 5 by decide), st_row (show (2 : Nat) ≠ 5 by decide), st_row (show (3 : Nat) ≠ 5 by decide), st_row (show (4 : Nat) ≠ 5 by decide), st_row (show (6 : Nat) ≠ 5 by decide), st_row (show (7 : Nat) ≠ 5 by decide), st_row (show (8 : Nat) ≠ 5 by decide), st_row (show (9 : Nat) ≠ 5 by decide), st_row (show (10 : Nat) ≠ 5 by decide)]
theorem pp_u6 {z v : Int} (h0 : 0 ≤ z) (h1 : z < 240) : up (pp X p B P) (p + 7) (ia X 240 (upd (fun k => I (P 6 k)) (I z).toNatClampNeg (I v))) = pp X p B (st P 6 z v) := by
  rw [upd_st h0 (by omega)]
  refine Prod.ext rfl (funext fun b => ?_)
  by_cases hb : b = p + 7
  · subst hb
    exact (if_pos rfl).trans pp_k7.symm
  · refine (if_neg hb).trans ?_
    unfold pp
    simp only [if_neg hb, st_row (show (0 : Nat) ≠ 6 by decide), st_row (show (1 : Nat) ≠ 6 by decide), st_row (show (2 : Nat) ≠ 6 by decide), st_row (show (3 : Nat) ≠ 6 by decide), st_row (show (4 : Nat) ≠ 6 by decide), st_row (show (5 : Nat) ≠ 6 by decide), st_row (show (7 : Nat) ≠ 6 by decide), st_row (show (8 : Nat) ≠ 6 by decide), st_row (show (9 : Nat) ≠ 6 by decide), st_row (show (10 : Nat) ≠ 6 by decide)]
theorem pp_u7 {z v : Int} (h0 : 0 ≤ z) (h1 : z < 240) : up (pp X p B P) (p + 8) (ia X 240 (upd (fun k => I (P 7 k)) (I z).toNatClampNeg (I v))) = pp X p B (st P 7 z v) := by
  rw [upd_st h0 (by omega)]
  refine Prod.ext rfl (funext fun b => ?_)
  by_cases hb : b = p + 8
  · subst hb
    exact (if_pos rfl).trans pp_k8.symm
  · refine (if_neg hb).trans ?_
    unfold pp
    simp only [if_neg hb, st_row (show (0 : Nat) ≠ 7 by decide), st_row (show (1 : Nat) ≠ 7 by decide), st_row (show (2 : Nat) ≠ 7 by decide), st_row (show (3 : Nat) ≠ 7 by decide), st_row (show (4 : Nat) ≠ 7 by decide), st_row (show (5 : Nat) ≠ 7 by decide), st_row (show (6 : Nat) ≠ 7 by decide), st_row (show (8 : Nat) ≠ 7 by decide), st_row (show (9 : Nat) ≠ 7 by decide), st_row (show (10 : Nat) ≠ 7 by decide)]
theorem pp_u8 {z v : Int} (h0 : 0 ≤ z) (h1 : z < 36) : up (pp X p B P) (p + 9) (ia X 36 (upd (fun k => I (P 8 k)) (I z).toNatClampNeg (I v))) = pp X p B (st P 8 z v) := by
  rw [upd_st h0 (by omega)]
  refine Prod.ext rfl (funext fun b => ?_)
  by_cases hb : b = p + 9
  · subst hb
    exact (if_pos rfl).trans pp_k9.symm
  · refine (if_neg hb).trans ?_
    unfold pp
    simp only [if_neg hb, st_row (show (0 : Nat) ≠ 8 by decide), st_row (show (1 : Nat) ≠ 8 by decide), st_row (show (2 : Nat) ≠ 8 by decide), st_row (show (3 : Nat) ≠ 8 by decide), st_row (show (4 : Nat) ≠ 8 by decide), st_row (show (5 : Nat) ≠ 8 by decide), st_row (show (6 : Nat) ≠ 8 by decide), st_row (show (7 : Nat) ≠ 8 by decide), st_row (show (9 : Nat) ≠ 8 by decide), st_row (show (10 : Nat) ≠ 8 by decide)]
theorem pp_u9 {z v : Int} (h0 : 0 ≤ z) (h1 : z < 16) : up (pp X p B P) (p + 10) (ia X 16 (upd (fun k => I (P 9 k)) (I z).toNatClampNeg (I v))) = pp X p B (st P 9 z v) := by
  rw [upd_st h0 (by omega)]
  refine Prod.ext rfl (funext fun b => ?_)
  by_cases hb : b = p + 10
  · subst hb
    exact (if_pos rfl).trans pp_k10.symm
  · refine (if_neg hb).trans ?_
    unfold pp
    simp only [if_neg hb, st_row (show (0 : Nat) ≠ 9 by decide), st_row (show (1 : Nat) ≠ 9 by decide), st_row (show (2 : Nat) ≠ 9 by decide), st_row (show (3 : Nat) ≠ 9 by decide), st_row (show (4 : Nat) ≠ 9 by decide), st_row (show (5 : Nat) ≠ 9 by decide), st_row (show (6 : Nat) ≠ 9 by decide), st_row (show (7 : Nat) ≠ 9 by decide), st_row (show (8 : Nat) ≠ 9 by decide), st_row (show (10 : Nat) ≠ 9 by decide)]
end PP
theorem rR_of {i : Nat} {T : String → Prop} {K : Nat → Prop} : rR (Ra i) T K ↔ K i := by
  constructor
  · rintro (⟨i', h1, h2⟩ | ⟨E, h1, h2⟩)
    · injection h1 with h1
      injection h1 with h1
      injection h1 with h1
      rw [h1]
      exact h2
    · cases h1
  · exact fun h => Or.inl ⟨i, rfl, h⟩
section AT
variable {l : Launch} {X : XT} {A : AH} {a n : Nat}
theorem c_at (hl : l.stackTraces = false) {g : Int → Int} (h : A.2 a = some (ia X n (fun k => I (g k)))) (hn : n ≤ 100000) {k : Int} (h0 : 0 ≤ k) (h1 : k < n) : Fn l X 0 M_X5_at [.ref a, .int (I k)] A 0 0 (Ri (I (g k))) A := by
  refine Fn.of hl rfl rfl (Nat.le_of_ble_eq_true rfl) (k_X5_at_0 ?_)
  rw [nI_iff h, aI_iff h (in_I h0 h1 (by omega)), ei_I h0 (by omega), I_ofNat]
  simp (disch := omega) only [I_n, I_le4, I_lt4, br_T, br_F, br_T2, br_F2]
  first | exact ⟨trivial, trivial⟩ | exact ⟨trivial, rfl⟩
theorem c_put (hl : l.stackTraces = false) {f : Nat → Int32} (h : A.2 a = some (ia X n f)) (hn : n ≤ 100000) {k : Int} (h0 : 0 ≤ k) (h1 : k < n) {v : Int32} : Fn l X 0 M_X5_put [.ref a, .int (I k), .int v] A 0 0 Rv (up A a (ia X n (upd f (I k).toNatClampNeg v))) := by
  refine Fn.of hl rfl rfl (Nat.le_of_ble_eq_true rfl) (k_X5_put_0 ?_)
  rw [nI_iff h, sI_iff h (in_I h0 h1 (by omega)), I_ofNat]
  simp (disch := omega) only [I_n, I_le4, I_lt4, br_T, br_F, br_T2, br_F2]
  first | exact ⟨trivial, trivial⟩ | exact ⟨trivial, rfl⟩
end AT
section ATD
variable {l : Launch} {X : XT} {a p : Nat} {B : AH} {D P : Nat → Int → Int}
theorem at_d0 (hl : l.stackTraces = false) {k : Int} (h0 : 0 ≤ k) (h1 : k < 240) : Fn l X 0 M_X5_at [.ref (a + 1), .int (I k)] (dp X a p B D) 0 0 (Ri (I (D 0 k))) (dp X a p B D) := c_at hl dp_k1 (by decide) h0 h1
theorem put_d0 (hl : l.stackTraces = false) {k v : Int} (h0 : 0 ≤ k) (h1 : k < 240) : Fn l X 0 M_X5_put [.ref (a + 1), .int (I k), .int (I v)] (dp X a p B D) 0 0 Rv (dp X a p B (st D 0 k v)) := by
  have h := c_put (l := l) hl (dp_k1 (X := X) (a := a) (p := p) (B := B) (D := D)) (by decide) h0 h1 (v := I v)
  rw [dp_u0 h0 h1] at h
  exact h
theorem at_d1 (hl : l.stackTraces = false) {k : Int} (h0 : 0 ≤ k) (h1 : k < 240) : Fn l X 0 M_X5_at [.ref (a + 2), .int (I k)] (dp X a p B D) 0 0 (Ri (I (D 1 k))) (dp X a p B D) := c_at hl dp_k2 (by decide) h0 h1
theorem put_d1 (hl : l.stackTraces = false) {k v : Int} (h0 : 0 ≤ k) (h1 : k < 240) : Fn l X 0 M_X5_put [.ref (a + 2), .int (I k), .int (I v)] (dp X a p B D) 0 0 Rv (dp X a p B (st D 1 k v)) := by
  have h := c_put (l := l) hl (dp_k2 (X := X) (a := a) (p := p) (B := B) (D := D)) (by decide) h0 h1 (v := I v)
  rw [dp_u1 h0 h1] at h
  exact h
theorem at_d2 (hl : l.stackTraces = false) {k : Int} (h0 : 0 ≤ k) (h1 : k < 60) : Fn l X 0 M_X5_at [.ref (a + 3), .int (I k)] (dp X a p B D) 0 0 (Ri (I (D 2 k))) (dp X a p B D) := c_at hl dp_k3 (by decide) h0 h1
theorem put_d2 (hl : l.stackTraces = false) {k v : Int} (h0 : 0 ≤ k) (h1 : k < 60) : Fn l X 0 M_X5_put [.ref (a + 3), .int (I k), .int (I v)] (dp X a p B D) 0 0 Rv (dp X a p B (st D 2 k v)) := by
  have h := c_put (l := l) hl (dp_k3 (X := X) (a := a) (p := p) (B := B) (D := D)) (by decide) h0 h1 (v := I v)
  rw [dp_u2 h0 h1] at h
  exact h
theorem at_d3 (hl : l.stackTraces = false) {k : Int} (h0 : 0 ≤ k) (h1 : k < 60) : Fn l X 0 M_X5_at [.ref (a + 4), .int (I k)] (dp X a p B D) 0 0 (Ri (I (D 3 k))) (dp X a p B D) := c_at hl dp_k4 (by decide) h0 h1
theorem put_d3 (hl : l.stackTraces = false) {k v : Int} (h0 : 0 ≤ k) (h1 : k < 60) : Fn l X 0 M_X5_put [.ref (a + 4), .int (I k), .int (I v)] (dp X a p B D) 0 0 Rv (dp X a p B (st D 3 k v)) := by
  have h := c_put (l := l) hl (dp_k4 (X := X) (a := a) (p := p) (B := B) (D := D)) (by decide) h0 h1 (v := I v)
  rw [dp_u3 h0 h1] at h
  exact h
theorem at_d4 (hl : l.stackTraces = false) {k : Int} (h0 : 0 ≤ k) (h1 : k < 2) : Fn l X 0 M_X5_at [.ref (a + 5), .int (I k)] (dp X a p B D) 0 0 (Ri (I (D 4 k))) (dp X a p B D) := c_at hl dp_k5 (by decide) h0 h1
theorem put_d4 (hl : l.stackTraces = false) {k v : Int} (h0 : 0 ≤ k) (h1 : k < 2) : Fn l X 0 M_X5_put [.ref (a + 5), .int (I k), .int (I v)] (dp X a p B D) 0 0 Rv (dp X a p B (st D 4 k v)) := by
  have h := c_put (l := l) hl (dp_k5 (X := X) (a := a) (p := p) (B := B) (D := D)) (by decide) h0 h1 (v := I v)
  rw [dp_u4 h0 h1] at h
  exact h
theorem at_d5 (hl : l.stackTraces = false) {k : Int} (h0 : 0 ≤ k) (h1 : k < 2) : Fn l X 0 M_X5_at [.ref (a + 6), .int (I k)] (dp X a p B D) 0 0 (Ri (I (D 5 k))) (dp X a p B D) := c_at hl dp_k6 (by decide) h0 h1
theorem put_d5 (hl : l.stackTraces = false) {k v : Int} (h0 : 0 ≤ k) (h1 : k < 2) : Fn l X 0 M_X5_put [.ref (a + 6), .int (I k), .int (I v)] (dp X a p B D) 0 0 Rv (dp X a p B (st D 5 k v)) := by
  have h := c_put (l := l) hl (dp_k6 (X := X) (a := a) (p := p) (B := B) (D := D)) (by decide) h0 h1 (v := I v)
  rw [dp_u5 h0 h1] at h
  exact h
theorem at_d6 (hl : l.stackTraces = false) {k : Int} (h0 : 0 ≤ k) (h1 : k < 2) : Fn l X 0 M_X5_at [.ref (a + 7), .int (I k)] (dp X a p B D) 0 0 (Ri (I (D 6 k))) (dp X a p B D) := c_at hl dp_k7 (by decide) h0 h1
theorem put_d6 (hl : l.stackTraces = false) {k v : Int} (h0 : 0 ≤ k) (h1 : k < 2) : Fn l X 0 M_X5_put [.ref (a + 7), .int (I k), .int (I v)] (dp X a p B D) 0 0 Rv (dp X a p B (st D 6 k v)) := by
  have h := c_put (l := l) hl (dp_k7 (X := X) (a := a) (p := p) (B := B) (D := D)) (by decide) h0 h1 (v := I v)
  rw [dp_u6 h0 h1] at h
  exact h
theorem at_d7 (hl : l.stackTraces = false) {k : Int} (h0 : 0 ≤ k) (h1 : k < 40) : Fn l X 0 M_X5_at [.ref (a + 10), .int (I k)] (dp X a p B D) 0 0 (Ri (I (D 7 k))) (dp X a p B D) := c_at hl dp_k10 (by decide) h0 h1
theorem put_d7 (hl : l.stackTraces = false) {k v : Int} (h0 : 0 ≤ k) (h1 : k < 40) : Fn l X 0 M_X5_put [.ref (a + 10), .int (I k), .int (I v)] (dp X a p B D) 0 0 Rv (dp X a p B (st D 7 k v)) := by
  have h := c_put (l := l) hl (dp_k10 (X := X) (a := a) (p := p) (B := B) (D := D)) (by decide) h0 h1 (v := I v)
  rw [dp_u7 h0 h1] at h
  exact h
theorem at_d8 (hl : l.stackTraces = false) {k : Int} (h0 : 0 ≤ k) (h1 : k < 40) : Fn l X 0 M_X5_at [.ref (a + 11), .int (I k)] (dp X a p B D) 0 0 (Ri (I (D 8 k))) (dp X a p B D) := c_at hl dp_k11 (by decide) h0 h1
theorem put_d8 (hl : l.stackTraces = false) {k v : Int} (h0 : 0 ≤ k) (h1 : k < 40) : Fn l X 0 M_X5_put [.ref (a + 11), .int (I k), .int (I v)] (dp X a p B D) 0 0 Rv (dp X a p B (st D 8 k v)) := by
  have h := c_put (l := l) hl (dp_k11 (X := X) (a := a) (p := p) (B := B) (D := D)) (by decide) h0 h1 (v := I v)
  rw [dp_u8 h0 h1] at h
  exact h
theorem at_d9 (hl : l.stackTraces = false) {k : Int} (h0 : 0 ≤ k) (h1 : k < 40) : Fn l X 0 M_X5_at [.ref (a + 12), .int (I k)] (dp X a p B D) 0 0 (Ri (I (D 9 k))) (dp X a p B D) := c_at hl dp_k12 (by decide) h0 h1
theorem put_d9 (hl : l.stackTraces = false) {k v : Int} (h0 : 0 ≤ k) (h1 : k < 40) : Fn l X 0 M_X5_put [.ref (a + 12), .int (I k), .int (I v)] (dp X a p B D) 0 0 Rv (dp X a p B (st D 9 k v)) := by
  have h := c_put (l := l) hl (dp_k12 (X := X) (a := a) (p := p) (B := B) (D := D)) (by decide) h0 h1 (v := I v)
  rw [dp_u9 h0 h1] at h
  exact h
theorem at_p0 (hl : l.stackTraces = false) {A : AH} (h : PlanAt X A p P) {k : Int} (h0 : 0 ≤ k) (h1 : k < 240) : Fn l X 0 M_X5_at [.ref (p + 1), .int (I k)] A 0 0 (Ri (I (P 0 k))) A := c_at hl h.c0 (by decide) h0 h1
theorem put_p0 (hl : l.stackTraces = false) {k v : Int} (h0 : 0 ≤ k) (h1 : k < 240) : Fn l X 0 M_X5_put [.ref (p + 1), .int (I k), .int (I v)] (pp X p B P) 0 0 Rv (pp X p B (st P 0 k v)) := by
  have h := c_put (l := l) hl (pp_k1 (X := X) (p := p) (B := B) (P := P)) (by decide) h0 h1 (v := I v)
  rw [pp_u0 h0 h1] at h
  exact h
theorem at_p1 (hl : l.stackTraces = false) {A : AH} (h : PlanAt X A p P) {k : Int} (h0 : 0 ≤ k) (h1 : k < 240) : Fn l X 0 M_X5_at [.ref (p + 2), .int (I k)] A 0 0 (Ri (I (P 1 k))) A := c_at hl h.c1 (by decide) h0 h1
theorem put_p1 (hl : l.stackTraces = false) {k v : Int} (h0 : 0 ≤ k) (h1 : k < 240) : Fn l X 0 M_X5_put [.ref (p + 2), .int (I k), .int (I v)] (pp X p B P) 0 0 Rv (pp X p B (st P 1 k v)) := by
  have h := c_put (l := l) hl (pp_k2 (X := X) (p := p) (B := B) (P := P)) (by decide) h0 h1 (v := I v)
  rw [pp_u1 h0 h1] at h
  exact h
theorem at_p2 (hl : l.stackTraces = false) {A : AH} (h : PlanAt X A p P) {k : Int} (h0 : 0 ≤ k) (h1 : k < 60) : Fn l X 0 M_X5_at [.ref (p + 3), .int (I k)] A 0 0 (Ri (I (P 2 k))) A := c_at hl h.c2 (by decide) h0 h1
theorem put_p2 (hl : l.stackTraces = false) {k v : Int} (h0 : 0 ≤ k) (h1 : k < 60) : Fn l X 0 M_X5_put [.ref (p + 3), .int (I k), .int (I v)] (pp X p B P) 0 0 Rv (pp X p B (st P 2 k v)) := by
  have h := c_put (l := l) hl (pp_k3 (X := X) (p := p) (B := B) (P := P)) (by decide) h0 h1 (v := I v)
  rw [pp_u2 h0 h1] at h
  exact h
theorem at_p3 (hl : l.stackTraces = false) {A : AH} (h : PlanAt X A p P) {k : Int} (h0 : 0 ≤ k) (h1 : k < 61) : Fn l X 0 M_X5_at [.ref (p + 4), .int (I k)] A 0 0 (Ri (I (P 3 k))) A := c_at hl h.c3 (by decide) h0 h1
theorem put_p3 (hl : l.stackTraces = false) {k v : Int} (h0 : 0 ≤ k) (h1 : k < 61) : Fn l X 0 M_X5_put [.ref (p + 4), .int (I k), .int (I v)] (pp X p B P) 0 0 Rv (pp X p B (st P 3 k v)) := by
  have h := c_put (l := l) hl (pp_k4 (X := X) (p := p) (B := B) (P := P)) (by decide) h0 h1 (v := I v)
  rw [pp_u3 h0 h1] at h
  exact h
theorem at_p4 (hl : l.stackTraces = false) {A : AH} (h : PlanAt X A p P) {k : Int} (h0 : 0 ≤ k) (h1 : k < 61) : Fn l X 0 M_X5_at [.ref (p + 5), .int (I k)] A 0 0 (Ri (I (P 4 k))) A := c_at hl h.c4 (by decide) h0 h1
theorem put_p4 (hl : l.stackTraces = false) {k v : Int} (h0 : 0 ≤ k) (h1 : k < 61) : Fn l X 0 M_X5_put [.ref (p + 5), .int (I k), .int (I v)] (pp X p B P) 0 0 Rv (pp X p B (st P 4 k v)) := by
  have h := c_put (l := l) hl (pp_k5 (X := X) (p := p) (B := B) (P := P)) (by decide) h0 h1 (v := I v)
  rw [pp_u4 h0 h1] at h
  exact h
theorem at_p5 (hl : l.stackTraces = false) {A : AH} (h : PlanAt X A p P) {k : Int} (h0 : 0 ≤ k) (h1 : k < 241) : Fn l X 0 M_X5_at [.ref (p + 6), .int (I k)] A 0 0 (Ri (I (P 5 k))) A := c_at hl h.c5 (by decide) h0 h1
theorem put_p5 (hl : l.stackTraces = false) {k v : Int} (h0 : 0 ≤ k) (h1 : k < 241) : Fn l X 0 M_X5_put [.ref (p + 6), .int (I k), .int (I v)] (pp X p B P) 0 0 Rv (pp X p B (st P 5 k v)) := by
  have h := c_put (l := l) hl (pp_k6 (X := X) (p := p) (B := B) (P := P)) (by decide) h0 h1 (v := I v)
  rw [pp_u5 h0 h1] at h
  exact h
theorem at_p6 (hl : l.stackTraces = false) {A : AH} (h : PlanAt X A p P) {k : Int} (h0 : 0 ≤ k) (h1 : k < 240) : Fn l X 0 M_X5_at [.ref (p + 7), .int (I k)] A 0 0 (Ri (I (P 6 k))) A := c_at hl h.c6 (by decide) h0 h1
theorem put_p6 (hl : l.stackTraces = false) {k v : Int} (h0 : 0 ≤ k) (h1 : k < 240) : Fn l X 0 M_X5_put [.ref (p + 7), .int (I k), .int (I v)] (pp X p B P) 0 0 Rv (pp X p B (st P 6 k v)) := by
  have h := c_put (l := l) hl (pp_k7 (X := X) (p := p) (B := B) (P := P)) (by decide) h0 h1 (v := I v)
  rw [pp_u6 h0 h1] at h
  exact h
theorem at_p7 (hl : l.stackTraces = false) {A : AH} (h : PlanAt X A p P) {k : Int} (h0 : 0 ≤ k) (h1 : k < 240) : Fn l X 0 M_X5_at [.ref (p + 8), .int (I k)] A 0 0 (Ri (I (P 7 k))) A := c_at hl h.c7 (by decide) h0 h1
theorem put_p7 (hl : l.stackTraces = false) {k v : Int} (h0 : 0 ≤ k) (h1 : k < 240) : Fn l X 0 M_X5_put [.ref (p + 8), .int (I k), .int (I v)] (pp X p B P) 0 0 Rv (pp X p B (st P 7 k v)) := by
  have h := c_put (l := l) hl (pp_k8 (X := X) (p := p) (B := B) (P := P)) (by decide) h0 h1 (v := I v)
  rw [pp_u7 h0 h1] at h
  exact h
theorem at_p8 (hl : l.stackTraces = false) {A : AH} (h : PlanAt X A p P) {k : Int} (h0 : 0 ≤ k) (h1 : k < 36) : Fn l X 0 M_X5_at [.ref (p + 9), .int (I k)] A 0 0 (Ri (I (P 8 k))) A := c_at hl h.c8 (by decide) h0 h1
theorem put_p8 (hl : l.stackTraces = false) {k v : Int} (h0 : 0 ≤ k) (h1 : k < 36) : Fn l X 0 M_X5_put [.ref (p + 9), .int (I k), .int (I v)] (pp X p B P) 0 0 Rv (pp X p B (st P 8 k v)) := by
  have h := c_put (l := l) hl (pp_k9 (X := X) (p := p) (B := B) (P := P)) (by decide) h0 h1 (v := I v)
  rw [pp_u8 h0 h1] at h
  exact h
theorem at_p9 (hl : l.stackTraces = false) {A : AH} (h : PlanAt X A p P) {k : Int} (h0 : 0 ≤ k) (h1 : k < 16) : Fn l X 0 M_X5_at [.ref (p + 10), .int (I k)] A 0 0 (Ri (I (P 9 k))) A := c_at hl h.c9 (by decide) h0 h1
theorem put_p9 (hl : l.stackTraces = false) {k v : Int} (h0 : 0 ≤ k) (h1 : k < 16) : Fn l X 0 M_X5_put [.ref (p + 10), .int (I k), .int (I v)] (pp X p B P) 0 0 Rv (pp X p B (st P 9 k v)) := by
  have h := c_put (l := l) hl (pp_k10 (X := X) (p := p) (B := B) (P := P)) (by decide) h0 h1 (v := I v)
  rw [pp_u9 h0 h1] at h
  exact h
end ATD
