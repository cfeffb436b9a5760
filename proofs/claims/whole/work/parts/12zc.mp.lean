/-! the reference object: its cells as rows of numbers (laid by wip/whole/gen/mk22.py) -/
def mfs (o : Nat) (g : Int → Int) : List Value := [.ref (o + 1), .ref (o + 2), .ref (o + 3), .ref (o + 4), .int (I (g 4)), .int (I (g 5)), .ref (o + 5), .int (I (g 7)), .int (I (g 8)), .int (I (g 9)), .int (I (g 10)), .int (I (g 11)), .int (I (g 12)), .int (I (g 13)), .int (I (g 14)), .int (I (g 15)), .ref (o + 6), .ref (o + 7), .ref (o + 8), .int (I (g 19)), .int (I (g 20)), .int (I (g 21)), .ref (o + 9), .int (I (g 23))]
def mp (X : XT) (o : Nat) (B : AH) (S : Nat → Int → Int) : AH := (B.1, fun b => if b = o then some (ob 7 (mfs o (S 9))) else if b = o + 1 then some (ia X 1664 (fun k => I (S 0 k))) else if b = o + 2 then some (ia X 1664 (fun k => I (S 1 k))) else if b = o + 3 then some (ia X 1664 (fun k => I (S 2 k))) else if b = o + 4 then some (ia X 13312 (fun k => I (S 3 k))) else if b = o + 5 then some (ia X 400 (fun k => I (S 4 k))) else if b = o + 6 then some (ia X 64 (fun k => I (S 5 k))) else if b = o + 7 then some (ia X 64 (fun k => I (S 6 k))) else if b = o + 8 then some (za X 48 (fun k => I (S 7 k))) else if b = o + 9 then some (ia X 60 (fun k => I (S 8 k))) else B.2 b)
section MP
variable {X : XT} {o : Nat} {B : AH} {S : Nat → Int → Int}
theorem mp_1 : (mp X o B S).1 = B.1 := rfl
theorem mp_o : (mp X o B S).2 o = some (ob 7 (mfs o (S 9))) := if_pos rfl
theorem mp_c0 : (mp X o B S).2 (o + 1) = some (ia X 1664 (fun k => I (S 0 k))) := by simp [mp]
theorem mp_c1 : (mp X o B S).2 (o + 2) = some (ia X 1664 (fun k => I (S 1 k))) := by simp [mp]
theorem mp_c2 : (mp X o B S).2 (o + 3) = some (ia X 1664 (fun k => I (S 2 k))) := by simp [mp]
theorem mp_c3 : (mp X o B S).2 (o + 4) = some (ia X 13312 (fun k => I (S 3 k))) := by simp [mp]
theorem mp_c4 : (mp X o B S).2 (o + 5) = some (ia X 400 (fun k => I (S 4 k))) := by simp [mp]
theorem mp_c5 : (mp X o B S).2 (o + 6) = some (ia X 64 (fun k => I (S 5 k))) := by simp [mp]
theorem mp_c6 : (mp X o B S).2 (o + 7) = some (ia X 64 (fun k => I (S 6 k))) := by simp [mp]
theorem mp_c7 : (mp X o B S).2 (o + 8) = some (za X 48 (fun k => I (S 7 k))) := by simp [mp]
theorem mp_c8 : (mp X o B S).2 (o + 9) = some (ia X 60 (fun k => I (S 8 k))) := by simp [mp]
theorem mp_out {b : Nat} (h : b < o ∨ o + 9 < b) : (mp X o B S).2 b = B.2 b := by
  unfold mp
  simp only []
  rw [if_neg (by omega), if_neg (by omega), if_neg (by omega), if_neg (by omega), if_neg (by omega), if_neg (by omega), if_neg (by omega), if_neg (by omega), if_neg (by omega), if_neg (by omega)]
theorem mp_mp {S' : Nat → Int → Int} : mp X o (mp X o B S) S' = mp X o B S' := by
  refine Prod.ext rfl (funext fun b => ?_)
  by_cases h : b < o ∨ o + 9 < b
  · rw [mp_out h, mp_out h, mp_out h]
  · have : b = o ∨ b = o + 1 ∨ b = o + 2 ∨ b = o + 3 ∨ b = o + 4 ∨ b = o + 5 ∨ b = o + 6 ∨ b = o + 7 ∨ b = o + 8 ∨ b = o + 9 := by omega
    rcases this with rfl | rfl | rfl | rfl | rfl | rfl | rfl | rfl | rfl | rfl
    · rw [mp_o, mp_o]
    · rw [mp_c0, mp_c0]
    · rw [mp_c1, mp_c1]
    · rw [mp_c2, mp_c2]
    · rw [mp_c3, mp_c3]
    · rw [mp_c4, mp_c4]
    · rw [mp_c5, mp_c5]
    · rw [mp_c6, mp_c6]
    · rw [mp_c7, mp_c7]
    · rw [mp_c8, mp_c8]
theorem mp_set {k : Nat} {z : Int} (h : (mfs o (S 9)).set k (.int (I z)) = mfs o (st S 9 k z 9)) : up (mp X o B S) o (ob 7 ((mfs o (S 9)).set k (.int (I z)))) = mp X o B (st S 9 k z) := by
  rw [h]
  refine Prod.ext rfl (funext fun b => ?_)
  by_cases hb : b = o
  · subst hb
    exact (if_pos rfl).trans mp_o.symm
  · refine (if_neg hb).trans ?_
    unfold mp
    simp only [if_neg hb, st_row (show (0 : Nat) ≠ 9 by decide), st_row (show (1 : Nat) ≠ 9 by decide), st_row (show (2 : Nat) ≠ 9 by decide), st_row (show (3 : Nat) ≠ 9 by decide), st_row (show (4 : Nat) ≠ 9 by decide), st_row (show (5 : Nat) ≠ 9 by decide), st_row (show (6 : Nat) ≠ 9 by decide), st_row (show (7 : Nat) ≠ 9 by decide), st_row (show (8 : Nat) ≠ 9 by decide)]
theorem mp_gI4 {K : Int32 → Prop} : gI (mp X o B S) o 7 4 K ↔ K (I (S 9 4)) := gI_iff mp_o rfl
theorem mp_pI4 {z : Int} {K : AH → Prop} : pV (mp X o B S) o 7 4 (.int (I z)) K ↔ K (mp X o B (st S 9 4 z)) := by
  rw [pV_iff mp_o (show 4 < (mfs o (S 9)).length from (by decide : 4 < 24)), mp_set (k := 4) (by simp [mfs, st])]
  rfl
theorem mp_gI5 {K : Int32 → Prop} : gI (mp X o B S) o 7 5 K ↔ K (I (S 9 5)) := gI_iff mp_o rfl
theorem mp_pI5 {z : Int} {K : AH → Prop} : pV (mp X o B S) o 7 5 (.int (I z)) K ↔ K (mp X o B (st S 9 5 z)) := by
  rw [pV_iff mp_o (show 5 < (mfs o (S 9)).length from (by decide : 5 < 24)), mp_set (k := 5) (by simp [mfs, st])]
  rfl
theorem mp_gI7 {K : Int32 → Prop} : gI (mp X o B S) o 7 7 K ↔ K (I (S 9 7)) := gI_iff mp_o rfl
theorem mp_pI7 {z : Int} {K : AH → Prop} : pV (mp X o B S) o 7 7 (.int (I z)) K ↔ K (mp X o B (st S 9 7 z)) := by
  rw [pV_iff mp_o (show 7 < (mfs o (S 9)).length from (by decide : 7 < 24)), mp_set (k := 7) (by simp [mfs, st])]
  rfl
theorem mp_gI8 {K : Int32 → Prop} : gI (mp X o B S) o 7 8 K ↔ K (I (S 9 8)) := gI_iff mp_o rfl
theorem mp_pI8 {z : Int} {K : AH → Prop} : pV (mp X o B S) o 7 8 (.int (I z)) K ↔ K (mp X o B (st S 9 8 z)) := by
  rw [pV_iff mp_o (show 8 < (mfs o (S 9)).length from (by decide : 8 < 24)), mp_set (k := 8) (by simp [mfs, st])]
  rfl
theorem mp_gI9 {K : Int32 → Prop} : gI (mp X o B S) o 7 9 K ↔ K (I (S 9 9)) := gI_iff mp_o rfl
theorem mp_pI9 {z : Int} {K : AH → Prop} : pV (mp X o B S) o 7 9 (.int (I z)) K ↔ K (mp X o B (st S 9 9 z)) := by
  rw [pV_iff mp_o (show 9 < (mfs o (S 9)).length from (by decide : 9 < 24)), mp_set (k := 9) (by simp [mfs, st])]
  rfl
theorem mp_gI10 {K : Int32 → Prop} : gI (mp X o B S) o 7 10 K ↔ K (I (S 9 10)) := gI_iff mp_o rfl
theorem mp_pI10 {z : Int} {K : AH → Prop} : pV (mp X o B S) o 7 10 (.int (I z)) K ↔ K (mp X o B (st S 9 10 z)) := by
  rw [pV_iff mp_o (show 10 < (mfs o (S 9)).length from (by decide : 10 < 24)), mp_set (k := 10) (by simp [mfs, st])]
  rfl
theorem mp_gI11 {K : Int32 → Prop} : gI (mp X o B S) o 7 11 K ↔ K (I (S 9 11)) := gI_iff mp_o rfl
theorem mp_pI11 {z : Int} {K : AH → Prop} : pV (mp X o B S) o 7 11 (.int (I z)) K ↔ K (mp X o B (st S 9 11 z)) := by
  rw [pV_iff mp_o (show 11 < (mfs o (S 9)).length from (by decide : 11 < 24)), mp_set (k := 11) (by simp [mfs, st])]
  rfl
theorem mp_gI12 {K : Int32 → Prop} : gI (mp X o B S) o 7 12 K ↔ K (I (S 9 12)) := gI_iff mp_o rfl
theorem mp_pI12 {z : Int} {K : AH → Prop} : pV (mp X o B S) o 7 12 (.int (I z)) K ↔ K (mp X o B (st S 9 12 z)) := by
  rw [pV_iff mp_o (show 12 < (mfs o (S 9)).length from (by decide : 12 < 24)), mp_set (k := 12) (by simp [mfs, st])]
  rfl
theorem mp_gI13 {K : Int32 → Prop} : gI (mp X o B S) o 7 13 K ↔ K (I (S 9 13)) := gI_iff mp_o rfl
theorem mp_pI13 {z : Int} {K : AH → Prop} : pV (mp X o B S) o 7 13 (.int (I z)) K ↔ K (mp X o B (st S 9 13 z)) := by
  rw [pV_iff mp_o (show 13 < (mfs o (S 9)).length from (by decide : 13 < 24)), mp_set (k := 13) (by simp [mfs, st])]
  rfl
theorem mp_gI14 {K : Int32 → Prop} : gI (mp X o B S) o 7 14 K ↔ K (I (S 9 14)) := gI_iff mp_o rfl
theorem mp_pI14 {z : Int} {K : AH → Prop} : pV (mp X o B S) o 7 14 (.int (I z)) K ↔ K (mp X o B (st S 9 14 z)) := by
  rw [pV_iff mp_o (show 14 < (mfs o (S 9)).length from (by decide : 14 < 24)), mp_set (k := 14) (by simp [mfs, st])]
  rfl
theorem mp_gI15 {K : Int32 → Prop} : gI (mp X o B S) o 7 15 K ↔ K (I (S 9 15)) := gI_iff mp_o rfl
theorem mp_pI15 {z : Int} {K : AH → Prop} : pV (mp X o B S) o 7 15 (.int (I z)) K ↔ K (mp X o B (st S 9 15 z)) := by
  rw [pV_iff mp_o (show 15 < (mfs o (S 9)).length from (by decide : 15 < 24)), mp_set (k := 15) (by simp [mfs, st])]
  rfl
theorem mp_gI19 {K : Int32 → Prop} : gI (mp X o B S) o 7 19 K ↔ K (I (S 9 19)) := gI_iff mp_o rfl
theorem mp_pI19 {z : Int} {K : AH → Prop} : pV (mp X o B S) o 7 19 (.int (I z)) K ↔ K (mp X o B (st S 9 19 z)) := by
  rw [pV_iff mp_o (show 19 < (mfs o (S 9)).length from (by decide : 19 < 24)), mp_set (k := 19) (by simp [mfs, st])]
  rfl
theorem mp_gI20 {K : Int32 → Prop} : gI (mp X o B S) o 7 20 K ↔ K (I (S 9 20)) := gI_iff mp_o rfl
theorem mp_pI20 {z : Int} {K : AH → Prop} : pV (mp X o B S) o 7 20 (.int (I z)) K ↔ K (mp X o B (st S 9 20 z)) := by
  rw [pV_iff mp_o (show 20 < (mfs o (S 9)).length from (by decide : 20 < 24)), mp_set (k := 20) (by simp [mfs, st])]
  rfl
theorem mp_gI21 {K : Int32 → Prop} : gI (mp X o B S) o 7 21 K ↔ K (I (S 9 21)) := gI_iff mp_o rfl
theorem mp_pI21 {z : Int} {K : AH → Prop} : pV (mp X o B S) o 7 21 (.int (I z)) K ↔ K (mp X o B (st S 9 21 z)) := by
  rw [pV_iff mp_o (show 21 < (mfs o (S 9)).length from (by decide : 21 < 24)), mp_set (k := 21) (by simp [mfs, st])]
  rfl
theorem mp_gI23 {K : Int32 → Prop} : gI (mp X o B S) o 7 23 K ↔ K (I (S 9 23)) := gI_iff mp_o rfl
theorem mp_pI23 {z : Int} {K : AH → Prop} : pV (mp X o B S) o 7 23 (.int (I z)) K ↔ K (mp X o B (st S 9 23 z)) := by
  rw [pV_iff mp_o (show 23 < (mfs o (S 9)).length from (by decide : 23 < 24)), mp_set (k := 23) (by simp [mfs, st])]
  rfl
theorem mp_gR0 {K : Nat → Prop} : gR (mp X o B S) o 7 0 K ↔ K (o + 1) := gR_iff mp_o rfl
theorem mp_gR1 {K : Nat → Prop} : gR (mp X o B S) o 7 1 K ↔ K (o + 2) := gR_iff mp_o rfl
theorem mp_gR2 {K : Nat → Prop} : gR (mp X o B S) o 7 2 K ↔ K (o + 3) := gR_iff mp_o rfl
theorem mp_gR3 {K : Nat → Prop} : gR (mp X o B S) o 7 3 K ↔ K (o + 4) := gR_iff mp_o rfl
theorem mp_gR6 {K : Nat → Prop} : gR (mp X o B S) o 7 6 K ↔ K (o + 5) := gR_iff mp_o rfl
theorem mp_gR16 {K : Nat → Prop} : gR (mp X o B S) o 7 16 K ↔ K (o + 6) := gR_iff mp_o rfl
theorem mp_gR17 {K : Nat → Prop} : gR (mp X o B S) o 7 17 K ↔ K (o + 7) := gR_iff mp_o rfl
theorem mp_gR18 {K : Nat → Prop} : gR (mp X o B S) o 7 18 K ↔ K (o + 8) := gR_iff mp_o rfl
theorem mp_gR22 {K : Nat → Prop} : gR (mp X o B S) o 7 22 K ↔ K (o + 9) := gR_iff mp_o rfl
theorem mp_up0 {z v : Int} (h0 : 0 ≤ z) (h1 : z < 1664) : up (mp X o B S) (o + 1) (ia X 1664 (upd (fun k => I (S 0 k)) (I z).toNatClampNeg (I v))) = mp X o B (st S 0 z v) := by
  rw [upd_st h0 (by omega)]
  refine Prod.ext rfl (funext fun b => ?_)
  by_cases hb : b = o + 1
  · subst hb
    exact (if_pos rfl).trans mp_c0.symm
  · refine (if_neg hb).trans ?_
    unfold mp
    simp only [if_neg hb, st_row (show (1 : Nat) ≠ 0 by decide), st_row (show (2 : Nat) ≠ 0 by decide), st_row (show (3 : Nat) ≠ 0 by decide), st_row (show (4 : Nat) ≠ 0 by decide), st_row (show (5 : Nat) ≠ 0 by decide), st_row (show (6 : Nat) ≠ 0 by decide), st_row (show (7 : Nat) ≠ 0 by decide), st_row (show (8 : Nat) ≠ 0 by decide), st_row (show (9 : Nat) ≠ 0 by decide)]
theorem mp_aI0 {z : Int} {K : Int32 → Prop} (h0 : 0 ≤ z) (h1 : z < 1664) : aI X (mp X o B S) (o + 1) (I z) K ↔ K (I (S 0 z)) := by
  rw [aI_iff mp_c0 (in_I h0 h1 (by decide)), ei_I h0 (by omega)]
theorem mp_sI0 {z v : Int} {K : AH → Prop} (h0 : 0 ≤ z) (h1 : z < 1664) : sI X (mp X o B S) (o + 1) (I z) (I v) K ↔ K (mp X o B (st S 0 z v)) := by
  rw [sI_iff mp_c0 (in_I h0 h1 (by decide)), mp_up0 h0 h1]
theorem mp_up1 {z v : Int} (h0 : 0 ≤ z) (h1 : z < 1664) : up (mp X o B S) (o + 2) (ia X 1664 (upd (fun k => I (S 1 k)) (I z).toNatClampNeg (I v))) = mp X o B (st S 1 z v) := by
  rw [upd_st h0 (by omega)]
  refine Prod.ext rfl (funext fun b => ?_)
  by_cases hb : b = o + 2
  · subst hb
    exact (if_pos rfl).trans mp_c1.symm
  · refine (if_neg hb).trans ?_
    unfold mp
    simp only [if_neg hb, st_row (show (0 : Nat) ≠ 1 by decide), st_row (show (2 : Nat) ≠ 1 by decide), st_row (show (3 : Nat) ≠ 1 by decide), st_row (show (4 : Nat) ≠ 1 by decide), st_row (show (5 : Nat) ≠ 1 by decide), st_row (show (6 : Nat) ≠ 1 by decide), st_row (show (7 : Nat) ≠ 1 by decide), st_row (show (8 : Nat) ≠ 1 by decide), st_row (show (9 : Nat) ≠ 1 by decide)]
theorem mp_aI1 {z : Int} {K : Int32 → Prop} (h0 : 0 ≤ z) (h1 : z < 1664) : aI X (mp X o B S) (o + 2) (I z) K ↔ K (I (S 1 z)) := by
  rw [aI_iff mp_c1 (in_I h0 h1 (by decide)), ei_I h0 (by omega)]
theorem mp_sI1 {z v : Int} {K : AH → Prop} (h0 : 0 ≤ z) (h1 : z < 1664) : sI X (mp X o B S) (o + 2) (I z) (I v) K ↔ K (mp X o B (st S 1 z v)) := by
  rw [sI_iff mp_c1 (in_I h0 h1 (by decide)), mp_up1 h0 h1]
theorem mp_up2 {z v : Int} (h0 : 0 ≤ z) (h1 : z < 1664) : up (mp X o B S) (o + 3) (ia X 1664 (upd (fun k => I (S 2 k)) (I z).toNatClampNeg (I v))) = mp X o B (st S 2 z v) := by
  rw [upd_st h0 (by omega)]
  refine Prod.ext rfl (funext fun b => ?_)
  by_cases hb : b = o + 3
  · subst hb
    exact (if_pos rfl).trans mp_c2.symm
  · refine (if_neg hb).trans ?_
    unfold mp
    simp only [if_neg hb, st_row (show (0 : Nat) ≠ 2 by decide), st_row (show (1 : Nat) ≠ 2 by decide), st_row (show (3 : Nat) ≠ 2 by decide), st_row (show (4 : Nat) ≠ 2 by decide), st_row (show (5 : Nat) ≠ 2 by decide), st_row (show (6 : Nat) ≠ 2 by decide), st_row (show (7 : Nat) ≠ 2 by decide), st_row (show (8 : Nat) ≠ 2 by decide), st_row (show (9 : Nat) ≠ 2 by decide)]
theorem mp_aI2 {z : Int} {K : Int32 → Prop} (h0 : 0 ≤ z) (h1 : z < 1664) : aI X (mp X o B S) (o + 3) (I z) K ↔ K (I (S 2 z)) := by
  rw [aI_iff mp_c2 (in_I h0 h1 (by decide)), ei_I h0 (by omega)]
theorem mp_sI2 {z v : Int} {K : AH → Prop} (h0 : 0 ≤ z) (h1 : z < 1664) : sI X (mp X o B S) (o + 3) (I z) (I v) K ↔ K (mp X o B (st S 2 z v)) := by
  rw [sI_iff mp_c2 (in_I h0 h1 (by decide)), mp_up2 h0 h1]
theorem mp_up3 {z v : Int} (h0 : 0 ≤ z) (h1 : z < 13312) : up (mp X o B S) (o + 4) (ia X 13312 (upd (fun k => I (S 3 k)) (I z).toNatClampNeg (I v))) = mp X o B (st S 3 z v) := by
  rw [upd_st h0 (by omega)]
  refine Prod.ext rfl (funext fun b => ?_)
  by_cases hb : b = o + 4
  · subst hb
    exact (if_pos rfl).trans mp_c3.symm
  · refine (if_neg hb).trans ?_
    unfold mp
    simp only [if_neg hb, st_row (show (0 : Nat) ≠ 3 by decide), st_row (show (1 : Nat) ≠ 3 by decide), st_row (show (2 : Nat) ≠ 3 by decide), st_row (show (4 : Nat) ≠ 3 by decide), st_row (show (5 : Nat) ≠ 3 by decide), st_row (show (6 : Nat) ≠ 3 by decide), st_row (show (7 : Nat) ≠ 3 by decide), st_row (show (8 : Nat) ≠ 3 by decide), st_row (show (9 : Nat) ≠ 3 by decide)]
theorem mp_aI3 {z : Int} {K : Int32 → Prop} (h0 : 0 ≤ z) (h1 : z < 13312) : aI X (mp X o B S) (o + 4) (I z) K ↔ K (I (S 3 z)) := by
  rw [aI_iff mp_c3 (in_I h0 h1 (by decide)), ei_I h0 (by omega)]
theorem mp_sI3 {z v : Int} {K : AH → Prop} (h0 : 0 ≤ z) (h1 : z < 13312) : sI X (mp X o B S) (o + 4) (I z) (I v) K ↔ K (mp X o B (st S 3 z v)) := by
  rw [sI_iff mp_c3 (in_I h0 h1 (by decide)), mp_up3 h0 h1]
theorem mp_up4 {z v : Int} (h0 : 0 ≤ z) (h1 : z < 400) : up (mp X o B S) (o + 5) (ia X 400 (upd (fun k => I (S 4 k)) (I z).toNatClampNeg (I v))) = mp X o B (st S 4 z v) := by
  rw [upd_st h0 (by omega)]
  refine Prod.ext rfl (funext fun b => ?_)
  by_cases hb : b = o + 5
  · subst hb
    exact (if_pos rfl).trans mp_c4.symm
  · refine (if_neg hb).trans ?_
    unfold mp
    simp only [if_neg hb, st_row (show (0 : Nat) ≠ 4 by decide), st_row (show (1 : Nat) ≠ 4 by decide), st_row (show (2 : Nat) ≠ 4 by decide), st_row (show (3 : Nat) ≠ 4 by decide), st_row (show (5 : Nat) ≠ 4 by decide), st_row (show (6 : Nat) ≠ 4 by decide), st_row (show (7 : Nat) ≠ 4 by decide), st_row (show (8 : Nat) ≠ 4 by decide), st_row (show (9 : Nat) ≠ 4 by decide)]
theorem mp_aI4 {z : Int} {K : Int32 → Prop} (h0 : 0 ≤ z) (h1 : z < 400) : aI X (mp X o B S) (o + 5) (I z) K ↔ K (I (S 4 z)) := by
  rw [aI_iff mp_c4 (in_I h0 h1 (by decide)), ei_I h0 (by omega)]
theorem mp_sI4 {z v : Int} {K : AH → Prop} (h0 : 0 ≤ z) (h1 : z < 400) : sI X (mp X o B S) (o + 5) (I z) (I v) K ↔ K (mp X o B (st S 4 z v)) := by
  rw [sI_iff mp_c4 (in_I h0 h1 (by decide)), mp_up4 h0 h1]
theorem mp_up5 {z v : Int} (h0 : 0 ≤ z) (h1 : z < 64) : up (mp X o B S) (o + 6) (ia X 64 (upd (fun k => I (S 5 k)) (I z).toNatClampNeg (I v))) = mp X o B (st S 5 z v) := by
  rw [upd_st h0 (by omega)]
  refine Prod.ext rfl (funext fun b => ?_)
  by_cases hb : b = o + 6
  · subst hb
    exact (if_pos rfl).trans mp_c5.symm
  · refine (if_neg hb).trans ?_
    unfold mp
    simp only [if_neg hb, st_row (show (0 : Nat) ≠ 5 by decide), st_row (show (1 : Nat) ≠ 5 by decide), st_row (show (2 : Nat) ≠ 5 by decide), st_row (show (3 : Nat) ≠ 5 by decide), st_row (show (4 : Nat) ≠ 5 by decide), st_row (show (6 : Nat) ≠ 5 by decide), st_row (show (7 : Nat) ≠ 5 by decide), st_row (show (8 : Nat) ≠ 5 by decide), st_row (show (9 : Nat) ≠ 5 by decide)]
theorem mp_aI5 {z : Int} {K : Int32 → Prop} (h0 : 0 ≤ z) (h1 : z < 64) : aI X (mp X o B S) (o + 6) (I z) K ↔ K (I (S 5 z)) := by
  rw [aI_iff mp_c5 (in_I h0 h1 (by decide)), ei_I h0 (by omega)]
theorem mp_sI5 {z v : Int} {K : AH → Prop} (h0 : 0 ≤ z) (h1 : z < 64) : sI X (mp X o B S) (o + 6) (I z) (I v) K ↔ K (mp X o B (st S 5 z v)) := by
  rw [sI_iff mp_c5 (in_I h0 h1 (by decide)), mp_up5 h0 h1]
theorem mp_up6 {z v : Int} (h0 : 0 ≤ z) (h1 : z < 64) : up (mp X o B S) (o + 7) (ia X 64 (upd (fun k => I (S 6 k)) (I z).toNatClampNeg (I v))) = mp X o B (st S 6 z v) := by
  rw [upd_st h0 (by omega)]
  refine Prod.ext rfl (funext fun b => ?_)
  by_cases hb : b = o + 7
  · subst hb
    exact (if_pos rfl).trans mp_c6.symm
  · refine (if_neg hb).trans ?_
    unfold mp
    simp only [if_neg hb, st_row (show (0 : Nat) ≠ 6 by decide), st_row (show (1 : Nat) ≠ 6 by decide), st_row (show (2 : Nat) ≠ 6 by decide), st_row (show (3 : Nat) ≠ 6 by decide), st_row (show (4 : Nat) ≠ 6 by decide), st_row (show (5 : Nat) ≠ 6 by decide), st_row (show (7 : Nat) ≠ 6 by decide), st_row (show (8 : Nat) ≠ 6 by decide), st_row (show (9 : Nat) ≠ 6 by decide)]
theorem mp_aI6 {z : Int} {K : Int32 → Prop} (h0 : 0 ≤ z) (h1 : z < 64) : aI X (mp X o B S) (o + 7) (I z) K ↔ K (I (S 6 z)) := by
  rw [aI_iff mp_c6 (in_I h0 h1 (by decide)), ei_I h0 (by omega)]
theorem mp_sI6 {z v : Int} {K : AH → Prop} (h0 : 0 ≤ z) (h1 : z < 64) : sI X (mp X o B S) (o + 7) (I z) (I v) K ↔ K (mp X o B (st S 6 z v)) := by
  rw [sI_iff mp_c6 (in_I h0 h1 (by decide)), mp_up6 h0 h1]
theorem mp_up7 {z v : Int} (h0 : 0 ≤ z) (h1 : z < 48) : up (mp X o B S) (o + 8) (za X 48 (upd (fun k => I (S 7 k)) (I z).toNatClampNeg (I v))) = mp X o B (st S 7 z v) := by
  rw [upd_st h0 (by omega)]
  refine Prod.ext rfl (funext fun b => ?_)
  by_cases hb : b = o + 8
  · subst hb
    exact (if_pos rfl).trans mp_c7.symm
  · refine (if_neg hb).trans ?_
    unfold mp
    simp only [if_neg hb, st_row (show (0 : Nat) ≠ 7 by decide), st_row (show (1 : Nat) ≠ 7 by decide), st_row (show (2 : Nat) ≠ 7 by decide), st_row (show (3 : Nat) ≠ 7 by decide), st_row (show (4 : Nat) ≠ 7 by decide), st_row (show (5 : Nat) ≠ 7 by decide), st_row (show (6 : Nat) ≠ 7 by decide), st_row (show (8 : Nat) ≠ 7 by decide), st_row (show (9 : Nat) ≠ 7 by decide)]
theorem mp_aZ7 {z : Int} {K : Int32 → Prop} (h0 : 0 ≤ z) (h1 : z < 48) : aZ X (mp X o B S) (o + 8) (I z) K ↔ K (I (S 7 z)) := by
  rw [aZ_iff mp_c7 (in_I h0 h1 (by decide)), ei_I h0 (by omega)]
theorem mp_sZ0 {z : Int} {K : AH → Prop} (h0 : 0 ≤ z) (h1 : z < 48) : sZ X (mp X o B S) (o + 8) (I z) (I 0) K ↔ K (mp X o B (st S 7 z 0)) := by
  rw [sZ_iff mp_c7 (in_I h0 h1 (by decide)), show vp_nar .boolean (I 0) = I 0 by decide, mp_up7 h0 h1]
theorem mp_sZ1 {z : Int} {K : AH → Prop} (h0 : 0 ≤ z) (h1 : z < 48) : sZ X (mp X o B S) (o + 8) (I z) (I 1) K ↔ K (mp X o B (st S 7 z 1)) := by
  rw [sZ_iff mp_c7 (in_I h0 h1 (by decide)), show vp_nar .boolean (I 1) = I 1 by decide, mp_up7 h0 h1]
theorem mp_up8 {z v : Int} (h0 : 0 ≤ z) (h1 : z < 60) : up (mp X o B S) (o + 9) (ia X 60 (upd (fun k => I (S 8 k)) (I z).toNatClampNeg (I v))) = mp X o B (st S 8 z v) := by
  rw [upd_st h0 (by omega)]
  refine Prod.ext rfl (funext fun b => ?_)
  by_cases hb : b = o + 9
  · subst hb
    exact (if_pos rfl).trans mp_c8.symm
  · refine (if_neg hb).trans ?_
    unfold mp
    simp only [if_neg hb, st_row (show (0 : Nat) ≠ 8 by decide), st_row (show (1 : Nat) ≠ 8 by decide), st_row (show (2 : Nat) ≠ 8 by decide), st_row (show (3 : Nat) ≠ 8 by decide), st_row (show (4 : Nat) ≠ 8 by decide), st_row (show (5 : Nat) ≠ 8 by decide), st_row (show (6 : Nat) ≠ 8 by decide), st_row (show (7 : Nat) ≠ 8 by decide), st_row (show (9 : Nat) ≠ 8 by decide)]
theorem mp_aI8 {z : Int} {K : Int32 → Prop} (h0 : 0 ≤ z) (h1 : z < 60) : aI X (mp X o B S) (o + 9) (I z) K ↔ K (I (S 8 z)) := by
  rw [aI_iff mp_c8 (in_I h0 h1 (by decide)), ei_I h0 (by omega)]
theorem mp_sI8 {z v : Int} {K : AH → Prop} (h0 : 0 ≤ z) (h1 : z < 60) : sI X (mp X o B S) (o + 9) (I z) (I v) K ↔ K (mp X o B (st S 8 z v)) := by
  rw [sI_iff mp_c8 (in_I h0 h1 (by decide)), mp_up8 h0 h1]
theorem mp_isO : isO (mp X o B S) o 7 := ⟨_, mp_o⟩
end MP
