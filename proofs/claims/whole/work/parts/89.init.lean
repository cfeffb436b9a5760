/-! the constructors of the class and of the reference (laid by wip/whole/gen/mk89.py) -/
/-- the first row, the first rows -/
def iRow : Int → Int := rs (rs (rBeg2 (fun _ => 0) 1 0) 2 4) 3 4
def iZ : Nat → Int → Int := st (fun _ _ => 0) 9 15 (-1)
def iS : Nat → Int → Int := sr (sw iZ 1 iRow) (cpy (iZ 0) iRow 0 0 1664)
theorem iRow_RW : RW iRow 0 := by
  obtain ⟨q, hq⟩ : ∃ q, q = iRow := ⟨_, rfl⟩
  have eq : q = rs (rs (rs (rs (rs (rs (rs (zer (fun _ => 0) 1664) 0 1) 1 0) 4 3) 14 1) 15 1) 2 4) 3 4 := hq
  rw [← hq]
  obtain ⟨vL, hL⟩ : ∃ v : Int, v = 1 := ⟨_, rfl⟩
  obtain ⟨vS, hS⟩ : ∃ v : Int, v = 0 := ⟨_, rfl⟩
  obtain ⟨vP, hP⟩ : ∃ v : Int, v = 4 := ⟨_, rfl⟩
  obtain ⟨vQ, hQ⟩ : ∃ v : Int, v = 4 := ⟨_, rfl⟩
  replace eq : q = rs (rs (rs (rs (rs (rs (rs (zer (fun _ => 0) 1664) 0 vL) 1 vS) 4 3) 14 1) 15 1) 2 vP) 3 vQ := by rw [hL, hS, hP, hQ]; exact eq
  have z : ∀ y, 0 ≤ y → y < 1664 → y ≠ 0 → y ≠ 1 → y ≠ 2 → y ≠ 3 → y ≠ 4 → y ≠ 14 → y ≠ 15 → q y = 0 := fun y y0 y1 h0 h1 h2 h3 h4 h14 h15 => by
    rw [eq, rs_ne h3, rs_ne h2, rs_ne h15, rs_ne h14, rs_ne h4, rs_ne h1, rs_ne h0]
    exact if_pos ⟨y0, y1⟩
  have q0 : q 0 = vL := by rw [eq, rs_ne (by omega), rs_ne (by omega), rs_ne (by omega), rs_ne (by omega), rs_ne (by omega), rs_ne (by omega), rs_eq]
  have q1 : q 1 = vS := by rw [eq, rs_ne (by omega), rs_ne (by omega), rs_ne (by omega), rs_ne (by omega), rs_ne (by omega), rs_eq]
  have q2 : q 2 = vP := by rw [eq, rs_ne (by omega), rs_eq]
  have q3 : q 3 = vQ := by rw [eq, rs_eq]
  have q4 : q 4 = 3 := by rw [eq, rs_ne (by omega), rs_ne (by omega), rs_ne (by omega), rs_ne (by omega), rs_eq]
  have q14 : q 14 = 1 := by rw [eq, rs_ne (by omega), rs_ne (by omega), rs_ne (by omega), rs_eq]
  have q15 : q 15 = 1 := by rw [eq, rs_ne (by omega), rs_ne (by omega), rs_eq]
  have zz : ∀ y, 0 ≤ y → y < 1664 → y = 5 ∨ y = 6 ∨ y = 7 ∨ y = 8 ∨ y = 9 ∨ y = 10 ∨ y = 11 ∨ y = 12 ∨ y = 13 ∨ 15 < y → q y = 0 := fun y y0 y1 hy => z y y0 y1 (by omega) (by omega) (by omega) (by omega) (by omega) (by omega) (by omega)
  refine ⟨⟨by omega, by omega, by omega, by omega, by omega, by omega⟩, by omega, by omega, ?_, ?_, ?_, ?_, ?_, ?_, ?_, ?_, ?_, ?_, ?_, by omega, ?_⟩
  · rw [zz 9 (by omega) (by omega) (by omega), zz 10 (by omega) (by omega) (by omega), zz 11 (by omega) (by omega) (by omega), zz 12 (by omega) (by omega) (by omega)]
    decide
  · rw [zz 13 (by omega) (by omega) (by omega), q14, q15]
    decide
  · rw [zz 5 (by omega) (by omega) (by omega), zz 6 (by omega) (by omega) (by omega), zz 7 (by omega) (by omega) (by omega), zz 8 (by omega) (by omega) (by omega), zz 16 (by omega) (by omega) (by omega), zz 17 (by omega) (by omega) (by omega), zz 18 (by omega) (by omega) (by omega), zz 19 (by omega) (by omega) (by omega)]
    decide
  · intro f f0 hf
    rw [zz 10 (by omega) (by omega) (by omega)] at hf
    omega
  · intro f f0 hf
    rw [zz 11 (by omega) (by omega) (by omega)] at hf
    omega
  · intro f f0 hf
    rw [zz 12 (by omega) (by omega) (by omega)] at hf
    omega
  · intro p p0 hp
    rw [zz _ (by omega) (by omega) (by omega)]
    decide
  · intro p p0 hp
    rw [zz _ (by omega) (by omega) (by omega)]
    decide
  · intro p p0 hp
    rw [zz _ (by omega) (by omega) (by omega), zz _ (by omega) (by omega) (by omega), zz _ (by omega) (by omega) (by omega)]
    decide
  · intro i i0 hi
    rw [zz 9 (by omega) (by omega) (by omega)] at hi
    omega
  · intro i k i0 hi k0 k1
    rw [zz _ (by omega) (by omega) (by omega)]
    decide
  · intro k k0 k1
    by_cases hk : k = 5 ∨ k = 6 ∨ k = 7 ∨ k = 8 ∨ k = 9 ∨ k = 10 ∨ k = 11 ∨ k = 12 ∨ k = 13 ∨ 15 < k
    · rw [zz k k0 k1 hk]
      decide
    · have : k = 0 ∨ k = 1 ∨ k = 2 ∨ k = 3 ∨ k = 4 ∨ k = 14 ∨ k = 15 := by omega
      rcases this with rfl | rfl | rfl | rfl | rfl | rfl | rfl
      · omega
      · omega
      · omega
      · omega
      · omega
      · omega
      · omega
theorem iRow_FR : FR iRow := by
  obtain ⟨q, hq⟩ : ∃ q, q = iRow := ⟨_, rfl⟩
  have eq : q = rs (rs (rs (rs (rs (rs (rs (zer (fun _ => 0) 1664) 0 1) 1 0) 4 3) 14 1) 15 1) 2 4) 3 4 := hq
  rw [← hq]
  have z : ∀ y, 0 ≤ y → y < 1664 → y ≠ 0 → y ≠ 1 → y ≠ 2 → y ≠ 3 → y ≠ 4 → y ≠ 14 → y ≠ 15 → q y = 0 := fun y y0 y1 h0 h1 h2 h3 h4 h14 h15 => by
    rw [eq, rs_ne h3, rs_ne h2, rs_ne h15, rs_ne h14, rs_ne h4, rs_ne h1, rs_ne h0]
    exact if_pos ⟨y0, y1⟩
  have q14 : q 14 = 1 := by rw [eq, rs_ne (by omega), rs_ne (by omega), rs_ne (by omega), rs_eq]
  have q15 : q 15 = 1 := by rw [eq, rs_ne (by omega), rs_ne (by omega), rs_eq]
  exact ⟨z 9 (by omega) (by omega) (by omega) (by omega) (by omega) (by omega) (by omega) (by omega) (by omega), z 13 (by omega) (by omega) (by omega) (by omega) (by omega) (by omega) (by omega) (by omega) (by omega), q14, q15, fun p p0 p1 => z _ (by omega) (by omega) (by omega) (by omega) (by omega) (by omega) (by omega) (by omega) (by omega)⟩
theorem iRow_n : iRow 0 = 1 ∧ iRow 1 = 0 ∧ iRow 2 = 4 ∧ iRow 3 = 4 ∧ iRow 4 = 3 ∧ iRow 10 = 0 ∧ iRow 11 = 0 ∧ iRow 12 = 0 := by decide +kernel
theorem iS_0 : EQ iRow (iS 0) := fun y y0 y1 => by
  show cpy (iZ 0) iRow 0 0 1664 y = iRow y
  unfold cpy
  rw [if_pos (by omega)]
  exact congrArg iRow (by omega)
theorem iS_j {j : Nat} (h0 : j ≠ 0) (h1 : j ≠ 1) : iS j = iZ j := by
  cases j with
  | zero => exact absurd rfl h0
  | succ j => exact sw_j h1
theorem iS_9 {y : Int} : iS 9 y = if y = 15 then -1 else 0 := by
  rw [iS_j (by decide) (by decide)]
  unfold iZ
  rw [st_if]
theorem iS_RI : RI iS 0 := by
  have e : ∀ j : Nat, j ≠ 0 → j ≠ 1 → j ≠ 9 → iS j = fun _ => 0 := fun j h0 h1 h9 => by
    rw [iS_j h0 h1]
    unfold iZ
    rw [st_row h9]
  refine ⟨RW_EQ iRow_RW iS_0, by rw [iS_9]; decide, fun i i0 i1 => ?_, by rw [iS_9]; decide, fun k _ _ => ?_, by rw [iS_9]; decide⟩
  · rw [iS_9, if_neg (by decide)] at i1
    omega
  · rw [e 4 (by decide) (by decide) (by decide)]
    exact ⟨Int.le_refl 0, (by decide : (0 : Int) ≤ 255)⟩
section CI
variable {l : Launch} {X : XT} {A : AH} {o t : Nat}
theorem sI_up {b : Nat} {S : Nat → Int → Int} {B : AH} : mp X b B S = mp X b B S := rfl
theorem c_X6_init (hl : l.stackTraces = false) (h : A.2 o = some (ob 7 df_7)) (hs : A.1 = o + 1) : Ct l X 5 M_X6_init [.ref o] A 9 18940 (fun o' A' => o' = Rv ∧ A'.1 = o + 10 ∧ mp X o A' iS = A' ∧ ∀ b, b < o → A'.2 b = A.2 b) := by
  obtain ⟨Q, hQ⟩ : ∃ Q : Ot → AH → Prop, Q = (fun o' A' => o' = Rv ∧ A'.1 = o + 10 ∧ mp X o A' iS = A' ∧ ∀ b, b < o → A'.2 b = A.2 b) := ⟨_, rfl⟩
  rw [← hQ]
  refine Ct.of hl rfl rfl (Nat.le_of_ble_eq_true rfl) (k_X6_init_0 ?_)
  obtain ⟨C0, hC0⟩ : ∃ C0, C0 = A := ⟨_, rfl⟩
  have c0 : C0.1 = o + 1 := by rw [hC0]; exact hs
  have f0_o : C0.2 (o) = some (ob 7 [.null, .null, .null, .null, .int 0, .int 0, .null, .int 0, .int 0, .int 0, .int 0, .int 0, .int 0, .int 0, .int 0, .int 0, .null, .null, .null, .int 0, .int 0, .int 0, .null, .int 0]) := by rw [hC0]; exact h
  have r0 : ∀ b, b < o → C0.2 b = A.2 b := fun b _ => by rw [hC0]
  rw [← hC0]
  clear hC0
  refine mkA_i (b := o + 1) (n := 1664) c0 (by decide) (by decide) (by decide) (by decide) ?_
  intro C1 d1 q1 o1
  have c1 : C1.1 = o + 2 := by omega
  have f1_o : C1.2 (o) = some (ob 7 [.null, .null, .null, .null, .int 0, .int 0, .null, .int 0, .int 0, .int 0, .int 0, .int 0, .int 0, .int 0, .int 0, .int 0, .null, .null, .null, .int 0, .int 0, .int 0, .null, .int 0]) := (o1 _ (by omega)).trans f0_o
  have r1 : ∀ b, b < o → C1.2 b = A.2 b := fun b hb => (o1 b (by omega)).trans (r0 b hb)
  have f1_x2 : C1.2 (o + 1) = some (ia X 1664 (fun _ => 0)) := q1
  clear q1 o1 d1 c0 r0 f0_o
  refine pV_i (k := 0) (v := .ref (o + 1)) f1_o (Nat.le_of_ble_eq_true rfl) ?_
  intro C2 d2 q2 o2
  have c2 : C2.1 = o + 2 := by omega
  have f2_x2 : C2.2 (o + 1) = some (ia X 1664 (fun _ => 0)) := (o2 _ (by omega)).trans f1_x2
  have r2 : ∀ b, b < o → C2.2 b = A.2 b := fun b hb => (o2 b (by omega)).trans (r1 b hb)
  have f2_o : C2.2 (o) = some (ob 7 [.ref (o + 1), .null, .null, .null, .int 0, .int 0, .null, .int 0, .int 0, .int 0, .int 0, .int 0, .int 0, .int 0, .int 0, .int 0, .null, .null, .null, .int 0, .int 0, .int 0, .null, .int 0]) := q2
  clear q2 o2 d2 c1 r1 f1_o f1_x2
  refine mkA_i (b := o + 2) (n := 1664) c2 (by decide) (by decide) (by decide) (by decide) ?_
  intro C3 d3 q3 o3
  have c3 : C3.1 = o + 3 := by omega
  have f3_o : C3.2 (o) = some (ob 7 [.ref (o + 1), .null, .null, .null, .int 0, .int 0, .null, .int 0, .int 0, .int 0, .int 0, .int 0, .int 0, .int 0, .int 0, .int 0, .null, .null, .null, .int 0, .int 0, .int 0, .null, .int 0]) := (o3 _ (by omega)).trans f2_o
  have f3_x2 : C3.2 (o + 1) = some (ia X 1664 (fun _ => 0)) := (o3 _ (by omega)).trans f2_x2
  have r3 : ∀ b, b < o → C3.2 b = A.2 b := fun b hb => (o3 b (by omega)).trans (r2 b hb)
  have f3_x3 : C3.2 (o + 2) = some (ia X 1664 (fun _ => 0)) := q3
  clear q3 o3 d3 c2 r2 f2_o f2_x2
  refine pV_i (k := 1) (v := .ref (o + 2)) f3_o (Nat.le_of_ble_eq_true rfl) ?_
  intro C4 d4 q4 o4
  have c4 : C4.1 = o + 3 := by omega
  have f4_x2 : C4.2 (o + 1) = some (ia X 1664 (fun _ => 0)) := (o4 _ (by omega)).trans f3_x2
  have f4_x3 : C4.2 (o + 2) = some (ia X 1664 (fun _ => 0)) := (o4 _ (by omega)).trans f3_x3
  have r4 : ∀ b, b < o → C4.2 b = A.2 b := fun b hb => (o4 b (by omega)).trans (r3 b hb)
  have f4_o : C4.2 (o) = some (ob 7 [.ref (o + 1), .ref (o + 2), .null, .null, .int 0, .int 0, .null, .int 0, .int 0, .int 0, .int 0, .int 0, .int 0, .int 0, .int 0, .int 0, .null, .null, .null, .int 0, .int 0, .int 0, .null, .int 0]) := q4
  clear q4 o4 d4 c3 r3 f3_o f3_x2 f3_x3
  refine mkA_i (b := o + 3) (n := 1664) c4 (by decide) (by decide) (by decide) (by decide) ?_
  intro C5 d5 q5 o5
  have c5 : C5.1 = o + 4 := by omega
  have f5_o : C5.2 (o) = some (ob 7 [.ref (o + 1), .ref (o + 2), .null, .null, .int 0, .int 0, .null, .int 0, .int 0, .int 0, .int 0, .int 0, .int 0, .int 0, .int 0, .int 0, .null, .null, .null, .int 0, .int 0, .int 0, .null, .int 0]) := (o5 _ (by omega)).trans f4_o
  have f5_x2 : C5.2 (o + 1) = some (ia X 1664 (fun _ => 0)) := (o5 _ (by omega)).trans f4_x2
  have f5_x3 : C5.2 (o + 2) = some (ia X 1664 (fun _ => 0)) := (o5 _ (by omega)).trans f4_x3
  have r5 : ∀ b, b < o → C5.2 b = A.2 b := fun b hb => (o5 b (by omega)).trans (r4 b hb)
  have f5_x4 : C5.2 (o + 3) = some (ia X 1664 (fun _ => 0)) := q5
  clear q5 o5 d5 c4 r4 f4_o f4_x2 f4_x3
  refine pV_i (k := 2) (v := .ref (o + 3)) f5_o (Nat.le_of_ble_eq_true rfl) ?_
  intro C6 d6 q6 o6
  have c6 : C6.1 = o + 4 := by omega
  have f6_x2 : C6.2 (o + 1) = some (ia X 1664 (fun _ => 0)) := (o6 _ (by omega)).trans f5_x2
  have f6_x3 : C6.2 (o + 2) = some (ia X 1664 (fun _ => 0)) := (o6 _ (by omega)).trans f5_x3
  have f6_x4 : C6.2 (o + 3) = some (ia X 1664 (fun _ => 0)) := (o6 _ (by omega)).trans f5_x4
  have r6 : ∀ b, b < o → C6.2 b = A.2 b := fun b hb => (o6 b (by omega)).trans (r5 b hb)
  have f6_o : C6.2 (o) = some (ob 7 [.ref (o + 1), .ref (o + 2), .ref (o + 3), .null, .int 0, .int 0, .null, .int 0, .int 0, .int 0, .int 0, .int 0, .int 0, .int 0, .int 0, .int 0, .null, .null, .null, .int 0, .int 0, .int 0, .null, .int 0]) := q6
  clear q6 o6 d6 c5 r5 f5_o f5_x2 f5_x3 f5_x4
  refine mkA_i (b := o + 4) (n := 13312) c6 (by decide) (by decide) (by decide) (by decide) ?_
  intro C7 d7 q7 o7
  have c7 : C7.1 = o + 5 := by omega
  have f7_o : C7.2 (o) = some (ob 7 [.ref (o + 1), .ref (o + 2), .ref (o + 3), .null, .int 0, .int 0, .null, .int 0, .int 0, .int 0, .int 0, .int 0, .int 0, .int 0, .int 0, .int 0, .null, .null, .null, .int 0, .int 0, .int 0, .null, .int 0]) := (o7 _ (by omega)).trans f6_o
  have f7_x2 : C7.2 (o + 1) = some (ia X 1664 (fun _ => 0)) := (o7 _ (by omega)).trans f6_x2
  have f7_x3 : C7.2 (o + 2) = some (ia X 1664 (fun _ => 0)) := (o7 _ (by omega)).trans f6_x3
  have f7_x4 : C7.2 (o + 3) = some (ia X 1664 (fun _ => 0)) := (o7 _ (by omega)).trans f6_x4
  have r7 : ∀ b, b < o → C7.2 b = A.2 b := fun b hb => (o7 b (by omega)).trans (r6 b hb)
  have f7_x5 : C7.2 (o + 4) = some (ia X 13312 (fun _ => 0)) := q7
  clear q7 o7 d7 c6 r6 f6_o f6_x2 f6_x3 f6_x4
  refine pV_i (k := 3) (v := .ref (o + 4)) f7_o (Nat.le_of_ble_eq_true rfl) ?_
  intro C8 d8 q8 o8
  have c8 : C8.1 = o + 5 := by omega
  have f8_x2 : C8.2 (o + 1) = some (ia X 1664 (fun _ => 0)) := (o8 _ (by omega)).trans f7_x2
  have f8_x3 : C8.2 (o + 2) = some (ia X 1664 (fun _ => 0)) := (o8 _ (by omega)).trans f7_x3
  have f8_x4 : C8.2 (o + 3) = some (ia X 1664 (fun _ => 0)) := (o8 _ (by omega)).trans f7_x4
  have f8_x5 : C8.2 (o + 4) = some (ia X 13312 (fun _ => 0)) := (o8 _ (by omega)).trans f7_x5
  have r8 : ∀ b, b < o → C8.2 b = A.2 b := fun b hb => (o8 b (by omega)).trans (r7 b hb)
  have f8_o : C8.2 (o) = some (ob 7 [.ref (o + 1), .ref (o + 2), .ref (o + 3), .ref (o + 4), .int 0, .int 0, .null, .int 0, .int 0, .int 0, .int 0, .int 0, .int 0, .int 0, .int 0, .int 0, .null, .null, .null, .int 0, .int 0, .int 0, .null, .int 0]) := q8
  clear q8 o8 d8 c7 r7 f7_o f7_x2 f7_x3 f7_x4 f7_x5
  refine mkA_i (b := o + 5) (n := 400) c8 (by decide) (by decide) (by decide) (by decide) ?_
  intro C9 d9 q9 o9
  have c9 : C9.1 = o + 6 := by omega
  have f9_o : C9.2 (o) = some (ob 7 [.ref (o + 1), .ref (o + 2), .ref (o + 3), .ref (o + 4), .int 0, .int 0, .null, .int 0, .int 0, .int 0, .int 0, .int 0, .int 0, .int 0, .int 0, .int 0, .null, .null, .null, .int 0, .int 0, .int 0, .null, .int 0]) := (o9 _ (by omega)).trans f8_o
  have f9_x2 : C9.2 (o + 1) = some (ia X 1664 (fun _ => 0)) := (o9 _ (by omega)).trans f8_x2
  have f9_x3 : C9.2 (o + 2) = some (ia X 1664 (fun _ => 0)) := (o9 _ (by omega)).trans f8_x3
  have f9_x4 : C9.2 (o + 3) = some (ia X 1664 (fun _ => 0)) := (o9 _ (by omega)).trans f8_x4
  have f9_x5 : C9.2 (o + 4) = some (ia X 13312 (fun _ => 0)) := (o9 _ (by omega)).trans f8_x5
  have r9 : ∀ b, b < o → C9.2 b = A.2 b := fun b hb => (o9 b (by omega)).trans (r8 b hb)
  have f9_x6 : C9.2 (o + 5) = some (ia X 400 (fun _ => 0)) := q9
  clear q9 o9 d9 c8 r8 f8_o f8_x2 f8_x3 f8_x4 f8_x5
  refine pV_i (k := 6) (v := .ref (o + 5)) f9_o (Nat.le_of_ble_eq_true rfl) ?_
  intro C10 d10 q10 o10
  have c10 : C10.1 = o + 6 := by omega
  have f10_x2 : C10.2 (o + 1) = some (ia X 1664 (fun _ => 0)) := (o10 _ (by omega)).trans f9_x2
  have f10_x3 : C10.2 (o + 2) = some (ia X 1664 (fun _ => 0)) := (o10 _ (by omega)).trans f9_x3
  have f10_x4 : C10.2 (o + 3) = some (ia X 1664 (fun _ => 0)) := (o10 _ (by omega)).trans f9_x4
  have f10_x5 : C10.2 (o + 4) = some (ia X 13312 (fun _ => 0)) := (o10 _ (by omega)).trans f9_x5
  have f10_x6 : C10.2 (o + 5) = some (ia X 400 (fun _ => 0)) := (o10 _ (by omega)).trans f9_x6
  have r10 : ∀ b, b < o → C10.2 b = A.2 b := fun b hb => (o10 b (by omega)).trans (r9 b hb)
  have f10_o : C10.2 (o) = some (ob 7 [.ref (o + 1), .ref (o + 2), .ref (o + 3), .ref (o + 4), .int 0, .int 0, .ref (o + 5), .int 0, .int 0, .int 0, .int 0, .int 0, .int 0, .int 0, .int 0, .int 0, .null, .null, .null, .int 0, .int 0, .int 0, .null, .int 0]) := q10
  clear q10 o10 d10 c9 r9 f9_o f9_x2 f9_x3 f9_x4 f9_x5 f9_x6
  refine pV_i (k := 15) (v := .int (-1)) f10_o (Nat.le_of_ble_eq_true rfl) ?_
  intro C11 d11 q11 o11
  have c11 : C11.1 = o + 6 := by omega
  have f11_x2 : C11.2 (o + 1) = some (ia X 1664 (fun _ => 0)) := (o11 _ (by omega)).trans f10_x2
  have f11_x3 : C11.2 (o + 2) = some (ia X 1664 (fun _ => 0)) := (o11 _ (by omega)).trans f10_x3
  have f11_x4 : C11.2 (o + 3) = some (ia X 1664 (fun _ => 0)) := (o11 _ (by omega)).trans f10_x4
  have f11_x5 : C11.2 (o + 4) = some (ia X 13312 (fun _ => 0)) := (o11 _ (by omega)).trans f10_x5
  have f11_x6 : C11.2 (o + 5) = some (ia X 400 (fun _ => 0)) := (o11 _ (by omega)).trans f10_x6
  have r11 : ∀ b, b < o → C11.2 b = A.2 b := fun b hb => (o11 b (by omega)).trans (r10 b hb)
  have f11_o : C11.2 (o) = some (ob 7 [.ref (o + 1), .ref (o + 2), .ref (o + 3), .ref (o + 4), .int 0, .int 0, .ref (o + 5), .int 0, .int 0, .int 0, .int 0, .int 0, .int 0, .int 0, .int 0, .int (-1), .null, .null, .null, .int 0, .int 0, .int 0, .null, .int 0]) := q11
  clear q11 o11 d11 c10 r10 f10_o f10_x2 f10_x3 f10_x4 f10_x5 f10_x6
  refine mkA_i (b := o + 6) (n := 64) c11 (by decide) (by decide) (by decide) (by decide) ?_
  intro C12 d12 q12 o12
  have c12 : C12.1 = o + 7 := by omega
  have f12_o : C12.2 (o) = some (ob 7 [.ref (o + 1), .ref (o + 2), .ref (o + 3), .ref (o + 4), .int 0, .int 0, .ref (o + 5), .int 0, .int 0, .int 0, .int 0, .int 0, .int 0, .int 0, .int 0, .int (-1), .null, .null, .null, .int 0, .int 0, .int 0, .null, .int 0]) := (o12 _ (by omega)).trans f11_o
  have f12_x2 : C12.2 (o + 1) = some (ia X 1664 (fun _ => 0)) := (o12 _ (by omega)).trans f11_x2
  have f12_x3 : C12.2 (o + 2) = some (ia X 1664 (fun _ => 0)) := (o12 _ (by omega)).trans f11_x3
  have f12_x4 : C12.2 (o + 3) = some (ia X 1664 (fun _ => 0)) := (o12 _ (by omega)).trans f11_x4
  have f12_x5 : C12.2 (o + 4) = some (ia X 13312 (fun _ => 0)) := (o12 _ (by omega)).trans f11_x5
  have f12_x6 : C12.2 (o + 5) = some (ia X 400 (fun _ => 0)) := (o12 _ (by omega)).trans f11_x6
  have r12 : ∀ b, b < o → C12.2 b = A.2 b := fun b hb => (o12 b (by omega)).trans (r11 b hb)
  have f12_x7 : C12.2 (o + 6) = some (ia X 64 (fun _ => 0)) := q12
  clear q12 o12 d12 c11 r11 f11_o f11_x2 f11_x3 f11_x4 f11_x5 f11_x6
  refine pV_i (k := 16) (v := .ref (o + 6)) f12_o (Nat.le_of_ble_eq_true rfl) ?_
  intro C13 d13 q13 o13
  have c13 : C13.1 = o + 7 := by omega
  have f13_x2 : C13.2 (o + 1) = some (ia X 1664 (fun _ => 0)) := (o13 _ (by omega)).trans f12_x2
  have f13_x3 : C13.2 (o + 2) = some (ia X 1664 (fun _ => 0)) := (o13 _ (by omega)).trans f12_x3
  have f13_x4 : C13.2 (o + 3) = some (ia X 1664 (fun _ => 0)) := (o13 _ (by omega)).trans f12_x4
  have f13_x5 : C13.2 (o + 4) = some (ia X 13312 (fun _ => 0)) := (o13 _ (by omega)).trans f12_x5
  have f13_x6 : C13.2 (o + 5) = some (ia X 400 (fun _ => 0)) := (o13 _ (by omega)).trans f12_x6
  have f13_x7 : C13.2 (o + 6) = some (ia X 64 (fun _ => 0)) := (o13 _ (by omega)).trans f12_x7
  have r13 : ∀ b, b < o → C13.2 b = A.2 b := fun b hb => (o13 b (by omega)).trans (r12 b hb)
  have f13_o : C13.2 (o) = some (ob 7 [.ref (o + 1), .ref (o + 2), .ref (o + 3), .ref (o + 4), .int 0, .int 0, .ref (o + 5), .int 0, .int 0, .int 0, .int 0, .int 0, .int 0, .int 0, .int 0, .int (-1), .ref (o + 6), .null, .null, .int 0, .int 0, .int 0, .null, .int 0]) := q13
  clear q13 o13 d13 c12 r12 f12_o f12_x2 f12_x3 f12_x4 f12_x5 f12_x6 f12_x7
  refine mkA_i (b := o + 7) (n := 64) c13 (by decide) (by decide) (by decide) (by decide) ?_
  intro C14 d14 q14 o14
  have c14 : C14.1 = o + 8 := by omega
  have f14_o : C14.2 (o) = some (ob 7 [.ref (o + 1), .ref (o + 2), .ref (o + 3), .ref (o + 4), .int 0, .int 0, .ref (o + 5), .int 0, .int 0, .int 0, .int 0, .int 0, .int 0, .int 0, .int 0, .int (-1), .ref (o + 6), .null, .null, .int 0, .int 0, .int 0, .null, .int 0]) := (o14 _ (by omega)).trans f13_o
  have f14_x2 : C14.2 (o + 1) = some (ia X 1664 (fun _ => 0)) := (o14 _ (by omega)).trans f13_x2
  have f14_x3 : C14.2 (o + 2) = some (ia X 1664 (fun _ => 0)) := (o14 _ (by omega)).trans f13_x3
  have f14_x4 : C14.2 (o + 3) = some (ia X 1664 (fun _ => 0)) := (o14 _ (by omega)).trans f13_x4
  have f14_x5 : C14.2 (o + 4) = some (ia X 13312 (fun _ => 0)) := (o14 _ (by omega)).trans f13_x5
  have f14_x6 : C14.2 (o + 5) = some (ia X 400 (fun _ => 0)) := (o14 _ (by omega)).trans f13_x6
  have f14_x7 : C14.2 (o + 6) = some (ia X 64 (fun _ => 0)) := (o14 _ (by omega)).trans f13_x7
  have r14 : ∀ b, b < o → C14.2 b = A.2 b := fun b hb => (o14 b (by omega)).trans (r13 b hb)
  have f14_x8 : C14.2 (o + 7) = some (ia X 64 (fun _ => 0)) := q14
  clear q14 o14 d14 c13 r13 f13_o f13_x2 f13_x3 f13_x4 f13_x5 f13_x6 f13_x7
  refine pV_i (k := 17) (v := .ref (o + 7)) f14_o (Nat.le_of_ble_eq_true rfl) ?_
  intro C15 d15 q15 o15
  have c15 : C15.1 = o + 8 := by omega
  have f15_x2 : C15.2 (o + 1) = some (ia X 1664 (fun _ => 0)) := (o15 _ (by omega)).trans f14_x2
  have f15_x3 : C15.2 (o + 2) = some (ia X 1664 (fun _ => 0)) := (o15 _ (by omega)).trans f14_x3
  have f15_x4 : C15.2 (o + 3) = some (ia X 1664 (fun _ => 0)) := (o15 _ (by omega)).trans f14_x4
  have f15_x5 : C15.2 (o + 4) = some (ia X 13312 (fun _ => 0)) := (o15 _ (by omega)).trans f14_x5
  have f15_x6 : C15.2 (o + 5) = some (ia X 400 (fun _ => 0)) := (o15 _ (by omega)).trans f14_x6
  have f15_x7 : C15.2 (o + 6) = some (ia X 64 (fun _ => 0)) := (o15 _ (by omega)).trans f14_x7
  have f15_x8 : C15.2 (o + 7) = some (ia X 64 (fun _ => 0)) := (o15 _ (by omega)).trans f14_x8
  have r15 : ∀ b, b < o → C15.2 b = A.2 b := fun b hb => (o15 b (by omega)).trans (r14 b hb)
  have f15_o : C15.2 (o) = some (ob 7 [.ref (o + 1), .ref (o + 2), .ref (o + 3), .ref (o + 4), .int 0, .int 0, .ref (o + 5), .int 0, .int 0, .int 0, .int 0, .int 0, .int 0, .int 0, .int 0, .int (-1), .ref (o + 6), .ref (o + 7), .null, .int 0, .int 0, .int 0, .null, .int 0]) := q15
  clear q15 o15 d15 c14 r14 f14_o f14_x2 f14_x3 f14_x4 f14_x5 f14_x6 f14_x7 f14_x8
  refine mkA_i (b := o + 8) (n := 48) c15 (by decide) (by decide) (by decide) (by decide) ?_
  intro C16 d16 q16 o16
  have c16 : C16.1 = o + 9 := by omega
  have f16_o : C16.2 (o) = some (ob 7 [.ref (o + 1), .ref (o + 2), .ref (o + 3), .ref (o + 4), .int 0, .int 0, .ref (o + 5), .int 0, .int 0, .int 0, .int 0, .int 0, .int 0, .int 0, .int 0, .int (-1), .ref (o + 6), .ref (o + 7), .null, .int 0, .int 0, .int 0, .null, .int 0]) := (o16 _ (by omega)).trans f15_o
  have f16_x2 : C16.2 (o + 1) = some (ia X 1664 (fun _ => 0)) := (o16 _ (by omega)).trans f15_x2
  have f16_x3 : C16.2 (o + 2) = some (ia X 1664 (fun _ => 0)) := (o16 _ (by omega)).trans f15_x3
  have f16_x4 : C16.2 (o + 3) = some (ia X 1664 (fun _ => 0)) := (o16 _ (by omega)).trans f15_x4
  have f16_x5 : C16.2 (o + 4) = some (ia X 13312 (fun _ => 0)) := (o16 _ (by omega)).trans f15_x5
  have f16_x6 : C16.2 (o + 5) = some (ia X 400 (fun _ => 0)) := (o16 _ (by omega)).trans f15_x6
  have f16_x7 : C16.2 (o + 6) = some (ia X 64 (fun _ => 0)) := (o16 _ (by omega)).trans f15_x7
  have f16_x8 : C16.2 (o + 7) = some (ia X 64 (fun _ => 0)) := (o16 _ (by omega)).trans f15_x8
  have r16 : ∀ b, b < o → C16.2 b = A.2 b := fun b hb => (o16 b (by omega)).trans (r15 b hb)
  have f16_x9 : C16.2 (o + 8) = some (za X 48 (fun _ => 0)) := q16
  clear q16 o16 d16 c15 r15 f15_o f15_x2 f15_x3 f15_x4 f15_x5 f15_x6 f15_x7 f15_x8
  refine pV_i (k := 18) (v := .ref (o + 8)) f16_o (Nat.le_of_ble_eq_true rfl) ?_
  intro C17 d17 q17 o17
  have c17 : C17.1 = o + 9 := by omega
  have f17_x2 : C17.2 (o + 1) = some (ia X 1664 (fun _ => 0)) := (o17 _ (by omega)).trans f16_x2
  have f17_x3 : C17.2 (o + 2) = some (ia X 1664 (fun _ => 0)) := (o17 _ (by omega)).trans f16_x3
  have f17_x4 : C17.2 (o + 3) = some (ia X 1664 (fun _ => 0)) := (o17 _ (by omega)).trans f16_x4
  have f17_x5 : C17.2 (o + 4) = some (ia X 13312 (fun _ => 0)) := (o17 _ (by omega)).trans f16_x5
  have f17_x6 : C17.2 (o + 5) = some (ia X 400 (fun _ => 0)) := (o17 _ (by omega)).trans f16_x6
  have f17_x7 : C17.2 (o + 6) = some (ia X 64 (fun _ => 0)) := (o17 _ (by omega)).trans f16_x7
  have f17_x8 : C17.2 (o + 7) = some (ia X 64 (fun _ => 0)) := (o17 _ (by omega)).trans f16_x8
  have f17_x9 : C17.2 (o + 8) = some (za X 48 (fun _ => 0)) := (o17 _ (by omega)).trans f16_x9
  have r17 : ∀ b, b < o → C17.2 b = A.2 b := fun b hb => (o17 b (by omega)).trans (r16 b hb)
  have f17_o : C17.2 (o) = some (ob 7 [.ref (o + 1), .ref (o + 2), .ref (o + 3), .ref (o + 4), .int 0, .int 0, .ref (o + 5), .int 0, .int 0, .int 0, .int 0, .int 0, .int 0, .int 0, .int 0, .int (-1), .ref (o + 6), .ref (o + 7), .ref (o + 8), .int 0, .int 0, .int 0, .null, .int 0]) := q17
  clear q17 o17 d17 c16 r16 f16_o f16_x2 f16_x3 f16_x4 f16_x5 f16_x6 f16_x7 f16_x8 f16_x9
  refine mkA_i (b := o + 9) (n := 60) c17 (by decide) (by decide) (by decide) (by decide) ?_
  intro C18 d18 q18 o18
  have c18 : C18.1 = o + 10 := by omega
  have f18_o : C18.2 (o) = some (ob 7 [.ref (o + 1), .ref (o + 2), .ref (o + 3), .ref (o + 4), .int 0, .int 0, .ref (o + 5), .int 0, .int 0, .int 0, .int 0, .int 0, .int 0, .int 0, .int 0, .int (-1), .ref (o + 6), .ref (o + 7), .ref (o + 8), .int 0, .int 0, .int 0, .null, .int 0]) := (o18 _ (by omega)).trans f17_o
  have f18_x2 : C18.2 (o + 1) = some (ia X 1664 (fun _ => 0)) := (o18 _ (by omega)).trans f17_x2
  have f18_x3 : C18.2 (o + 2) = some (ia X 1664 (fun _ => 0)) := (o18 _ (by omega)).trans f17_x3
  have f18_x4 : C18.2 (o + 3) = some (ia X 1664 (fun _ => 0)) := (o18 _ (by omega)).trans f17_x4
  have f18_x5 : C18.2 (o + 4) = some (ia X 13312 (fun _ => 0)) := (o18 _ (by omega)).trans f17_x5
  have f18_x6 : C18.2 (o + 5) = some (ia X 400 (fun _ => 0)) := (o18 _ (by omega)).trans f17_x6
  have f18_x7 : C18.2 (o + 6) = some (ia X 64 (fun _ => 0)) := (o18 _ (by omega)).trans f17_x7
  have f18_x8 : C18.2 (o + 7) = some (ia X 64 (fun _ => 0)) := (o18 _ (by omega)).trans f17_x8
  have f18_x9 : C18.2 (o + 8) = some (za X 48 (fun _ => 0)) := (o18 _ (by omega)).trans f17_x9
  have r18 : ∀ b, b < o → C18.2 b = A.2 b := fun b hb => (o18 b (by omega)).trans (r17 b hb)
  have f18_x10 : C18.2 (o + 9) = some (ia X 60 (fun _ => 0)) := q18
  clear q18 o18 d18 c17 r17 f17_o f17_x2 f17_x3 f17_x4 f17_x5 f17_x6 f17_x7 f17_x8 f17_x9
  refine pV_i (k := 22) (v := .ref (o + 9)) f18_o (Nat.le_of_ble_eq_true rfl) ?_
  intro C19 d19 q19 o19
  have c19 : C19.1 = o + 10 := by omega
  have f19_x2 : C19.2 (o + 1) = some (ia X 1664 (fun _ => 0)) := (o19 _ (by omega)).trans f18_x2
  have f19_x3 : C19.2 (o + 2) = some (ia X 1664 (fun _ => 0)) := (o19 _ (by omega)).trans f18_x3
  have f19_x4 : C19.2 (o + 3) = some (ia X 1664 (fun _ => 0)) := (o19 _ (by omega)).trans f18_x4
  have f19_x5 : C19.2 (o + 4) = some (ia X 13312 (fun _ => 0)) := (o19 _ (by omega)).trans f18_x5
  have f19_x6 : C19.2 (o + 5) = some (ia X 400 (fun _ => 0)) := (o19 _ (by omega)).trans f18_x6
  have f19_x7 : C19.2 (o + 6) = some (ia X 64 (fun _ => 0)) := (o19 _ (by omega)).trans f18_x7
  have f19_x8 : C19.2 (o + 7) = some (ia X 64 (fun _ => 0)) := (o19 _ (by omega)).trans f18_x8
  have f19_x9 : C19.2 (o + 8) = some (za X 48 (fun _ => 0)) := (o19 _ (by omega)).trans f18_x9
  have f19_x10 : C19.2 (o + 9) = some (ia X 60 (fun _ => 0)) := (o19 _ (by omega)).trans f18_x10
  have r19 : ∀ b, b < o → C19.2 b = A.2 b := fun b hb => (o19 b (by omega)).trans (r18 b hb)
  have f19_o : C19.2 (o) = some (ob 7 [.ref (o + 1), .ref (o + 2), .ref (o + 3), .ref (o + 4), .int 0, .int 0, .ref (o + 5), .int 0, .int 0, .int 0, .int 0, .int 0, .int 0, .int 0, .int 0, .int (-1), .ref (o + 6), .ref (o + 7), .ref (o + 8), .int 0, .int 0, .int 0, .ref (o + 9), .int 0]) := q19
  clear q19 o19 d19 c18 r18 f18_o f18_x2 f18_x3 f18_x4 f18_x5 f18_x6 f18_x7 f18_x8 f18_x9 f18_x10
  have em : mp X o C19 iZ = C19 := by
    refine Prod.ext rfl (funext fun b => ?_)
    by_cases h0 : b = o
    · rw [h0]
      exact mp_o.trans f19_o.symm
    by_cases h1 : b = o + 1
    · rw [h1]
      exact mp_c0.trans f19_x2.symm
    by_cases h2 : b = o + 2
    · rw [h2]
      exact mp_c1.trans f19_x3.symm
    by_cases h3 : b = o + 3
    · rw [h3]
      exact mp_c2.trans f19_x4.symm
    by_cases h4 : b = o + 4
    · rw [h4]
      exact mp_c3.trans f19_x5.symm
    by_cases h5 : b = o + 5
    · rw [h5]
      exact mp_c4.trans f19_x6.symm
    by_cases h6 : b = o + 6
    · rw [h6]
      exact mp_c5.trans f19_x7.symm
    by_cases h7 : b = o + 7
    · rw [h7]
      exact mp_c6.trans f19_x8.symm
    by_cases h8 : b = o + 8
    · rw [h8]
      exact mp_c7.trans f19_x9.symm
    by_cases h9 : b = o + 9
    · rw [h9]
      exact mp_c8.trans f19_x10.symm
    exact mp_out (by omega)
  obtain ⟨B, hB⟩ : ∃ B, B = C19 := ⟨_, rfl⟩
  rw [← hB] at em
  have eC : C19 = mp X o B iZ := by rw [em, hB]
  have hc := c_X6_begins (X := X) (o := o) (B := B) (S := iZ) hl (n := 1) (s := 0)
  rw [eC]
  simp only [I_n]
  refine ⟨mp_isO, hc.cl0 (by decide) ?_⟩
  rw [rV_of, mp_gR1, mp_sI1 (by decide) (by decide), mp_gR1, mp_sI1 (by decide) (by decide), mp_gR1]
  have er : st (st (sw iZ 1 (rBeg2 (iZ 1) 1 0)) 1 2 4) 1 3 4 = sw iZ 1 iRow := by
    rw [sw_sti, sw_sti]
    rfl
  rw [er]
  have hb := c_X6_becomes1 (X := X) (o := o) (B := B) (S := sw iZ 1 iRow) hl (f := 0) (by decide) (by decide)
  refine ⟨mp_isO, hb.cl0 (by decide) ?_⟩
  rw [rV_of, hQ]
  have e1 : sw iZ 1 iRow 1 = iRow := sw_i
  have e0 : sw iZ 1 iRow 0 = iZ 0 := sw_j (by decide)
  rw [e0, e1]
  refine ⟨rfl, ?_, mp_mp, fun b hb => (mp_out (Or.inl hb)).trans ?_⟩
  · show B.1 = o + 10
    rw [hB, c19]
  · rw [hB]
    exact r19 b hb
def iV : Nat → Int → Int := st (fun _ _ => 0) 2 2 (-1)
theorem c_X5_init (hl : l.stackTraces = false) (h : A.2 t = some (ob 6 df_6)) (hs : A.1 = t + 1) (hE : A.2 (xE X) = some (ra X 4 0 (fun _ => none))) (hE0 : xE X < t) : Ct l X 5 M_X5_init [.ref t] A 27 2669 (fun o' A' => o' = Rv ∧ A'.1 = t + 28 ∧ (∀ b, b < t → A'.2 b = A.2 b) ∧ ∃ w' a, TAt X A' w' t iV a (fun _ => none) none iS ∧ ∀ b, b < t → w' b = 0) := by
  obtain ⟨Q, hQ⟩ : ∃ Q : Ot → AH → Prop, Q = (fun o' A' => o' = Rv ∧ A'.1 = t + 28 ∧ (∀ b, b < t → A'.2 b = A.2 b) ∧ ∃ w' a, TAt X A' w' t iV a (fun _ => none) none iS ∧ ∀ b, b < t → w' b = 0) := ⟨_, rfl⟩
  rw [← hQ]
  have ir := iRow_n
  refine Ct.of hl rfl rfl (Nat.le_of_ble_eq_true rfl) (k_X5_init_0 ?_)
  obtain ⟨C0, hC0⟩ : ∃ C0, C0 = A := ⟨_, rfl⟩
  have c0 : C0.1 = t + 1 := by rw [hC0]; exact hs
  have f0_o : C0.2 (t) = some (ob 6 [.null, .int 0, .int 0, .null, .int 0, .null, .null, .int 0, .int 0, .null]) := by rw [hC0]; exact h
  have r0 : ∀ b, b < t → C0.2 b = A.2 b := fun b _ => by rw [hC0]
  rw [← hC0]
  clear hC0
  refine mkA_i (b := t + 1) (n := 400) c0 (by decide) (by decide) (by decide) (by decide) ?_
  intro C1 d1 q1 o1
  have c1 : C1.1 = t + 2 := by omega
  have f1_o : C1.2 (t) = some (ob 6 [.null, .int 0, .int 0, .null, .int 0, .null, .null, .int 0, .int 0, .null]) := (o1 _ (by omega)).trans f0_o
  have r1 : ∀ b, b < t → C1.2 b = A.2 b := fun b hb => (o1 b (by omega)).trans (r0 b hb)
  have f1_x2 : C1.2 (t + 1) = some (ia X 400 (fun _ => 0)) := q1
  clear q1 o1 d1 c0 r0 f0_o
  refine pV_i (k := 0) (v := .ref (t + 1)) f1_o (Nat.le_of_ble_eq_true rfl) ?_
  intro C2 d2 q2 o2
  have c2 : C2.1 = t + 2 := by omega
  have f2_x2 : C2.2 (t + 1) = some (ia X 400 (fun _ => 0)) := (o2 _ (by omega)).trans f1_x2
  have r2 : ∀ b, b < t → C2.2 b = A.2 b := fun b hb => (o2 b (by omega)).trans (r1 b hb)
  have f2_o : C2.2 (t) = some (ob 6 [.ref (t + 1), .int 0, .int 0, .null, .int 0, .null, .null, .int 0, .int 0, .null]) := q2
  clear q2 o2 d2 c1 r1 f1_o f1_x2
  refine pV_i (k := 1) (v := .int 0) f2_o (Nat.le_of_ble_eq_true rfl) ?_
  intro C3 d3 q3 o3
  have c3 : C3.1 = t + 2 := by omega
  have f3_x2 : C3.2 (t + 1) = some (ia X 400 (fun _ => 0)) := (o3 _ (by omega)).trans f2_x2
  have r3 : ∀ b, b < t → C3.2 b = A.2 b := fun b hb => (o3 b (by omega)).trans (r2 b hb)
  have f3_o : C3.2 (t) = some (ob 6 [.ref (t + 1), .int 0, .int 0, .null, .int 0, .null, .null, .int 0, .int 0, .null]) := q3
  clear q3 o3 d3 c2 r2 f2_o f2_x2
  refine pV_i (k := 2) (v := .int (-1)) f3_o (Nat.le_of_ble_eq_true rfl) ?_
  intro C4 d4 q4 o4
  have c4 : C4.1 = t + 2 := by omega
  have f4_x2 : C4.2 (t + 1) = some (ia X 400 (fun _ => 0)) := (o4 _ (by omega)).trans f3_x2
  have r4 : ∀ b, b < t → C4.2 b = A.2 b := fun b hb => (o4 b (by omega)).trans (r3 b hb)
  have f4_o : C4.2 (t) = some (ob 6 [.ref (t + 1), .int 0, .int (-1), .null, .int 0, .null, .null, .int 0, .int 0, .null]) := q4
  clear q4 o4 d4 c3 r3 f3_o f3_x2
  refine mkA_i (b := t + 2) (n := 60) c4 (by decide) (by decide) (by decide) (by decide) ?_
  intro C5 d5 q5 o5
  have c5 : C5.1 = t + 3 := by omega
  have f5_o : C5.2 (t) = some (ob 6 [.ref (t + 1), .int 0, .int (-1), .null, .int 0, .null, .null, .int 0, .int 0, .null]) := (o5 _ (by omega)).trans f4_o
  have f5_x2 : C5.2 (t + 1) = some (ia X 400 (fun _ => 0)) := (o5 _ (by omega)).trans f4_x2
  have r5 : ∀ b, b < t → C5.2 b = A.2 b := fun b hb => (o5 b (by omega)).trans (r4 b hb)
  have f5_x3 : C5.2 (t + 2) = some (ia X 60 (fun _ => 0)) := q5
  clear q5 o5 d5 c4 r4 f4_o f4_x2
  refine pV_i (k := 3) (v := .ref (t + 2)) f5_o (Nat.le_of_ble_eq_true rfl) ?_
  intro C6 d6 q6 o6
  have c6 : C6.1 = t + 3 := by omega
  have f6_x2 : C6.2 (t + 1) = some (ia X 400 (fun _ => 0)) := (o6 _ (by omega)).trans f5_x2
  have f6_x3 : C6.2 (t + 2) = some (ia X 60 (fun _ => 0)) := (o6 _ (by omega)).trans f5_x3
  have r6 : ∀ b, b < t → C6.2 b = A.2 b := fun b hb => (o6 b (by omega)).trans (r5 b hb)
  have f6_o : C6.2 (t) = some (ob 6 [.ref (t + 1), .int 0, .int (-1), .ref (t + 2), .int 0, .null, .null, .int 0, .int 0, .null]) := q6
  clear q6 o6 d6 c5 r5 f5_o f5_x2 f5_x3
  refine pV_i (k := 4) (v := .int 0) f6_o (Nat.le_of_ble_eq_true rfl) ?_
  intro C7 d7 q7 o7
  have c7 : C7.1 = t + 3 := by omega
  have f7_x2 : C7.2 (t + 1) = some (ia X 400 (fun _ => 0)) := (o7 _ (by omega)).trans f6_x2
  have f7_x3 : C7.2 (t + 2) = some (ia X 60 (fun _ => 0)) := (o7 _ (by omega)).trans f6_x3
  have r7 : ∀ b, b < t → C7.2 b = A.2 b := fun b hb => (o7 b (by omega)).trans (r6 b hb)
  have f7_o : C7.2 (t) = some (ob 6 [.ref (t + 1), .int 0, .int (-1), .ref (t + 2), .int 0, .null, .null, .int 0, .int 0, .null]) := q7
  clear q7 o7 d7 c6 r6 f6_o f6_x2 f6_x3
  refine mkA_i (b := t + 3) (n := 8) c7 (by decide) (by decide) (by decide) (by decide) ?_
  intro C8 d8 q8 o8
  have c8 : C8.1 = t + 4 := by omega
  have f8_o : C8.2 (t) = some (ob 6 [.ref (t + 1), .int 0, .int (-1), .ref (t + 2), .int 0, .null, .null, .int 0, .int 0, .null]) := (o8 _ (by omega)).trans f7_o
  have f8_x2 : C8.2 (t + 1) = some (ia X 400 (fun _ => 0)) := (o8 _ (by omega)).trans f7_x2
  have f8_x3 : C8.2 (t + 2) = some (ia X 60 (fun _ => 0)) := (o8 _ (by omega)).trans f7_x3
  have r8 : ∀ b, b < t → C8.2 b = A.2 b := fun b hb => (o8 b (by omega)).trans (r7 b hb)
  have f8_x4 : C8.2 (t + 3) = some (ra X 3 8 (fun _ => none)) := q8
  clear q8 o8 d8 c7 r7 f7_o f7_x2 f7_x3
  refine pV_i (k := 6) (v := .ref (t + 3)) f8_o (Nat.le_of_ble_eq_true rfl) ?_
  intro C9 d9 q9 o9
  have c9 : C9.1 = t + 4 := by omega
  have f9_x2 : C9.2 (t + 1) = some (ia X 400 (fun _ => 0)) := (o9 _ (by omega)).trans f8_x2
  have f9_x3 : C9.2 (t + 2) = some (ia X 60 (fun _ => 0)) := (o9 _ (by omega)).trans f8_x3
  have f9_x4 : C9.2 (t + 3) = some (ra X 3 8 (fun _ => none)) := (o9 _ (by omega)).trans f8_x4
  have r9 : ∀ b, b < t → C9.2 b = A.2 b := fun b hb => (o9 b (by omega)).trans (r8 b hb)
  have f9_o : C9.2 (t) = some (ob 6 [.ref (t + 1), .int 0, .int (-1), .ref (t + 2), .int 0, .null, .ref (t + 3), .int 0, .int 0, .null]) := q9
  clear q9 o9 d9 c8 r8 f8_o f8_x2 f8_x3 f8_x4
  refine pV_i (k := 7) (v := .int 0) f9_o (Nat.le_of_ble_eq_true rfl) ?_
  intro C10 d10 q10 o10
  have c10 : C10.1 = t + 4 := by omega
  have f10_x2 : C10.2 (t + 1) = some (ia X 400 (fun _ => 0)) := (o10 _ (by omega)).trans f9_x2
  have f10_x3 : C10.2 (t + 2) = some (ia X 60 (fun _ => 0)) := (o10 _ (by omega)).trans f9_x3
  have f10_x4 : C10.2 (t + 3) = some (ra X 3 8 (fun _ => none)) := (o10 _ (by omega)).trans f9_x4
  have r10 : ∀ b, b < t → C10.2 b = A.2 b := fun b hb => (o10 b (by omega)).trans (r9 b hb)
  have f10_o : C10.2 (t) = some (ob 6 [.ref (t + 1), .int 0, .int (-1), .ref (t + 2), .int 0, .null, .ref (t + 3), .int 0, .int 0, .null]) := q10
  clear q10 o10 d10 c9 r9 f9_o f9_x2 f9_x3 f9_x4
  refine pV_i (k := 8) (v := .int 0) f10_o (Nat.le_of_ble_eq_true rfl) ?_
  intro C11 d11 q11 o11
  have c11 : C11.1 = t + 4 := by omega
  have f11_x2 : C11.2 (t + 1) = some (ia X 400 (fun _ => 0)) := (o11 _ (by omega)).trans f10_x2
  have f11_x3 : C11.2 (t + 2) = some (ia X 60 (fun _ => 0)) := (o11 _ (by omega)).trans f10_x3
  have f11_x4 : C11.2 (t + 3) = some (ra X 3 8 (fun _ => none)) := (o11 _ (by omega)).trans f10_x4
  have r11 : ∀ b, b < t → C11.2 b = A.2 b := fun b hb => (o11 b (by omega)).trans (r10 b hb)
  have f11_o : C11.2 (t) = some (ob 6 [.ref (t + 1), .int 0, .int (-1), .ref (t + 2), .int 0, .null, .ref (t + 3), .int 0, .int 0, .null]) := q11
  clear q11 o11 d11 c10 r10 f10_o f10_x2 f10_x3 f10_x4
  refine pV_i (k := 9) (v := .null) f11_o (Nat.le_of_ble_eq_true rfl) ?_
  intro C12 d12 q12 o12
  have c12 : C12.1 = t + 4 := by omega
  have f12_x2 : C12.2 (t + 1) = some (ia X 400 (fun _ => 0)) := (o12 _ (by omega)).trans f11_x2
  have f12_x3 : C12.2 (t + 2) = some (ia X 60 (fun _ => 0)) := (o12 _ (by omega)).trans f11_x3
  have f12_x4 : C12.2 (t + 3) = some (ra X 3 8 (fun _ => none)) := (o12 _ (by omega)).trans f11_x4
  have r12 : ∀ b, b < t → C12.2 b = A.2 b := fun b hb => (o12 b (by omega)).trans (r11 b hb)
  have f12_o : C12.2 (t) = some (ob 6 [.ref (t + 1), .int 0, .int (-1), .ref (t + 2), .int 0, .null, .ref (t + 3), .int 0, .int 0, .null]) := q12
  clear q12 o12 d12 c11 r11 f11_o f11_x2 f11_x3 f11_x4
  refine mk_i (b := t + 4) c12 (by decide) (by decide) ?_
  intro C13 d13 q13 o13
  have c13 : C13.1 = t + 5 := by omega
  have f13_o : C13.2 (t) = some (ob 6 [.ref (t + 1), .int 0, .int (-1), .ref (t + 2), .int 0, .null, .ref (t + 3), .int 0, .int 0, .null]) := (o13 _ (by omega)).trans f12_o
  have f13_x2 : C13.2 (t + 1) = some (ia X 400 (fun _ => 0)) := (o13 _ (by omega)).trans f12_x2
  have f13_x3 : C13.2 (t + 2) = some (ia X 60 (fun _ => 0)) := (o13 _ (by omega)).trans f12_x3
  have f13_x4 : C13.2 (t + 3) = some (ra X 3 8 (fun _ => none)) := (o13 _ (by omega)).trans f12_x4
  have r13 : ∀ b, b < t → C13.2 b = A.2 b := fun b hb => (o13 b (by omega)).trans (r12 b hb)
  have f13_pl : C13.2 (t + 4) = some (ob 4 [.int 0, .int 0, .int 0, .int 0, .null, .null, .null, .null, .null, .null, .null, .null, .null, .int 0, .null, .int 0]) := q13
  clear q13 o13 d13 c12 r12 f12_o f12_x2 f12_x3 f12_x4
  have hp := c_X3_init (X := X) (p := t + 4) (r := iRow) hl f13_pl c13 iRow_RW.1 (by rw [ir.2.1]; decide) ir.2.2.2.2.1 ir.2.2.2.2.2.1 ir.2.2.2.2.2.2.1 ir.2.2.2.2.2.2.2
  rw [ir.1, ir.2.1, ir.2.2.1, ir.2.2.2.1] at hp
  simp only [I_n]
  refine Cal.of hp (by decide) (by decide) (by decide) ?_
  rintro o1 B1 ⟨rfl, b1, P, p1, p2, p3⟩
  rw [zV_of]
  refine mk_i (b := t + 15) b1 (by decide) (by decide) ?_
  intro B2 d2 q2 g2
  have hE2 : B2.2 (xE X) = some (ra X 4 0 (fun _ => none)) := (g2 _ (by omega)).trans ((p3 _ (by omega)).trans ((r13 _ hE0).trans hE))
  refine Cal.of (c_X1_init (a := t + 15) (p := t + 4) hl q2 d2 hE2 (by omega)) (by decide) (by decide) (by decide) ?_
  rintro o2 B3 ⟨rfl, b3, dl, li, p4⟩
  rw [zV_of]
  have lowB : ∀ b, b < t + 4 → B3.2 b = C13.2 b := fun b hb => (p4 b (by omega)).trans ((g2 b (by omega)).trans (p3 b hb))
  have k0 := (lowB t (by omega)).trans f13_o
  refine pV_i (k := 5) (v := .ref (t + 15)) k0 (Nat.le_of_ble_eq_true rfl) ?_
  intro B4 d4 q4 g4
  have pl4 : PlanAt X B4 (t + 4) P := p1.of fun b c0 c1 => (g4 b (by omega)).trans ((p4 b (by omega)).trans (g2 b (by omega)))
  have dl4 : DlA X B4 (t + 15) (t + 4) (fun _ _ => 0) := dl.of fun b c0 c1 _ => g4 b (by omega)
  have li4 : LST X B4 (t + 15 + 8) (xE X) 0 (fun _ => none) 0 := li.of (g4 _ (by omega)) (g4 _ (by omega)) (g4 _ (by omega))
  rw [gR_iff q4 rfl]
  have wr := iRow_RW
  obtain ⟨fr9, fr13, fr14, fr15, frm⟩ := iRow_FR
  have c5 := wr.2.2.2.2.2.1
  obtain ⟨t1, t2⟩ := gT_b wr.1
  have lg := wr.1.2.1
  refine ⟨⟨_, dl4.1⟩, ?_⟩
  refine Cal.of (c_X1_begin hl dl4 (Or.inl (by omega)) pl4 p2 wr.1 (by omega) li4 (Or.inl (by omega)) (Or.inl (by omega)) (Or.inl (by omega)) (by omega) (fun p p0 p1 => frm p p0 (by omega)) ⟨by omega, by omega, by omega, fr13, by omega⟩ ⟨fr14, fr15, by omega, by omega, by omega, by omega⟩ (fun k _ _ => ⟨by decide, by decide⟩)) (by decide) (by decide) (by decide) ?_
  rintro o5 B5 ⟨rfl, F, g5, m5, u1, u2, u3, u4, u5⟩
  rw [rV_of, hQ]
  obtain ⟨w', hw⟩ : ∃ w' : Nat → Nat, w' = fun b => if t ≤ b ∧ b ≤ t + 3 then t + 1 else if t + 15 ≤ b ∧ b ≤ t + 27 then t + 15 + 1 else 0 := ⟨_, rfl⟩
  have w1 : ∀ b, t ≤ b → b ≤ t + 3 → w' b = t + 1 := fun b c0 c1 => by rw [hw]; exact if_pos ⟨c0, c1⟩
  have w2 : ∀ b, t + 15 ≤ b → b ≤ t + 27 → w' b = t + 15 + 1 := fun b c0 c1 => by rw [hw]; exact (if_neg (by omega)).trans (if_pos ⟨c0, c1⟩)
  have w3 : ∀ b, b < t ∨ t + 3 < b ∧ b < t + 15 → w' b = 0 := fun b c0 => by rw [hw]; exact (if_neg (by omega)).trans (if_neg (by omega))
  have eE : ∀ b, b < t + 15 → b ≠ t → B5.2 b = B3.2 b := fun b c0 c1 => by
    by_cases hb : b = xE X
    · rw [hb, u5 _ (Or.inl (by omega)) (Or.inr rfl), g4 _ (by omega)]
    · rw [u5 b (Or.inl (by omega)) (Or.inl hb), g4 b c1]
  have et : B5.2 t = B4.2 t := u5 t (Or.inl (by omega)) (Or.inl (by omega))
  have lowF : ∀ b, b < t → B5.2 b = A.2 b := fun b hb => (eE b (by omega) (by omega)).trans ((lowB b (by omega)).trans (r13 b hb))
  have e9 : ∀ y : Int, y ≠ 15 → iS 9 y = 0 := fun y hy => by rw [iS_9, if_neg hy]
  have ej : ∀ j : Nat, j ≠ 0 → j ≠ 1 → j ≠ 9 → iS j = fun _ => 0 := fun j h0 h1 h9 => by
    rw [iS_j h0 h1]
    unfold iZ
    rw [st_row h9]
  have v2 : ∀ y : Int, y ≠ 2 → iV 2 y = 0 := fun y hy => by
    unfold iV
    rw [st_k hy]
  have vj : ∀ j : Nat, j ≠ 2 → iV j = fun _ => 0 := fun j hj => by
    unfold iV
    rw [st_row hj]
  have tl : TlA X B5 t iV (t + 15) (fun _ => none) none := by
    refine ⟨et.trans q4, ?_, ?_, ?_⟩
    · exact (eE _ (by omega) (by omega)).trans ((lowB _ (by omega)).trans f13_x2)
    · exact (eE _ (by omega) (by omega)).trans ((lowB _ (by omega)).trans f13_x3)
    · exact (eE _ (by omega) (by omega)).trans ((lowB _ (by omega)).trans f13_x4)
  have pl5 : PlanAt X B5 (t + 4) P := pl4.of fun b c0 c1 => u5 b (Or.inl (by omega)) (Or.inl (by omega))
  have dn : DAt X B5 w' (t + 15) iRow := by
    refine ⟨t + 4, F, P, xE X, g5, m5, u1, pl5, p2, u2, by rw [fr9]; exact u3, fun i hi => by rw [fr9] at hi; omega, ⟨by omega, w2, Or.inl rfl, by omega, Or.inl (by omega), by omega, w3 _ (Or.inl hE0)⟩, ⟨by omega, fun b c0 c1 => w3 b (Or.inr ⟨by omega, by omega⟩)⟩⟩
  refine ⟨rfl, by omega, lowF, w', t + 15, ⟨tl, ⟨by omega, w1⟩, ⟨dn.eq wr iS_0, by omega⟩, ⟨⟨?_, fun i i0 i1 => ?_, fun k _ b hb => (by cases hb), fun j k _ _ b hb => (by cases hb)⟩, ?_⟩, fun b hb => (by cases hb), ?_, ⟨?_, fun k _ => ?_⟩, ?_, fun k k0 k1 => ?_⟩, fun b hb => w3 b (Or.inl hb)⟩
  · rw [v2 7 (by decide), v2 8 (by decide)]
    decide
  · rw [v2 8 (by decide)] at i1
    omega
  · rw [v2 8 (by decide), e9 4 (by decide)]
  · rw [iS_9]
    rfl
  · rw [v2 1 (by decide), e9 7 (by decide)]
  · rw [vj 0 (by decide), ej 4 (by decide) (by decide) (by decide)]
  · rw [v2 4 (by decide), e9 23 (by decide)]
  · rw [e9 23 (by decide)] at k1
    omega
end CI
