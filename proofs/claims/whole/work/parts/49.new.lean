/-! the class: a new Download -/
theorem mkA_i {A : AH} {y : Nat → va_E} {b n : Nat} {i : Int32} {bc bs : Nat} {K : Nat → AH → Nat → Nat → Prop} (hb : A.1 = b) (h0 : ¬ i < 0 ∧ i.toNatClampNeg = n) (hn : n ≤ 100000) (h1 : 1 ≤ bc) (h2 : n ≤ bs) (k : ∀ C : AH, C.1 = b + 1 → C.2 b = some (y n) → (∀ c, c ≠ b → C.2 c = A.2 c) → K b C (bc - 1) (bs - n)) : mkA A i y bc bs K := by
  subst hb
  exact ⟨n, h0.1, h0.2, hn, h1, h2, k _ rfl nw_q fun c hc => nw_b hc⟩
theorem mk_i {A : AH} {y : va_E} {b N bc bs : Nat} {K : Nat → AH → Nat → Nat → Prop} (hb : A.1 = b) (h1 : 1 ≤ bc) (h2 : N ≤ bs) (k : ∀ C : AH, C.1 = b + 1 → C.2 b = some y → (∀ c, c ≠ b → C.2 c = A.2 c) → K b C (bc - 1) (bs - N)) : mk A y N bc bs K := by
  subst hb
  exact ⟨h1, h2, k _ rfl nw_q fun c hc => nw_b hc⟩
theorem pV_i {A : AH} {a ci k : Nat} {v : Value} {fs : List Value} {K : AH → Prop} (h : A.2 a = some (ob ci fs)) (hk : k < fs.length) (kk : ∀ C : AH, C.1 = A.1 → C.2 a = some (ob ci (fs.set k v)) → (∀ c, c ≠ a → C.2 c = A.2 c) → K C) : pV A a ci k v K :=
  ⟨fs, h, hk, kk _ rfl up_q fun c hc => up_b hc⟩
section NI
variable {l : Launch} {X : XT} {A : AH} {a p s : Nat}
theorem c_li_init (hl : l.stackTraces = false) (h : A.2 a = some (ob 0 df_0)) (hE : A.2 (xE X) = some (ra X 4 0 (fun _ => none))) : Ct l X 2 M_Jx4a65c_init_da8c8 [.ref a] A 0 0 (fun o' A' => o' = Rv ∧ A'.1 = A.1 ∧ LST X A' a (xE X) 0 (fun _ => none) 0 ∧ ∀ b, b ≠ a → A'.2 b = A.2 b) := by
  have k0 : ∀ (C : AH), Fn l X 0 M_Jxa1e45_init_da8c8 [.ref a] C 0 0 Rv C := fun C => Fn.of hl rfl rfl (Nat.le_of_ble_eq_true rfl) (k_Jxa1e45_init_da8c8_0 ⟨rfl, rfl⟩)
  have k1 : Fn l X 1 M_Jxc12de_init_da8c8 [.ref a] A 0 0 Rv (up A a (ob 0 df_0)) := by
    refine Fn.of hl rfl rfl (Nat.le_of_ble_eq_true rfl) (k_Jxc12de_init_da8c8_0 ?_)
    refine (k0 A).cl0 (by decide) ?_
    rw [zV_of]
    refine (pV_iff (k := 0) h (by simp [df_0])).mpr ⟨rfl, rfl⟩
  have hne : a ≠ xE X := by
    rintro rfl
    exact absurd (h.symm.trans hE) (by simp [df_0])
  rw [up_self h] at k1
  refine Ct.of hl rfl rfl (Nat.le_of_ble_eq_true rfl) (k_Jx4a65c_init_da8c8_0 ?_)
  refine k1.cl0 (by decide) ?_
  rw [zV_of]
  refine (pV_iff (k := 1) h (by simp [df_0])).mpr ⟨rfl, rfl, ⟨up_q, by omega, Or.inl ⟨rfl, rfl, (up_b (Ne.symm hne)).trans hE⟩, (up_b (Ne.symm hne)).trans hE⟩, fun b hb => up_b hb⟩
theorem c_X0_init (hl : l.stackTraces = false) (h : A.2 a = some (ob 1 df_1)) (hs : A.1 = s) (ha : a < s) : Ct l X 0 M_X0_init [.ref a] A 3 120 (fun o' A' => o' = Rv ∧ A'.1 = s + 3 ∧ A'.2 a = some (ob 1 [.ref s, .ref (s + 1), .ref (s + 2), .int 0]) ∧ A'.2 s = some (ia X 40 (fun _ => 0)) ∧ A'.2 (s + 1) = some (ia X 40 (fun _ => 0)) ∧ A'.2 (s + 2) = some (ia X 40 (fun _ => 0)) ∧ ∀ b, b < s ∧ b ≠ a → A'.2 b = A.2 b) := by
  obtain ⟨Q, hQ⟩ : ∃ Q : Ot → AH → Prop, Q = (fun o' A' => o' = Rv ∧ A'.1 = s + 3 ∧ A'.2 a = some (ob 1 [.ref s, .ref (s + 1), .ref (s + 2), .int 0]) ∧ A'.2 s = some (ia X 40 (fun _ => 0)) ∧ A'.2 (s + 1) = some (ia X 40 (fun _ => 0)) ∧ A'.2 (s + 2) = some (ia X 40 (fun _ => 0)) ∧ ∀ b, b < s ∧ b ≠ a → A'.2 b = A.2 b) := ⟨_, rfl⟩
  rw [← hQ]
  refine Ct.of hl rfl rfl (Nat.le_of_ble_eq_true rfl) (k_X0_init_0 ?_)
  obtain ⟨C0, hC0⟩ : ∃ C0, C0 = A := ⟨_, rfl⟩
  have c0 : C0.1 = s := by rw [hC0]; exact hs
  have f0_o : C0.2 (a) = some (ob 1 [.null, .null, .null, .int 0]) := by rw [hC0]; exact h
  have r0 : ∀ b, b < s ∧ b ≠ a → C0.2 b = A.2 b := fun b _ => by rw [hC0]
  rw [← hC0]
  clear hC0
  refine mkA_i (b := s) (n := 40) c0 (by decide) (by decide) (by decide) (by decide) ?_
  intro C1 d1 q1 o1
  have c1 : C1.1 = s + 1 := by omega
  have f1_o : C1.2 (a) = some (ob 1 [.null, .null, .null, .int 0]) := (o1 _ (by omega)).trans f0_o
  have r1 : ∀ b, b < s ∧ b ≠ a → C1.2 b = A.2 b := fun b hb => (o1 b (by omega)).trans (r0 b hb)
  have f1_x1 : C1.2 (s) = some (ia X 40 (fun _ => 0)) := q1
  clear q1 o1 d1 c0 r0 f0_o
  refine pV_i (k := 0) (v := .ref (s)) f1_o (Nat.le_of_ble_eq_true rfl) ?_
  intro C2 d2 q2 o2
  have c2 : C2.1 = s + 1 := by omega
  have f2_x1 : C2.2 (s) = some (ia X 40 (fun _ => 0)) := (o2 _ (by omega)).trans f1_x1
  have r2 : ∀ b, b < s ∧ b ≠ a → C2.2 b = A.2 b := fun b hb => (o2 b (by omega)).trans (r1 b hb)
  have f2_o : C2.2 (a) = some (ob 1 [.ref (s), .null, .null, .int 0]) := q2
  clear q2 o2 d2 c1 r1 f1_o f1_x1
  refine mkA_i (b := s + 1) (n := 40) c2 (by decide) (by decide) (by decide) (by decide) ?_
  intro C3 d3 q3 o3
  have c3 : C3.1 = s + 2 := by omega
  have f3_o : C3.2 (a) = some (ob 1 [.ref (s), .null, .null, .int 0]) := (o3 _ (by omega)).trans f2_o
  have f3_x1 : C3.2 (s) = some (ia X 40 (fun _ => 0)) := (o3 _ (by omega)).trans f2_x1
  have r3 : ∀ b, b < s ∧ b ≠ a → C3.2 b = A.2 b := fun b hb => (o3 b (by omega)).trans (r2 b hb)
  have f3_x2 : C3.2 (s + 1) = some (ia X 40 (fun _ => 0)) := q3
  clear q3 o3 d3 c2 r2 f2_o f2_x1
  refine pV_i (k := 1) (v := .ref (s + 1)) f3_o (Nat.le_of_ble_eq_true rfl) ?_
  intro C4 d4 q4 o4
  have c4 : C4.1 = s + 2 := by omega
  have f4_x1 : C4.2 (s) = some (ia X 40 (fun _ => 0)) := (o4 _ (by omega)).trans f3_x1
  have f4_x2 : C4.2 (s + 1) = some (ia X 40 (fun _ => 0)) := (o4 _ (by omega)).trans f3_x2
  have r4 : ∀ b, b < s ∧ b ≠ a → C4.2 b = A.2 b := fun b hb => (o4 b (by omega)).trans (r3 b hb)
  have f4_o : C4.2 (a) = some (ob 1 [.ref (s), .ref (s + 1), .null, .int 0]) := q4
  clear q4 o4 d4 c3 r3 f3_o f3_x1 f3_x2
  refine mkA_i (b := s + 2) (n := 40) c4 (by decide) (by decide) (by decide) (by decide) ?_
  intro C5 d5 q5 o5
  have c5 : C5.1 = s + 3 := by omega
  have f5_o : C5.2 (a) = some (ob 1 [.ref (s), .ref (s + 1), .null, .int 0]) := (o5 _ (by omega)).trans f4_o
  have f5_x1 : C5.2 (s) = some (ia X 40 (fun _ => 0)) := (o5 _ (by omega)).trans f4_x1
  have f5_x2 : C5.2 (s + 1) = some (ia X 40 (fun _ => 0)) := (o5 _ (by omega)).trans f4_x2
  have r5 : ∀ b, b < s ∧ b ≠ a → C5.2 b = A.2 b := fun b hb => (o5 b (by omega)).trans (r4 b hb)
  have f5_x3 : C5.2 (s + 2) = some (ia X 40 (fun _ => 0)) := q5
  clear q5 o5 d5 c4 r4 f4_o f4_x1 f4_x2
  refine pV_i (k := 2) (v := .ref (s + 2)) f5_o (Nat.le_of_ble_eq_true rfl) ?_
  intro C6 d6 q6 o6
  have c6 : C6.1 = s + 3 := by omega
  have f6_x1 : C6.2 (s) = some (ia X 40 (fun _ => 0)) := (o6 _ (by omega)).trans f5_x1
  have f6_x2 : C6.2 (s + 1) = some (ia X 40 (fun _ => 0)) := (o6 _ (by omega)).trans f5_x2
  have f6_x3 : C6.2 (s + 2) = some (ia X 40 (fun _ => 0)) := (o6 _ (by omega)).trans f5_x3
  have r6 : ∀ b, b < s ∧ b ≠ a → C6.2 b = A.2 b := fun b hb => (o6 b (by omega)).trans (r5 b hb)
  have f6_o : C6.2 (a) = some (ob 1 [.ref (s), .ref (s + 1), .ref (s + 2), .int 0]) := q6
  clear q6 o6 d6 c5 r5 f5_o f5_x1 f5_x2 f5_x3
  refine pV_i (k := 3) (v := .int 0) f6_o (Nat.le_of_ble_eq_true rfl) ?_
  intro C7 d7 q7 o7
  have c7 : C7.1 = s + 3 := by omega
  have f7_x1 : C7.2 (s) = some (ia X 40 (fun _ => 0)) := (o7 _ (by omega)).trans f6_x1
  have f7_x2 : C7.2 (s + 1) = some (ia X 40 (fun _ => 0)) := (o7 _ (by omega)).trans f6_x2
  have f7_x3 : C7.2 (s + 2) = some (ia X 40 (fun _ => 0)) := (o7 _ (by omega)).trans f6_x3
  have r7 : ∀ b, b < s ∧ b ≠ a → C7.2 b = A.2 b := fun b hb => (o7 b (by omega)).trans (r6 b hb)
  have f7_o : C7.2 (a) = some (ob 1 [.ref (s), .ref (s + 1), .ref (s + 2), .int 0]) := q7
  clear q7 o7 d7 c6 r6 f6_o f6_x1 f6_x2 f6_x3
  show Q Rv C7
  rw [hQ]
  exact ⟨rfl, c7, f7_o, f7_x1, f7_x2, f7_x3, r7⟩
theorem c_X1_init (hl : l.stackTraces = false) (h : A.2 a = some (ob 2 df_2)) (hs : A.1 = a + 1) (hE : A.2 (xE X) = some (ra X 4 0 (fun _ => none))) (hE0 : xE X < a) : Ct l X 3 M_X1_init [.ref a, .ref p] A 12 733 (fun o' A' => o' = Rv ∧ A'.1 = a + 13 ∧ DlA X A' a p (fun _ _ => 0) ∧ LST X A' (a + 8) (xE X) 0 (fun _ => none) 0 ∧ ∀ b, b < a → A'.2 b = A.2 b) := by
  obtain ⟨Q, hQ⟩ : ∃ Q : Ot → AH → Prop, Q = (fun o' A' => o' = Rv ∧ A'.1 = a + 13 ∧ DlA X A' a p (fun _ _ => 0) ∧ LST X A' (a + 8) (xE X) 0 (fun _ => none) 0 ∧ ∀ b, b < a → A'.2 b = A.2 b) := ⟨_, rfl⟩
  rw [← hQ]
  refine Ct.of hl rfl rfl (Nat.le_of_ble_eq_true rfl) (k_X1_init_0 ?_)
  obtain ⟨C0, hC0⟩ : ∃ C0, C0 = A := ⟨_, rfl⟩
  have c0 : C0.1 = a + 1 := by rw [hC0]; exact hs
  have f0_o : C0.2 (a) = some (ob 2 [.null, .null, .null, .null, .null, .int 0, .int 0, .int 0, .int 0, .int 0, .int 0, .null, .null, .null, .int 0, .null, .null]) := by rw [hC0]; exact h
  have r0 : ∀ b, b < a → C0.2 b = A.2 b := fun b _ => by rw [hC0]
  rw [← hC0]
  clear hC0
  refine mkA_i (b := a + 1) (n := 240) c0 (by decide) (by decide) (by decide) (by decide) ?_
  intro C1 d1 q1 o1
  have c1 : C1.1 = a + 2 := by omega
  have f1_o : C1.2 (a) = some (ob 2 [.null, .null, .null, .null, .null, .int 0, .int 0, .int 0, .int 0, .int 0, .int 0, .null, .null, .null, .int 0, .null, .null]) := (o1 _ (by omega)).trans f0_o
  have r1 : ∀ b, b < a → C1.2 b = A.2 b := fun b hb => (o1 b (by omega)).trans (r0 b hb)
  have f1_x2 : C1.2 (a + 1) = some (ia X 240 (fun _ => 0)) := q1
  clear q1 o1 d1 c0 r0 f0_o
  refine pV_i (k := 1) (v := .ref (a + 1)) f1_o (Nat.le_of_ble_eq_true rfl) ?_
  intro C2 d2 q2 o2
  have c2 : C2.1 = a + 2 := by omega
  have f2_x2 : C2.2 (a + 1) = some (ia X 240 (fun _ => 0)) := (o2 _ (by omega)).trans f1_x2
  have r2 : ∀ b, b < a → C2.2 b = A.2 b := fun b hb => (o2 b (by omega)).trans (r1 b hb)
  have f2_o : C2.2 (a) = some (ob 2 [.null, .ref (a + 1), .null, .null, .null, .int 0, .int 0, .int 0, .int 0, .int 0, .int 0, .null, .null, .null, .int 0, .null, .null]) := q2
  clear q2 o2 d2 c1 r1 f1_o f1_x2
  refine mkA_i (b := a + 2) (n := 240) c2 (by decide) (by decide) (by decide) (by decide) ?_
  intro C3 d3 q3 o3
  have c3 : C3.1 = a + 3 := by omega
  have f3_o : C3.2 (a) = some (ob 2 [.null, .ref (a + 1), .null, .null, .null, .int 0, .int 0, .int 0, .int 0, .int 0, .int 0, .null, .null, .null, .int 0, .null, .null]) := (o3 _ (by omega)).trans f2_o
  have f3_x2 : C3.2 (a + 1) = some (ia X 240 (fun _ => 0)) := (o3 _ (by omega)).trans f2_x2
  have r3 : ∀ b, b < a → C3.2 b = A.2 b := fun b hb => (o3 b (by omega)).trans (r2 b hb)
  have f3_x3 : C3.2 (a + 2) = some (ia X 240 (fun _ => 0)) := q3
  clear q3 o3 d3 c2 r2 f2_o f2_x2
  refine pV_i (k := 2) (v := .ref (a + 2)) f3_o (Nat.le_of_ble_eq_true rfl) ?_
  intro C4 d4 q4 o4
  have c4 : C4.1 = a + 3 := by omega
  have f4_x2 : C4.2 (a + 1) = some (ia X 240 (fun _ => 0)) := (o4 _ (by omega)).trans f3_x2
  have f4_x3 : C4.2 (a + 2) = some (ia X 240 (fun _ => 0)) := (o4 _ (by omega)).trans f3_x3
  have r4 : ∀ b, b < a → C4.2 b = A.2 b := fun b hb => (o4 b (by omega)).trans (r3 b hb)
  have f4_o : C4.2 (a) = some (ob 2 [.null, .ref (a + 1), .ref (a + 2), .null, .null, .int 0, .int 0, .int 0, .int 0, .int 0, .int 0, .null, .null, .null, .int 0, .null, .null]) := q4
  clear q4 o4 d4 c3 r3 f3_o f3_x2 f3_x3
  refine mkA_i (b := a + 3) (n := 60) c4 (by decide) (by decide) (by decide) (by decide) ?_
  intro C5 d5 q5 o5
  have c5 : C5.1 = a + 4 := by omega
  have f5_o : C5.2 (a) = some (ob 2 [.null, .ref (a + 1), .ref (a + 2), .null, .null, .int 0, .int 0, .int 0, .int 0, .int 0, .int 0, .null, .null, .null, .int 0, .null, .null]) := (o5 _ (by omega)).trans f4_o
  have f5_x2 : C5.2 (a + 1) = some (ia X 240 (fun _ => 0)) := (o5 _ (by omega)).trans f4_x2
  have f5_x3 : C5.2 (a + 2) = some (ia X 240 (fun _ => 0)) := (o5 _ (by omega)).trans f4_x3
  have r5 : ∀ b, b < a → C5.2 b = A.2 b := fun b hb => (o5 b (by omega)).trans (r4 b hb)
  have f5_x4 : C5.2 (a + 3) = some (ia X 60 (fun _ => 0)) := q5
  clear q5 o5 d5 c4 r4 f4_o f4_x2 f4_x3
  refine pV_i (k := 3) (v := .ref (a + 3)) f5_o (Nat.le_of_ble_eq_true rfl) ?_
  intro C6 d6 q6 o6
  have c6 : C6.1 = a + 4 := by omega
  have f6_x2 : C6.2 (a + 1) = some (ia X 240 (fun _ => 0)) := (o6 _ (by omega)).trans f5_x2
  have f6_x3 : C6.2 (a + 2) = some (ia X 240 (fun _ => 0)) := (o6 _ (by omega)).trans f5_x3
  have f6_x4 : C6.2 (a + 3) = some (ia X 60 (fun _ => 0)) := (o6 _ (by omega)).trans f5_x4
  have r6 : ∀ b, b < a → C6.2 b = A.2 b := fun b hb => (o6 b (by omega)).trans (r5 b hb)
  have f6_o : C6.2 (a) = some (ob 2 [.null, .ref (a + 1), .ref (a + 2), .ref (a + 3), .null, .int 0, .int 0, .int 0, .int 0, .int 0, .int 0, .null, .null, .null, .int 0, .null, .null]) := q6
  clear q6 o6 d6 c5 r5 f5_o f5_x2 f5_x3 f5_x4
  refine mkA_i (b := a + 4) (n := 60) c6 (by decide) (by decide) (by decide) (by decide) ?_
  intro C7 d7 q7 o7
  have c7 : C7.1 = a + 5 := by omega
  have f7_o : C7.2 (a) = some (ob 2 [.null, .ref (a + 1), .ref (a + 2), .ref (a + 3), .null, .int 0, .int 0, .int 0, .int 0, .int 0, .int 0, .null, .null, .null, .int 0, .null, .null]) := (o7 _ (by omega)).trans f6_o
  have f7_x2 : C7.2 (a + 1) = some (ia X 240 (fun _ => 0)) := (o7 _ (by omega)).trans f6_x2
  have f7_x3 : C7.2 (a + 2) = some (ia X 240 (fun _ => 0)) := (o7 _ (by omega)).trans f6_x3
  have f7_x4 : C7.2 (a + 3) = some (ia X 60 (fun _ => 0)) := (o7 _ (by omega)).trans f6_x4
  have r7 : ∀ b, b < a → C7.2 b = A.2 b := fun b hb => (o7 b (by omega)).trans (r6 b hb)
  have f7_x5 : C7.2 (a + 4) = some (ia X 60 (fun _ => 0)) := q7
  clear q7 o7 d7 c6 r6 f6_o f6_x2 f6_x3 f6_x4
  refine pV_i (k := 4) (v := .ref (a + 4)) f7_o (Nat.le_of_ble_eq_true rfl) ?_
  intro C8 d8 q8 o8
  have c8 : C8.1 = a + 5 := by omega
  have f8_x2 : C8.2 (a + 1) = some (ia X 240 (fun _ => 0)) := (o8 _ (by omega)).trans f7_x2
  have f8_x3 : C8.2 (a + 2) = some (ia X 240 (fun _ => 0)) := (o8 _ (by omega)).trans f7_x3
  have f8_x4 : C8.2 (a + 3) = some (ia X 60 (fun _ => 0)) := (o8 _ (by omega)).trans f7_x4
  have f8_x5 : C8.2 (a + 4) = some (ia X 60 (fun _ => 0)) := (o8 _ (by omega)).trans f7_x5
  have r8 : ∀ b, b < a → C8.2 b = A.2 b := fun b hb => (o8 b (by omega)).trans (r7 b hb)
  have f8_o : C8.2 (a) = some (ob 2 [.null, .ref (a + 1), .ref (a + 2), .ref (a + 3), .ref (a + 4), .int 0, .int 0, .int 0, .int 0, .int 0, .int 0, .null, .null, .null, .int 0, .null, .null]) := q8
  clear q8 o8 d8 c7 r7 f7_o f7_x2 f7_x3 f7_x4 f7_x5
  refine pV_i (k := 5) (v := .int 0) f8_o (Nat.le_of_ble_eq_true rfl) ?_
  intro C9 d9 q9 o9
  have c9 : C9.1 = a + 5 := by omega
  have f9_x2 : C9.2 (a + 1) = some (ia X 240 (fun _ => 0)) := (o9 _ (by omega)).trans f8_x2
  have f9_x3 : C9.2 (a + 2) = some (ia X 240 (fun _ => 0)) := (o9 _ (by omega)).trans f8_x3
  have f9_x4 : C9.2 (a + 3) = some (ia X 60 (fun _ => 0)) := (o9 _ (by omega)).trans f8_x4
  have f9_x5 : C9.2 (a + 4) = some (ia X 60 (fun _ => 0)) := (o9 _ (by omega)).trans f8_x5
  have r9 : ∀ b, b < a → C9.2 b = A.2 b := fun b hb => (o9 b (by omega)).trans (r8 b hb)
  have f9_o : C9.2 (a) = some (ob 2 [.null, .ref (a + 1), .ref (a + 2), .ref (a + 3), .ref (a + 4), .int 0, .int 0, .int 0, .int 0, .int 0, .int 0, .null, .null, .null, .int 0, .null, .null]) := q9
  clear q9 o9 d9 c8 r8 f8_o f8_x2 f8_x3 f8_x4 f8_x5
  refine pV_i (k := 6) (v := .int 0) f9_o (Nat.le_of_ble_eq_true rfl) ?_
  intro C10 d10 q10 o10
  have c10 : C10.1 = a + 5 := by omega
  have f10_x2 : C10.2 (a + 1) = some (ia X 240 (fun _ => 0)) := (o10 _ (by omega)).trans f9_x2
  have f10_x3 : C10.2 (a + 2) = some (ia X 240 (fun _ => 0)) := (o10 _ (by omega)).trans f9_x3
  have f10_x4 : C10.2 (a + 3) = some (ia X 60 (fun _ => 0)) := (o10 _ (by omega)).trans f9_x4
  have f10_x5 : C10.2 (a + 4) = some (ia X 60 (fun _ => 0)) := (o10 _ (by omega)).trans f9_x5
  have r10 : ∀ b, b < a → C10.2 b = A.2 b := fun b hb => (o10 b (by omega)).trans (r9 b hb)
  have f10_o : C10.2 (a) = some (ob 2 [.null, .ref (a + 1), .ref (a + 2), .ref (a + 3), .ref (a + 4), .int 0, .int 0, .int 0, .int 0, .int 0, .int 0, .null, .null, .null, .int 0, .null, .null]) := q10
  clear q10 o10 d10 c9 r9 f9_o f9_x2 f9_x3 f9_x4 f9_x5
  refine pV_i (k := 7) (v := .int 0) f10_o (Nat.le_of_ble_eq_true rfl) ?_
  intro C11 d11 q11 o11
  have c11 : C11.1 = a + 5 := by omega
  have f11_x2 : C11.2 (a + 1) = some (ia X 240 (fun _ => 0)) := (o11 _ (by omega)).trans f10_x2
  have f11_x3 : C11.2 (a + 2) = some (ia X 240 (fun _ => 0)) := (o11 _ (by omega)).trans f10_x3
  have f11_x4 : C11.2 (a + 3) = some (ia X 60 (fun _ => 0)) := (o11 _ (by omega)).trans f10_x4
  have f11_x5 : C11.2 (a + 4) = some (ia X 60 (fun _ => 0)) := (o11 _ (by omega)).trans f10_x5
  have r11 : ∀ b, b < a → C11.2 b = A.2 b := fun b hb => (o11 b (by omega)).trans (r10 b hb)
  have f11_o : C11.2 (a) = some (ob 2 [.null, .ref (a + 1), .ref (a + 2), .ref (a + 3), .ref (a + 4), .int 0, .int 0, .int 0, .int 0, .int 0, .int 0, .null, .null, .null, .int 0, .null, .null]) := q11
  clear q11 o11 d11 c10 r10 f10_o f10_x2 f10_x3 f10_x4 f10_x5
  refine pV_i (k := 8) (v := .int 0) f11_o (Nat.le_of_ble_eq_true rfl) ?_
  intro C12 d12 q12 o12
  have c12 : C12.1 = a + 5 := by omega
  have f12_x2 : C12.2 (a + 1) = some (ia X 240 (fun _ => 0)) := (o12 _ (by omega)).trans f11_x2
  have f12_x3 : C12.2 (a + 2) = some (ia X 240 (fun _ => 0)) := (o12 _ (by omega)).trans f11_x3
  have f12_x4 : C12.2 (a + 3) = some (ia X 60 (fun _ => 0)) := (o12 _ (by omega)).trans f11_x4
  have f12_x5 : C12.2 (a + 4) = some (ia X 60 (fun _ => 0)) := (o12 _ (by omega)).trans f11_x5
  have r12 : ∀ b, b < a → C12.2 b = A.2 b := fun b hb => (o12 b (by omega)).trans (r11 b hb)
  have f12_o : C12.2 (a) = some (ob 2 [.null, .ref (a + 1), .ref (a + 2), .ref (a + 3), .ref (a + 4), .int 0, .int 0, .int 0, .int 0, .int 0, .int 0, .null, .null, .null, .int 0, .null, .null]) := q12
  clear q12 o12 d12 c11 r11 f11_o f11_x2 f11_x3 f11_x4 f11_x5
  refine pV_i (k := 9) (v := .int 0) f12_o (Nat.le_of_ble_eq_true rfl) ?_
  intro C13 d13 q13 o13
  have c13 : C13.1 = a + 5 := by omega
  have f13_x2 : C13.2 (a + 1) = some (ia X 240 (fun _ => 0)) := (o13 _ (by omega)).trans f12_x2
  have f13_x3 : C13.2 (a + 2) = some (ia X 240 (fun _ => 0)) := (o13 _ (by omega)).trans f12_x3
  have f13_x4 : C13.2 (a + 3) = some (ia X 60 (fun _ => 0)) := (o13 _ (by omega)).trans f12_x4
  have f13_x5 : C13.2 (a + 4) = some (ia X 60 (fun _ => 0)) := (o13 _ (by omega)).trans f12_x5
  have r13 : ∀ b, b < a → C13.2 b = A.2 b := fun b hb => (o13 b (by omega)).trans (r12 b hb)
  have f13_o : C13.2 (a) = some (ob 2 [.null, .ref (a + 1), .ref (a + 2), .ref (a + 3), .ref (a + 4), .int 0, .int 0, .int 0, .int 0, .int 0, .int 0, .null, .null, .null, .int 0, .null, .null]) := q13
  clear q13 o13 d13 c12 r12 f12_o f12_x2 f12_x3 f12_x4 f12_x5
  refine pV_i (k := 10) (v := .int 0) f13_o (Nat.le_of_ble_eq_true rfl) ?_
  intro C14 d14 q14 o14
  have c14 : C14.1 = a + 5 := by omega
  have f14_x2 : C14.2 (a + 1) = some (ia X 240 (fun _ => 0)) := (o14 _ (by omega)).trans f13_x2
  have f14_x3 : C14.2 (a + 2) = some (ia X 240 (fun _ => 0)) := (o14 _ (by omega)).trans f13_x3
  have f14_x4 : C14.2 (a + 3) = some (ia X 60 (fun _ => 0)) := (o14 _ (by omega)).trans f13_x4
  have f14_x5 : C14.2 (a + 4) = some (ia X 60 (fun _ => 0)) := (o14 _ (by omega)).trans f13_x5
  have r14 : ∀ b, b < a → C14.2 b = A.2 b := fun b hb => (o14 b (by omega)).trans (r13 b hb)
  have f14_o : C14.2 (a) = some (ob 2 [.null, .ref (a + 1), .ref (a + 2), .ref (a + 3), .ref (a + 4), .int 0, .int 0, .int 0, .int 0, .int 0, .int 0, .null, .null, .null, .int 0, .null, .null]) := q14
  clear q14 o14 d14 c13 r13 f13_o f13_x2 f13_x3 f13_x4 f13_x5
  refine mkA_i (b := a + 5) (n := 2) c14 (by decide) (by decide) (by decide) (by decide) ?_
  intro C15 d15 q15 o15
  have c15 : C15.1 = a + 6 := by omega
  have f15_o : C15.2 (a) = some (ob 2 [.null, .ref (a + 1), .ref (a + 2), .ref (a + 3), .ref (a + 4), .int 0, .int 0, .int 0, .int 0, .int 0, .int 0, .null, .null, .null, .int 0, .null, .null]) := (o15 _ (by omega)).trans f14_o
  have f15_x2 : C15.2 (a + 1) = some (ia X 240 (fun _ => 0)) := (o15 _ (by omega)).trans f14_x2
  have f15_x3 : C15.2 (a + 2) = some (ia X 240 (fun _ => 0)) := (o15 _ (by omega)).trans f14_x3
  have f15_x4 : C15.2 (a + 3) = some (ia X 60 (fun _ => 0)) := (o15 _ (by omega)).trans f14_x4
  have f15_x5 : C15.2 (a + 4) = some (ia X 60 (fun _ => 0)) := (o15 _ (by omega)).trans f14_x5
  have r15 : ∀ b, b < a → C15.2 b = A.2 b := fun b hb => (o15 b (by omega)).trans (r14 b hb)
  have f15_x6 : C15.2 (a + 5) = some (ia X 2 (fun _ => 0)) := q15
  clear q15 o15 d15 c14 r14 f14_o f14_x2 f14_x3 f14_x4 f14_x5
  refine pV_i (k := 11) (v := .ref (a + 5)) f15_o (Nat.le_of_ble_eq_true rfl) ?_
  intro C16 d16 q16 o16
  have c16 : C16.1 = a + 6 := by omega
  have f16_x2 : C16.2 (a + 1) = some (ia X 240 (fun _ => 0)) := (o16 _ (by omega)).trans f15_x2
  have f16_x3 : C16.2 (a + 2) = some (ia X 240 (fun _ => 0)) := (o16 _ (by omega)).trans f15_x3
  have f16_x4 : C16.2 (a + 3) = some (ia X 60 (fun _ => 0)) := (o16 _ (by omega)).trans f15_x4
  have f16_x5 : C16.2 (a + 4) = some (ia X 60 (fun _ => 0)) := (o16 _ (by omega)).trans f15_x5
  have f16_x6 : C16.2 (a + 5) = some (ia X 2 (fun _ => 0)) := (o16 _ (by omega)).trans f15_x6
  have r16 : ∀ b, b < a → C16.2 b = A.2 b := fun b hb => (o16 b (by omega)).trans (r15 b hb)
  have f16_o : C16.2 (a) = some (ob 2 [.null, .ref (a + 1), .ref (a + 2), .ref (a + 3), .ref (a + 4), .int 0, .int 0, .int 0, .int 0, .int 0, .int 0, .ref (a + 5), .null, .null, .int 0, .null, .null]) := q16
  clear q16 o16 d16 c15 r15 f15_o f15_x2 f15_x3 f15_x4 f15_x5 f15_x6
  refine mkA_i (b := a + 6) (n := 2) c16 (by decide) (by decide) (by decide) (by decide) ?_
  intro C17 d17 q17 o17
  have c17 : C17.1 = a + 7 := by omega
  have f17_o : C17.2 (a) = some (ob 2 [.null, .ref (a + 1), .ref (a + 2), .ref (a + 3), .ref (a + 4), .int 0, .int 0, .int 0, .int 0, .int 0, .int 0, .ref (a + 5), .null, .null, .int 0, .null, .null]) := (o17 _ (by omega)).trans f16_o
  have f17_x2 : C17.2 (a + 1) = some (ia X 240 (fun _ => 0)) := (o17 _ (by omega)).trans f16_x2
  have f17_x3 : C17.2 (a + 2) = some (ia X 240 (fun _ => 0)) := (o17 _ (by omega)).trans f16_x3
  have f17_x4 : C17.2 (a + 3) = some (ia X 60 (fun _ => 0)) := (o17 _ (by omega)).trans f16_x4
  have f17_x5 : C17.2 (a + 4) = some (ia X 60 (fun _ => 0)) := (o17 _ (by omega)).trans f16_x5
  have f17_x6 : C17.2 (a + 5) = some (ia X 2 (fun _ => 0)) := (o17 _ (by omega)).trans f16_x6
  have r17 : ∀ b, b < a → C17.2 b = A.2 b := fun b hb => (o17 b (by omega)).trans (r16 b hb)
  have f17_x7 : C17.2 (a + 6) = some (ia X 2 (fun _ => 0)) := q17
  clear q17 o17 d17 c16 r16 f16_o f16_x2 f16_x3 f16_x4 f16_x5 f16_x6
  refine pV_i (k := 12) (v := .ref (a + 6)) f17_o (Nat.le_of_ble_eq_true rfl) ?_
  intro C18 d18 q18 o18
  have c18 : C18.1 = a + 7 := by omega
  have f18_x2 : C18.2 (a + 1) = some (ia X 240 (fun _ => 0)) := (o18 _ (by omega)).trans f17_x2
  have f18_x3 : C18.2 (a + 2) = some (ia X 240 (fun _ => 0)) := (o18 _ (by omega)).trans f17_x3
  have f18_x4 : C18.2 (a + 3) = some (ia X 60 (fun _ => 0)) := (o18 _ (by omega)).trans f17_x4
  have f18_x5 : C18.2 (a + 4) = some (ia X 60 (fun _ => 0)) := (o18 _ (by omega)).trans f17_x5
  have f18_x6 : C18.2 (a + 5) = some (ia X 2 (fun _ => 0)) := (o18 _ (by omega)).trans f17_x6
  have f18_x7 : C18.2 (a + 6) = some (ia X 2 (fun _ => 0)) := (o18 _ (by omega)).trans f17_x7
  have r18 : ∀ b, b < a → C18.2 b = A.2 b := fun b hb => (o18 b (by omega)).trans (r17 b hb)
  have f18_o : C18.2 (a) = some (ob 2 [.null, .ref (a + 1), .ref (a + 2), .ref (a + 3), .ref (a + 4), .int 0, .int 0, .int 0, .int 0, .int 0, .int 0, .ref (a + 5), .ref (a + 6), .null, .int 0, .null, .null]) := q18
  clear q18 o18 d18 c17 r17 f17_o f17_x2 f17_x3 f17_x4 f17_x5 f17_x6 f17_x7
  refine mkA_i (b := a + 7) (n := 2) c18 (by decide) (by decide) (by decide) (by decide) ?_
  intro C19 d19 q19 o19
  have c19 : C19.1 = a + 8 := by omega
  have f19_o : C19.2 (a) = some (ob 2 [.null, .ref (a + 1), .ref (a + 2), .ref (a + 3), .ref (a + 4), .int 0, .int 0, .int 0, .int 0, .int 0, .int 0, .ref (a + 5), .ref (a + 6), .null, .int 0, .null, .null]) := (o19 _ (by omega)).trans f18_o
  have f19_x2 : C19.2 (a + 1) = some (ia X 240 (fun _ => 0)) := (o19 _ (by omega)).trans f18_x2
  have f19_x3 : C19.2 (a + 2) = some (ia X 240 (fun _ => 0)) := (o19 _ (by omega)).trans f18_x3
  have f19_x4 : C19.2 (a + 3) = some (ia X 60 (fun _ => 0)) := (o19 _ (by omega)).trans f18_x4
  have f19_x5 : C19.2 (a + 4) = some (ia X 60 (fun _ => 0)) := (o19 _ (by omega)).trans f18_x5
  have f19_x6 : C19.2 (a + 5) = some (ia X 2 (fun _ => 0)) := (o19 _ (by omega)).trans f18_x6
  have f19_x7 : C19.2 (a + 6) = some (ia X 2 (fun _ => 0)) := (o19 _ (by omega)).trans f18_x7
  have r19 : ∀ b, b < a → C19.2 b = A.2 b := fun b hb => (o19 b (by omega)).trans (r18 b hb)
  have f19_x8 : C19.2 (a + 7) = some (ia X 2 (fun _ => 0)) := q19
  clear q19 o19 d19 c18 r18 f18_o f18_x2 f18_x3 f18_x4 f18_x5 f18_x6 f18_x7
  refine pV_i (k := 13) (v := .ref (a + 7)) f19_o (Nat.le_of_ble_eq_true rfl) ?_
  intro C20 d20 q20 o20
  have c20 : C20.1 = a + 8 := by omega
  have f20_x2 : C20.2 (a + 1) = some (ia X 240 (fun _ => 0)) := (o20 _ (by omega)).trans f19_x2
  have f20_x3 : C20.2 (a + 2) = some (ia X 240 (fun _ => 0)) := (o20 _ (by omega)).trans f19_x3
  have f20_x4 : C20.2 (a + 3) = some (ia X 60 (fun _ => 0)) := (o20 _ (by omega)).trans f19_x4
  have f20_x5 : C20.2 (a + 4) = some (ia X 60 (fun _ => 0)) := (o20 _ (by omega)).trans f19_x5
  have f20_x6 : C20.2 (a + 5) = some (ia X 2 (fun _ => 0)) := (o20 _ (by omega)).trans f19_x6
  have f20_x7 : C20.2 (a + 6) = some (ia X 2 (fun _ => 0)) := (o20 _ (by omega)).trans f19_x7
  have f20_x8 : C20.2 (a + 7) = some (ia X 2 (fun _ => 0)) := (o20 _ (by omega)).trans f19_x8
  have r20 : ∀ b, b < a → C20.2 b = A.2 b := fun b hb => (o20 b (by omega)).trans (r19 b hb)
  have f20_o : C20.2 (a) = some (ob 2 [.null, .ref (a + 1), .ref (a + 2), .ref (a + 3), .ref (a + 4), .int 0, .int 0, .int 0, .int 0, .int 0, .int 0, .ref (a + 5), .ref (a + 6), .ref (a + 7), .int 0, .null, .null]) := q20
  clear q20 o20 d20 c19 r19 f19_o f19_x2 f19_x3 f19_x4 f19_x5 f19_x6 f19_x7 f19_x8
  refine ⟨Or.inl rfl, ?_⟩
  refine pV_i (k := 14) (v := .int 0) f20_o (Nat.le_of_ble_eq_true rfl) ?_
  intro C21 d21 q21 o21
  have c21 : C21.1 = a + 8 := by omega
  have f21_x2 : C21.2 (a + 1) = some (ia X 240 (fun _ => 0)) := (o21 _ (by omega)).trans f20_x2
  have f21_x3 : C21.2 (a + 2) = some (ia X 240 (fun _ => 0)) := (o21 _ (by omega)).trans f20_x3
  have f21_x4 : C21.2 (a + 3) = some (ia X 60 (fun _ => 0)) := (o21 _ (by omega)).trans f20_x4
  have f21_x5 : C21.2 (a + 4) = some (ia X 60 (fun _ => 0)) := (o21 _ (by omega)).trans f20_x5
  have f21_x6 : C21.2 (a + 5) = some (ia X 2 (fun _ => 0)) := (o21 _ (by omega)).trans f20_x6
  have f21_x7 : C21.2 (a + 6) = some (ia X 2 (fun _ => 0)) := (o21 _ (by omega)).trans f20_x7
  have f21_x8 : C21.2 (a + 7) = some (ia X 2 (fun _ => 0)) := (o21 _ (by omega)).trans f20_x8
  have r21 : ∀ b, b < a → C21.2 b = A.2 b := fun b hb => (o21 b (by omega)).trans (r20 b hb)
  have f21_o : C21.2 (a) = some (ob 2 [.null, .ref (a + 1), .ref (a + 2), .ref (a + 3), .ref (a + 4), .int 0, .int 0, .int 0, .int 0, .int 0, .int 0, .ref (a + 5), .ref (a + 6), .ref (a + 7), .int 0, .null, .null]) := q21
  clear q21 o21 d21 c20 r20 f20_o f20_x2 f20_x3 f20_x4 f20_x5 f20_x6 f20_x7 f20_x8
  refine mk_i (b := a + 8) c21 (by decide) (by decide) ?_
  intro C22 d22 q22 o22
  have c22 : C22.1 = a + 9 := by omega
  have f22_o : C22.2 (a) = some (ob 2 [.null, .ref (a + 1), .ref (a + 2), .ref (a + 3), .ref (a + 4), .int 0, .int 0, .int 0, .int 0, .int 0, .int 0, .ref (a + 5), .ref (a + 6), .ref (a + 7), .int 0, .null, .null]) := (o22 _ (by omega)).trans f21_o
  have f22_x2 : C22.2 (a + 1) = some (ia X 240 (fun _ => 0)) := (o22 _ (by omega)).trans f21_x2
  have f22_x3 : C22.2 (a + 2) = some (ia X 240 (fun _ => 0)) := (o22 _ (by omega)).trans f21_x3
  have f22_x4 : C22.2 (a + 3) = some (ia X 60 (fun _ => 0)) := (o22 _ (by omega)).trans f21_x4
  have f22_x5 : C22.2 (a + 4) = some (ia X 60 (fun _ => 0)) := (o22 _ (by omega)).trans f21_x5
  have f22_x6 : C22.2 (a + 5) = some (ia X 2 (fun _ => 0)) := (o22 _ (by omega)).trans f21_x6
  have f22_x7 : C22.2 (a + 6) = some (ia X 2 (fun _ => 0)) := (o22 _ (by omega)).trans f21_x7
  have f22_x8 : C22.2 (a + 7) = some (ia X 2 (fun _ => 0)) := (o22 _ (by omega)).trans f21_x8
  have r22 : ∀ b, b < a → C22.2 b = A.2 b := fun b hb => (o22 b (by omega)).trans (r21 b hb)
  have f22_li : C22.2 (a + 8) = some (ob 0 [.int 0, .null, .int 0]) := q22
  clear q22 o22 d22 c21 r21 f21_o f21_x2 f21_x3 f21_x4 f21_x5 f21_x6 f21_x7 f21_x8
  refine (c_li_init hl f22_li ((r22 _ hE0).trans hE)).cl0 (by decide) ?_
  rintro z23 C23 ⟨rfl, d23, L23, o23⟩
  rw [zV_of]
  have c23 : C23.1 = a + 9 := by omega
  have f23_o : C23.2 (a) = some (ob 2 [.null, .ref (a + 1), .ref (a + 2), .ref (a + 3), .ref (a + 4), .int 0, .int 0, .int 0, .int 0, .int 0, .int 0, .ref (a + 5), .ref (a + 6), .ref (a + 7), .int 0, .null, .null]) := (o23 _ (by omega)).trans f22_o
  have f23_x2 : C23.2 (a + 1) = some (ia X 240 (fun _ => 0)) := (o23 _ (by omega)).trans f22_x2
  have f23_x3 : C23.2 (a + 2) = some (ia X 240 (fun _ => 0)) := (o23 _ (by omega)).trans f22_x3
  have f23_x4 : C23.2 (a + 3) = some (ia X 60 (fun _ => 0)) := (o23 _ (by omega)).trans f22_x4
  have f23_x5 : C23.2 (a + 4) = some (ia X 60 (fun _ => 0)) := (o23 _ (by omega)).trans f22_x5
  have f23_x6 : C23.2 (a + 5) = some (ia X 2 (fun _ => 0)) := (o23 _ (by omega)).trans f22_x6
  have f23_x7 : C23.2 (a + 6) = some (ia X 2 (fun _ => 0)) := (o23 _ (by omega)).trans f22_x7
  have f23_x8 : C23.2 (a + 7) = some (ia X 2 (fun _ => 0)) := (o23 _ (by omega)).trans f22_x8
  have r23 : ∀ b, b < a → C23.2 b = A.2 b := fun b hb => (o23 b (by omega)).trans (r22 b hb)
  refine pV_i (k := 15) (v := .ref (a + 8)) f23_o (Nat.le_of_ble_eq_true rfl) ?_
  intro C24 d24 q24 o24
  have c24 : C24.1 = a + 9 := by omega
  have f24_x2 : C24.2 (a + 1) = some (ia X 240 (fun _ => 0)) := (o24 _ (by omega)).trans f23_x2
  have f24_x3 : C24.2 (a + 2) = some (ia X 240 (fun _ => 0)) := (o24 _ (by omega)).trans f23_x3
  have f24_x4 : C24.2 (a + 3) = some (ia X 60 (fun _ => 0)) := (o24 _ (by omega)).trans f23_x4
  have f24_x5 : C24.2 (a + 4) = some (ia X 60 (fun _ => 0)) := (o24 _ (by omega)).trans f23_x5
  have f24_x6 : C24.2 (a + 5) = some (ia X 2 (fun _ => 0)) := (o24 _ (by omega)).trans f23_x6
  have f24_x7 : C24.2 (a + 6) = some (ia X 2 (fun _ => 0)) := (o24 _ (by omega)).trans f23_x7
  have f24_x8 : C24.2 (a + 7) = some (ia X 2 (fun _ => 0)) := (o24 _ (by omega)).trans f23_x8
  have r24 : ∀ b, b < a → C24.2 b = A.2 b := fun b hb => (o24 b (by omega)).trans (r23 b hb)
  have f24_o : C24.2 (a) = some (ob 2 [.null, .ref (a + 1), .ref (a + 2), .ref (a + 3), .ref (a + 4), .int 0, .int 0, .int 0, .int 0, .int 0, .int 0, .ref (a + 5), .ref (a + 6), .ref (a + 7), .int 0, .ref (a + 8), .null]) := q24
  have L24 : LST X C24 (a + 8) (xE X) 0 (fun _ => none) 0 := L23.of (o24 _ (by omega)) (o24 _ (by omega)) (o24 _ (by omega))
  clear q24 o24 d24 c23 r23 f23_o f23_x2 f23_x3 f23_x4 f23_x5 f23_x6 f23_x7 f23_x8
  refine mk_i (b := a + 9) c24 (by decide) (by decide) ?_
  intro C25 d25 q25 o25
  have c25 : C25.1 = a + 10 := by omega
  have f25_o : C25.2 (a) = some (ob 2 [.null, .ref (a + 1), .ref (a + 2), .ref (a + 3), .ref (a + 4), .int 0, .int 0, .int 0, .int 0, .int 0, .int 0, .ref (a + 5), .ref (a + 6), .ref (a + 7), .int 0, .ref (a + 8), .null]) := (o25 _ (by omega)).trans f24_o
  have f25_x2 : C25.2 (a + 1) = some (ia X 240 (fun _ => 0)) := (o25 _ (by omega)).trans f24_x2
  have f25_x3 : C25.2 (a + 2) = some (ia X 240 (fun _ => 0)) := (o25 _ (by omega)).trans f24_x3
  have f25_x4 : C25.2 (a + 3) = some (ia X 60 (fun _ => 0)) := (o25 _ (by omega)).trans f24_x4
  have f25_x5 : C25.2 (a + 4) = some (ia X 60 (fun _ => 0)) := (o25 _ (by omega)).trans f24_x5
  have f25_x6 : C25.2 (a + 5) = some (ia X 2 (fun _ => 0)) := (o25 _ (by omega)).trans f24_x6
  have f25_x7 : C25.2 (a + 6) = some (ia X 2 (fun _ => 0)) := (o25 _ (by omega)).trans f24_x7
  have f25_x8 : C25.2 (a + 7) = some (ia X 2 (fun _ => 0)) := (o25 _ (by omega)).trans f24_x8
  have r25 : ∀ b, b < a → C25.2 b = A.2 b := fun b hb => (o25 b (by omega)).trans (r24 b hb)
  have f25_au : C25.2 (a + 9) = some (ob 1 [.null, .null, .null, .int 0]) := q25
  have L25 : LST X C25 (a + 8) (xE X) 0 (fun _ => none) 0 := L24.of (o25 _ (by omega)) (o25 _ (by omega)) (o25 _ (by omega))
  clear q25 o25 d25 c24 r24 f24_o f24_x2 f24_x3 f24_x4 f24_x5 f24_x6 f24_x7 f24_x8
  refine Cal.of (c_X0_init (s := a + 10) hl f25_au c25 (by omega)) (by decide) (by decide) (by decide) ?_
  rintro z26 C26 ⟨rfl, d26, f26_au, f26_y0, f26_y1, f26_y2, oo26⟩
  rw [zV_of]
  have o26 : ∀ b, b < a + 10 ∧ b ≠ a + 9 → C26.2 b = C25.2 b := oo26
  have c26 : C26.1 = a + 13 := by omega
  have f26_o : C26.2 (a) = some (ob 2 [.null, .ref (a + 1), .ref (a + 2), .ref (a + 3), .ref (a + 4), .int 0, .int 0, .int 0, .int 0, .int 0, .int 0, .ref (a + 5), .ref (a + 6), .ref (a + 7), .int 0, .ref (a + 8), .null]) := (o26 _ (by omega)).trans f25_o
  have f26_x2 : C26.2 (a + 1) = some (ia X 240 (fun _ => 0)) := (o26 _ (by omega)).trans f25_x2
  have f26_x3 : C26.2 (a + 2) = some (ia X 240 (fun _ => 0)) := (o26 _ (by omega)).trans f25_x3
  have f26_x4 : C26.2 (a + 3) = some (ia X 60 (fun _ => 0)) := (o26 _ (by omega)).trans f25_x4
  have f26_x5 : C26.2 (a + 4) = some (ia X 60 (fun _ => 0)) := (o26 _ (by omega)).trans f25_x5
  have f26_x6 : C26.2 (a + 5) = some (ia X 2 (fun _ => 0)) := (o26 _ (by omega)).trans f25_x6
  have f26_x7 : C26.2 (a + 6) = some (ia X 2 (fun _ => 0)) := (o26 _ (by omega)).trans f25_x7
  have f26_x8 : C26.2 (a + 7) = some (ia X 2 (fun _ => 0)) := (o26 _ (by omega)).trans f25_x8
  have r26 : ∀ b, b < a → C26.2 b = A.2 b := fun b hb => (o26 b (by omega)).trans (r25 b hb)
  have L26 : LST X C26 (a + 8) (xE X) 0 (fun _ => none) 0 := L25.of (o26 _ (by omega)) (o26 _ (by omega)) (o26 _ (by omega))
  refine pV_i (k := 16) (v := .ref (a + 9)) f26_o (Nat.le_of_ble_eq_true rfl) ?_
  intro C27 d27 q27 o27
  have c27 : C27.1 = a + 13 := by omega
  have f27_x2 : C27.2 (a + 1) = some (ia X 240 (fun _ => 0)) := (o27 _ (by omega)).trans f26_x2
  have f27_x3 : C27.2 (a + 2) = some (ia X 240 (fun _ => 0)) := (o27 _ (by omega)).trans f26_x3
  have f27_x4 : C27.2 (a + 3) = some (ia X 60 (fun _ => 0)) := (o27 _ (by omega)).trans f26_x4
  have f27_x5 : C27.2 (a + 4) = some (ia X 60 (fun _ => 0)) := (o27 _ (by omega)).trans f26_x5
  have f27_x6 : C27.2 (a + 5) = some (ia X 2 (fun _ => 0)) := (o27 _ (by omega)).trans f26_x6
  have f27_x7 : C27.2 (a + 6) = some (ia X 2 (fun _ => 0)) := (o27 _ (by omega)).trans f26_x7
  have f27_x8 : C27.2 (a + 7) = some (ia X 2 (fun _ => 0)) := (o27 _ (by omega)).trans f26_x8
  have f27_au : C27.2 (a + 9) = some (ob 1 [.ref (a + 10), .ref (a + 10 + 1), .ref (a + 10 + 2), .int 0]) := (o27 _ (by omega)).trans f26_au
  have f27_y0 : C27.2 (a + 10) = some (ia X 40 (fun _ => 0)) := (o27 _ (by omega)).trans f26_y0
  have f27_y1 : C27.2 (a + 10 + 1) = some (ia X 40 (fun _ => 0)) := (o27 _ (by omega)).trans f26_y1
  have f27_y2 : C27.2 (a + 10 + 2) = some (ia X 40 (fun _ => 0)) := (o27 _ (by omega)).trans f26_y2
  have r27 : ∀ b, b < a → C27.2 b = A.2 b := fun b hb => (o27 b (by omega)).trans (r26 b hb)
  have f27_o : C27.2 (a) = some (ob 2 [.null, .ref (a + 1), .ref (a + 2), .ref (a + 3), .ref (a + 4), .int 0, .int 0, .int 0, .int 0, .int 0, .int 0, .ref (a + 5), .ref (a + 6), .ref (a + 7), .int 0, .ref (a + 8), .ref (a + 9)]) := q27
  have L27 : LST X C27 (a + 8) (xE X) 0 (fun _ => none) 0 := L26.of (o27 _ (by omega)) (o27 _ (by omega)) (o27 _ (by omega))
  clear q27 o27 d27 c26 r26 f26_o f26_x2 f26_x3 f26_x4 f26_x5 f26_x6 f26_x7 f26_x8 f26_au f26_y0 f26_y1 f26_y2
  refine pV_i (k := 0) (v := .ref p) f27_o (Nat.le_of_ble_eq_true rfl) ?_
  intro C28 d28 q28 o28
  have c28 : C28.1 = a + 13 := by omega
  have f28_x2 : C28.2 (a + 1) = some (ia X 240 (fun _ => 0)) := (o28 _ (by omega)).trans f27_x2
  have f28_x3 : C28.2 (a + 2) = some (ia X 240 (fun _ => 0)) := (o28 _ (by omega)).trans f27_x3
  have f28_x4 : C28.2 (a + 3) = some (ia X 60 (fun _ => 0)) := (o28 _ (by omega)).trans f27_x4
  have f28_x5 : C28.2 (a + 4) = some (ia X 60 (fun _ => 0)) := (o28 _ (by omega)).trans f27_x5
  have f28_x6 : C28.2 (a + 5) = some (ia X 2 (fun _ => 0)) := (o28 _ (by omega)).trans f27_x6
  have f28_x7 : C28.2 (a + 6) = some (ia X 2 (fun _ => 0)) := (o28 _ (by omega)).trans f27_x7
  have f28_x8 : C28.2 (a + 7) = some (ia X 2 (fun _ => 0)) := (o28 _ (by omega)).trans f27_x8
  have f28_au : C28.2 (a + 9) = some (ob 1 [.ref (a + 10), .ref (a + 10 + 1), .ref (a + 10 + 2), .int 0]) := (o28 _ (by omega)).trans f27_au
  have f28_y0 : C28.2 (a + 10) = some (ia X 40 (fun _ => 0)) := (o28 _ (by omega)).trans f27_y0
  have f28_y1 : C28.2 (a + 10 + 1) = some (ia X 40 (fun _ => 0)) := (o28 _ (by omega)).trans f27_y1
  have f28_y2 : C28.2 (a + 10 + 2) = some (ia X 40 (fun _ => 0)) := (o28 _ (by omega)).trans f27_y2
  have r28 : ∀ b, b < a → C28.2 b = A.2 b := fun b hb => (o28 b (by omega)).trans (r27 b hb)
  have f28_o : C28.2 (a) = some (ob 2 [.ref p, .ref (a + 1), .ref (a + 2), .ref (a + 3), .ref (a + 4), .int 0, .int 0, .int 0, .int 0, .int 0, .int 0, .ref (a + 5), .ref (a + 6), .ref (a + 7), .int 0, .ref (a + 8), .ref (a + 9)]) := q28
  have L28 : LST X C28 (a + 8) (xE X) 0 (fun _ => none) 0 := L27.of (o28 _ (by omega)) (o28 _ (by omega)) (o28 _ (by omega))
  clear q28 o28 d28 c27 r27 f27_o f27_x2 f27_x3 f27_x4 f27_x5 f27_x6 f27_x7 f27_x8 f27_au f27_y0 f27_y1 f27_y2
  show Q Rv C28
  rw [hQ]
  exact ⟨rfl, c28, ⟨f28_o, f28_x2, f28_x3, f28_x4, f28_x5, f28_x6, f28_x7, f28_x8, f28_au, f28_y0, f28_y1, f28_y2⟩, L28, r28⟩
end NI
