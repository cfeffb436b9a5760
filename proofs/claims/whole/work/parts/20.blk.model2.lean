/-! blocks: what a method asks, row by row, as one formula (laid by wip/whole/gen) -/
theorem k_X6_sent_0 {l : Launch} {X : XT} {d : Nat} {Q : Ot → AH → Prop} {A : AH} {bc bs : Nat} {v0 : Nat} {v1 : Int32} {v2 : Int32} (h : Cal l X d bc bs M_X6_isSource [.int v1] A fun o4 A1 b2 c3 => rI o4 (fun E => Q (.inr E) A1) fun i5 => (i5 = 0 → G l X M_X6_sent d Q 21 [(0, .ref v0), (1, .int v1), (2, .int v2)] [.int 1, .ref v0] A1 b2 c3) ∧ (¬ i5 = 0 → isO A1 v0 7 ∧ Cal l X d b2 c3 M_X6_isPlace [.ref v0, .int v2] A1 fun o9 A6 b7 c8 => rI o9 (fun E => Q (.inr E) A6) fun i10 => (i10 = 0 → G l X M_X6_sent d Q 21 [(0, .ref v0), (1, .int v1), (2, .int v2)] [.int 1, .ref v0] A6 b7 c8) ∧ (¬ i10 = 0 → G l X M_X6_sent d Q 21 [(0, .ref v0), (1, .int v1), (2, .int v2)] [.int 0, .ref v0] A6 b7 c8))) : G l X M_X6_sent d Q 0 [(0, .ref v0), (1, .int v1), (2, .int v2)] [] A bc bs := by
  refine G_aload_n 0 (dk_at dk_X6_sent 0 rfl) rfl ?_
  refine G_iload_n 1 (dk_at dk_X6_sent 1 rfl) rfl ?_
  refine G_callS (As := [.int v1]) (rest := [.ref v0]) lk_X6_204 rfl (dk_at dk_X6_sent 2 rfl) rfl rfl (Nat.le_of_ble_eq_true rfl) (h.mono fun o4 A1 b2 c3 h => aftI h fun i5 h => ?_)
  refine G_if_eq (tgt := 20) (dk_at dk_X6_sent 3 rfl) (by decide) (fun c => ?_) (fun c => ?_)
  · replace h := h.1 c
    refine G_iconst (v := 1) (dk_at dk_X6_sent 10 rfl) (by decide) ?_
    exact h
  · replace h := h.2 c
    refine G_aload_n 0 (dk_at dk_X6_sent 4 rfl) rfl ?_
    refine G_iload_n 2 (dk_at dk_X6_sent 5 rfl) rfl ?_
    obtain ⟨⟨_, ho⟩, h⟩ := h
    refine G_callV (As := [.int v2]) (rest := [.ref v0]) lk_X6_210 rfl (dk_at dk_X6_sent 6 rfl) rfl rfl (Nat.le_of_ble_eq_true rfl) ho (h.mono fun o9 A6 b7 c8 h => aftI h fun i10 h => ?_)
    refine G_if_eq (tgt := 20) (dk_at dk_X6_sent 7 rfl) (by decide) (fun c => ?_) (fun c => ?_)
    · replace h := h.1 c
      refine G_iconst (v := 1) (dk_at dk_X6_sent 10 rfl) (by decide) ?_
      exact h
    · replace h := h.2 c
      refine G_iconst (v := 0) (dk_at dk_X6_sent 8 rfl) (by decide) ?_
      refine G_goto (tgt := 21) (dk_at dk_X6_sent 9 rfl) (by decide) ?_
      exact h
theorem k_X6_sent_21 {l : Launch} {X : XT} {d : Nat} {Q : Ot → AH → Prop} {A : AH} {bc bs : Nat} {v0 : Nat} {v1 : Int32} {v2 : Int32} {s0 : Int32} {s1 : Nat} (h : pV A s1 7 5 (.int s0) fun A1 => gI A1 v0 7 5 fun i2 => (i2 ≤ 0 → isO A1 v0 7 ∧ Cal l X d bc bs M_X6_byteOf [.ref v0, .int v1, .int v2] A1 fun o6 A3 b4 c5 => rI o6 (fun E => Q (.inr E) A3) fun i7 => Q (Ri i7) A3) ∧ (¬ i2 ≤ 0 → Q (Ri 0) A1)) : G l X M_X6_sent d Q 21 [(0, .ref v0), (1, .int v1), (2, .int v2)] [.int s0, .ref s1] A bc bs := by
  refine K_pI pf_X6_50 (dk_at dk_X6_sent 11 rfl) h (fun A1 h => ?_)
  refine G_aload_n 0 (dk_at dk_X6_sent 12 rfl) rfl ?_
  refine K_gI gf_X6_50 (dk_at dk_X6_sent 13 rfl) h (fun i2 h => ?_)
  refine G_if_le (tgt := 35) (dk_at dk_X6_sent 14 rfl) (by decide) (fun c => ?_) (fun c => ?_)
  · replace h := h.1 c
    refine G_aload_n 0 (dk_at dk_X6_sent 17 rfl) rfl ?_
    refine G_iload_n 1 (dk_at dk_X6_sent 18 rfl) rfl ?_
    refine G_iload_n 2 (dk_at dk_X6_sent 19 rfl) rfl ?_
    obtain ⟨⟨_, ho⟩, h⟩ := h
    refine G_callV (As := [.int v1, .int v2]) (rest := []) lk_X6_182 rfl (dk_at dk_X6_sent 20 rfl) rfl rfl (Nat.le_of_ble_eq_true rfl) ho (h.mono fun o6 A3 b4 c5 h => aftI h fun i7 h => ?_)
    exact G_iret (ty := .int) rfl rfl (dk_at dk_X6_sent 21 rfl) h
  · replace h := h.2 c
    refine G_iconst (v := 0) (dk_at dk_X6_sent 15 rfl) (by decide) ?_
    refine G_goto (tgt := 41) (dk_at dk_X6_sent 16 rfl) (by decide) ?_
    exact G_iret (ty := .int) rfl rfl (dk_at dk_X6_sent 21 rfl) h
theorem k_X6_got_0 {l : Launch} {X : XT} {d : Nat} {Q : Ot → AH → Prop} {A : AH} {bc bs : Nat} {v0 : Nat} {v1 : Int32} (h : isO A v0 7 ∧ Cal l X d bc bs M_X6_isPlace [.ref v0, .int v1] A fun o4 A1 b2 c3 => rI o4 (fun E => Q (.inr E) A1) fun i5 => (i5 = 0 → G l X M_X6_got d Q 14 [(0, .ref v0), (1, .int v1)] [.int 1, .ref v0] A1 b2 c3) ∧ (¬ i5 = 0 → G l X M_X6_got d Q 14 [(0, .ref v0), (1, .int v1)] [.int 0, .ref v0] A1 b2 c3)) : G l X M_X6_got d Q 0 [(0, .ref v0), (1, .int v1)] [] A bc bs := by
  refine G_aload_n 0 (dk_at dk_X6_got 0 rfl) rfl ?_
  refine G_aload_n 0 (dk_at dk_X6_got 1 rfl) rfl ?_
  refine G_iload_n 1 (dk_at dk_X6_got 2 rfl) rfl ?_
  obtain ⟨⟨_, ho⟩, h⟩ := h
  refine G_callV (As := [.int v1]) (rest := [.ref v0]) lk_X6_210 rfl (dk_at dk_X6_got 3 rfl) rfl rfl (Nat.le_of_ble_eq_true rfl) ho (h.mono fun o4 A1 b2 c3 h => aftI h fun i5 h => ?_)
  refine G_if_eq (tgt := 13) (dk_at dk_X6_got 4 rfl) (by decide) (fun c => ?_) (fun c => ?_)
  · replace h := h.1 c
    refine G_iconst (v := 1) (dk_at dk_X6_got 7 rfl) (by decide) ?_
    exact h
  · replace h := h.2 c
    refine G_iconst (v := 0) (dk_at dk_X6_got 5 rfl) (by decide) ?_
    refine G_goto (tgt := 14) (dk_at dk_X6_got 6 rfl) (by decide) ?_
    exact h
theorem k_X6_got_14 {l : Launch} {X : XT} {d : Nat} {Q : Ot → AH → Prop} {A : AH} {bc bs : Nat} {v0 : Nat} {v1 : Int32} {s0 : Int32} {s1 : Nat} (h : pV A s1 7 5 (.int s0) fun A1 => gI A1 v0 7 5 fun i2 => (i2 ≤ 0 → isO A1 v0 7 ∧ Cal l X d bc bs M_X6_partAt [.ref v0, .int v1] A1 fun o6 A3 b4 c5 => rI o6 (fun E => Q (.inr E) A3) fun i7 => isO A3 v0 7 ∧ Cal l X d b4 c5 M_X6_isMissing [.ref v0, .int i7] A3 fun o11 A8 b9 c10 => rI o11 (fun E => Q (.inr E) A8) fun i12 => (i12 = 0 → gR A8 v0 7 0 fun r13 => aI X A8 r13 (336 + v1) fun i14 => Q (Ri i14) A8) ∧ (¬ i12 = 0 → Q (Ri ((-1))) A8)) ∧ (¬ i2 ≤ 0 → Q (Ri 0) A1)) : G l X M_X6_got d Q 14 [(0, .ref v0), (1, .int v1)] [.int s0, .ref s1] A bc bs := by
  refine K_pI pf_X6_50 (dk_at dk_X6_got 8 rfl) h (fun A1 h => ?_)
  refine G_aload_n 0 (dk_at dk_X6_got 9 rfl) rfl ?_
  refine K_gI gf_X6_50 (dk_at dk_X6_got 10 rfl) h (fun i2 h => ?_)
  refine G_if_le (tgt := 26) (dk_at dk_X6_got 11 rfl) (by decide) (fun c => ?_) (fun c => ?_)
  · replace h := h.1 c
    refine G_aload_n 0 (dk_at dk_X6_got 14 rfl) rfl ?_
    refine G_aload_n 0 (dk_at dk_X6_got 15 rfl) rfl ?_
    refine G_iload_n 1 (dk_at dk_X6_got 16 rfl) rfl ?_
    obtain ⟨⟨_, ho⟩, h⟩ := h
    refine G_callV (As := [.int v1]) (rest := [.ref v0]) lk_X6_213 rfl (dk_at dk_X6_got 17 rfl) rfl rfl (Nat.le_of_ble_eq_true rfl) ho (h.mono fun o6 A3 b4 c5 h => aftI h fun i7 h => ?_)
    obtain ⟨⟨_, ho⟩, h⟩ := h
    refine G_callV (As := [.int i7]) (rest := []) lk_X6_179 rfl (dk_at dk_X6_got 18 rfl) rfl rfl (Nat.le_of_ble_eq_true rfl) ho (h.mono fun o11 A8 b9 c10 h => aftI h fun i12 h => ?_)
    refine G_if_eq (tgt := 42) (dk_at dk_X6_got 19 rfl) (by decide) (fun c => ?_) (fun c => ?_)
    · replace h := h.1 c
      refine G_aload_n 0 (dk_at dk_X6_got 22 rfl) rfl ?_
      refine K_gR gf_X6_7 (dk_at dk_X6_got 23 rfl) h (fun r13 h => ?_)
      refine G_sipush (v := 336) (dk_at dk_X6_got 24 rfl) (by decide) ?_
      refine G_iload_n 1 (dk_at dk_X6_got 25 rfl) rfl ?_
      refine G_iadd (dk_at dk_X6_got 26 rfl) ?_
      refine K_aI (dk_at dk_X6_got 27 rfl) h (fun i14 h => ?_)
      exact G_iret (ty := .int) rfl rfl (dk_at dk_X6_got 28 rfl) h
    · replace h := h.2 c
      refine G_iconst (v := (-1)) (dk_at dk_X6_got 20 rfl) (by decide) ?_
      refine G_goto (tgt := 52) (dk_at dk_X6_got 21 rfl) (by decide) ?_
      exact G_iret (ty := .int) rfl rfl (dk_at dk_X6_got 28 rfl) h
  · replace h := h.2 c
    refine G_iconst (v := 0) (dk_at dk_X6_got 12 rfl) (by decide) ?_
    exact G_iret (ty := .int) rfl rfl (dk_at dk_X6_got 13 rfl) h
theorem k_X6_piece_0 {l : Launch} {X : XT} {d : Nat} {Q : Ot → AH → Prop} {A : AH} {bc bs : Nat} {v0 : Nat} {v1 : Int32} {v2 : Int32} (h : isO A v0 7 ∧ Cal l X d bc bs M_X6_isPiece [.ref v0, .int v1] A fun o4 A1 b2 c3 => rI o4 (fun E => Q (.inr E) A1) fun i5 => (¬ i5 = 0 → Cal l X d b2 c3 M_X6_isIn [.int v2, .int 0, .int 6] A1 fun o9 A6 b7 c8 => rI o9 (fun E => Q (.inr E) A6) fun i10 => (i10 = 0 → G l X M_X6_piece d Q 28 [(0, .ref v0), (1, .int v1), (2, .int v2)] [.int 2, .ref v0] A6 b7 c8) ∧ (¬ i10 = 0 → G l X M_X6_piece d Q 28 [(0, .ref v0), (1, .int v1), (2, .int v2)] [.int 0, .ref v0] A6 b7 c8)) ∧ (i5 = 0 → G l X M_X6_piece d Q 28 [(0, .ref v0), (1, .int v1), (2, .int v2)] [.int 1, .ref v0] A1 b2 c3)) : G l X M_X6_piece d Q 0 [(0, .ref v0), (1, .int v1), (2, .int v2)] [] A bc bs := by
  refine G_aload_n 0 (dk_at dk_X6_piece 0 rfl) rfl ?_
  refine G_aload_n 0 (dk_at dk_X6_piece 1 rfl) rfl ?_
  refine G_iload_n 1 (dk_at dk_X6_piece 2 rfl) rfl ?_
  obtain ⟨⟨_, ho⟩, h⟩ := h
  refine G_callV (As := [.int v1]) (rest := [.ref v0]) lk_X6_216 rfl (dk_at dk_X6_piece 3 rfl) rfl rfl (Nat.le_of_ble_eq_true rfl) ho (h.mono fun o4 A1 b2 c3 h => aftI h fun i5 h => ?_)
  refine G_if_ne (tgt := 13) (dk_at dk_X6_piece 4 rfl) (by decide) (fun c => ?_) (fun c => ?_)
  · replace h := h.1 c
    refine G_iload_n 2 (dk_at dk_X6_piece 7 rfl) rfl ?_
    refine G_iconst (v := 0) (dk_at dk_X6_piece 8 rfl) (by decide) ?_
    refine G_bipush (v := 6) (dk_at dk_X6_piece 9 rfl) (by decide) ?_
    refine G_callS (As := [.int v2, .int 0, .int 6]) (rest := [.ref v0]) lk_X6_62 rfl (dk_at dk_X6_piece 10 rfl) rfl rfl (Nat.le_of_ble_eq_true rfl) (h.mono fun o9 A6 b7 c8 h => aftI h fun i10 h => ?_)
    refine G_if_eq (tgt := 27) (dk_at dk_X6_piece 11 rfl) (by decide) (fun c => ?_) (fun c => ?_)
    · replace h := h.1 c
      refine G_iconst (v := 2) (dk_at dk_X6_piece 14 rfl) (by decide) ?_
      exact h
    · replace h := h.2 c
      refine G_iconst (v := 0) (dk_at dk_X6_piece 12 rfl) (by decide) ?_
      refine G_goto (tgt := 28) (dk_at dk_X6_piece 13 rfl) (by decide) ?_
      exact h
  · replace h := h.2 c
    refine G_iconst (v := 1) (dk_at dk_X6_piece 5 rfl) (by decide) ?_
    refine G_goto (tgt := 28) (dk_at dk_X6_piece 6 rfl) (by decide) ?_
    exact h
theorem k_X6_piece_28 {l : Launch} {X : XT} {d : Nat} {Q : Ot → AH → Prop} {A : AH} {bc bs : Nat} {v0 : Nat} {v1 : Int32} {v2 : Int32} {s0 : Int32} {s1 : Nat} (h : pV A s1 7 5 (.int s0) fun A1 => gI A1 v0 7 5 fun i2 => (i2 ≤ 0 → (v2 = 0 → gR A1 v0 7 0 fun r3 => aI X A1 r3 2 fun i4 => Q (Ri (i4 * v1)) A1) ∧ (v2 = 1 → isO A1 v0 7 ∧ Cal l X d bc bs M_X6_pieceLength [.ref v0, .int v1] A1 fun o8 A5 b6 c7 => rI o8 (fun E => Q (.inr E) A5) fun i9 => Q (Ri i9) A5) ∧ (v2 = 2 → isO A1 v0 7 ∧ Cal l X d bc bs M_X6_firstPart [.ref v0, .int v1] A1 fun o13 A10 b11 c12 => rI o13 (fun E => Q (.inr E) A10) fun i14 => Q (Ri i14) A10) ∧ (v2 = 3 → isO A1 v0 7 ∧ Cal l X d bc bs M_X6_partsOf [.ref v0, .int v1] A1 fun o18 A15 b16 c17 => rI o18 (fun E => Q (.inr E) A15) fun i19 => Q (Ri i19) A15) ∧ (v2 = 4 → isO A1 v0 7 ∧ Cal l X d bc bs M_X6_missingIn [.ref v0, .int v1] A1 fun o23 A20 b21 c22 => rI o23 (fun E => Q (.inr E) A20) fun i24 => Q (Ri i24) A20) ∧ (v2 = 5 → gR A1 v0 7 0 fun r25 => aI X A1 r25 2 fun i26 => isO A1 v0 7 ∧ Cal l X d bc bs M_X6_pieceLength [.ref v0, .int v1] A1 fun o30 A27 b28 c29 => rI o30 (fun E => Q (.inr E) A27) fun i31 => isO A27 v0 7 ∧ Cal l X d b28 c29 M_X6_sumOf [.ref v0, .int 0, .int (i26 * v1), .int i31] A27 fun o35 A32 b33 c34 => rI o35 (fun E => Q (.inr E) A32) fun i36 => Q (Ri i36) A32) ∧ (¬ v2 = 0 → ¬ v2 = 1 → ¬ v2 = 2 → ¬ v2 = 3 → ¬ v2 = 4 → ¬ v2 = 5 → isO A1 v0 7 ∧ Cal l X d bc bs M_X6_stateOf [.ref v0, .int v1] A1 fun o40 A37 b38 c39 => rI o40 (fun E => Q (.inr E) A37) fun i41 => Q (Ri i41) A37)) ∧ (¬ i2 ≤ 0 → Q (Ri 0) A1)) : G l X M_X6_piece d Q 28 [(0, .ref v0), (1, .int v1), (2, .int v2)] [.int s0, .ref s1] A bc bs := by
  refine K_pI pf_X6_50 (dk_at dk_X6_piece 15 rfl) h (fun A1 h => ?_)
  refine G_aload_n 0 (dk_at dk_X6_piece 16 rfl) rfl ?_
  refine K_gI gf_X6_50 (dk_at dk_X6_piece 17 rfl) h (fun i2 h => ?_)
  refine G_if_le (tgt := 40) (dk_at dk_X6_piece 18 rfl) (by decide) (fun c => ?_) (fun c => ?_)
  · replace h := h.1 c
    refine G_iload_n 2 (dk_at dk_X6_piece 21 rfl) rfl ?_
    by_cases c0 : v2 = 0
    · replace h := h.1 c0
      refine G_tcase (tgt := 80) (dk_at dk_X6_piece 22 rfl) (by rw [c0]; decide) (by rw [c0]; decide) (off := 39) (by rw [c0]; rfl) (by decide) ?_
      refine G_aload_n 0 (dk_at dk_X6_piece 23 rfl) rfl ?_
      refine K_gR gf_X6_7 (dk_at dk_X6_piece 24 rfl) h (fun r3 h => ?_)
      refine G_iconst (v := 2) (dk_at dk_X6_piece 25 rfl) (by decide) ?_
      refine K_aI (dk_at dk_X6_piece 26 rfl) h (fun i4 h => ?_)
      refine G_iload_n 1 (dk_at dk_X6_piece 27 rfl) rfl ?_
      refine G_imul (dk_at dk_X6_piece 28 rfl) ?_
      exact G_iret (ty := .int) rfl rfl (dk_at dk_X6_piece 29 rfl) h
    by_cases c1 : v2 = 1
    · replace h := h.2.1 c1
      refine G_tcase (tgt := 89) (dk_at dk_X6_piece 22 rfl) (by rw [c1]; decide) (by rw [c1]; decide) (off := 48) (by rw [c1]; rfl) (by decide) ?_
      refine G_aload_n 0 (dk_at dk_X6_piece 30 rfl) rfl ?_
      refine G_iload_n 1 (dk_at dk_X6_piece 31 rfl) rfl ?_
      obtain ⟨⟨_, ho⟩, h⟩ := h
      refine G_callV (As := [.int v1]) (rest := []) lk_X6_159 rfl (dk_at dk_X6_piece 32 rfl) rfl rfl (Nat.le_of_ble_eq_true rfl) ho (h.mono fun o8 A5 b6 c7 h => aftI h fun i9 h => ?_)
      exact G_iret (ty := .int) rfl rfl (dk_at dk_X6_piece 33 rfl) h
    by_cases c2 : v2 = 2
    · replace h := h.2.2.1 c2
      refine G_tcase (tgt := 95) (dk_at dk_X6_piece 22 rfl) (by rw [c2]; decide) (by rw [c2]; decide) (off := 54) (by rw [c2]; rfl) (by decide) ?_
      refine G_aload_n 0 (dk_at dk_X6_piece 34 rfl) rfl ?_
      refine G_iload_n 1 (dk_at dk_X6_piece 35 rfl) rfl ?_
      obtain ⟨⟨_, ho⟩, h⟩ := h
      refine G_callV (As := [.int v1]) (rest := []) lk_X6_167 rfl (dk_at dk_X6_piece 36 rfl) rfl rfl (Nat.le_of_ble_eq_true rfl) ho (h.mono fun o13 A10 b11 c12 h => aftI h fun i14 h => ?_)
      exact G_iret (ty := .int) rfl rfl (dk_at dk_X6_piece 37 rfl) h
    by_cases c3 : v2 = 3
    · replace h := h.2.2.2.1 c3
      refine G_tcase (tgt := 101) (dk_at dk_X6_piece 22 rfl) (by rw [c3]; decide) (by rw [c3]; decide) (off := 60) (by rw [c3]; rfl) (by decide) ?_
      refine G_aload_n 0 (dk_at dk_X6_piece 38 rfl) rfl ?_
      refine G_iload_n 1 (dk_at dk_X6_piece 39 rfl) rfl ?_
      obtain ⟨⟨_, ho⟩, h⟩ := h
      refine G_callV (As := [.int v1]) (rest := []) lk_X6_170 rfl (dk_at dk_X6_piece 40 rfl) rfl rfl (Nat.le_of_ble_eq_true rfl) ho (h.mono fun o18 A15 b16 c17 h => aftI h fun i19 h => ?_)
      exact G_iret (ty := .int) rfl rfl (dk_at dk_X6_piece 41 rfl) h
    by_cases c4 : v2 = 4
    · replace h := h.2.2.2.2.1 c4
      refine G_tcase (tgt := 107) (dk_at dk_X6_piece 22 rfl) (by rw [c4]; decide) (by rw [c4]; decide) (off := 66) (by rw [c4]; rfl) (by decide) ?_
      refine G_aload_n 0 (dk_at dk_X6_piece 42 rfl) rfl ?_
      refine G_iload_n 1 (dk_at dk_X6_piece 43 rfl) rfl ?_
      obtain ⟨⟨_, ho⟩, h⟩ := h
      refine G_callV (As := [.int v1]) (rest := []) lk_X6_185 rfl (dk_at dk_X6_piece 44 rfl) rfl rfl (Nat.le_of_ble_eq_true rfl) ho (h.mono fun o23 A20 b21 c22 h => aftI h fun i24 h => ?_)
      exact G_iret (ty := .int) rfl rfl (dk_at dk_X6_piece 45 rfl) h
    by_cases c5 : v2 = 5
    · replace h := h.2.2.2.2.2.1 c5
      refine G_tcase (tgt := 113) (dk_at dk_X6_piece 22 rfl) (by rw [c5]; decide) (by rw [c5]; decide) (off := 72) (by rw [c5]; rfl) (by decide) ?_
      refine G_aload_n 0 (dk_at dk_X6_piece 46 rfl) rfl ?_
      refine G_iconst (v := 0) (dk_at dk_X6_piece 47 rfl) (by decide) ?_
      refine G_aload_n 0 (dk_at dk_X6_piece 48 rfl) rfl ?_
      refine K_gR gf_X6_7 (dk_at dk_X6_piece 49 rfl) h (fun r25 h => ?_)
      refine G_iconst (v := 2) (dk_at dk_X6_piece 50 rfl) (by decide) ?_
      refine K_aI (dk_at dk_X6_piece 51 rfl) h (fun i26 h => ?_)
      refine G_iload_n 1 (dk_at dk_X6_piece 52 rfl) rfl ?_
      refine G_imul (dk_at dk_X6_piece 53 rfl) ?_
      refine G_aload_n 0 (dk_at dk_X6_piece 54 rfl) rfl ?_
      refine G_iload_n 1 (dk_at dk_X6_piece 55 rfl) rfl ?_
      obtain ⟨⟨_, ho⟩, h⟩ := h
      refine G_callV (As := [.int v1]) (rest := [.int (i26 * v1), .int 0, .ref v0]) lk_X6_159 rfl (dk_at dk_X6_piece 56 rfl) rfl rfl (Nat.le_of_ble_eq_true rfl) ho (h.mono fun o30 A27 b28 c29 h => aftI h fun i31 h => ?_)
      obtain ⟨⟨_, ho⟩, h⟩ := h
      refine G_callV (As := [.int 0, .int (i26 * v1), .int i31]) (rest := []) lk_X6_191 rfl (dk_at dk_X6_piece 57 rfl) rfl rfl (Nat.le_of_ble_eq_true rfl) ho (h.mono fun o35 A32 b33 c34 h => aftI h fun i36 h => ?_)
      exact G_iret (ty := .int) rfl rfl (dk_at dk_X6_piece 58 rfl) h
    replace h := h.2.2.2.2.2.2 c0 c1 c2 c3 c4 c5
    refine G_tout (tgt := 132) (dk_at dk_X6_piece 22 rfl) (tsw_out (n := 5) (fun k hk => ?_)) (by decide) ?_
    · have hk2 : k = 0 ∨ k = 1 ∨ k = 2 ∨ k = 3 ∨ k = 4 ∨ k = 5 := by omega
      rcases hk2 with rfl | rfl | rfl | rfl | rfl | rfl
      · exact c0
      · exact c1
      · exact c2
      · exact c3
      · exact c4
      · exact c5
    · refine G_aload_n 0 (dk_at dk_X6_piece 59 rfl) rfl ?_
      refine G_iload_n 1 (dk_at dk_X6_piece 60 rfl) rfl ?_
      obtain ⟨⟨_, ho⟩, h⟩ := h
      refine G_callV (As := [.int v1]) (rest := []) lk_X6_195 rfl (dk_at dk_X6_piece 61 rfl) rfl rfl (Nat.le_of_ble_eq_true rfl) ho (h.mono fun o40 A37 b38 c39 h => aftI h fun i41 h => ?_)
      exact G_iret (ty := .int) rfl rfl (dk_at dk_X6_piece 62 rfl) h
  · replace h := h.2 c
    refine G_iconst (v := 0) (dk_at dk_X6_piece 19 rfl) (by decide) ?_
    exact G_iret (ty := .int) rfl rfl (dk_at dk_X6_piece 20 rfl) h
theorem k_X6_wrongIn_0 {l : Launch} {X : XT} {d : Nat} {Q : Ot → AH → Prop} {A : AH} {bc bs : Nat} {v0 : Nat} {v1 : Int32} (h : isO A v0 7 ∧ Cal l X d bc bs M_X6_placeOf [.ref v0, .int v1] A fun o4 A1 b2 c3 => rI o4 (fun E => Q (.inr E) A1) fun i5 => G l X M_X6_wrongIn d Q 8 [(0, .ref v0), (1, .int v1), (2, .int 0), (3, .int i5)] [] A1 b2 c3) : G l X M_X6_wrongIn d Q 0 [(0, .ref v0), (1, .int v1)] [] A bc bs := by
  refine G_iconst (v := 0) (dk_at dk_X6_wrongIn 0 rfl) (by decide) ?_
  refine G_istore_n (lv' := [(2, .int 0), (0, .ref v0), (1, .int v1)]) (dk_at dk_X6_wrongIn 1 rfl) (by decide) rfl ?_
  refine G_aload_n 1 (dk_at dk_X6_wrongIn 2 rfl) rfl ?_
  refine G_iload_n 2 (dk_at dk_X6_wrongIn 3 rfl) rfl ?_
  obtain ⟨⟨_, ho⟩, h⟩ := h
  refine G_callV (As := [.int v1]) (rest := []) lk_X6_176 rfl (dk_at dk_X6_wrongIn 4 rfl) rfl rfl (Nat.le_of_ble_eq_true rfl) ho (h.mono fun o4 A1 b2 c3 h => aftI h fun i5 h => ?_)
  refine G_istore_n (lv' := [(3, .int i5), (2, .int 0), (0, .ref v0), (1, .int v1)]) (dk_at dk_X6_wrongIn 5 rfl) (by decide) rfl ?_
  refine G_sub [2, 3, 1, 0] rfl ?_
  exact h
theorem k_X6_wrongIn_8 {l : Launch} {X : XT} {d : Nat} {Q : Ot → AH → Prop} {A : AH} {bc bs : Nat} {v0 : Nat} {v1 : Int32} {v2 : Int32} {v3 : Int32} (h : isO A v0 7 ∧ Cal l X d bc bs M_X6_placeOf [.ref v0, .int v1] A fun o4 A1 b2 c3 => rI o4 (fun E => Q (.inr E) A1) fun i5 => isO A1 v0 7 ∧ Cal l X d b2 c3 M_X6_partLength [.ref v0, .int v1] A1 fun o9 A6 b7 c8 => rI o9 (fun E => Q (.inr E) A6) fun i10 => ((i5 + i10) ≤ v3 → Q (Ri v2) A6) ∧ (¬ (i5 + i10) ≤ v3 → isO A6 v0 7 ∧ Cal l X d b7 c8 M_X6_isMissing [.ref v0, .int v1] A6 fun o14 A11 b12 c13 => rI o14 (fun E => Q (.inr E) A11) fun i15 => (¬ i15 = 0 → Q (Ri v2) A11) ∧ (i15 = 0 → gR A11 v0 7 0 fun r16 => aI X A11 r16 (336 + v3) fun i17 => isO A11 v0 7 ∧ Cal l X d b12 c13 M_X6_byteOf [.ref v0, .int 0, .int v3] A11 fun o21 A18 b19 c20 => rI o21 (fun E => Q (.inr E) A18) fun i22 => (i17 = i22 → G l X M_X6_wrongIn d Q 8 [(0, .ref v0), (1, .int v1), (2, .int (v2 + 0)), (3, .int (v3 + 1))] [] A18 b19 c20) ∧ (¬ i17 = i22 → G l X M_X6_wrongIn d Q 8 [(0, .ref v0), (1, .int v1), (2, .int (v2 + 1)), (3, .int (v3 + 1))] [] A18 b19 c20)))) : G l X M_X6_wrongIn d Q 8 [(0, .ref v0), (1, .int v1), (2, .int v2), (3, .int v3)] [] A bc bs := by
  refine G_iload_n 3 (dk_at dk_X6_wrongIn 6 rfl) rfl ?_
  refine G_aload_n 0 (dk_at dk_X6_wrongIn 7 rfl) rfl ?_
  refine G_iload_n 1 (dk_at dk_X6_wrongIn 8 rfl) rfl ?_
  obtain ⟨⟨_, ho⟩, h⟩ := h
  refine G_callV (As := [.int v1]) (rest := [.int v3]) lk_X6_176 rfl (dk_at dk_X6_wrongIn 9 rfl) rfl rfl (Nat.le_of_ble_eq_true rfl) ho (h.mono fun o4 A1 b2 c3 h => aftI h fun i5 h => ?_)
  refine G_aload_n 0 (dk_at dk_X6_wrongIn 10 rfl) rfl ?_
  refine G_iload_n 1 (dk_at dk_X6_wrongIn 11 rfl) rfl ?_
  obtain ⟨⟨_, ho⟩, h⟩ := h
  refine G_callV (As := [.int v1]) (rest := [.int i5, .int v3]) lk_X6_219 rfl (dk_at dk_X6_wrongIn 12 rfl) rfl rfl (Nat.le_of_ble_eq_true rfl) ho (h.mono fun o9 A6 b7 c8 h => aftI h fun i10 h => ?_)
  refine G_iadd (dk_at dk_X6_wrongIn 13 rfl) ?_
  refine G_icmp_ge (tgt := 64) (dk_at dk_X6_wrongIn 14 rfl) (by decide) (fun c => ?_) (fun c => ?_)
  · replace h := h.1 c
    refine G_iload_n 2 (dk_at dk_X6_wrongIn 38 rfl) rfl ?_
    exact G_iret (ty := .int) rfl rfl (dk_at dk_X6_wrongIn 39 rfl) h
  · replace h := h.2 c
    refine G_aload_n 0 (dk_at dk_X6_wrongIn 15 rfl) rfl ?_
    refine G_iload_n 1 (dk_at dk_X6_wrongIn 16 rfl) rfl ?_
    obtain ⟨⟨_, ho⟩, h⟩ := h
    refine G_callV (As := [.int v1]) (rest := []) lk_X6_179 rfl (dk_at dk_X6_wrongIn 17 rfl) rfl rfl (Nat.le_of_ble_eq_true rfl) ho (h.mono fun o14 A11 b12 c13 h => aftI h fun i15 h => ?_)
    refine G_if_ne (tgt := 64) (dk_at dk_X6_wrongIn 18 rfl) (by decide) (fun c => ?_) (fun c => ?_)
    · replace h := h.1 c
      refine G_iload_n 2 (dk_at dk_X6_wrongIn 38 rfl) rfl ?_
      exact G_iret (ty := .int) rfl rfl (dk_at dk_X6_wrongIn 39 rfl) h
    · replace h := h.2 c
      refine G_iload_n 2 (dk_at dk_X6_wrongIn 19 rfl) rfl ?_
      refine G_aload_n 0 (dk_at dk_X6_wrongIn 20 rfl) rfl ?_
      refine K_gR gf_X6_7 (dk_at dk_X6_wrongIn 21 rfl) h (fun r16 h => ?_)
      refine G_sipush (v := 336) (dk_at dk_X6_wrongIn 22 rfl) (by decide) ?_
      refine G_iload_n 3 (dk_at dk_X6_wrongIn 23 rfl) rfl ?_
      refine G_iadd (dk_at dk_X6_wrongIn 24 rfl) ?_
      refine K_aI (dk_at dk_X6_wrongIn 25 rfl) h (fun i17 h => ?_)
      refine G_aload_n 0 (dk_at dk_X6_wrongIn 26 rfl) rfl ?_
      refine G_iconst (v := 0) (dk_at dk_X6_wrongIn 27 rfl) (by decide) ?_
      refine G_iload_n 3 (dk_at dk_X6_wrongIn 28 rfl) rfl ?_
      obtain ⟨⟨_, ho⟩, h⟩ := h
      refine G_callV (As := [.int 0, .int v3]) (rest := [.int i17, .int v2]) lk_X6_182 rfl (dk_at dk_X6_wrongIn 29 rfl) rfl rfl (Nat.le_of_ble_eq_true rfl) ho (h.mono fun o21 A18 b19 c20 h => aftI h fun i22 h => ?_)
      refine G_icmp_eq (tgt := 55) (dk_at dk_X6_wrongIn 30 rfl) (by decide) (fun c => ?_) (fun c => ?_)
      · replace h := h.1 c
        refine G_iconst (v := 0) (dk_at dk_X6_wrongIn 33 rfl) (by decide) ?_
        refine G_iadd (dk_at dk_X6_wrongIn 34 rfl) ?_
        refine G_istore_n (lv' := [(2, .int (v2 + 0)), (0, .ref v0), (1, .int v1), (3, .int v3)]) (dk_at dk_X6_wrongIn 35 rfl) (by decide) rfl ?_
        refine G_iinc (v := v3 + 1) (lv' := [(3, .int (v3 + 1)), (2, .int (v2 + 0)), (0, .ref v0), (1, .int v1)]) 3 (dk_at dk_X6_wrongIn 36 rfl) rfl rfl (by decide) rfl ?_
        refine G_goto (tgt := 8) (dk_at dk_X6_wrongIn 37 rfl) (by decide) ?_
        refine G_sub [2, 3, 1, 0] rfl ?_
        exact h
      · replace h := h.2 c
        refine G_iconst (v := 1) (dk_at dk_X6_wrongIn 31 rfl) (by decide) ?_
        refine G_goto (tgt := 56) (dk_at dk_X6_wrongIn 32 rfl) (by decide) ?_
        refine G_iadd (dk_at dk_X6_wrongIn 34 rfl) ?_
        refine G_istore_n (lv' := [(2, .int (v2 + 1)), (0, .ref v0), (1, .int v1), (3, .int v3)]) (dk_at dk_X6_wrongIn 35 rfl) (by decide) rfl ?_
        refine G_iinc (v := v3 + 1) (lv' := [(3, .int (v3 + 1)), (2, .int (v2 + 1)), (0, .ref v0), (1, .int v1)]) 3 (dk_at dk_X6_wrongIn 36 rfl) rfl rfl (by decide) rfl ?_
        refine G_goto (tgt := 8) (dk_at dk_X6_wrongIn 37 rfl) (by decide) ?_
        refine G_sub [2, 3, 1, 0] rfl ?_
        exact h
theorem k_X6_part_0 {l : Launch} {X : XT} {d : Nat} {Q : Ot → AH → Prop} {A : AH} {bc bs : Nat} {v0 : Nat} {v1 : Int32} {v2 : Int32} (h : isO A v0 7 ∧ Cal l X d bc bs M_X6_isPart [.ref v0, .int v1] A fun o4 A1 b2 c3 => rI o4 (fun E => Q (.inr E) A1) fun i5 => (¬ i5 = 0 → Cal l X d b2 c3 M_X6_isIn [.int v2, .int 0, .int 4] A1 fun o9 A6 b7 c8 => rI o9 (fun E => Q (.inr E) A6) fun i10 => (i10 = 0 → G l X M_X6_part d Q 27 [(0, .ref v0), (1, .int v1), (2, .int v2)] [.int 2, .ref v0] A6 b7 c8) ∧ (¬ i10 = 0 → G l X M_X6_part d Q 27 [(0, .ref v0), (1, .int v1), (2, .int v2)] [.int 0, .ref v0] A6 b7 c8)) ∧ (i5 = 0 → G l X M_X6_part d Q 27 [(0, .ref v0), (1, .int v1), (2, .int v2)] [.int 1, .ref v0] A1 b2 c3)) : G l X M_X6_part d Q 0 [(0, .ref v0), (1, .int v1), (2, .int v2)] [] A bc bs := by
  refine G_aload_n 0 (dk_at dk_X6_part 0 rfl) rfl ?_
  refine G_aload_n 0 (dk_at dk_X6_part 1 rfl) rfl ?_
  refine G_iload_n 1 (dk_at dk_X6_part 2 rfl) rfl ?_
  obtain ⟨⟨_, ho⟩, h⟩ := h
  refine G_callV (As := [.int v1]) (rest := [.ref v0]) lk_X6_222 rfl (dk_at dk_X6_part 3 rfl) rfl rfl (Nat.le_of_ble_eq_true rfl) ho (h.mono fun o4 A1 b2 c3 h => aftI h fun i5 h => ?_)
  refine G_if_ne (tgt := 13) (dk_at dk_X6_part 4 rfl) (by decide) (fun c => ?_) (fun c => ?_)
  · replace h := h.1 c
    refine G_iload_n 2 (dk_at dk_X6_part 7 rfl) rfl ?_
    refine G_iconst (v := 0) (dk_at dk_X6_part 8 rfl) (by decide) ?_
    refine G_iconst (v := 4) (dk_at dk_X6_part 9 rfl) (by decide) ?_
    refine G_callS (As := [.int v2, .int 0, .int 4]) (rest := [.ref v0]) lk_X6_62 rfl (dk_at dk_X6_part 10 rfl) rfl rfl (Nat.le_of_ble_eq_true rfl) (h.mono fun o9 A6 b7 c8 h => aftI h fun i10 h => ?_)
    refine G_if_eq (tgt := 26) (dk_at dk_X6_part 11 rfl) (by decide) (fun c => ?_) (fun c => ?_)
    · replace h := h.1 c
      refine G_iconst (v := 2) (dk_at dk_X6_part 14 rfl) (by decide) ?_
      exact h
    · replace h := h.2 c
      refine G_iconst (v := 0) (dk_at dk_X6_part 12 rfl) (by decide) ?_
      refine G_goto (tgt := 27) (dk_at dk_X6_part 13 rfl) (by decide) ?_
      exact h
  · replace h := h.2 c
    refine G_iconst (v := 1) (dk_at dk_X6_part 5 rfl) (by decide) ?_
    refine G_goto (tgt := 27) (dk_at dk_X6_part 6 rfl) (by decide) ?_
    exact h
theorem k_X6_part_27 {l : Launch} {X : XT} {d : Nat} {Q : Ot → AH → Prop} {A : AH} {bc bs : Nat} {v0 : Nat} {v1 : Int32} {v2 : Int32} {s0 : Int32} {s1 : Nat} (h : pV A s1 7 5 (.int s0) fun A1 => gI A1 v0 7 5 fun i2 => (i2 ≤ 0 → (v2 = 0 → isO A1 v0 7 ∧ Cal l X d bc bs M_X6_placeOf [.ref v0, .int v1] A1 fun o6 A3 b4 c5 => rI o6 (fun E => Q (.inr E) A3) fun i7 => Q (Ri i7) A3) ∧ (v2 = 1 → isO A1 v0 7 ∧ Cal l X d bc bs M_X6_partLength [.ref v0, .int v1] A1 fun o11 A8 b9 c10 => rI o11 (fun E => Q (.inr E) A8) fun i12 => Q (Ri i12) A8) ∧ (v2 = 2 → isO A1 v0 7 ∧ Cal l X d bc bs M_X6_pieceOf [.ref v0, .int v1] A1 fun o16 A13 b14 c15 => rI o16 (fun E => Q (.inr E) A13) fun i17 => Q (Ri i17) A13) ∧ (v2 = 3 → gR A1 v0 7 0 fun r18 => aI X A1 r18 (96 + v1) fun i19 => Q (Ri (i19 - 1)) A1) ∧ (¬ v2 = 0 → ¬ v2 = 1 → ¬ v2 = 2 → ¬ v2 = 3 → isO A1 v0 7 ∧ Cal l X d bc bs M_X6_wrongIn [.ref v0, .int v1] A1 fun o23 A20 b21 c22 => rI o23 (fun E => Q (.inr E) A20) fun i24 => Q (Ri i24) A20)) ∧ (¬ i2 ≤ 0 → Q (Ri 0) A1)) : G l X M_X6_part d Q 27 [(0, .ref v0), (1, .int v1), (2, .int v2)] [.int s0, .ref s1] A bc bs := by
  refine K_pI pf_X6_50 (dk_at dk_X6_part 15 rfl) h (fun A1 h => ?_)
  refine G_aload_n 0 (dk_at dk_X6_part 16 rfl) rfl ?_
  refine K_gI gf_X6_50 (dk_at dk_X6_part 17 rfl) h (fun i2 h => ?_)
  refine G_if_le (tgt := 39) (dk_at dk_X6_part 18 rfl) (by decide) (fun c => ?_) (fun c => ?_)
  · replace h := h.1 c
    refine G_iload_n 2 (dk_at dk_X6_part 21 rfl) rfl ?_
    by_cases c0 : v2 = 0
    · replace h := h.1 c0
      refine G_tcase (tgt := 72) (dk_at dk_X6_part 22 rfl) (by rw [c0]; decide) (by rw [c0]; decide) (off := 32) (by rw [c0]; rfl) (by decide) ?_
      refine G_aload_n 0 (dk_at dk_X6_part 23 rfl) rfl ?_
      refine G_iload_n 1 (dk_at dk_X6_part 24 rfl) rfl ?_
      obtain ⟨⟨_, ho⟩, h⟩ := h
      refine G_callV (As := [.int v1]) (rest := []) lk_X6_176 rfl (dk_at dk_X6_part 25 rfl) rfl rfl (Nat.le_of_ble_eq_true rfl) ho (h.mono fun o6 A3 b4 c5 h => aftI h fun i7 h => ?_)
      exact G_iret (ty := .int) rfl rfl (dk_at dk_X6_part 26 rfl) h
    by_cases c1 : v2 = 1
    · replace h := h.2.1 c1
      refine G_tcase (tgt := 78) (dk_at dk_X6_part 22 rfl) (by rw [c1]; decide) (by rw [c1]; decide) (off := 38) (by rw [c1]; rfl) (by decide) ?_
      refine G_aload_n 0 (dk_at dk_X6_part 27 rfl) rfl ?_
      refine G_iload_n 1 (dk_at dk_X6_part 28 rfl) rfl ?_
      obtain ⟨⟨_, ho⟩, h⟩ := h
      refine G_callV (As := [.int v1]) (rest := []) lk_X6_219 rfl (dk_at dk_X6_part 29 rfl) rfl rfl (Nat.le_of_ble_eq_true rfl) ho (h.mono fun o11 A8 b9 c10 h => aftI h fun i12 h => ?_)
      exact G_iret (ty := .int) rfl rfl (dk_at dk_X6_part 30 rfl) h
    by_cases c2 : v2 = 2
    · replace h := h.2.2.1 c2
      refine G_tcase (tgt := 84) (dk_at dk_X6_part 22 rfl) (by rw [c2]; decide) (by rw [c2]; decide) (off := 44) (by rw [c2]; rfl) (by decide) ?_
      refine G_aload_n 0 (dk_at dk_X6_part 31 rfl) rfl ?_
      refine G_iload_n 1 (dk_at dk_X6_part 32 rfl) rfl ?_
      obtain ⟨⟨_, ho⟩, h⟩ := h
      refine G_callV (As := [.int v1]) (rest := []) lk_X6_173 rfl (dk_at dk_X6_part 33 rfl) rfl rfl (Nat.le_of_ble_eq_true rfl) ho (h.mono fun o16 A13 b14 c15 h => aftI h fun i17 h => ?_)
      exact G_iret (ty := .int) rfl rfl (dk_at dk_X6_part 34 rfl) h
    by_cases c3 : v2 = 3
    · replace h := h.2.2.2.1 c3
      refine G_tcase (tgt := 90) (dk_at dk_X6_part 22 rfl) (by rw [c3]; decide) (by rw [c3]; decide) (off := 50) (by rw [c3]; rfl) (by decide) ?_
      refine G_aload_n 0 (dk_at dk_X6_part 35 rfl) rfl ?_
      refine K_gR gf_X6_7 (dk_at dk_X6_part 36 rfl) h (fun r18 h => ?_)
      refine G_bipush (v := 96) (dk_at dk_X6_part 37 rfl) (by decide) ?_
      refine G_iload_n 1 (dk_at dk_X6_part 38 rfl) rfl ?_
      refine G_iadd (dk_at dk_X6_part 39 rfl) ?_
      refine K_aI (dk_at dk_X6_part 40 rfl) h (fun i19 h => ?_)
      refine G_iconst (v := 1) (dk_at dk_X6_part 41 rfl) (by decide) ?_
      refine G_isub (dk_at dk_X6_part 42 rfl) ?_
      exact G_iret (ty := .int) rfl rfl (dk_at dk_X6_part 43 rfl) h
    replace h := h.2.2.2.2 c0 c1 c2 c3
    refine G_tout (tgt := 102) (dk_at dk_X6_part 22 rfl) (tsw_out (n := 3) (fun k hk => ?_)) (by decide) ?_
    · have hk2 : k = 0 ∨ k = 1 ∨ k = 2 ∨ k = 3 := by omega
      rcases hk2 with rfl | rfl | rfl | rfl
      · exact c0
      · exact c1
      · exact c2
      · exact c3
    · refine G_aload_n 0 (dk_at dk_X6_part 44 rfl) rfl ?_
      refine G_iload_n 1 (dk_at dk_X6_part 45 rfl) rfl ?_
      obtain ⟨⟨_, ho⟩, h⟩ := h
      refine G_callV (As := [.int v1]) (rest := []) lk_X6_225 rfl (dk_at dk_X6_part 46 rfl) rfl rfl (Nat.le_of_ble_eq_true rfl) ho (h.mono fun o23 A20 b21 c22 h => aftI h fun i24 h => ?_)
      exact G_iret (ty := .int) rfl rfl (dk_at dk_X6_part 47 rfl) h
  · replace h := h.2 c
    refine G_iconst (v := 0) (dk_at dk_X6_part 19 rfl) (by decide) ?_
    exact G_iret (ty := .int) rfl rfl (dk_at dk_X6_part 20 rfl) h
theorem k_X6_checksum_0 {l : Launch} {X : XT} {d : Nat} {Q : Ot → AH → Prop} {A : AH} {bc bs : Nat} {v0 : Nat} {v1 : Int32} {v2 : Int32} {v3 : Int32} (h : Cal l X d bc bs M_X6_isSource [.int v1] A fun o4 A1 b2 c3 => rI o4 (fun E => Q (.inr E) A1) fun i5 => (i5 = 0 → G l X M_X6_checksum d Q 41 [(0, .ref v0), (1, .int v1), (2, .int v2), (3, .int v3)] [.int 1, .ref v0] A1 b2 c3) ∧ (¬ i5 = 0 → isO A1 v0 7 ∧ Cal l X d b2 c3 M_X6_isPlace [.ref v0, .int v2] A1 fun o9 A6 b7 c8 => rI o9 (fun E => Q (.inr E) A6) fun i10 => (¬ i10 = 0 → gR A6 v0 7 0 fun r11 => aI X A6 r11 0 fun i12 => Cal l X d b7 c8 M_X6_isIn [.int v3, .int 1, .int (i12 - v2)] A6 fun o16 A13 b14 c15 => rI o16 (fun E => Q (.inr E) A13) fun i17 => (i17 = 0 → G l X M_X6_checksum d Q 41 [(0, .ref v0), (1, .int v1), (2, .int v2), (3, .int v3)] [.int 2, .ref v0] A13 b14 c15) ∧ (¬ i17 = 0 → G l X M_X6_checksum d Q 41 [(0, .ref v0), (1, .int v1), (2, .int v2), (3, .int v3)] [.int 0, .ref v0] A13 b14 c15)) ∧ (i10 = 0 → G l X M_X6_checksum d Q 41 [(0, .ref v0), (1, .int v1), (2, .int v2), (3, .int v3)] [.int 1, .ref v0] A6 b7 c8))) : G l X M_X6_checksum d Q 0 [(0, .ref v0), (1, .int v1), (2, .int v2), (3, .int v3)] [] A bc bs := by
  refine G_aload_n 0 (dk_at dk_X6_checksum 0 rfl) rfl ?_
  refine G_iload_n 1 (dk_at dk_X6_checksum 1 rfl) rfl ?_
  refine G_callS (As := [.int v1]) (rest := [.ref v0]) lk_X6_204 rfl (dk_at dk_X6_checksum 2 rfl) rfl rfl (Nat.le_of_ble_eq_true rfl) (h.mono fun o4 A1 b2 c3 h => aftI h fun i5 h => ?_)
  refine G_if_eq (tgt := 16) (dk_at dk_X6_checksum 3 rfl) (by decide) (fun c => ?_) (fun c => ?_)
  · replace h := h.1 c
    refine G_iconst (v := 1) (dk_at dk_X6_checksum 8 rfl) (by decide) ?_
    refine G_goto (tgt := 41) (dk_at dk_X6_checksum 9 rfl) (by decide) ?_
    exact h
  · replace h := h.2 c
    refine G_aload_n 0 (dk_at dk_X6_checksum 4 rfl) rfl ?_
    refine G_iload_n 2 (dk_at dk_X6_checksum 5 rfl) rfl ?_
    obtain ⟨⟨_, ho⟩, h⟩ := h
    refine G_callV (As := [.int v2]) (rest := [.ref v0]) lk_X6_210 rfl (dk_at dk_X6_checksum 6 rfl) rfl rfl (Nat.le_of_ble_eq_true rfl) ho (h.mono fun o9 A6 b7 c8 h => aftI h fun i10 h => ?_)
    refine G_if_ne (tgt := 20) (dk_at dk_X6_checksum 7 rfl) (by decide) (fun c => ?_) (fun c => ?_)
    · replace h := h.1 c
      refine G_iload_n 3 (dk_at dk_X6_checksum 10 rfl) rfl ?_
      refine G_iconst (v := 1) (dk_at dk_X6_checksum 11 rfl) (by decide) ?_
      refine G_aload_n 0 (dk_at dk_X6_checksum 12 rfl) rfl ?_
      refine K_gR gf_X6_7 (dk_at dk_X6_checksum 13 rfl) h (fun r11 h => ?_)
      refine G_iconst (v := 0) (dk_at dk_X6_checksum 14 rfl) (by decide) ?_
      refine K_aI (dk_at dk_X6_checksum 15 rfl) h (fun i12 h => ?_)
      refine G_iload_n 2 (dk_at dk_X6_checksum 16 rfl) rfl ?_
      refine G_isub (dk_at dk_X6_checksum 17 rfl) ?_
      refine G_callS (As := [.int v3, .int 1, .int (i12 - v2)]) (rest := [.ref v0]) lk_X6_62 rfl (dk_at dk_X6_checksum 18 rfl) rfl rfl (Nat.le_of_ble_eq_true rfl) (h.mono fun o16 A13 b14 c15 h => aftI h fun i17 h => ?_)
      refine G_if_eq (tgt := 40) (dk_at dk_X6_checksum 19 rfl) (by decide) (fun c => ?_) (fun c => ?_)
      · replace h := h.1 c
        refine G_iconst (v := 2) (dk_at dk_X6_checksum 22 rfl) (by decide) ?_
        exact h
      · replace h := h.2 c
        refine G_iconst (v := 0) (dk_at dk_X6_checksum 20 rfl) (by decide) ?_
        refine G_goto (tgt := 41) (dk_at dk_X6_checksum 21 rfl) (by decide) ?_
        exact h
    · replace h := h.2 c
      refine G_iconst (v := 1) (dk_at dk_X6_checksum 8 rfl) (by decide) ?_
      refine G_goto (tgt := 41) (dk_at dk_X6_checksum 9 rfl) (by decide) ?_
      exact h
theorem k_X6_checksum_41 {l : Launch} {X : XT} {d : Nat} {Q : Ot → AH → Prop} {A : AH} {bc bs : Nat} {v0 : Nat} {v1 : Int32} {v2 : Int32} {v3 : Int32} {s0 : Int32} {s1 : Nat} (h : pV A s1 7 5 (.int s0) fun A1 => gI A1 v0 7 5 fun i2 => (i2 ≤ 0 → isO A1 v0 7 ∧ Cal l X d bc bs M_X6_sumOf [.ref v0, .int v1, .int v2, .int v3] A1 fun o6 A3 b4 c5 => rI o6 (fun E => Q (.inr E) A3) fun i7 => Q (Ri i7) A3) ∧ (¬ i2 ≤ 0 → Q (Ri 0) A1)) : G l X M_X6_checksum d Q 41 [(0, .ref v0), (1, .int v1), (2, .int v2), (3, .int v3)] [.int s0, .ref s1] A bc bs := by
  refine K_pI pf_X6_50 (dk_at dk_X6_checksum 23 rfl) h (fun A1 h => ?_)
  refine G_aload_n 0 (dk_at dk_X6_checksum 24 rfl) rfl ?_
  refine K_gI gf_X6_50 (dk_at dk_X6_checksum 25 rfl) h (fun i2 h => ?_)
  refine G_if_le (tgt := 55) (dk_at dk_X6_checksum 26 rfl) (by decide) (fun c => ?_) (fun c => ?_)
  · replace h := h.1 c
    refine G_aload_n 0 (dk_at dk_X6_checksum 29 rfl) rfl ?_
    refine G_iload_n 1 (dk_at dk_X6_checksum 30 rfl) rfl ?_
    refine G_iload_n 2 (dk_at dk_X6_checksum 31 rfl) rfl ?_
    refine G_iload_n 3 (dk_at dk_X6_checksum 32 rfl) rfl ?_
    obtain ⟨⟨_, ho⟩, h⟩ := h
    refine G_callV (As := [.int v1, .int v2, .int v3]) (rest := []) lk_X6_191 rfl (dk_at dk_X6_checksum 33 rfl) rfl rfl (Nat.le_of_ble_eq_true rfl) ho (h.mono fun o6 A3 b4 c5 h => aftI h fun i7 h => ?_)
    exact G_iret (ty := .int) rfl rfl (dk_at dk_X6_checksum 34 rfl) h
  · replace h := h.2 c
    refine G_iconst (v := 0) (dk_at dk_X6_checksum 27 rfl) (by decide) ?_
    refine G_goto (tgt := 62) (dk_at dk_X6_checksum 28 rfl) (by decide) ?_
    exact G_iret (ty := .int) rfl rfl (dk_at dk_X6_checksum 34 rfl) h
theorem k_X6_tells_0 {l : Launch} {X : XT} {d : Nat} {Q : Ot → AH → Prop} {A : AH} {bc bs : Nat} {v0 : Nat} {v1 : Int32} {v2 : Int32} {v3 : Int32} (h : gR A v0 7 0 fun r1 => aI X A r1 7 fun i2 => gR A v0 7 0 fun r3 => sI X A r3 (576 + (3 * (i2 - i2 / 40 * 40))) v1 fun A4 => gR A4 v0 7 0 fun r5 => sI X A4 r5 ((576 + (3 * (i2 - i2 / 40 * 40))) + 1) v2 fun A6 => gR A6 v0 7 0 fun r7 => sI X A6 r7 ((576 + (3 * (i2 - i2 / 40 * 40))) + 2) v3 fun A8 => gR A8 v0 7 0 fun r9 => aI X A8 r9 7 fun i10 => sI X A8 r9 7 (i10 + 1) fun A11 => Q Rv A11) : G l X M_X6_tells d Q 0 [(0, .ref v0), (1, .int v1), (2, .int v2), (3, .int v3)] [] A bc bs := by
  refine G_sipush (v := 576) (dk_at dk_X6_tells 0 rfl) (by decide) ?_
  refine G_iconst (v := 3) (dk_at dk_X6_tells 1 rfl) (by decide) ?_
  refine G_aload_n 0 (dk_at dk_X6_tells 2 rfl) rfl ?_
  refine K_gR gf_X6_7 (dk_at dk_X6_tells 3 rfl) h (fun r1 h => ?_)
  refine G_bipush (v := 7) (dk_at dk_X6_tells 4 rfl) (by decide) ?_
  refine K_aI (dk_at dk_X6_tells 5 rfl) h (fun i2 h => ?_)
  refine G_bipush (v := 40) (dk_at dk_X6_tells 6 rfl) (by decide) ?_
  refine G_irem (dk_at dk_X6_tells 7 rfl) (by decide) ?_
  refine G_imul (dk_at dk_X6_tells 8 rfl) ?_
  refine G_iadd (dk_at dk_X6_tells 9 rfl) ?_
  refine G_istore (lv' := [(4, .int (576 + (3 * (i2 - i2 / 40 * 40)))), (0, .ref v0), (1, .int v1), (2, .int v2), (3, .int v3)]) (dk_at dk_X6_tells 10 rfl) (by decide) rfl ?_
  refine G_aload_n 1 (dk_at dk_X6_tells 11 rfl) rfl ?_
  refine K_gR gf_X6_7 (dk_at dk_X6_tells 12 rfl) h (fun r3 h => ?_)
  refine G_iload 0 (dk_at dk_X6_tells 13 rfl) rfl ?_
  refine G_iload_n 2 (dk_at dk_X6_tells 14 rfl) rfl ?_
  refine K_sI (dk_at dk_X6_tells 15 rfl) h (fun A4 h => ?_)
  refine G_aload_n 1 (dk_at dk_X6_tells 16 rfl) rfl ?_
  refine K_gR gf_X6_7 (dk_at dk_X6_tells 17 rfl) h (fun r5 h => ?_)
  refine G_iload 0 (dk_at dk_X6_tells 18 rfl) rfl ?_
  refine G_iconst (v := 1) (dk_at dk_X6_tells 19 rfl) (by decide) ?_
  refine G_iadd (dk_at dk_X6_tells 20 rfl) ?_
  refine G_iload_n 3 (dk_at dk_X6_tells 21 rfl) rfl ?_
  refine K_sI (dk_at dk_X6_tells 22 rfl) h (fun A6 h => ?_)
  refine G_aload_n 1 (dk_at dk_X6_tells 23 rfl) rfl ?_
  refine K_gR gf_X6_7 (dk_at dk_X6_tells 24 rfl) h (fun r7 h => ?_)
  refine G_iload 0 (dk_at dk_X6_tells 25 rfl) rfl ?_
  refine G_iconst (v := 2) (dk_at dk_X6_tells 26 rfl) (by decide) ?_
  refine G_iadd (dk_at dk_X6_tells 27 rfl) ?_
  refine G_iload_n 4 (dk_at dk_X6_tells 28 rfl) rfl ?_
  refine K_sI (dk_at dk_X6_tells 29 rfl) h (fun A8 h => ?_)
  refine G_aload_n 1 (dk_at dk_X6_tells 30 rfl) rfl ?_
  refine K_gR gf_X6_7 (dk_at dk_X6_tells 31 rfl) h (fun r9 h => ?_)
  refine G_bipush (v := 7) (dk_at dk_X6_tells 32 rfl) (by decide) ?_
  refine G_dup2 (dk_at dk_X6_tells 33 rfl) rfl rfl ?_
  refine K_aI (dk_at dk_X6_tells 34 rfl) h (fun i10 h => ?_)
  refine G_iconst (v := 1) (dk_at dk_X6_tells 35 rfl) (by decide) ?_
  refine G_iadd (dk_at dk_X6_tells 36 rfl) ?_
  refine K_sI (dk_at dk_X6_tells 37 rfl) h (fun A11 h => ?_)
  exact G_vret rfl (dk_at dk_X6_tells 38 rfl) h
theorem k_X6_eventsKept_0 {l : Launch} {X : XT} {d : Nat} {Q : Ot → AH → Prop} {A : AH} {bc bs : Nat} {v0 : Nat} (h : gR A v0 7 0 fun r1 => aI X A r1 7 fun i2 => (40 ≤ i2 → Q (Ri 40) A) ∧ (¬ 40 ≤ i2 → gR A v0 7 0 fun r3 => aI X A r3 7 fun i4 => Q (Ri i4) A)) : G l X M_X6_eventsKept d Q 0 [(0, .ref v0)] [] A bc bs := by
  refine G_aload_n 0 (dk_at dk_X6_eventsKept 0 rfl) rfl ?_
  refine K_gR gf_X6_7 (dk_at dk_X6_eventsKept 1 rfl) h (fun r1 h => ?_)
  refine G_bipush (v := 7) (dk_at dk_X6_eventsKept 2 rfl) (by decide) ?_
  refine K_aI (dk_at dk_X6_eventsKept 3 rfl) h (fun i2 h => ?_)
  refine G_bipush (v := 40) (dk_at dk_X6_eventsKept 4 rfl) (by decide) ?_
  refine G_icmp_ge (tgt := 22) (dk_at dk_X6_eventsKept 5 rfl) (by decide) (fun c => ?_) (fun c => ?_)
  · replace h := h.1 c
    refine G_bipush (v := 40) (dk_at dk_X6_eventsKept 11 rfl) (by decide) ?_
    exact G_iret (ty := .int) rfl rfl (dk_at dk_X6_eventsKept 12 rfl) h
  · replace h := h.2 c
    refine G_aload_n 0 (dk_at dk_X6_eventsKept 6 rfl) rfl ?_
    refine K_gR gf_X6_7 (dk_at dk_X6_eventsKept 7 rfl) h (fun r3 h => ?_)
    refine G_bipush (v := 7) (dk_at dk_X6_eventsKept 8 rfl) (by decide) ?_
    refine K_aI (dk_at dk_X6_eventsKept 9 rfl) h (fun i4 h => ?_)
    refine G_goto (tgt := 24) (dk_at dk_X6_eventsKept 10 rfl) (by decide) ?_
    exact G_iret (ty := .int) rfl rfl (dk_at dk_X6_eventsKept 12 rfl) h
theorem k_X6_eventAt_0 {l : Launch} {X : XT} {d : Nat} {Q : Ot → AH → Prop} {A : AH} {bc bs : Nat} {v0 : Nat} {v1 : Int32} {v2 : Int32} (h : gR A v0 7 0 fun r1 => gR A v0 7 0 fun r2 => aI X A r2 7 fun i3 => aI X A r1 ((576 + (3 * (((i3 - 1) - v1) - ((i3 - 1) - v1) / 40 * 40))) + v2) fun i4 => Q (Ri i4) A) : G l X M_X6_eventAt d Q 0 [(0, .ref v0), (1, .int v1), (2, .int v2)] [] A bc bs := by
  refine G_aload_n 0 (dk_at dk_X6_eventAt 0 rfl) rfl ?_
  refine K_gR gf_X6_7 (dk_at dk_X6_eventAt 1 rfl) h (fun r1 h => ?_)
  refine G_sipush (v := 576) (dk_at dk_X6_eventAt 2 rfl) (by decide) ?_
  refine G_iconst (v := 3) (dk_at dk_X6_eventAt 3 rfl) (by decide) ?_
  refine G_aload_n 0 (dk_at dk_X6_eventAt 4 rfl) rfl ?_
  refine K_gR gf_X6_7 (dk_at dk_X6_eventAt 5 rfl) h (fun r2 h => ?_)
  refine G_bipush (v := 7) (dk_at dk_X6_eventAt 6 rfl) (by decide) ?_
  refine K_aI (dk_at dk_X6_eventAt 7 rfl) h (fun i3 h => ?_)
  refine G_iconst (v := 1) (dk_at dk_X6_eventAt 8 rfl) (by decide) ?_
  refine G_isub (dk_at dk_X6_eventAt 9 rfl) ?_
  refine G_iload_n 1 (dk_at dk_X6_eventAt 10 rfl) rfl ?_
  refine G_isub (dk_at dk_X6_eventAt 11 rfl) ?_
  refine G_bipush (v := 40) (dk_at dk_X6_eventAt 12 rfl) (by decide) ?_
  refine G_irem (dk_at dk_X6_eventAt 13 rfl) (by decide) ?_
  refine G_imul (dk_at dk_X6_eventAt 14 rfl) ?_
  refine G_iadd (dk_at dk_X6_eventAt 15 rfl) ?_
  refine G_iload_n 2 (dk_at dk_X6_eventAt 16 rfl) rfl ?_
  refine G_iadd (dk_at dk_X6_eventAt 17 rfl) ?_
  refine K_aI (dk_at dk_X6_eventAt 18 rfl) h (fun i4 h => ?_)
  exact G_iret (ty := .int) rfl rfl (dk_at dk_X6_eventAt 19 rfl) h
theorem k_X6_event_0 {l : Launch} {X : XT} {d : Nat} {Q : Ot → AH → Prop} {A : AH} {bc bs : Nat} {v0 : Nat} {v1 : Int32} {v2 : Int32} (h : isO A v0 7 ∧ Cal l X d bc bs M_X6_eventsKept [.ref v0] A fun o4 A1 b2 c3 => rI o4 (fun E => Q (.inr E) A1) fun i5 => Cal l X d b2 c3 M_X6_isIn [.int v1, .int 0, .int (i5 - 1)] A1 fun o9 A6 b7 c8 => rI o9 (fun E => Q (.inr E) A6) fun i10 => (¬ i10 = 0 → Cal l X d b7 c8 M_X6_isIn [.int v2, .int 0, .int 2] A6 fun o14 A11 b12 c13 => rI o14 (fun E => Q (.inr E) A11) fun i15 => (i15 = 0 → G l X M_X6_event d Q 33 [(0, .ref v0), (1, .int v1), (2, .int v2)] [.int 2, .ref v0] A11 b12 c13) ∧ (¬ i15 = 0 → G l X M_X6_event d Q 33 [(0, .ref v0), (1, .int v1), (2, .int v2)] [.int 0, .ref v0] A11 b12 c13)) ∧ (i10 = 0 → G l X M_X6_event d Q 33 [(0, .ref v0), (1, .int v1), (2, .int v2)] [.int 1, .ref v0] A6 b7 c8)) : G l X M_X6_event d Q 0 [(0, .ref v0), (1, .int v1), (2, .int v2)] [] A bc bs := by
  refine G_aload_n 0 (dk_at dk_X6_event 0 rfl) rfl ?_
  refine G_iload_n 1 (dk_at dk_X6_event 1 rfl) rfl ?_
  refine G_iconst (v := 0) (dk_at dk_X6_event 2 rfl) (by decide) ?_
  refine G_aload_n 0 (dk_at dk_X6_event 3 rfl) rfl ?_
  obtain ⟨⟨_, ho⟩, h⟩ := h
  refine G_callV (As := []) (rest := [.int 0, .int v1, .ref v0]) lk_X6_228 rfl (dk_at dk_X6_event 4 rfl) rfl rfl (Nat.le_of_ble_eq_true rfl) ho (h.mono fun o4 A1 b2 c3 h => aftI h fun i5 h => ?_)
  refine G_iconst (v := 1) (dk_at dk_X6_event 5 rfl) (by decide) ?_
  refine G_isub (dk_at dk_X6_event 6 rfl) ?_
  refine G_callS (As := [.int v1, .int 0, .int (i5 - 1)]) (rest := [.ref v0]) lk_X6_62 rfl (dk_at dk_X6_event 7 rfl) rfl rfl (Nat.le_of_ble_eq_true rfl) (h.mono fun o9 A6 b7 c8 h => aftI h fun i10 h => ?_)
  refine G_if_ne (tgt := 19) (dk_at dk_X6_event 8 rfl) (by decide) (fun c => ?_) (fun c => ?_)
  · replace h := h.1 c
    refine G_iload_n 2 (dk_at dk_X6_event 11 rfl) rfl ?_
    refine G_iconst (v := 0) (dk_at dk_X6_event 12 rfl) (by decide) ?_
    refine G_iconst (v := 2) (dk_at dk_X6_event 13 rfl) (by decide) ?_
    refine G_callS (As := [.int v2, .int 0, .int 2]) (rest := [.ref v0]) lk_X6_62 rfl (dk_at dk_X6_event 14 rfl) rfl rfl (Nat.le_of_ble_eq_true rfl) (h.mono fun o14 A11 b12 c13 h => aftI h fun i15 h => ?_)
    refine G_if_eq (tgt := 32) (dk_at dk_X6_event 15 rfl) (by decide) (fun c => ?_) (fun c => ?_)
    · replace h := h.1 c
      refine G_iconst (v := 2) (dk_at dk_X6_event 18 rfl) (by decide) ?_
      exact h
    · replace h := h.2 c
      refine G_iconst (v := 0) (dk_at dk_X6_event 16 rfl) (by decide) ?_
      refine G_goto (tgt := 33) (dk_at dk_X6_event 17 rfl) (by decide) ?_
      exact h
  · replace h := h.2 c
    refine G_iconst (v := 1) (dk_at dk_X6_event 9 rfl) (by decide) ?_
    refine G_goto (tgt := 33) (dk_at dk_X6_event 10 rfl) (by decide) ?_
    exact h
theorem k_X6_event_33 {l : Launch} {X : XT} {d : Nat} {Q : Ot → AH → Prop} {A : AH} {bc bs : Nat} {v0 : Nat} {v1 : Int32} {v2 : Int32} {s0 : Int32} {s1 : Nat} (h : pV A s1 7 5 (.int s0) fun A1 => gI A1 v0 7 5 fun i2 => (i2 ≤ 0 → isO A1 v0 7 ∧ Cal l X d bc bs M_X6_eventAt [.ref v0, .int v1, .int v2] A1 fun o6 A3 b4 c5 => rI o6 (fun E => Q (.inr E) A3) fun i7 => Q (Ri i7) A3) ∧ (¬ i2 ≤ 0 → Q (Ri 0) A1)) : G l X M_X6_event d Q 33 [(0, .ref v0), (1, .int v1), (2, .int v2)] [.int s0, .ref s1] A bc bs := by
  refine K_pI pf_X6_50 (dk_at dk_X6_event 19 rfl) h (fun A1 h => ?_)
  refine G_aload_n 0 (dk_at dk_X6_event 20 rfl) rfl ?_
  refine K_gI gf_X6_50 (dk_at dk_X6_event 21 rfl) h (fun i2 h => ?_)
  refine G_if_le (tgt := 47) (dk_at dk_X6_event 22 rfl) (by decide) (fun c => ?_) (fun c => ?_)
  · replace h := h.1 c
    refine G_aload_n 0 (dk_at dk_X6_event 25 rfl) rfl ?_
    refine G_iload_n 1 (dk_at dk_X6_event 26 rfl) rfl ?_
    refine G_iload_n 2 (dk_at dk_X6_event 27 rfl) rfl ?_
    obtain ⟨⟨_, ho⟩, h⟩ := h
    refine G_callV (As := [.int v1, .int v2]) (rest := []) lk_X6_231 rfl (dk_at dk_X6_event 28 rfl) rfl rfl (Nat.le_of_ble_eq_true rfl) ho (h.mono fun o6 A3 b4 c5 h => aftI h fun i7 h => ?_)
    exact G_iret (ty := .int) rfl rfl (dk_at dk_X6_event 29 rfl) h
  · replace h := h.2 c
    refine G_iconst (v := 0) (dk_at dk_X6_event 23 rfl) (by decide) ?_
    refine G_goto (tgt := 53) (dk_at dk_X6_event 24 rfl) (by decide) ?_
    exact G_iret (ty := .int) rfl rfl (dk_at dk_X6_event 29 rfl) h
theorem k_X6_events_0 {l : Launch} {X : XT} {d : Nat} {Q : Ot → AH → Prop} {A : AH} {bc bs : Nat} {v0 : Nat} {v1 : Int32} (h : Cal l X d bc bs M_X6_isIn [.int v1, .int 0, .int 8] A fun o4 A1 b2 c3 => rI o4 (fun E => Q (.inr E) A1) fun i5 => (i5 = 0 → G l X M_X6_events d Q 16 [(0, .ref v0), (1, .int v1)] [.int 1, .ref v0] A1 b2 c3) ∧ (¬ i5 = 0 → G l X M_X6_events d Q 16 [(0, .ref v0), (1, .int v1)] [.int 0, .ref v0] A1 b2 c3)) : G l X M_X6_events d Q 0 [(0, .ref v0), (1, .int v1)] [] A bc bs := by
  refine G_aload_n 0 (dk_at dk_X6_events 0 rfl) rfl ?_
  refine G_iload_n 1 (dk_at dk_X6_events 1 rfl) rfl ?_
  refine G_iconst (v := 0) (dk_at dk_X6_events 2 rfl) (by decide) ?_
  refine G_bipush (v := 8) (dk_at dk_X6_events 3 rfl) (by decide) ?_
  refine G_callS (As := [.int v1, .int 0, .int 8]) (rest := [.ref v0]) lk_X6_62 rfl (dk_at dk_X6_events 4 rfl) rfl rfl (Nat.le_of_ble_eq_true rfl) (h.mono fun o4 A1 b2 c3 h => aftI h fun i5 h => ?_)
  refine G_if_eq (tgt := 15) (dk_at dk_X6_events 5 rfl) (by decide) (fun c => ?_) (fun c => ?_)
  · replace h := h.1 c
    refine G_iconst (v := 1) (dk_at dk_X6_events 8 rfl) (by decide) ?_
    exact h
  · replace h := h.2 c
    refine G_iconst (v := 0) (dk_at dk_X6_events 6 rfl) (by decide) ?_
    refine G_goto (tgt := 16) (dk_at dk_X6_events 7 rfl) (by decide) ?_
    exact h
theorem k_X6_events_16 {l : Launch} {X : XT} {d : Nat} {Q : Ot → AH → Prop} {A : AH} {bc bs : Nat} {v0 : Nat} {v1 : Int32} {s0 : Int32} {s1 : Nat} (h : pV A s1 7 5 (.int s0) fun A1 => gI A1 v0 7 5 fun i2 => (i2 ≤ 0 → G l X M_X6_events d Q 32 [(0, .ref v0), (1, .int v1), (2, .int 0), (3, .int 0)] [] A1 bc bs) ∧ (¬ i2 ≤ 0 → Q (Ri 0) A1)) : G l X M_X6_events d Q 16 [(0, .ref v0), (1, .int v1)] [.int s0, .ref s1] A bc bs := by
  refine K_pI pf_X6_50 (dk_at dk_X6_events 9 rfl) h (fun A1 h => ?_)
  refine G_aload_n 0 (dk_at dk_X6_events 10 rfl) rfl ?_
  refine K_gI gf_X6_50 (dk_at dk_X6_events 11 rfl) h (fun i2 h => ?_)
  refine G_if_le (tgt := 28) (dk_at dk_X6_events 12 rfl) (by decide) (fun c => ?_) (fun c => ?_)
  · replace h := h.1 c
    refine G_iconst (v := 0) (dk_at dk_X6_events 15 rfl) (by decide) ?_
    refine G_istore_n (lv' := [(2, .int 0), (0, .ref v0), (1, .int v1)]) (dk_at dk_X6_events 16 rfl) (by decide) rfl ?_
    refine G_iconst (v := 0) (dk_at dk_X6_events 17 rfl) (by decide) ?_
    refine G_istore_n (lv' := [(3, .int 0), (2, .int 0), (0, .ref v0), (1, .int v1)]) (dk_at dk_X6_events 18 rfl) (by decide) rfl ?_
    refine G_sub [2, 3, 1, 0] rfl ?_
    exact h
  · replace h := h.2 c
    refine G_iconst (v := 0) (dk_at dk_X6_events 13 rfl) (by decide) ?_
    exact G_iret (ty := .int) rfl rfl (dk_at dk_X6_events 14 rfl) h
theorem k_X6_events_32 {l : Launch} {X : XT} {d : Nat} {Q : Ot → AH → Prop} {A : AH} {bc bs : Nat} {v0 : Nat} {v1 : Int32} {v2 : Int32} {v3 : Int32} (h : isO A v0 7 ∧ Cal l X d bc bs M_X6_eventsKept [.ref v0] A fun o4 A1 b2 c3 => rI o4 (fun E => Q (.inr E) A1) fun i5 => (i5 ≤ v3 → Q (Ri v2) A1) ∧ (¬ i5 ≤ v3 → isO A1 v0 7 ∧ Cal l X d b2 c3 M_X6_eventAt [.ref v0, .int v3, .int 0] A1 fun o9 A6 b7 c8 => rI o9 (fun E => Q (.inr E) A6) fun i10 => (¬ i10 = v1 → G l X M_X6_events d Q 32 [(0, .ref v0), (1, .int v1), (2, .int (v2 + 0)), (3, .int (v3 + 1))] [] A6 b7 c8) ∧ (i10 = v1 → G l X M_X6_events d Q 32 [(0, .ref v0), (1, .int v1), (2, .int (v2 + 1)), (3, .int (v3 + 1))] [] A6 b7 c8))) : G l X M_X6_events d Q 32 [(0, .ref v0), (1, .int v1), (2, .int v2), (3, .int v3)] [] A bc bs := by
  refine G_iload_n 3 (dk_at dk_X6_events 19 rfl) rfl ?_
  refine G_aload_n 0 (dk_at dk_X6_events 20 rfl) rfl ?_
  obtain ⟨⟨_, ho⟩, h⟩ := h
  refine G_callV (As := []) (rest := [.int v3]) lk_X6_228 rfl (dk_at dk_X6_events 21 rfl) rfl rfl (Nat.le_of_ble_eq_true rfl) ho (h.mono fun o4 A1 b2 c3 h => aftI h fun i5 h => ?_)
  refine G_icmp_ge (tgt := 64) (dk_at dk_X6_events 22 rfl) (by decide) (fun c => ?_) (fun c => ?_)
  · replace h := h.1 c
    refine G_iload_n 2 (dk_at dk_X6_events 37 rfl) rfl ?_
    exact G_iret (ty := .int) rfl rfl (dk_at dk_X6_events 38 rfl) h
  · replace h := h.2 c
    refine G_iload_n 2 (dk_at dk_X6_events 23 rfl) rfl ?_
    refine G_aload_n 0 (dk_at dk_X6_events 24 rfl) rfl ?_
    refine G_iload_n 3 (dk_at dk_X6_events 25 rfl) rfl ?_
    refine G_iconst (v := 0) (dk_at dk_X6_events 26 rfl) (by decide) ?_
    obtain ⟨⟨_, ho⟩, h⟩ := h
    refine G_callV (As := [.int v3, .int 0]) (rest := [.int v2]) lk_X6_231 rfl (dk_at dk_X6_events 27 rfl) rfl rfl (Nat.le_of_ble_eq_true rfl) ho (h.mono fun o9 A6 b7 c8 h => aftI h fun i10 h => ?_)
    refine G_iload_n 1 (dk_at dk_X6_events 28 rfl) rfl ?_
    refine G_icmp_ne (tgt := 55) (dk_at dk_X6_events 29 rfl) (by decide) (fun c => ?_) (fun c => ?_)
    · replace h := h.1 c
      refine G_iconst (v := 0) (dk_at dk_X6_events 32 rfl) (by decide) ?_
      refine G_iadd (dk_at dk_X6_events 33 rfl) ?_
      refine G_istore_n (lv' := [(2, .int (v2 + 0)), (0, .ref v0), (1, .int v1), (3, .int v3)]) (dk_at dk_X6_events 34 rfl) (by decide) rfl ?_
      refine G_iinc (v := v3 + 1) (lv' := [(3, .int (v3 + 1)), (2, .int (v2 + 0)), (0, .ref v0), (1, .int v1)]) 3 (dk_at dk_X6_events 35 rfl) rfl rfl (by decide) rfl ?_
      refine G_goto (tgt := 32) (dk_at dk_X6_events 36 rfl) (by decide) ?_
      refine G_sub [2, 3, 1, 0] rfl ?_
      exact h
    · replace h := h.2 c
      refine G_iconst (v := 1) (dk_at dk_X6_events 30 rfl) (by decide) ?_
      refine G_goto (tgt := 56) (dk_at dk_X6_events 31 rfl) (by decide) ?_
      refine G_iadd (dk_at dk_X6_events 33 rfl) ?_
      refine G_istore_n (lv' := [(2, .int (v2 + 1)), (0, .ref v0), (1, .int v1), (3, .int v3)]) (dk_at dk_X6_events 34 rfl) (by decide) rfl ?_
      refine G_iinc (v := v3 + 1) (lv' := [(3, .int (v3 + 1)), (2, .int (v2 + 1)), (0, .ref v0), (1, .int v1)]) 3 (dk_at dk_X6_events 35 rfl) rfl rfl (by decide) rfl ?_
      refine G_goto (tgt := 32) (dk_at dk_X6_events 36 rfl) (by decide) ?_
      refine G_sub [2, 3, 1, 0] rfl ?_
      exact h
theorem k_X6_judges_0 {l : Launch} {X : XT} {d : Nat} {Q : Ot → AH → Prop} {A : AH} {bc bs : Nat} {v0 : Nat} {v1 : Int32} (h : isO A v0 7 ∧ Cal l X d bc bs M_X6_stateOf [.ref v0, .int v1] A fun o4 A1 b2 c3 => rI o4 (fun E => Q (.inr E) A1) fun i5 => (i5 ≤ 0 → Q Rv A1) ∧ (¬ i5 ≤ 0 → isO A1 v0 7 ∧ Cal l X d b2 c3 M_X6_tells [.ref v0, .int i5, .int v1, .int 0] A1 fun o9 A6 b7 c8 => rV o9 (fun E => Q (.inr E) A6) <| Q Rv A6)) : G l X M_X6_judges d Q 0 [(0, .ref v0), (1, .int v1)] [] A bc bs := by
  refine G_aload_n 0 (dk_at dk_X6_judges 0 rfl) rfl ?_
  refine G_iload_n 1 (dk_at dk_X6_judges 1 rfl) rfl ?_
  obtain ⟨⟨_, ho⟩, h⟩ := h
  refine G_callV (As := [.int v1]) (rest := []) lk_X6_195 rfl (dk_at dk_X6_judges 2 rfl) rfl rfl (Nat.le_of_ble_eq_true rfl) ho (h.mono fun o4 A1 b2 c3 h => aftI h fun i5 h => ?_)
  refine G_istore_n (lv' := [(2, .int i5), (0, .ref v0), (1, .int v1)]) (dk_at dk_X6_judges 3 rfl) (by decide) rfl ?_
  refine G_iload_n 0 (dk_at dk_X6_judges 4 rfl) rfl ?_
  refine G_if_le (tgt := 17) (dk_at dk_X6_judges 5 rfl) (by decide) (fun c => ?_) (fun c => ?_)
  · replace h := h.1 c
    exact G_vret rfl (dk_at dk_X6_judges 11 rfl) h
  · replace h := h.2 c
    refine G_aload_n 1 (dk_at dk_X6_judges 6 rfl) rfl ?_
    refine G_iload_n 0 (dk_at dk_X6_judges 7 rfl) rfl ?_
    refine G_iload_n 2 (dk_at dk_X6_judges 8 rfl) rfl ?_
    refine G_iconst (v := 0) (dk_at dk_X6_judges 9 rfl) (by decide) ?_
    obtain ⟨⟨_, ho⟩, h⟩ := h
    refine G_callV (As := [.int i5, .int v1, .int 0]) (rest := []) lk_X6_234 rfl (dk_at dk_X6_judges 10 rfl) rfl rfl (Nat.le_of_ble_eq_true rfl) ho (h.mono fun o9 A6 b7 c8 h => aftV h fun h => ?_)
    exact G_vret rfl (dk_at dk_X6_judges 11 rfl) h
theorem k_X6_breaks_0 {l : Launch} {X : XT} {d : Nat} {Q : Ot → AH → Prop} {A : AH} {bc bs : Nat} {v0 : Nat} {v1 : Int32} {v2 : Int32} (h : G l X M_X6_breaks d Q 2 [(0, .ref v0), (1, .int v1), (2, .int v2), (3, .int 0)] [] A bc bs) : G l X M_X6_breaks d Q 0 [(0, .ref v0), (1, .int v1), (2, .int v2)] [] A bc bs := by
  refine G_iconst (v := 0) (dk_at dk_X6_breaks 0 rfl) (by decide) ?_
  refine G_istore_n (lv' := [(3, .int 0), (0, .ref v0), (1, .int v1), (2, .int v2)]) (dk_at dk_X6_breaks 1 rfl) (by decide) rfl ?_
  refine G_sub [1, 2, 3, 0] rfl ?_
  exact h
theorem k_X6_breaks_2 {l : Launch} {X : XT} {d : Nat} {Q : Ot → AH → Prop} {A : AH} {bc bs : Nat} {v0 : Nat} {v1 : Int32} {v2 : Int32} {v3 : Int32} (h : gR A v0 7 0 fun r1 => aI X A r1 11 fun i2 => (i2 ≤ v3 → Q Rv A) ∧ (¬ i2 ≤ v3 → gR A v0 7 0 fun r3 => aI X A r3 (44 + (3 * v3)) fun i4 => gR A v0 7 0 fun r5 => aI X A r5 5 fun i6 => (¬ i4 = i6 → G l X M_X6_breaks d Q 2 [(0, .ref v0), (1, .int v1), (2, .int v2), (3, .int (v3 + 1))] [] A bc bs) ∧ (i4 = i6 → gR A v0 7 0 fun r7 => aI X A r7 ((44 + (3 * v3)) + 1) fun i8 => (i8 < v2 → gR A v0 7 0 fun r9 => aI X A r9 ((44 + (3 * v3)) + 1) fun i10 => gR A v0 7 0 fun r11 => gR A v0 7 0 fun r12 => aI X A r12 ((336 + v1) + i10) fun i13 => gR A v0 7 0 fun r14 => aI X A r14 ((44 + (3 * v3)) + 2) fun i15 => sI X A r11 ((336 + v1) + i10) ((i13 + i15) - (i13 + i15) / 256 * 256) fun A16 => G l X M_X6_breaks d Q 2 [(0, .ref v0), (1, .int v1), (2, .int v2), (3, .int (v3 + 1))] [] A16 bc bs) ∧ (¬ i8 < v2 → G l X M_X6_breaks d Q 2 [(0, .ref v0), (1, .int v1), (2, .int v2), (3, .int (v3 + 1))] [] A bc bs)))) : G l X M_X6_breaks d Q 2 [(0, .ref v0), (1, .int v1), (2, .int v2), (3, .int v3)] [] A bc bs := by
  refine G_iload_n 3 (dk_at dk_X6_breaks 2 rfl) rfl ?_
  refine G_aload_n 0 (dk_at dk_X6_breaks 3 rfl) rfl ?_
  refine K_gR gf_X6_7 (dk_at dk_X6_breaks 4 rfl) h (fun r1 h => ?_)
  refine G_bipush (v := 11) (dk_at dk_X6_breaks 5 rfl) (by decide) ?_
  refine K_aI (dk_at dk_X6_breaks 6 rfl) h (fun i2 h => ?_)
  refine G_icmp_ge (tgt := 104) (dk_at dk_X6_breaks 7 rfl) (by decide) (fun c => ?_) (fun c => ?_)
  · replace h := h.1 c
    exact G_vret rfl (dk_at dk_X6_breaks 62 rfl) h
  · replace h := h.2 c
    refine G_bipush (v := 44) (dk_at dk_X6_breaks 8 rfl) (by decide) ?_
    refine G_iconst (v := 3) (dk_at dk_X6_breaks 9 rfl) (by decide) ?_
    refine G_iload_n 3 (dk_at dk_X6_breaks 10 rfl) rfl ?_
    refine G_imul (dk_at dk_X6_breaks 11 rfl) ?_
    refine G_iadd (dk_at dk_X6_breaks 12 rfl) ?_
    refine G_istore (lv' := [(4, .int (44 + (3 * v3))), (0, .ref v0), (1, .int v1), (2, .int v2), (3, .int v3)]) (dk_at dk_X6_breaks 13 rfl) (by decide) rfl ?_
    refine G_aload_n 1 (dk_at dk_X6_breaks 14 rfl) rfl ?_
    refine K_gR gf_X6_7 (dk_at dk_X6_breaks 15 rfl) h (fun r3 h => ?_)
    refine G_iload 0 (dk_at dk_X6_breaks 16 rfl) rfl ?_
    refine K_aI (dk_at dk_X6_breaks 17 rfl) h (fun i4 h => ?_)
    refine G_aload_n 1 (dk_at dk_X6_breaks 18 rfl) rfl ?_
    refine K_gR gf_X6_7 (dk_at dk_X6_breaks 19 rfl) h (fun r5 h => ?_)
    refine G_iconst (v := 5) (dk_at dk_X6_breaks 20 rfl) (by decide) ?_
    refine K_aI (dk_at dk_X6_breaks 21 rfl) h (fun i6 h => ?_)
    refine G_icmp_ne (tgt := 98) (dk_at dk_X6_breaks 22 rfl) (by decide) (fun c => ?_) (fun c => ?_)
    · replace h := h.1 c
      refine G_iinc (v := v3 + 1) (lv' := [(3, .int (v3 + 1)), (4, .int (44 + (3 * v3))), (0, .ref v0), (1, .int v1), (2, .int v2)]) 4 (dk_at dk_X6_breaks 60 rfl) rfl rfl (by decide) rfl ?_
      refine G_goto (tgt := 2) (dk_at dk_X6_breaks 61 rfl) (by decide) ?_
      refine G_sub [2, 3, 4, 0] rfl ?_
      exact h
    · replace h := h.2 c
      refine G_aload_n 1 (dk_at dk_X6_breaks 23 rfl) rfl ?_
      refine K_gR gf_X6_7 (dk_at dk_X6_breaks 24 rfl) h (fun r7 h => ?_)
      refine G_iload 0 (dk_at dk_X6_breaks 25 rfl) rfl ?_
      refine G_iconst (v := 1) (dk_at dk_X6_breaks 26 rfl) (by decide) ?_
      refine G_iadd (dk_at dk_X6_breaks 27 rfl) ?_
      refine K_aI (dk_at dk_X6_breaks 28 rfl) h (fun i8 h => ?_)
      refine G_iload_n 3 (dk_at dk_X6_breaks 29 rfl) rfl ?_
      refine G_icmp_lt (tgt := 53) (dk_at dk_X6_breaks 30 rfl) (by decide) (fun c => ?_) (fun c => ?_)
      · replace h := h.1 c
        refine G_sipush (v := 336) (dk_at dk_X6_breaks 32 rfl) (by decide) ?_
        refine G_iload_n 2 (dk_at dk_X6_breaks 33 rfl) rfl ?_
        refine G_iadd (dk_at dk_X6_breaks 34 rfl) ?_
        refine G_aload_n 1 (dk_at dk_X6_breaks 35 rfl) rfl ?_
        refine K_gR gf_X6_7 (dk_at dk_X6_breaks 36 rfl) h (fun r9 h => ?_)
        refine G_iload 0 (dk_at dk_X6_breaks 37 rfl) rfl ?_
        refine G_iconst (v := 1) (dk_at dk_X6_breaks 38 rfl) (by decide) ?_
        refine G_iadd (dk_at dk_X6_breaks 39 rfl) ?_
        refine K_aI (dk_at dk_X6_breaks 40 rfl) h (fun i10 h => ?_)
        refine G_iadd (dk_at dk_X6_breaks 41 rfl) ?_
        refine G_istore (lv' := [(5, .int ((336 + v1) + i10)), (4, .int (44 + (3 * v3))), (0, .ref v0), (1, .int v1), (2, .int v2), (3, .int v3)]) (dk_at dk_X6_breaks 42 rfl) (by decide) rfl ?_
        refine G_aload_n 2 (dk_at dk_X6_breaks 43 rfl) rfl ?_
        refine K_gR gf_X6_7 (dk_at dk_X6_breaks 44 rfl) h (fun r11 h => ?_)
        refine G_iload 0 (dk_at dk_X6_breaks 45 rfl) rfl ?_
        refine G_aload_n 2 (dk_at dk_X6_breaks 46 rfl) rfl ?_
        refine K_gR gf_X6_7 (dk_at dk_X6_breaks 47 rfl) h (fun r12 h => ?_)
        refine G_iload 0 (dk_at dk_X6_breaks 48 rfl) rfl ?_
        refine K_aI (dk_at dk_X6_breaks 49 rfl) h (fun i13 h => ?_)
        refine G_aload_n 2 (dk_at dk_X6_breaks 50 rfl) rfl ?_
        refine K_gR gf_X6_7 (dk_at dk_X6_breaks 51 rfl) h (fun r14 h => ?_)
        refine G_iload 1 (dk_at dk_X6_breaks 52 rfl) rfl ?_
        refine G_iconst (v := 2) (dk_at dk_X6_breaks 53 rfl) (by decide) ?_
        refine G_iadd (dk_at dk_X6_breaks 54 rfl) ?_
        refine K_aI (dk_at dk_X6_breaks 55 rfl) h (fun i15 h => ?_)
        refine G_iadd (dk_at dk_X6_breaks 56 rfl) ?_
        refine G_sipush (v := 256) (dk_at dk_X6_breaks 57 rfl) (by decide) ?_
        refine G_irem (dk_at dk_X6_breaks 58 rfl) (by decide) ?_
        refine K_sI (dk_at dk_X6_breaks 59 rfl) h (fun A16 h => ?_)
        refine G_iinc (v := v3 + 1) (lv' := [(3, .int (v3 + 1)), (5, .int ((336 + v1) + i10)), (4, .int (44 + (3 * v3))), (0, .ref v0), (1, .int v1), (2, .int v2)]) 5 (dk_at dk_X6_breaks 60 rfl) rfl rfl (by decide) rfl ?_
        refine G_goto (tgt := 2) (dk_at dk_X6_breaks 61 rfl) (by decide) ?_
        refine G_sub [3, 4, 5, 0] rfl ?_
        exact h
      · replace h := h.2 c
        refine G_goto (tgt := 98) (dk_at dk_X6_breaks 31 rfl) (by decide) ?_
        refine G_iinc (v := v3 + 1) (lv' := [(3, .int (v3 + 1)), (4, .int (44 + (3 * v3))), (0, .ref v0), (1, .int v1), (2, .int v2)]) 4 (dk_at dk_X6_breaks 60 rfl) rfl rfl (by decide) rfl ?_
        refine G_goto (tgt := 2) (dk_at dk_X6_breaks 61 rfl) (by decide) ?_
        refine G_sub [2, 3, 4, 0] rfl ?_
        exact h
theorem k_X6_isCutNow_0 {l : Launch} {X : XT} {d : Nat} {Q : Ot → AH → Prop} {A : AH} {bc bs : Nat} {v0 : Nat} {v1 : Int32} (h : G l X M_X6_isCutNow d Q 4 [(0, .ref v0), (1, .int v1), (2, .int 0), (3, .int 0)] [] A bc bs) : G l X M_X6_isCutNow d Q 0 [(0, .ref v0), (1, .int v1)] [] A bc bs := by
  refine G_iconst (v := 0) (dk_at dk_X6_isCutNow 0 rfl) (by decide) ?_
  refine G_istore_n (lv' := [(2, .int 0), (0, .ref v0), (1, .int v1)]) (dk_at dk_X6_isCutNow 1 rfl) (by decide) rfl ?_
  refine G_iconst (v := 0) (dk_at dk_X6_isCutNow 2 rfl) (by decide) ?_
  refine G_istore_n (lv' := [(3, .int 0), (2, .int 0), (0, .ref v0), (1, .int v1)]) (dk_at dk_X6_isCutNow 3 rfl) (by decide) rfl ?_
  refine G_sub [2, 3, 1, 0] rfl ?_
  exact h
theorem k_X6_isCutNow_4 {l : Launch} {X : XT} {d : Nat} {Q : Ot → AH → Prop} {A : AH} {bc bs : Nat} {v0 : Nat} {v1 : Int32} {v2 : Int32} {v3 : Int32} (h : gR A v0 7 0 fun r1 => aI X A r1 12 fun i2 => (i2 ≤ v3 → ((v2 : Int32) = 0 ∨ (v2 : Int32) = 1) ∧ Q (Ri v2) A) ∧ (¬ i2 ≤ v3 → (¬ v2 = 0 → G l X M_X6_isCutNow d Q 4 [(0, .ref v0), (1, .int v1), (2, .int 1), (3, .int (v3 + 1))] [] A bc bs) ∧ (v2 = 0 → gR A v0 7 0 fun r3 => aI X A r3 (80 + (2 * v3)) fun i4 => (¬ i4 = v1 → G l X M_X6_isCutNow d Q 4 [(0, .ref v0), (1, .int v1), (2, .int 0), (3, .int (v3 + 1))] [] A bc bs) ∧ (i4 = v1 → gR A v0 7 0 fun r5 => aI X A r5 ((80 + (2 * v3)) + 1) fun i6 => gR A v0 7 0 fun r7 => aI X A r7 (16 + v1) fun i8 => (¬ i6 = i8 → G l X M_X6_isCutNow d Q 4 [(0, .ref v0), (1, .int v1), (2, .int 0), (3, .int (v3 + 1))] [] A bc bs) ∧ (i6 = i8 → G l X M_X6_isCutNow d Q 4 [(0, .ref v0), (1, .int v1), (2, .int 1), (3, .int (v3 + 1))] [] A bc bs))))) : G l X M_X6_isCutNow d Q 4 [(0, .ref v0), (1, .int v1), (2, .int v2), (3, .int v3)] [] A bc bs := by
  refine G_iload_n 3 (dk_at dk_X6_isCutNow 4 rfl) rfl ?_
  refine G_aload_n 0 (dk_at dk_X6_isCutNow 5 rfl) rfl ?_
  refine K_gR gf_X6_7 (dk_at dk_X6_isCutNow 6 rfl) h (fun r1 h => ?_)
  refine G_bipush (v := 12) (dk_at dk_X6_isCutNow 7 rfl) (by decide) ?_
  refine K_aI (dk_at dk_X6_isCutNow 8 rfl) h (fun i2 h => ?_)
  refine G_icmp_ge (tgt := 71) (dk_at dk_X6_isCutNow 9 rfl) (by decide) (fun c => ?_) (fun c => ?_)
  · replace h := h.1 c
    refine G_iload_n 2 (dk_at dk_X6_isCutNow 45 rfl) rfl ?_
    refine G_iret (ty := .boolean) rfl (by rcases h.1 with e | e <;> (rw [e]; rfl)) (dk_at dk_X6_isCutNow 46 rfl) h.2
  · replace h := h.2 c
    refine G_iload_n 2 (dk_at dk_X6_isCutNow 10 rfl) rfl ?_
    refine G_if_ne (tgt := 59) (dk_at dk_X6_isCutNow 11 rfl) (by decide) (fun c => ?_) (fun c => ?_)
    · replace h := h.1 c
      refine G_iconst (v := 1) (dk_at dk_X6_isCutNow 39 rfl) (by decide) ?_
      refine G_goto (tgt := 64) (dk_at dk_X6_isCutNow 40 rfl) (by decide) ?_
      refine G_istore_n (lv' := [(2, .int 1), (0, .ref v0), (1, .int v1), (3, .int v3)]) (dk_at dk_X6_isCutNow 42 rfl) (by decide) rfl ?_
      refine G_iinc (v := v3 + 1) (lv' := [(3, .int (v3 + 1)), (2, .int 1), (0, .ref v0), (1, .int v1)]) 3 (dk_at dk_X6_isCutNow 43 rfl) rfl rfl (by decide) rfl ?_
      refine G_goto (tgt := 4) (dk_at dk_X6_isCutNow 44 rfl) (by decide) ?_
      refine G_sub [2, 3, 1, 0] rfl ?_
      exact h
    · replace h := h.2 c
      refine G_aload_n 0 (dk_at dk_X6_isCutNow 12 rfl) rfl ?_
      refine K_gR gf_X6_7 (dk_at dk_X6_isCutNow 13 rfl) h (fun r3 h => ?_)
      refine G_bipush (v := 80) (dk_at dk_X6_isCutNow 14 rfl) (by decide) ?_
      refine G_iconst (v := 2) (dk_at dk_X6_isCutNow 15 rfl) (by decide) ?_
      refine G_iload_n 3 (dk_at dk_X6_isCutNow 16 rfl) rfl ?_
      refine G_imul (dk_at dk_X6_isCutNow 17 rfl) ?_
      refine G_iadd (dk_at dk_X6_isCutNow 18 rfl) ?_
      refine K_aI (dk_at dk_X6_isCutNow 19 rfl) h (fun i4 h => ?_)
      refine G_iload_n 1 (dk_at dk_X6_isCutNow 20 rfl) rfl ?_
      refine G_icmp_ne (tgt := 63) (dk_at dk_X6_isCutNow 21 rfl) (by decide) (fun c => ?_) (fun c => ?_)
      · replace h := h.1 c
        refine G_iconst (v := 0) (dk_at dk_X6_isCutNow 41 rfl) (by decide) ?_
        refine G_istore_n (lv' := [(2, .int 0), (0, .ref v0), (1, .int v1), (3, .int v3)]) (dk_at dk_X6_isCutNow 42 rfl) (by decide) rfl ?_
        refine G_iinc (v := v3 + 1) (lv' := [(3, .int (v3 + 1)), (2, .int 0), (0, .ref v0), (1, .int v1)]) 3 (dk_at dk_X6_isCutNow 43 rfl) rfl rfl (by decide) rfl ?_
        refine G_goto (tgt := 4) (dk_at dk_X6_isCutNow 44 rfl) (by decide) ?_
        refine G_sub [2, 3, 1, 0] rfl ?_
        exact h
      · replace h := h.2 c
        refine G_aload_n 0 (dk_at dk_X6_isCutNow 22 rfl) rfl ?_
        refine K_gR gf_X6_7 (dk_at dk_X6_isCutNow 23 rfl) h (fun r5 h => ?_)
        refine G_bipush (v := 80) (dk_at dk_X6_isCutNow 24 rfl) (by decide) ?_
        refine G_iconst (v := 2) (dk_at dk_X6_isCutNow 25 rfl) (by decide) ?_
        refine G_iload_n 3 (dk_at dk_X6_isCutNow 26 rfl) rfl ?_
        refine G_imul (dk_at dk_X6_isCutNow 27 rfl) ?_
        refine G_iadd (dk_at dk_X6_isCutNow 28 rfl) ?_
        refine G_iconst (v := 1) (dk_at dk_X6_isCutNow 29 rfl) (by decide) ?_
        refine G_iadd (dk_at dk_X6_isCutNow 30 rfl) ?_
        refine K_aI (dk_at dk_X6_isCutNow 31 rfl) h (fun i6 h => ?_)
        refine G_aload_n 0 (dk_at dk_X6_isCutNow 32 rfl) rfl ?_
        refine K_gR gf_X6_7 (dk_at dk_X6_isCutNow 33 rfl) h (fun r7 h => ?_)
        refine G_bipush (v := 16) (dk_at dk_X6_isCutNow 34 rfl) (by decide) ?_
        refine G_iload_n 1 (dk_at dk_X6_isCutNow 35 rfl) rfl ?_
        refine G_iadd (dk_at dk_X6_isCutNow 36 rfl) ?_
        refine K_aI (dk_at dk_X6_isCutNow 37 rfl) h (fun i8 h => ?_)
        refine G_icmp_ne (tgt := 63) (dk_at dk_X6_isCutNow 38 rfl) (by decide) (fun c => ?_) (fun c => ?_)
        · replace h := h.1 c
          refine G_iconst (v := 0) (dk_at dk_X6_isCutNow 41 rfl) (by decide) ?_
          refine G_istore_n (lv' := [(2, .int 0), (0, .ref v0), (1, .int v1), (3, .int v3)]) (dk_at dk_X6_isCutNow 42 rfl) (by decide) rfl ?_
          refine G_iinc (v := v3 + 1) (lv' := [(3, .int (v3 + 1)), (2, .int 0), (0, .ref v0), (1, .int v1)]) 3 (dk_at dk_X6_isCutNow 43 rfl) rfl rfl (by decide) rfl ?_
          refine G_goto (tgt := 4) (dk_at dk_X6_isCutNow 44 rfl) (by decide) ?_
          refine G_sub [2, 3, 1, 0] rfl ?_
          exact h
        · replace h := h.2 c
          refine G_iconst (v := 1) (dk_at dk_X6_isCutNow 39 rfl) (by decide) ?_
          refine G_goto (tgt := 64) (dk_at dk_X6_isCutNow 40 rfl) (by decide) ?_
          refine G_istore_n (lv' := [(2, .int 1), (0, .ref v0), (1, .int v1), (3, .int v3)]) (dk_at dk_X6_isCutNow 42 rfl) (by decide) rfl ?_
          refine G_iinc (v := v3 + 1) (lv' := [(3, .int (v3 + 1)), (2, .int 1), (0, .ref v0), (1, .int v1)]) 3 (dk_at dk_X6_isCutNow 43 rfl) rfl rfl (by decide) rfl ?_
          refine G_goto (tgt := 4) (dk_at dk_X6_isCutNow 44 rfl) (by decide) ?_
          refine G_sub [2, 3, 1, 0] rfl ?_
          exact h
theorem k_X6_arrives_0 {l : Launch} {X : XT} {d : Nat} {Q : Ot → AH → Prop} {A : AH} {bc bs : Nat} {v0 : Nat} {v1 : Int32} {v2 : Int32} (h : isO A v0 7 ∧ Cal l X d bc bs M_X6_placeOf [.ref v0, .int v2] A fun o4 A1 b2 c3 => rI o4 (fun E => Q (.inr E) A1) fun i5 => isO A1 v0 7 ∧ Cal l X d b2 c3 M_X6_partLength [.ref v0, .int v2] A1 fun o9 A6 b7 c8 => rI o9 (fun E => Q (.inr E) A6) fun i10 => gR A6 v0 7 0 fun r11 => aI X A6 r11 5 fun i12 => sI X A6 r11 5 (i12 + 1) fun A13 => gR A13 v0 7 0 fun r14 => aI X A13 r14 (16 + v1) fun i15 => sI X A13 r14 (16 + v1) (i15 + 1) fun A16 => G l X M_X6_arrives d Q 39 [(0, .ref v0), (1, .int v1), (2, .int v2), (3, .int i5), (4, .int i10), (5, .int i5)] [] A16 b7 c8) : G l X M_X6_arrives d Q 0 [(0, .ref v0), (1, .int v1), (2, .int v2)] [] A bc bs := by
  refine G_aload_n 0 (dk_at dk_X6_arrives_0 0 rfl) rfl ?_
  refine G_iload_n 2 (dk_at dk_X6_arrives_0 1 rfl) rfl ?_
  obtain ⟨⟨_, ho⟩, h⟩ := h
  refine G_callV (As := [.int v2]) (rest := []) lk_X6_176 rfl (dk_at dk_X6_arrives_0 2 rfl) rfl rfl (Nat.le_of_ble_eq_true rfl) ho (h.mono fun o4 A1 b2 c3 h => aftI h fun i5 h => ?_)
  refine G_istore_n (lv' := [(3, .int i5), (0, .ref v0), (1, .int v1), (2, .int v2)]) (dk_at dk_X6_arrives_0 3 rfl) (by decide) rfl ?_
  refine G_aload_n 1 (dk_at dk_X6_arrives_0 4 rfl) rfl ?_
  refine G_iload_n 3 (dk_at dk_X6_arrives_0 5 rfl) rfl ?_
  obtain ⟨⟨_, ho⟩, h⟩ := h
  refine G_callV (As := [.int v2]) (rest := []) lk_X6_219 rfl (dk_at dk_X6_arrives_0 6 rfl) rfl rfl (Nat.le_of_ble_eq_true rfl) ho (h.mono fun o9 A6 b7 c8 h => aftI h fun i10 h => ?_)
  refine G_istore (lv' := [(4, .int i10), (3, .int i5), (0, .ref v0), (1, .int v1), (2, .int v2)]) (dk_at dk_X6_arrives_0 7 rfl) (by decide) rfl ?_
  refine G_aload_n 2 (dk_at dk_X6_arrives_0 8 rfl) rfl ?_
  refine K_gR gf_X6_7 (dk_at dk_X6_arrives_0 9 rfl) h (fun r11 h => ?_)
  refine G_iconst (v := 5) (dk_at dk_X6_arrives_0 10 rfl) (by decide) ?_
  refine G_dup2 (dk_at dk_X6_arrives_0 11 rfl) rfl rfl ?_
  refine K_aI (dk_at dk_X6_arrives_0 12 rfl) h (fun i12 h => ?_)
  refine G_iconst (v := 1) (dk_at dk_X6_arrives_0 13 rfl) (by decide) ?_
  refine G_iadd (dk_at dk_X6_arrives_0 14 rfl) ?_
  refine K_sI (dk_at dk_X6_arrives_0 15 rfl) h (fun A13 h => ?_)
  refine G_aload_n 2 (dk_at dk_X6_arrives_0 16 rfl) rfl ?_
  refine K_gR gf_X6_7 (dk_at dk_X6_arrives_0 17 rfl) h (fun r14 h => ?_)
  refine G_bipush (v := 16) (dk_at dk_X6_arrives_0 18 rfl) (by decide) ?_
  refine G_iload_n 3 (dk_at dk_X6_arrives_0 19 rfl) rfl ?_
  refine G_iadd (dk_at dk_X6_arrives_0 20 rfl) ?_
  refine G_dup2 (dk_at dk_X6_arrives_0 21 rfl) rfl rfl ?_
  refine K_aI (dk_at dk_X6_arrives_0 22 rfl) h (fun i15 h => ?_)
  refine G_iconst (v := 1) (dk_at dk_X6_arrives_0 23 rfl) (by decide) ?_
  refine G_iadd (dk_at dk_X6_arrives_0 24 rfl) ?_
  refine K_sI (dk_at dk_X6_arrives_0 25 rfl) h (fun A16 h => ?_)
  refine G_iload_n 1 (dk_at dk_X6_arrives_0 26 rfl) rfl ?_
  refine G_istore (lv' := [(5, .int i5), (4, .int i10), (3, .int i5), (0, .ref v0), (1, .int v1), (2, .int v2)]) (dk_at dk_X6_arrives_0 27 rfl) (by decide) rfl ?_
  refine G_sub [3, 4, 5, 2, 1, 0] rfl ?_
  exact h
theorem k_X6_arrives_39 {l : Launch} {X : XT} {d : Nat} {Q : Ot → AH → Prop} {A : AH} {bc bs : Nat} {v0 : Nat} {v1 : Int32} {v2 : Int32} {v3 : Int32} {v4 : Int32} {v5 : Int32} (h : ((v3 + v4) ≤ v5 → isO A v0 7 ∧ Cal l X d bc bs M_X6_breaks [.ref v0, .int v3, .int v4] A fun o4 A1 b2 c3 => rV o4 (fun E => Q (.inr E) A1) <| gR A1 v0 7 0 fun r5 => sI X A1 r5 (96 + v2) (v1 + 1) fun A6 => isO A6 v0 7 ∧ Cal l X d b2 c3 M_X6_tells [.ref v0, .int 0, .int v2, .int v1] A6 fun o10 A7 b8 c9 => rV o10 (fun E => Q (.inr E) A7) <| isO A7 v0 7 ∧ Cal l X d b8 c9 M_X6_pieceOf [.ref v0, .int v2] A7 fun o14 A11 b12 c13 => rI o14 (fun E => Q (.inr E) A11) fun i15 => isO A11 v0 7 ∧ Cal l X d b12 c13 M_X6_judges [.ref v0, .int i15] A11 fun o19 A16 b17 c18 => rV o19 (fun E => Q (.inr E) A16) <| isO A16 v0 7 ∧ Cal l X d b17 c18 M_X6_isCutNow [.ref v0, .int v1] A16 fun o23 A20 b21 c22 => rI o23 (fun E => Q (.inr E) A20) fun i24 => (¬ i24 = 0 → gR A20 v0 7 0 fun r25 => sI X A20 r25 (14 + v1) 0 fun A26 => gR A26 v0 7 0 fun r27 => aI X A26 r27 (16 + v1) fun i28 => isO A26 v0 7 ∧ Cal l X d b21 c22 M_X6_tells [.ref v0, .int 5, .int v1, .int i28] A26 fun o32 A29 b30 c31 => rV o32 (fun E => Q (.inr E) A29) <| Q Rv A29) ∧ (i24 = 0 → Q Rv A20)) ∧ (¬ (v3 + v4) ≤ v5 → gR A v0 7 0 fun r33 => isO A v0 7 ∧ Cal l X d bc bs M_X6_byteOf [.ref v0, .int v1, .int v5] A fun o37 A34 b35 c36 => rI o37 (fun E => Q (.inr E) A34) fun i38 => sI X A34 r33 (336 + v5) i38 fun A39 => G l X M_X6_arrives d Q 39 [(0, .ref v0), (1, .int v1), (2, .int v2), (3, .int v3), (4, .int v4), (5, .int (v5 + 1))] [] A39 b35 c36)) : G l X M_X6_arrives d Q 39 [(0, .ref v0), (1, .int v1), (2, .int v2), (3, .int v3), (4, .int v4), (5, .int v5)] [] A bc bs := by
  refine G_iload 5 (dk_at dk_X6_arrives_0 28 rfl) rfl ?_
  refine G_iload_n 3 (dk_at dk_X6_arrives_0 29 rfl) rfl ?_
  refine G_iload 4 (dk_at dk_X6_arrives_0 30 rfl) rfl ?_
  refine G_iadd (dk_at dk_X6_arrives_0 31 rfl) ?_
  refine G_icmp_ge (tgt := 72) (dk_at dk_X6_arrives_0 32 rfl) (by decide) (fun c => ?_) (fun c => ?_)
  · replace h := h.1 c
    refine G_aload_n 0 (dk_at dk_X6_arrives_0 45 rfl) rfl ?_
    refine G_iload_n 3 (dk_at dk_X6_arrives_0 46 rfl) rfl ?_
    refine G_iload 4 (dk_at dk_X6_arrives_0 47 rfl) rfl ?_
    obtain ⟨⟨_, ho⟩, h⟩ := h
    refine G_callV (As := [.int v3, .int v4]) (rest := []) lk_X6_237 rfl (dk_at dk_X6_arrives_0 48 rfl) rfl rfl (Nat.le_of_ble_eq_true rfl) ho (h.mono fun o4 A1 b2 c3 h => aftV h fun h => ?_)
    refine G_aload_n 0 (dk_at dk_X6_arrives_0 49 rfl) rfl ?_
    refine K_gR gf_X6_7 (dk_at dk_X6_arrives_1 0 rfl) h (fun r5 h => ?_)
    refine G_bipush (v := 96) (dk_at dk_X6_arrives_1 1 rfl) (by decide) ?_
    refine G_iload_n 2 (dk_at dk_X6_arrives_1 2 rfl) rfl ?_
    refine G_iadd (dk_at dk_X6_arrives_1 3 rfl) ?_
    refine G_iload_n 1 (dk_at dk_X6_arrives_1 4 rfl) rfl ?_
    refine G_iconst (v := 1) (dk_at dk_X6_arrives_1 5 rfl) (by decide) ?_
    refine G_iadd (dk_at dk_X6_arrives_1 6 rfl) ?_
    refine K_sI (dk_at dk_X6_arrives_1 7 rfl) h (fun A6 h => ?_)
    refine G_aload_n 0 (dk_at dk_X6_arrives_1 8 rfl) rfl ?_
    refine G_iconst (v := 0) (dk_at dk_X6_arrives_1 9 rfl) (by decide) ?_
    refine G_iload_n 2 (dk_at dk_X6_arrives_1 10 rfl) rfl ?_
    refine G_iload_n 1 (dk_at dk_X6_arrives_1 11 rfl) rfl ?_
    obtain ⟨⟨_, ho⟩, h⟩ := h
    refine G_callV (As := [.int 0, .int v2, .int v1]) (rest := []) lk_X6_234 rfl (dk_at dk_X6_arrives_1 12 rfl) rfl rfl (Nat.le_of_ble_eq_true rfl) ho (h.mono fun o10 A7 b8 c9 h => aftV h fun h => ?_)
    refine G_aload_n 0 (dk_at dk_X6_arrives_1 13 rfl) rfl ?_
    refine G_aload_n 0 (dk_at dk_X6_arrives_1 14 rfl) rfl ?_
    refine G_iload_n 2 (dk_at dk_X6_arrives_1 15 rfl) rfl ?_
    obtain ⟨⟨_, ho⟩, h⟩ := h
    refine G_callV (As := [.int v2]) (rest := [.ref v0]) lk_X6_173 rfl (dk_at dk_X6_arrives_1 16 rfl) rfl rfl (Nat.le_of_ble_eq_true rfl) ho (h.mono fun o14 A11 b12 c13 h => aftI h fun i15 h => ?_)
    obtain ⟨⟨_, ho⟩, h⟩ := h
    refine G_callV (As := [.int i15]) (rest := []) lk_X6_240 rfl (dk_at dk_X6_arrives_1 17 rfl) rfl rfl (Nat.le_of_ble_eq_true rfl) ho (h.mono fun o19 A16 b17 c18 h => aftV h fun h => ?_)
    refine G_aload_n 0 (dk_at dk_X6_arrives_1 18 rfl) rfl ?_
    refine G_iload_n 1 (dk_at dk_X6_arrives_1 19 rfl) rfl ?_
    obtain ⟨⟨_, ho⟩, h⟩ := h
    refine G_callV (As := [.int v1]) (rest := []) lk_X6_243 rfl (dk_at dk_X6_arrives_1 20 rfl) rfl rfl (Nat.le_of_ble_eq_true rfl) ho (h.mono fun o23 A20 b21 c22 h => aftI h fun i24 h => ?_)
    refine G_if_ne (tgt := 116) (dk_at dk_X6_arrives_1 21 rfl) (by decide) (fun c => ?_) (fun c => ?_)
    · replace h := h.1 c
      refine G_aload_n 0 (dk_at dk_X6_arrives_1 23 rfl) rfl ?_
      refine K_gR gf_X6_7 (dk_at dk_X6_arrives_1 24 rfl) h (fun r25 h => ?_)
      refine G_bipush (v := 14) (dk_at dk_X6_arrives_1 25 rfl) (by decide) ?_
      refine G_iload_n 1 (dk_at dk_X6_arrives_1 26 rfl) rfl ?_
      refine G_iadd (dk_at dk_X6_arrives_1 27 rfl) ?_
      refine G_iconst (v := 0) (dk_at dk_X6_arrives_1 28 rfl) (by decide) ?_
      refine K_sI (dk_at dk_X6_arrives_1 29 rfl) h (fun A26 h => ?_)
      refine G_aload_n 0 (dk_at dk_X6_arrives_1 30 rfl) rfl ?_
      refine G_iconst (v := 5) (dk_at dk_X6_arrives_1 31 rfl) (by decide) ?_
      refine G_iload_n 1 (dk_at dk_X6_arrives_1 32 rfl) rfl ?_
      refine G_aload_n 0 (dk_at dk_X6_arrives_1 33 rfl) rfl ?_
      refine K_gR gf_X6_7 (dk_at dk_X6_arrives_1 34 rfl) h (fun r27 h => ?_)
      refine G_bipush (v := 16) (dk_at dk_X6_arrives_1 35 rfl) (by decide) ?_
      refine G_iload_n 1 (dk_at dk_X6_arrives_1 36 rfl) rfl ?_
      refine G_iadd (dk_at dk_X6_arrives_1 37 rfl) ?_
      refine K_aI (dk_at dk_X6_arrives_1 38 rfl) h (fun i28 h => ?_)
      obtain ⟨⟨_, ho⟩, h⟩ := h
      refine G_callV (As := [.int 5, .int v1, .int i28]) (rest := []) lk_X6_234 rfl (dk_at dk_X6_arrives_1 39 rfl) rfl rfl (Nat.le_of_ble_eq_true rfl) ho (h.mono fun o32 A29 b30 c31 h => aftV h fun h => ?_)
      exact G_vret rfl (dk_at dk_X6_arrives_1 40 rfl) h
    · replace h := h.2 c
      exact G_vret rfl (dk_at dk_X6_arrives_1 22 rfl) h
  · replace h := h.2 c
    refine G_aload_n 0 (dk_at dk_X6_arrives_0 33 rfl) rfl ?_
    refine K_gR gf_X6_7 (dk_at dk_X6_arrives_0 34 rfl) h (fun r33 h => ?_)
    refine G_sipush (v := 336) (dk_at dk_X6_arrives_0 35 rfl) (by decide) ?_
    refine G_iload 5 (dk_at dk_X6_arrives_0 36 rfl) rfl ?_
    refine G_iadd (dk_at dk_X6_arrives_0 37 rfl) ?_
    refine G_aload_n 0 (dk_at dk_X6_arrives_0 38 rfl) rfl ?_
    refine G_iload_n 1 (dk_at dk_X6_arrives_0 39 rfl) rfl ?_
    refine G_iload 5 (dk_at dk_X6_arrives_0 40 rfl) rfl ?_
    obtain ⟨⟨_, ho⟩, h⟩ := h
    refine G_callV (As := [.int v1, .int v5]) (rest := [.int (336 + v5), .ref r33]) lk_X6_182 rfl (dk_at dk_X6_arrives_0 41 rfl) rfl rfl (Nat.le_of_ble_eq_true rfl) ho (h.mono fun o37 A34 b35 c36 h => aftI h fun i38 h => ?_)
    refine K_sI (dk_at dk_X6_arrives_0 42 rfl) h (fun A39 h => ?_)
    refine G_iinc (v := v5 + 1) (lv' := [(5, .int (v5 + 1)), (0, .ref v0), (1, .int v1), (2, .int v2), (3, .int v3), (4, .int v4)]) 5 (dk_at dk_X6_arrives_0 43 rfl) rfl rfl (by decide) rfl ?_
    refine G_goto (tgt := 39) (dk_at dk_X6_arrives_0 44 rfl) (by decide) ?_
    refine G_sub [1, 2, 3, 4, 5, 0] rfl ?_
    exact h
theorem k_X6_connect_0 {l : Launch} {X : XT} {d : Nat} {Q : Ot → AH → Prop} {A : AH} {bc bs : Nat} {v0 : Nat} {v1 : Int32} {v2 : Int32} (h : Cal l X d bc bs M_X6_isSource [.int v1] A fun o4 A1 b2 c3 => rI o4 (fun E => Q (.inr E) A1) fun i5 => (¬ i5 = 0 → (v2 = 0 → G l X M_X6_connect d Q 37 [(0, .ref v0), (1, .int v1), (2, .int v2)] [.int 0, .ref v0] A1 b2 c3) ∧ (¬ v2 = 0 → (¬ v1 = 1 → G l X M_X6_connect d Q 37 [(0, .ref v0), (1, .int v1), (2, .int v2)] [.int 0, .ref v0] A1 b2 c3) ∧ (v1 = 1 → gR A1 v0 7 0 fun r6 => aI X A1 r6 13 fun i7 => (¬ i7 = 1 → G l X M_X6_connect d Q 37 [(0, .ref v0), (1, .int v1), (2, .int v2)] [.int 0, .ref v0] A1 b2 c3) ∧ (i7 = 1 → G l X M_X6_connect d Q 37 [(0, .ref v0), (1, .int v1), (2, .int v2)] [.int 2, .ref v0] A1 b2 c3)))) ∧ (i5 = 0 → G l X M_X6_connect d Q 37 [(0, .ref v0), (1, .int v1), (2, .int v2)] [.int 1, .ref v0] A1 b2 c3)) : G l X M_X6_connect d Q 0 [(0, .ref v0), (1, .int v1), (2, .int v2)] [] A bc bs := by
  refine G_aload_n 0 (dk_at dk_X6_connect 0 rfl) rfl ?_
  refine G_iload_n 1 (dk_at dk_X6_connect 1 rfl) rfl ?_
  refine G_callS (As := [.int v1]) (rest := [.ref v0]) lk_X6_204 rfl (dk_at dk_X6_connect 2 rfl) rfl rfl (Nat.le_of_ble_eq_true rfl) (h.mono fun o4 A1 b2 c3 h => aftI h fun i5 h => ?_)
  refine G_if_ne (tgt := 12) (dk_at dk_X6_connect 3 rfl) (by decide) (fun c => ?_) (fun c => ?_)
  · replace h := h.1 c
    refine G_iload_n 2 (dk_at dk_X6_connect 6 rfl) rfl ?_
    refine G_if_eq (tgt := 36) (dk_at dk_X6_connect 7 rfl) (by decide) (fun c => ?_) (fun c => ?_)
    · replace h := h.1 c
      refine G_iconst (v := 0) (dk_at dk_X6_connect 19 rfl) (by decide) ?_
      exact h
    · replace h := h.2 c
      refine G_iload_n 1 (dk_at dk_X6_connect 8 rfl) rfl ?_
      refine G_iconst (v := 1) (dk_at dk_X6_connect 9 rfl) (by decide) ?_
      refine G_icmp_ne (tgt := 36) (dk_at dk_X6_connect 10 rfl) (by decide) (fun c => ?_) (fun c => ?_)
      · replace h := h.1 c
        refine G_iconst (v := 0) (dk_at dk_X6_connect 19 rfl) (by decide) ?_
        exact h
      · replace h := h.2 c
        refine G_aload_n 0 (dk_at dk_X6_connect 11 rfl) rfl ?_
        refine K_gR gf_X6_7 (dk_at dk_X6_connect 12 rfl) h (fun r6 h => ?_)
        refine G_bipush (v := 13) (dk_at dk_X6_connect 13 rfl) (by decide) ?_
        refine K_aI (dk_at dk_X6_connect 14 rfl) h (fun i7 h => ?_)
        refine G_iconst (v := 1) (dk_at dk_X6_connect 15 rfl) (by decide) ?_
        refine G_icmp_ne (tgt := 36) (dk_at dk_X6_connect 16 rfl) (by decide) (fun c => ?_) (fun c => ?_)
        · replace h := h.1 c
          refine G_iconst (v := 0) (dk_at dk_X6_connect 19 rfl) (by decide) ?_
          exact h
        · replace h := h.2 c
          refine G_iconst (v := 2) (dk_at dk_X6_connect 17 rfl) (by decide) ?_
          refine G_goto (tgt := 37) (dk_at dk_X6_connect 18 rfl) (by decide) ?_
          exact h
  · replace h := h.2 c
    refine G_iconst (v := 1) (dk_at dk_X6_connect 4 rfl) (by decide) ?_
    refine G_goto (tgt := 37) (dk_at dk_X6_connect 5 rfl) (by decide) ?_
    exact h
theorem k_X6_connect_37 {l : Launch} {X : XT} {d : Nat} {Q : Ot → AH → Prop} {A : AH} {bc bs : Nat} {v0 : Nat} {v1 : Int32} {v2 : Int32} {s0 : Int32} {s1 : Nat} (h : pV A s1 7 5 (.int s0) fun A1 => gI A1 v0 7 5 fun i2 => (i2 ≤ 0 → isO A1 v0 7 ∧ Cal l X d bc bs M_X6_keeps [.ref v0] A1 fun o6 A3 b4 c5 => rV o6 (fun E => Q (.inr E) A3) <| gR A3 v0 7 0 fun r7 => aI X A3 r7 (14 + v1) fun i8 => (¬ i8 = 1 → G l X M_X6_connect d Q 71 [(0, .ref v0), (1, .int v1), (2, .int v2)] [.int 0] A3 b4 c5) ∧ (i8 = 1 → G l X M_X6_connect d Q 71 [(0, .ref v0), (1, .int v1), (2, .int v2)] [.int 1] A3 b4 c5)) ∧ (¬ i2 ≤ 0 → Q (Ri 0) A1)) : G l X M_X6_connect d Q 37 [(0, .ref v0), (1, .int v1), (2, .int v2)] [.int s0, .ref s1] A bc bs := by
  refine K_pI pf_X6_50 (dk_at dk_X6_connect 20 rfl) h (fun A1 h => ?_)
  refine G_aload_n 0 (dk_at dk_X6_connect 21 rfl) rfl ?_
  refine K_gI gf_X6_50 (dk_at dk_X6_connect 22 rfl) h (fun i2 h => ?_)
  refine G_if_le (tgt := 49) (dk_at dk_X6_connect 23 rfl) (by decide) (fun c => ?_) (fun c => ?_)
  · replace h := h.1 c
    refine G_aload_n 0 (dk_at dk_X6_connect 26 rfl) rfl ?_
    obtain ⟨⟨_, ho⟩, h⟩ := h
    refine G_callV (As := []) (rest := []) lk_X6_153 rfl (dk_at dk_X6_connect 27 rfl) rfl rfl (Nat.le_of_ble_eq_true rfl) ho (h.mono fun o6 A3 b4 c5 h => aftV h fun h => ?_)
    refine G_aload_n 0 (dk_at dk_X6_connect 28 rfl) rfl ?_
    refine K_gR gf_X6_7 (dk_at dk_X6_connect 29 rfl) h (fun r7 h => ?_)
    refine G_bipush (v := 14) (dk_at dk_X6_connect 30 rfl) (by decide) ?_
    refine G_iload_n 1 (dk_at dk_X6_connect 31 rfl) rfl ?_
    refine G_iadd (dk_at dk_X6_connect 32 rfl) ?_
    refine K_aI (dk_at dk_X6_connect 33 rfl) h (fun i8 h => ?_)
    refine G_iconst (v := 1) (dk_at dk_X6_connect 34 rfl) (by decide) ?_
    refine G_icmp_ne (tgt := 70) (dk_at dk_X6_connect 35 rfl) (by decide) (fun c => ?_) (fun c => ?_)
    · replace h := h.1 c
      refine G_iconst (v := 0) (dk_at dk_X6_connect 38 rfl) (by decide) ?_
      exact h
    · replace h := h.2 c
      refine G_iconst (v := 1) (dk_at dk_X6_connect 36 rfl) (by decide) ?_
      refine G_goto (tgt := 71) (dk_at dk_X6_connect 37 rfl) (by decide) ?_
      exact h
  · replace h := h.2 c
    refine G_iconst (v := 0) (dk_at dk_X6_connect 24 rfl) (by decide) ?_
    exact G_iret (ty := .boolean) rfl rfl (dk_at dk_X6_connect 25 rfl) h
theorem k_X6_connect_71 {l : Launch} {X : XT} {d : Nat} {Q : Ot → AH → Prop} {A : AH} {bc bs : Nat} {v0 : Nat} {v1 : Int32} {v2 : Int32} {s0 : Int32} (h : gR A v0 7 0 fun r1 => (v2 = 0 → G l X M_X6_connect d Q 89 [(3, .int s0)] [.int 0, .int (14 + v1), .ref r1] A bc bs) ∧ (¬ v2 = 0 → G l X M_X6_connect d Q 89 [(3, .int s0)] [.int 1, .int (14 + v1), .ref r1] A bc bs)) : G l X M_X6_connect d Q 71 [(0, .ref v0), (1, .int v1), (2, .int v2)] [.int s0] A bc bs := by
  refine G_istore_n (lv' := [(3, .int s0), (0, .ref v0), (1, .int v1), (2, .int v2)]) (dk_at dk_X6_connect 39 rfl) (by decide) rfl ?_
  refine G_aload_n 1 (dk_at dk_X6_connect 40 rfl) rfl ?_
  refine K_gR gf_X6_7 (dk_at dk_X6_connect 41 rfl) h (fun r1 h => ?_)
  refine G_bipush (v := 14) (dk_at dk_X6_connect 42 rfl) (by decide) ?_
  refine G_iload_n 2 (dk_at dk_X6_connect 43 rfl) rfl ?_
  refine G_iadd (dk_at dk_X6_connect 44 rfl) ?_
  refine G_iload_n 3 (dk_at dk_X6_connect 45 rfl) rfl ?_
  refine G_if_eq (tgt := 88) (dk_at dk_X6_connect 46 rfl) (by decide) (fun c => ?_) (fun c => ?_)
  · replace h := h.1 c
    refine G_iconst (v := 0) (dk_at dk_X6_connect 49 rfl) (by decide) ?_
    refine G_sub [0] rfl ?_
    exact h
  · replace h := h.2 c
    refine G_iconst (v := 1) (dk_at dk_X6_connect 47 rfl) (by decide) ?_
    refine G_goto (tgt := 89) (dk_at dk_X6_connect 48 rfl) (by decide) ?_
    refine G_sub [0] rfl ?_
    exact h
theorem k_X6_connect_89 {l : Launch} {X : XT} {d : Nat} {Q : Ot → AH → Prop} {A : AH} {bc bs : Nat} {v3 : Int32} {s0 : Int32} {s1 : Int32} {s2 : Nat} (h : sI X A s2 s1 s0 fun A1 => ((v3 : Int32) = 0 ∨ (v3 : Int32) = 1) ∧ Q (Ri v3) A1) : G l X M_X6_connect d Q 89 [(3, .int v3)] [.int s0, .int s1, .ref s2] A bc bs := by
  refine K_sI (dk_at dk_X6_connect 50 rfl) h (fun A1 h => ?_)
  refine G_iload_n 0 (dk_at dk_X6_connect 51 rfl) rfl ?_
  refine G_iret (ty := .boolean) rfl (by rcases h.1 with e | e <;> (rw [e]; rfl)) (dk_at dk_X6_connect 52 rfl) h.2
theorem k_X6_fetch_0 {l : Launch} {X : XT} {d : Nat} {Q : Ot → AH → Prop} {A : AH} {bc bs : Nat} {v0 : Nat} {v1 : Int32} {v2 : Int32} (h : Cal l X d bc bs M_X6_isSource [.int v1] A fun o4 A1 b2 c3 => rI o4 (fun E => Q (.inr E) A1) fun i5 => (i5 = 0 → G l X M_X6_fetch d Q 45 [(0, .ref v0), (1, .int v1), (2, .int v2)] [.int 1, .ref v0] A1 b2 c3) ∧ (¬ i5 = 0 → isO A1 v0 7 ∧ Cal l X d b2 c3 M_X6_isPiece [.ref v0, .int v2] A1 fun o9 A6 b7 c8 => rI o9 (fun E => Q (.inr E) A6) fun i10 => (¬ i10 = 0 → gR A6 v0 7 0 fun r11 => aI X A6 r11 (14 + v1) fun i12 => (i12 = 0 → G l X M_X6_fetch d Q 45 [(0, .ref v0), (1, .int v1), (2, .int v2)] [.int 2, .ref v0] A6 b7 c8) ∧ (¬ i12 = 0 → isO A6 v0 7 ∧ Cal l X d b7 c8 M_X6_missingIn [.ref v0, .int v2] A6 fun o16 A13 b14 c15 => rI o16 (fun E => Q (.inr E) A13) fun i17 => (¬ i17 = 0 → G l X M_X6_fetch d Q 45 [(0, .ref v0), (1, .int v1), (2, .int v2)] [.int 0, .ref v0] A13 b14 c15) ∧ (i17 = 0 → G l X M_X6_fetch d Q 45 [(0, .ref v0), (1, .int v1), (2, .int v2)] [.int 2, .ref v0] A13 b14 c15))) ∧ (i10 = 0 → G l X M_X6_fetch d Q 45 [(0, .ref v0), (1, .int v1), (2, .int v2)] [.int 1, .ref v0] A6 b7 c8))) : G l X M_X6_fetch d Q 0 [(0, .ref v0), (1, .int v1), (2, .int v2)] [] A bc bs := by
  refine G_aload_n 0 (dk_at dk_X6_fetch 0 rfl) rfl ?_
  refine G_iload_n 1 (dk_at dk_X6_fetch 1 rfl) rfl ?_
  refine G_callS (As := [.int v1]) (rest := [.ref v0]) lk_X6_204 rfl (dk_at dk_X6_fetch 2 rfl) rfl rfl (Nat.le_of_ble_eq_true rfl) (h.mono fun o4 A1 b2 c3 h => aftI h fun i5 h => ?_)
  refine G_if_eq (tgt := 16) (dk_at dk_X6_fetch 3 rfl) (by decide) (fun c => ?_) (fun c => ?_)
  · replace h := h.1 c
    refine G_iconst (v := 1) (dk_at dk_X6_fetch 8 rfl) (by decide) ?_
    refine G_goto (tgt := 45) (dk_at dk_X6_fetch 9 rfl) (by decide) ?_
    exact h
  · replace h := h.2 c
    refine G_aload_n 0 (dk_at dk_X6_fetch 4 rfl) rfl ?_
    refine G_iload_n 2 (dk_at dk_X6_fetch 5 rfl) rfl ?_
    obtain ⟨⟨_, ho⟩, h⟩ := h
    refine G_callV (As := [.int v2]) (rest := [.ref v0]) lk_X6_216 rfl (dk_at dk_X6_fetch 6 rfl) rfl rfl (Nat.le_of_ble_eq_true rfl) ho (h.mono fun o9 A6 b7 c8 h => aftI h fun i10 h => ?_)
    refine G_if_ne (tgt := 20) (dk_at dk_X6_fetch 7 rfl) (by decide) (fun c => ?_) (fun c => ?_)
    · replace h := h.1 c
      refine G_aload_n 0 (dk_at dk_X6_fetch 10 rfl) rfl ?_
      refine K_gR gf_X6_7 (dk_at dk_X6_fetch 11 rfl) h (fun r11 h => ?_)
      refine G_bipush (v := 14) (dk_at dk_X6_fetch 12 rfl) (by decide) ?_
      refine G_iload_n 1 (dk_at dk_X6_fetch 13 rfl) rfl ?_
      refine G_iadd (dk_at dk_X6_fetch 14 rfl) ?_
      refine K_aI (dk_at dk_X6_fetch 15 rfl) h (fun i12 h => ?_)
      refine G_if_eq (tgt := 40) (dk_at dk_X6_fetch 16 rfl) (by decide) (fun c => ?_) (fun c => ?_)
      · replace h := h.1 c
        refine G_iconst (v := 2) (dk_at dk_X6_fetch 21 rfl) (by decide) ?_
        refine G_goto (tgt := 45) (dk_at dk_X6_fetch 22 rfl) (by decide) ?_
        exact h
      · replace h := h.2 c
        refine G_aload_n 0 (dk_at dk_X6_fetch 17 rfl) rfl ?_
        refine G_iload_n 2 (dk_at dk_X6_fetch 18 rfl) rfl ?_
        obtain ⟨⟨_, ho⟩, h⟩ := h
        refine G_callV (As := [.int v2]) (rest := [.ref v0]) lk_X6_185 rfl (dk_at dk_X6_fetch 19 rfl) rfl rfl (Nat.le_of_ble_eq_true rfl) ho (h.mono fun o16 A13 b14 c15 h => aftI h fun i17 h => ?_)
        refine G_if_ne (tgt := 44) (dk_at dk_X6_fetch 20 rfl) (by decide) (fun c => ?_) (fun c => ?_)
        · replace h := h.1 c
          refine G_iconst (v := 0) (dk_at dk_X6_fetch 23 rfl) (by decide) ?_
          exact h
        · replace h := h.2 c
          refine G_iconst (v := 2) (dk_at dk_X6_fetch 21 rfl) (by decide) ?_
          refine G_goto (tgt := 45) (dk_at dk_X6_fetch 22 rfl) (by decide) ?_
          exact h
    · replace h := h.2 c
      refine G_iconst (v := 1) (dk_at dk_X6_fetch 8 rfl) (by decide) ?_
      refine G_goto (tgt := 45) (dk_at dk_X6_fetch 9 rfl) (by decide) ?_
      exact h
theorem k_X6_fetch_45 {l : Launch} {X : XT} {d : Nat} {Q : Ot → AH → Prop} {A : AH} {bc bs : Nat} {v0 : Nat} {v1 : Int32} {v2 : Int32} {s0 : Int32} {s1 : Nat} (h : pV A s1 7 5 (.int s0) fun A1 => gI A1 v0 7 5 fun i2 => (i2 ≤ 0 → isO A1 v0 7 ∧ Cal l X d bc bs M_X6_keeps [.ref v0] A1 fun o6 A3 b4 c5 => rV o6 (fun E => Q (.inr E) A3) <| G l X M_X6_fetch d Q 66 [(0, .ref v0), (1, .int v1), (2, .int v2), (3, .int 0), (4, .int 0)] [] A3 b4 c5) ∧ (¬ i2 ≤ 0 → Q (Ri 0) A1)) : G l X M_X6_fetch d Q 45 [(0, .ref v0), (1, .int v1), (2, .int v2)] [.int s0, .ref s1] A bc bs := by
  refine K_pI pf_X6_50 (dk_at dk_X6_fetch 24 rfl) h (fun A1 h => ?_)
  refine G_aload_n 0 (dk_at dk_X6_fetch 25 rfl) rfl ?_
  refine K_gI gf_X6_50 (dk_at dk_X6_fetch 26 rfl) h (fun i2 h => ?_)
  refine G_if_le (tgt := 57) (dk_at dk_X6_fetch 27 rfl) (by decide) (fun c => ?_) (fun c => ?_)
  · replace h := h.1 c
    refine G_aload_n 0 (dk_at dk_X6_fetch 30 rfl) rfl ?_
    obtain ⟨⟨_, ho⟩, h⟩ := h
    refine G_callV (As := []) (rest := []) lk_X6_153 rfl (dk_at dk_X6_fetch 31 rfl) rfl rfl (Nat.le_of_ble_eq_true rfl) ho (h.mono fun o6 A3 b4 c5 h => aftV h fun h => ?_)
    refine G_iconst (v := 0) (dk_at dk_X6_fetch 32 rfl) (by decide) ?_
    refine G_istore_n (lv' := [(3, .int 0), (0, .ref v0), (1, .int v1), (2, .int v2)]) (dk_at dk_X6_fetch 33 rfl) (by decide) rfl ?_
    refine G_iconst (v := 0) (dk_at dk_X6_fetch 34 rfl) (by decide) ?_
    refine G_istore (lv' := [(4, .int 0), (3, .int 0), (0, .ref v0), (1, .int v1), (2, .int v2)]) (dk_at dk_X6_fetch 35 rfl) (by decide) rfl ?_
    refine G_sub [2, 3, 4, 1, 0] rfl ?_
    exact h
  · replace h := h.2 c
    refine G_iconst (v := 0) (dk_at dk_X6_fetch 28 rfl) (by decide) ?_
    exact G_iret (ty := .int) rfl rfl (dk_at dk_X6_fetch 29 rfl) h
theorem k_X6_fetch_66 {l : Launch} {X : XT} {d : Nat} {Q : Ot → AH → Prop} {A : AH} {bc bs : Nat} {v0 : Nat} {v1 : Int32} {v2 : Int32} {v3 : Int32} {v4 : Int32} (h : isO A v0 7 ∧ Cal l X d bc bs M_X6_partsOf [.ref v0, .int v2] A fun o4 A1 b2 c3 => rI o4 (fun E => Q (.inr E) A1) fun i5 => (i5 ≤ v4 → Q (Ri v3) A1) ∧ (¬ i5 ≤ v4 → isO A1 v0 7 ∧ Cal l X d b2 c3 M_X6_firstPart [.ref v0, .int v2] A1 fun o9 A6 b7 c8 => rI o9 (fun E => Q (.inr E) A6) fun i10 => isO A6 v0 7 ∧ Cal l X d b7 c8 M_X6_isMissing [.ref v0, .int (i10 + v4)] A6 fun o14 A11 b12 c13 => rI o14 (fun E => Q (.inr E) A11) fun i15 => (i15 = 0 → G l X M_X6_fetch d Q 66 [(0, .ref v0), (1, .int v1), (2, .int v2), (3, .int v3), (4, .int (v4 + 1))] [] A11 b12 c13) ∧ (¬ i15 = 0 → gR A11 v0 7 0 fun r16 => aI X A11 r16 (14 + v1) fun i17 => (¬ i17 = 0 → isO A11 v0 7 ∧ Cal l X d b12 c13 M_X6_arrives [.ref v0, .int v1, .int (i10 + v4)] A11 fun o21 A18 b19 c20 => rV o21 (fun E => Q (.inr E) A18) <| G l X M_X6_fetch d Q 66 [(0, .ref v0), (1, .int v1), (2, .int v2), (3, .int (v3 + 1)), (4, .int (v4 + 1))] [] A18 b19 c20) ∧ (i17 = 0 → G l X M_X6_fetch d Q 66 [(0, .ref v0), (1, .int v1), (2, .int v2), (3, .int v3), (4, .int (v4 + 1))] [] A11 b12 c13)))) : G l X M_X6_fetch d Q 66 [(0, .ref v0), (1, .int v1), (2, .int v2), (3, .int v3), (4, .int v4)] [] A bc bs := by
  refine G_iload 4 (dk_at dk_X6_fetch 36 rfl) rfl ?_
  refine G_aload_n 0 (dk_at dk_X6_fetch 37 rfl) rfl ?_
  refine G_iload_n 2 (dk_at dk_X6_fetch 38 rfl) rfl ?_
  obtain ⟨⟨_, ho⟩, h⟩ := h
  refine G_callV (As := [.int v2]) (rest := [.int v4]) lk_X6_170 rfl (dk_at dk_X6_fetch 39 rfl) rfl rfl (Nat.le_of_ble_eq_true rfl) ho (h.mono fun o4 A1 b2 c3 h => aftI h fun i5 h => ?_)
  refine G_icmp_ge (tgt := 126) (dk_at dk_X6_fetch 40 rfl) (by decide) (fun c => ?_) (fun c => ?_)
  · replace h := h.1 c
    refine G_iload_n 3 (dk_at dk_X6_fetch 66 rfl) rfl ?_
    exact G_iret (ty := .int) rfl rfl (dk_at dk_X6_fetch 67 rfl) h
  · replace h := h.2 c
    refine G_aload_n 0 (dk_at dk_X6_fetch 41 rfl) rfl ?_
    refine G_iload_n 2 (dk_at dk_X6_fetch 42 rfl) rfl ?_
    obtain ⟨⟨_, ho⟩, h⟩ := h
    refine G_callV (As := [.int v2]) (rest := []) lk_X6_167 rfl (dk_at dk_X6_fetch 43 rfl) rfl rfl (Nat.le_of_ble_eq_true rfl) ho (h.mono fun o9 A6 b7 c8 h => aftI h fun i10 h => ?_)
    refine G_iload 4 (dk_at dk_X6_fetch 44 rfl) rfl ?_
    refine G_iadd (dk_at dk_X6_fetch 45 rfl) ?_
    refine G_istore (lv' := [(5, .int (i10 + v4)), (0, .ref v0), (1, .int v1), (2, .int v2), (3, .int v3), (4, .int v4)]) (dk_at dk_X6_fetch 46 rfl) (by decide) rfl ?_
    refine G_aload_n 1 (dk_at dk_X6_fetch 47 rfl) rfl ?_
    refine G_iload 0 (dk_at dk_X6_fetch 48 rfl) rfl ?_
    obtain ⟨⟨_, ho⟩, h⟩ := h
    refine G_callV (As := [.int (i10 + v4)]) (rest := []) lk_X6_179 rfl (dk_at dk_X6_fetch 49 rfl) rfl rfl (Nat.le_of_ble_eq_true rfl) ho (h.mono fun o14 A11 b12 c13 h => aftI h fun i15 h => ?_)
    refine G_if_eq (tgt := 120) (dk_at dk_X6_fetch 50 rfl) (by decide) (fun c => ?_) (fun c => ?_)
    · replace h := h.1 c
      refine G_iinc (v := v4 + 1) (lv' := [(4, .int (v4 + 1)), (5, .int (i10 + v4)), (0, .ref v0), (1, .int v1), (2, .int v2), (3, .int v3)]) 5 (dk_at dk_X6_fetch 64 rfl) rfl rfl (by decide) rfl ?_
      refine G_goto (tgt := 66) (dk_at dk_X6_fetch 65 rfl) (by decide) ?_
      refine G_sub [2, 3, 4, 5, 0] rfl ?_
      exact h
    · replace h := h.2 c
      refine G_aload_n 1 (dk_at dk_X6_fetch 51 rfl) rfl ?_
      refine K_gR gf_X6_7 (dk_at dk_X6_fetch 52 rfl) h (fun r16 h => ?_)
      refine G_bipush (v := 14) (dk_at dk_X6_fetch 53 rfl) (by decide) ?_
      refine G_iload_n 2 (dk_at dk_X6_fetch 54 rfl) rfl ?_
      refine G_iadd (dk_at dk_X6_fetch 55 rfl) ?_
      refine K_aI (dk_at dk_X6_fetch 56 rfl) h (fun i17 h => ?_)
      refine G_if_ne (tgt := 110) (dk_at dk_X6_fetch 57 rfl) (by decide) (fun c => ?_) (fun c => ?_)
      · replace h := h.1 c
        refine G_aload_n 1 (dk_at dk_X6_fetch 59 rfl) rfl ?_
        refine G_iload_n 2 (dk_at dk_X6_fetch 60 rfl) rfl ?_
        refine G_iload 0 (dk_at dk_X6_fetch 61 rfl) rfl ?_
        obtain ⟨⟨_, ho⟩, h⟩ := h
        refine G_callV (As := [.int v1, .int (i10 + v4)]) (rest := []) lk_X6_246 rfl (dk_at dk_X6_fetch 62 rfl) rfl rfl (Nat.le_of_ble_eq_true rfl) ho (h.mono fun o21 A18 b19 c20 h => aftV h fun h => ?_)
        refine G_iinc (v := v3 + 1) (lv' := [(3, .int (v3 + 1)), (5, .int (i10 + v4)), (0, .ref v0), (1, .int v1), (2, .int v2), (4, .int v4)]) 4 (dk_at dk_X6_fetch 63 rfl) rfl rfl (by decide) rfl ?_
        refine G_iinc (v := v4 + 1) (lv' := [(4, .int (v4 + 1)), (3, .int (v3 + 1)), (5, .int (i10 + v4)), (0, .ref v0), (1, .int v1), (2, .int v2)]) 5 (dk_at dk_X6_fetch 64 rfl) rfl rfl (by decide) rfl ?_
        refine G_goto (tgt := 66) (dk_at dk_X6_fetch 65 rfl) (by decide) ?_
        refine G_sub [3, 4, 5, 1, 0] rfl ?_
        exact h
      · replace h := h.2 c
        refine G_goto (tgt := 120) (dk_at dk_X6_fetch 58 rfl) (by decide) ?_
        refine G_iinc (v := v4 + 1) (lv' := [(4, .int (v4 + 1)), (5, .int (i10 + v4)), (0, .ref v0), (1, .int v1), (2, .int v2), (3, .int v3)]) 5 (dk_at dk_X6_fetch 64 rfl) rfl rfl (by decide) rfl ?_
        refine G_goto (tgt := 66) (dk_at dk_X6_fetch 65 rfl) (by decide) ?_
        refine G_sub [2, 3, 4, 5, 0] rfl ?_
        exact h
theorem k_X6_isRight_0 {l : Launch} {X : XT} {d : Nat} {Q : Ot → AH → Prop} {A : AH} {bc bs : Nat} {v0 : Nat} {v1 : Int32} {v2 : Int32} (h : isO A v0 7 ∧ Cal l X d bc bs M_X6_placeOf [.ref v0, .int v1] A fun o4 A1 b2 c3 => rI o4 (fun E => Q (.inr E) A1) fun i5 => isO A1 v0 7 ∧ Cal l X d b2 c3 M_X6_placeOf [.ref v0, .int ((v1 + v2) - 1)] A1 fun o9 A6 b7 c8 => rI o9 (fun E => Q (.inr E) A6) fun i10 => isO A6 v0 7 ∧ Cal l X d b7 c8 M_X6_partLength [.ref v0, .int ((v1 + v2) - 1)] A6 fun o14 A11 b12 c13 => rI o14 (fun E => Q (.inr E) A11) fun i15 => gI A11 v0 7 19 fun i16 => pV A11 v0 7 19 (.int (i16 + 1)) fun A17 => isO A17 v0 7 ∧ Cal l X d b12 c13 M_X6_rowSum [.ref v0, .int (336 + i5), .int ((i10 + i15) - i5)] A17 fun o21 A18 b19 c20 => rI o21 (fun E => Q (.inr E) A18) fun i22 => isO A18 v0 7 ∧ Cal l X d b19 c20 M_X6_sumOf [.ref v0, .int 0, .int i5, .int ((i10 + i15) - i5)] A18 fun o26 A23 b24 c25 => rI o26 (fun E => Q (.inr E) A23) fun i27 => (¬ i22 = i27 → Q (Ri 0) A23) ∧ (i22 = i27 → Q (Ri 1) A23)) : G l X M_X6_isRight d Q 0 [(0, .ref v0), (1, .int v1), (2, .int v2)] [] A bc bs := by
  refine G_iload_n 1 (dk_at dk_X6_isRight 0 rfl) rfl ?_
  refine G_iload_n 2 (dk_at dk_X6_isRight 1 rfl) rfl ?_
  refine G_iadd (dk_at dk_X6_isRight 2 rfl) ?_
  refine G_iconst (v := 1) (dk_at dk_X6_isRight 3 rfl) (by decide) ?_
  refine G_isub (dk_at dk_X6_isRight 4 rfl) ?_
  refine G_istore_n (lv' := [(3, .int ((v1 + v2) - 1)), (0, .ref v0), (1, .int v1), (2, .int v2)]) (dk_at dk_X6_isRight 5 rfl) (by decide) rfl ?_
  refine G_aload_n 1 (dk_at dk_X6_isRight 6 rfl) rfl ?_
  refine G_iload_n 2 (dk_at dk_X6_isRight 7 rfl) rfl ?_
  obtain ⟨⟨_, ho⟩, h⟩ := h
  refine G_callV (As := [.int v1]) (rest := []) lk_X6_176 rfl (dk_at dk_X6_isRight 8 rfl) rfl rfl (Nat.le_of_ble_eq_true rfl) ho (h.mono fun o4 A1 b2 c3 h => aftI h fun i5 h => ?_)
  refine G_istore (lv' := [(4, .int i5), (3, .int ((v1 + v2) - 1)), (0, .ref v0), (1, .int v1), (2, .int v2)]) (dk_at dk_X6_isRight 9 rfl) (by decide) rfl ?_
  refine G_aload_n 2 (dk_at dk_X6_isRight 10 rfl) rfl ?_
  refine G_iload_n 1 (dk_at dk_X6_isRight 11 rfl) rfl ?_
  obtain ⟨⟨_, ho⟩, h⟩ := h
  refine G_callV (As := [.int ((v1 + v2) - 1)]) (rest := []) lk_X6_176 rfl (dk_at dk_X6_isRight 12 rfl) rfl rfl (Nat.le_of_ble_eq_true rfl) ho (h.mono fun o9 A6 b7 c8 h => aftI h fun i10 h => ?_)
  refine G_aload_n 2 (dk_at dk_X6_isRight 13 rfl) rfl ?_
  refine G_iload_n 1 (dk_at dk_X6_isRight 14 rfl) rfl ?_
  obtain ⟨⟨_, ho⟩, h⟩ := h
  refine G_callV (As := [.int ((v1 + v2) - 1)]) (rest := [.int i10]) lk_X6_219 rfl (dk_at dk_X6_isRight 15 rfl) rfl rfl (Nat.le_of_ble_eq_true rfl) ho (h.mono fun o14 A11 b12 c13 h => aftI h fun i15 h => ?_)
  refine G_iadd (dk_at dk_X6_isRight 16 rfl) ?_
  refine G_iload 0 (dk_at dk_X6_isRight 17 rfl) rfl ?_
  refine G_isub (dk_at dk_X6_isRight 18 rfl) ?_
  refine G_istore (lv' := [(5, .int ((i10 + i15) - i5)), (4, .int i5), (3, .int ((v1 + v2) - 1)), (0, .ref v0), (1, .int v1), (2, .int v2)]) (dk_at dk_X6_isRight 19 rfl) (by decide) rfl ?_
  refine G_aload_n 3 (dk_at dk_X6_isRight 20 rfl) rfl ?_
  refine G_dup (dk_at dk_X6_isRight 21 rfl) rfl ?_
  refine K_gI gf_X6_249 (dk_at dk_X6_isRight 22 rfl) h (fun i16 h => ?_)
  refine G_iconst (v := 1) (dk_at dk_X6_isRight 23 rfl) (by decide) ?_
  refine G_iadd (dk_at dk_X6_isRight 24 rfl) ?_
  refine K_pI pf_X6_249 (dk_at dk_X6_isRight 25 rfl) h (fun A17 h => ?_)
  refine G_aload_n 3 (dk_at dk_X6_isRight 26 rfl) rfl ?_
  refine G_sipush (v := 336) (dk_at dk_X6_isRight 27 rfl) (by decide) ?_
  refine G_iload 1 (dk_at dk_X6_isRight 28 rfl) rfl ?_
  refine G_iadd (dk_at dk_X6_isRight 29 rfl) ?_
  refine G_iload 0 (dk_at dk_X6_isRight 30 rfl) rfl ?_
  obtain ⟨⟨_, ho⟩, h⟩ := h
  refine G_callV (As := [.int (336 + i5), .int ((i10 + i15) - i5)]) (rest := []) lk_X6_188 rfl (dk_at dk_X6_isRight 31 rfl) rfl rfl (Nat.le_of_ble_eq_true rfl) ho (h.mono fun o21 A18 b19 c20 h => aftI h fun i22 h => ?_)
  refine G_aload_n 3 (dk_at dk_X6_isRight 32 rfl) rfl ?_
  refine G_iconst (v := 0) (dk_at dk_X6_isRight 33 rfl) (by decide) ?_
  refine G_iload 1 (dk_at dk_X6_isRight 34 rfl) rfl ?_
  refine G_iload 0 (dk_at dk_X6_isRight 35 rfl) rfl ?_
  obtain ⟨⟨_, ho⟩, h⟩ := h
  refine G_callV (As := [.int 0, .int i5, .int ((i10 + i15) - i5)]) (rest := [.int i22]) lk_X6_191 rfl (dk_at dk_X6_isRight 36 rfl) rfl rfl (Nat.le_of_ble_eq_true rfl) ho (h.mono fun o26 A23 b24 c25 h => aftI h fun i27 h => ?_)
  refine G_icmp_ne (tgt := 67) (dk_at dk_X6_isRight 37 rfl) (by decide) (fun c => ?_) (fun c => ?_)
  · replace h := h.1 c
    refine G_iconst (v := 0) (dk_at dk_X6_isRight 40 rfl) (by decide) ?_
    exact G_iret (ty := .boolean) rfl rfl (dk_at dk_X6_isRight 41 rfl) h
  · replace h := h.2 c
    refine G_iconst (v := 1) (dk_at dk_X6_isRight 38 rfl) (by decide) ?_
    refine G_goto (tgt := 68) (dk_at dk_X6_isRight 39 rfl) (by decide) ?_
    exact G_iret (ty := .boolean) rfl rfl (dk_at dk_X6_isRight 41 rfl) h
theorem k_X6_looks_0 {l : Launch} {X : XT} {d : Nat} {Q : Ot → AH → Prop} {A : AH} {bc bs : Nat} {v0 : Nat} {v1 : Int32} (h : isO A v0 7 ∧ Cal l X d bc bs M_X6_firstPart [.ref v0, .int v1] A fun o4 A1 b2 c3 => rI o4 (fun E => Q (.inr E) A1) fun i5 => pV A1 v0 7 19 (.int 0) fun A6 => pV A6 v0 7 20 (.int 0) fun A7 => G l X M_X6_looks d Q 18 [(0, .ref v0), (1, .int v1), (2, .int i5), (3, .int 0)] [] A7 b2 c3) : G l X M_X6_looks d Q 0 [(0, .ref v0), (1, .int v1)] [] A bc bs := by
  refine G_aload_n 0 (dk_at dk_X6_looks_0 0 rfl) rfl ?_
  refine G_iload_n 1 (dk_at dk_X6_looks_0 1 rfl) rfl ?_
  obtain ⟨⟨_, ho⟩, h⟩ := h
  refine G_callV (As := [.int v1]) (rest := []) lk_X6_167 rfl (dk_at dk_X6_looks_0 2 rfl) rfl rfl (Nat.le_of_ble_eq_true rfl) ho (h.mono fun o4 A1 b2 c3 h => aftI h fun i5 h => ?_)
  refine G_istore_n (lv' := [(2, .int i5), (0, .ref v0), (1, .int v1)]) (dk_at dk_X6_looks_0 3 rfl) (by decide) rfl ?_
  refine G_aload_n 1 (dk_at dk_X6_looks_0 4 rfl) rfl ?_
  refine G_iconst (v := 0) (dk_at dk_X6_looks_0 5 rfl) (by decide) ?_
  refine K_pI pf_X6_249 (dk_at dk_X6_looks_0 6 rfl) h (fun A6 h => ?_)
  refine G_aload_n 1 (dk_at dk_X6_looks_0 7 rfl) rfl ?_
  refine G_iconst (v := 0) (dk_at dk_X6_looks_0 8 rfl) (by decide) ?_
  refine K_pI pf_X6_252 (dk_at dk_X6_looks_0 9 rfl) h (fun A7 h => ?_)
  refine G_iconst (v := 0) (dk_at dk_X6_looks_0 10 rfl) (by decide) ?_
  refine G_istore_n (lv' := [(3, .int 0), (2, .int i5), (0, .ref v0), (1, .int v1)]) (dk_at dk_X6_looks_0 11 rfl) (by decide) rfl ?_
  refine G_sub [2, 3, 1, 0] rfl ?_
  exact h
theorem k_X6_looks_18 {l : Launch} {X : XT} {d : Nat} {Q : Ot → AH → Prop} {A : AH} {bc bs : Nat} {v0 : Nat} {v1 : Int32} {v2 : Int32} {v3 : Int32} (h : (48 ≤ v3 → gR A v0 7 16 fun r1 => sI X A r1 0 0 fun A2 => gR A2 v0 7 17 fun r3 => isO A2 v0 7 ∧ Cal l X d bc bs M_X6_partsOf [.ref v0, .int v1] A2 fun o7 A4 b5 c6 => rI o7 (fun E => Q (.inr E) A4) fun i8 => sI X A4 r3 0 i8 fun A9 => G l X M_X6_looks d Q 60 [(0, .ref v0), (2, .int v2), (3, .int 1), (4, .int 1)] [] A9 b5 c6) ∧ (¬ 48 ≤ v3 → gR A v0 7 18 fun r10 => sZ X A r10 v3 0 fun A11 => G l X M_X6_looks d Q 18 [(0, .ref v0), (1, .int v1), (2, .int v2), (3, .int (v3 + 1))] [] A11 bc bs)) : G l X M_X6_looks d Q 18 [(0, .ref v0), (1, .int v1), (2, .int v2), (3, .int v3)] [] A bc bs := by
  refine G_iload_n 3 (dk_at dk_X6_looks_0 12 rfl) rfl ?_
  refine G_bipush (v := 48) (dk_at dk_X6_looks_0 13 rfl) (by decide) ?_
  refine G_icmp_ge (tgt := 37) (dk_at dk_X6_looks_0 14 rfl) (by decide) (fun c => ?_) (fun c => ?_)
  · replace h := h.1 c
    refine G_aload_n 0 (dk_at dk_X6_looks_0 22 rfl) rfl ?_
    refine K_gR gf_X6_29 (dk_at dk_X6_looks_0 23 rfl) h (fun r1 h => ?_)
    refine G_iconst (v := 0) (dk_at dk_X6_looks_0 24 rfl) (by decide) ?_
    refine G_iconst (v := 0) (dk_at dk_X6_looks_0 25 rfl) (by decide) ?_
    refine K_sI (dk_at dk_X6_looks_0 26 rfl) h (fun A2 h => ?_)
    refine G_aload_n 0 (dk_at dk_X6_looks_0 27 rfl) rfl ?_
    refine K_gR gf_X6_32 (dk_at dk_X6_looks_0 28 rfl) h (fun r3 h => ?_)
    refine G_iconst (v := 0) (dk_at dk_X6_looks_0 29 rfl) (by decide) ?_
    refine G_aload_n 0 (dk_at dk_X6_looks_0 30 rfl) rfl ?_
    refine G_iload_n 1 (dk_at dk_X6_looks_0 31 rfl) rfl ?_
    obtain ⟨⟨_, ho⟩, h⟩ := h
    refine G_callV (As := [.int v1]) (rest := [.int 0, .ref r3]) lk_X6_170 rfl (dk_at dk_X6_looks_0 32 rfl) rfl rfl (Nat.le_of_ble_eq_true rfl) ho (h.mono fun o7 A4 b5 c6 h => aftI h fun i8 h => ?_)
    refine K_sI (dk_at dk_X6_looks_0 33 rfl) h (fun A9 h => ?_)
    refine G_iconst (v := 1) (dk_at dk_X6_looks_0 34 rfl) (by decide) ?_
    refine G_istore_n (lv' := [(3, .int 1), (0, .ref v0), (1, .int v1), (2, .int v2)]) (dk_at dk_X6_looks_0 35 rfl) (by decide) rfl ?_
    refine G_iconst (v := 1) (dk_at dk_X6_looks_0 36 rfl) (by decide) ?_
    refine G_istore (lv' := [(4, .int 1), (3, .int 1), (0, .ref v0), (1, .int v1), (2, .int v2)]) (dk_at dk_X6_looks_0 37 rfl) (by decide) rfl ?_
    refine G_sub [2, 4, 1, 0] rfl ?_
    exact h
  · replace h := h.2 c
    refine G_aload_n 0 (dk_at dk_X6_looks_0 15 rfl) rfl ?_
    refine K_gR gf_X6_35 (dk_at dk_X6_looks_0 16 rfl) h (fun r10 h => ?_)
    refine G_iload_n 3 (dk_at dk_X6_looks_0 17 rfl) rfl ?_
    refine G_iconst (v := 0) (dk_at dk_X6_looks_0 18 rfl) (by decide) ?_
    refine K_sZ (dk_at dk_X6_looks_0 19 rfl) h (fun A11 h => ?_)
    refine G_iinc (v := v3 + 1) (lv' := [(3, .int (v3 + 1)), (0, .ref v0), (1, .int v1), (2, .int v2)]) 3 (dk_at dk_X6_looks_0 20 rfl) rfl rfl (by decide) rfl ?_
    refine G_goto (tgt := 18) (dk_at dk_X6_looks_0 21 rfl) (by decide) ?_
    refine G_sub [1, 2, 3, 0] rfl ?_
    exact h
theorem k_X6_looks_60 {l : Launch} {X : XT} {d : Nat} {Q : Ot → AH → Prop} {A : AH} {bc bs : Nat} {v0 : Nat} {v2 : Int32} {v3 : Int32} {v4 : Int32} (h : (v3 ≤ 0 → Q Rv A) ∧ (¬ v3 ≤ 0 → gR A v0 7 16 fun r1 => aI X A r1 (v3 + (-1)) fun i2 => gR A v0 7 17 fun r3 => aI X A r3 (v3 + (-1)) fun i4 => (¬ v4 = 0 → G l X M_X6_looks d Q 106 [(0, .ref v0), (2, .int v2), (3, .int (v3 + (-1))), (5, .int i2), (6, .int i4)] [.int 0] A bc bs) ∧ (v4 = 0 → isO A v0 7 ∧ Cal l X d bc bs M_X6_isRight [.ref v0, .int (v2 + i2), .int i4] A fun o8 A5 b6 c7 => rI o8 (fun E => Q (.inr E) A5) fun i9 => (i9 = 0 → G l X M_X6_looks d Q 106 [(0, .ref v0), (2, .int v2), (3, .int (v3 + (-1))), (5, .int i2), (6, .int i4)] [.int 0] A5 b6 c7) ∧ (¬ i9 = 0 → G l X M_X6_looks d Q 106 [(0, .ref v0), (2, .int v2), (3, .int (v3 + (-1))), (5, .int i2), (6, .int i4)] [.int 1] A5 b6 c7)))) : G l X M_X6_looks d Q 60 [(0, .ref v0), (2, .int v2), (3, .int v3), (4, .int v4)] [] A bc bs := by
  refine G_iload_n 2 (dk_at dk_X6_looks_0 38 rfl) rfl ?_
  refine G_if_le (tgt := 202) (dk_at dk_X6_looks_0 39 rfl) (by decide) (fun c => ?_) (fun c => ?_)
  · replace h := h.1 c
    exact G_vret rfl (dk_at dk_X6_looks_2 20 rfl) h
  · replace h := h.2 c
    refine G_iinc (v := v3 + (-1)) (lv' := [(3, .int (v3 + (-1))), (0, .ref v0), (2, .int v2), (4, .int v4)]) 2 (dk_at dk_X6_looks_0 40 rfl) rfl rfl (by decide) rfl ?_
    refine G_aload_n 1 (dk_at dk_X6_looks_0 41 rfl) rfl ?_
    refine K_gR gf_X6_29 (dk_at dk_X6_looks_0 42 rfl) h (fun r1 h => ?_)
    refine G_iload_n 0 (dk_at dk_X6_looks_0 43 rfl) rfl ?_
    refine K_aI (dk_at dk_X6_looks_0 44 rfl) h (fun i2 h => ?_)
    refine G_istore (lv' := [(5, .int i2), (3, .int (v3 + (-1))), (0, .ref v0), (2, .int v2), (4, .int v4)]) (dk_at dk_X6_looks_0 45 rfl) (by decide) rfl ?_
    refine G_aload_n 2 (dk_at dk_X6_looks_0 46 rfl) rfl ?_
    refine K_gR gf_X6_32 (dk_at dk_X6_looks_0 47 rfl) h (fun r3 h => ?_)
    refine G_iload_n 1 (dk_at dk_X6_looks_0 48 rfl) rfl ?_
    refine K_aI (dk_at dk_X6_looks_0 49 rfl) h (fun i4 h => ?_)
    refine G_istore (lv' := [(6, .int i4), (5, .int i2), (3, .int (v3 + (-1))), (0, .ref v0), (2, .int v2), (4, .int v4)]) (dk_at dk_X6_looks_1 0 rfl) (by decide) rfl ?_
    refine G_iload 5 (dk_at dk_X6_looks_1 1 rfl) rfl ?_
    refine G_if_ne (tgt := 105) (dk_at dk_X6_looks_1 2 rfl) (by decide) (fun c => ?_) (fun c => ?_)
    · replace h := h.1 c
      refine G_iconst (v := 0) (dk_at dk_X6_looks_1 12 rfl) (by decide) ?_
      refine G_sub [3, 4, 2, 1, 0] rfl ?_
      exact h
    · replace h := h.2 c
      refine G_aload_n 3 (dk_at dk_X6_looks_1 3 rfl) rfl ?_
      refine G_iload_n 4 (dk_at dk_X6_looks_1 4 rfl) rfl ?_
      refine G_iload 1 (dk_at dk_X6_looks_1 5 rfl) rfl ?_
      refine G_iadd (dk_at dk_X6_looks_1 6 rfl) ?_
      refine G_iload 0 (dk_at dk_X6_looks_1 7 rfl) rfl ?_
      obtain ⟨⟨_, ho⟩, h⟩ := h
      refine G_callV (As := [.int (v2 + i2), .int i4]) (rest := []) lk_X6_255 rfl (dk_at dk_X6_looks_1 8 rfl) rfl rfl (Nat.le_of_ble_eq_true rfl) ho (h.mono fun o8 A5 b6 c7 h => aftI h fun i9 h => ?_)
      refine G_if_eq (tgt := 105) (dk_at dk_X6_looks_1 9 rfl) (by decide) (fun c => ?_) (fun c => ?_)
      · replace h := h.1 c
        refine G_iconst (v := 0) (dk_at dk_X6_looks_1 12 rfl) (by decide) ?_
        refine G_sub [3, 4, 2, 1, 0] rfl ?_
        exact h
      · replace h := h.2 c
        refine G_iconst (v := 1) (dk_at dk_X6_looks_1 10 rfl) (by decide) ?_
        refine G_goto (tgt := 106) (dk_at dk_X6_looks_1 11 rfl) (by decide) ?_
        refine G_sub [3, 4, 2, 1, 0] rfl ?_
        exact h
theorem k_X6_looks_106 {l : Launch} {X : XT} {d : Nat} {Q : Ot → AH → Prop} {A : AH} {bc bs : Nat} {v0 : Nat} {v2 : Int32} {v3 : Int32} {v5 : Int32} {v6 : Int32} {s0 : Int32} (h : (s0 = 0 → (¬ v6 = 1 → gR A v0 7 16 fun r1 => sI X A r1 v3 (v5 + ((v6 + 1) / 2)) fun A2 => gR A2 v0 7 17 fun r3 => sI X A2 r3 v3 (v6 - ((v6 + 1) / 2)) fun A4 => gR A4 v0 7 16 fun r5 => sI X A4 r5 (v3 + 1) v5 fun A6 => gR A6 v0 7 17 fun r7 => sI X A6 r7 (v3 + 1) ((v6 + 1) / 2) fun A8 => G l X M_X6_looks d Q 60 [(0, .ref v0), (2, .int v2), (3, .int (v3 + 2)), (4, .int 0)] [] A8 bc bs) ∧ (v6 = 1 → gR A v0 7 18 fun r9 => sZ X A r9 v5 1 fun A10 => gI A10 v0 7 20 fun i11 => pV A10 v0 7 20 (.int (i11 + 1)) fun A12 => G l X M_X6_looks d Q 60 [(0, .ref v0), (2, .int v2), (3, .int v3), (4, .int 0)] [] A12 bc bs)) ∧ (¬ s0 = 0 → G l X M_X6_looks d Q 60 [(0, .ref v0), (2, .int v2), (3, .int v3), (4, .int 0)] [] A bc bs)) : G l X M_X6_looks d Q 106 [(0, .ref v0), (2, .int v2), (3, .int v3), (5, .int v5), (6, .int v6)] [.int s0] A bc bs := by
  refine G_istore (lv' := [(7, .int s0), (0, .ref v0), (2, .int v2), (3, .int v3), (5, .int v5), (6, .int v6)]) (dk_at dk_X6_looks_1 13 rfl) (by decide) rfl ?_
  refine G_iconst (v := 0) (dk_at dk_X6_looks_1 14 rfl) (by decide) ?_
  refine G_istore (lv' := [(4, .int 0), (7, .int s0), (0, .ref v0), (2, .int v2), (3, .int v3), (5, .int v5), (6, .int v6)]) (dk_at dk_X6_looks_1 15 rfl) (by decide) rfl ?_
  refine G_iload 1 (dk_at dk_X6_looks_1 16 rfl) rfl ?_
  refine G_if_eq (tgt := 119) (dk_at dk_X6_looks_1 17 rfl) (by decide) (fun c => ?_) (fun c => ?_)
  · replace h := h.1 c
    refine G_iload 6 (dk_at dk_X6_looks_1 19 rfl) rfl ?_
    refine G_iconst (v := 1) (dk_at dk_X6_looks_1 20 rfl) (by decide) ?_
    refine G_icmp_ne (tgt := 146) (dk_at dk_X6_looks_1 21 rfl) (by decide) (fun c => ?_) (fun c => ?_)
    · replace h := h.1 c
      refine G_iload 6 (dk_at dk_X6_looks_1 34 rfl) rfl ?_
      refine G_iconst (v := 1) (dk_at dk_X6_looks_1 35 rfl) (by decide) ?_
      refine G_iadd (dk_at dk_X6_looks_1 36 rfl) ?_
      refine G_iconst (v := 2) (dk_at dk_X6_looks_1 37 rfl) (by decide) ?_
      refine G_idiv (dk_at dk_X6_looks_1 38 rfl) (by decide) ?_
      refine G_istore (lv' := [(8, .int ((v6 + 1) / 2)), (4, .int 0), (7, .int s0), (0, .ref v0), (2, .int v2), (3, .int v3), (5, .int v5), (6, .int v6)]) (dk_at dk_X6_looks_1 39 rfl) (by decide) rfl ?_
      refine G_aload_n 3 (dk_at dk_X6_looks_1 40 rfl) rfl ?_
      refine K_gR gf_X6_29 (dk_at dk_X6_looks_1 41 rfl) h (fun r1 h => ?_)
      refine G_iload_n 5 (dk_at dk_X6_looks_1 42 rfl) rfl ?_
      refine G_iload 6 (dk_at dk_X6_looks_1 43 rfl) rfl ?_
      refine G_iload 0 (dk_at dk_X6_looks_1 44 rfl) rfl ?_
      refine G_iadd (dk_at dk_X6_looks_1 45 rfl) ?_
      refine K_sI (dk_at dk_X6_looks_1 46 rfl) h (fun A2 h => ?_)
      refine G_aload_n 3 (dk_at dk_X6_looks_1 47 rfl) rfl ?_
      refine K_gR gf_X6_32 (dk_at dk_X6_looks_1 48 rfl) h (fun r3 h => ?_)
      refine G_iload_n 5 (dk_at dk_X6_looks_1 49 rfl) rfl ?_
      refine G_iload 7 (dk_at dk_X6_looks_2 0 rfl) rfl ?_
      refine G_iload 0 (dk_at dk_X6_looks_2 1 rfl) rfl ?_
      refine G_isub (dk_at dk_X6_looks_2 2 rfl) ?_
      refine K_sI (dk_at dk_X6_looks_2 3 rfl) h (fun A4 h => ?_)
      refine G_aload_n 3 (dk_at dk_X6_looks_2 4 rfl) rfl ?_
      refine K_gR gf_X6_29 (dk_at dk_X6_looks_2 5 rfl) h (fun r5 h => ?_)
      refine G_iload_n 5 (dk_at dk_X6_looks_2 6 rfl) rfl ?_
      refine G_iconst (v := 1) (dk_at dk_X6_looks_2 7 rfl) (by decide) ?_
      refine G_iadd (dk_at dk_X6_looks_2 8 rfl) ?_
      refine G_iload 6 (dk_at dk_X6_looks_2 9 rfl) rfl ?_
      refine K_sI (dk_at dk_X6_looks_2 10 rfl) h (fun A6 h => ?_)
      refine G_aload_n 3 (dk_at dk_X6_looks_2 11 rfl) rfl ?_
      refine K_gR gf_X6_32 (dk_at dk_X6_looks_2 12 rfl) h (fun r7 h => ?_)
      refine G_iload_n 5 (dk_at dk_X6_looks_2 13 rfl) rfl ?_
      refine G_iconst (v := 1) (dk_at dk_X6_looks_2 14 rfl) (by decide) ?_
      refine G_iadd (dk_at dk_X6_looks_2 15 rfl) ?_
      refine G_iload 0 (dk_at dk_X6_looks_2 16 rfl) rfl ?_
      refine K_sI (dk_at dk_X6_looks_2 17 rfl) h (fun A8 h => ?_)
      refine G_iinc (v := v3 + 2) (lv' := [(3, .int (v3 + 2)), (8, .int ((v6 + 1) / 2)), (4, .int 0), (7, .int s0), (0, .ref v0), (2, .int v2), (5, .int v5), (6, .int v6)]) 5 (dk_at dk_X6_looks_2 18 rfl) rfl rfl (by decide) rfl ?_
      refine G_goto (tgt := 60) (dk_at dk_X6_looks_2 19 rfl) (by decide) ?_
      refine G_sub [4, 5, 0, 2] rfl ?_
      exact h
    · replace h := h.2 c
      refine G_aload_n 2 (dk_at dk_X6_looks_1 22 rfl) rfl ?_
      refine K_gR gf_X6_35 (dk_at dk_X6_looks_1 23 rfl) h (fun r9 h => ?_)
      refine G_iload 5 (dk_at dk_X6_looks_1 24 rfl) rfl ?_
      refine G_iconst (v := 1) (dk_at dk_X6_looks_1 25 rfl) (by decide) ?_
      refine K_sZ (dk_at dk_X6_looks_1 26 rfl) h (fun A10 h => ?_)
      refine G_aload_n 2 (dk_at dk_X6_looks_1 27 rfl) rfl ?_
      refine G_dup (dk_at dk_X6_looks_1 28 rfl) rfl ?_
      refine K_gI gf_X6_252 (dk_at dk_X6_looks_1 29 rfl) h (fun i11 h => ?_)
      refine G_iconst (v := 1) (dk_at dk_X6_looks_1 30 rfl) (by decide) ?_
      refine G_iadd (dk_at dk_X6_looks_1 31 rfl) ?_
      refine K_pI pf_X6_252 (dk_at dk_X6_looks_1 32 rfl) h (fun A12 h => ?_)
      refine G_goto (tgt := 60) (dk_at dk_X6_looks_1 33 rfl) (by decide) ?_
      refine G_sub [2, 3, 4, 0] rfl ?_
      exact h
  · replace h := h.2 c
    refine G_goto (tgt := 60) (dk_at dk_X6_looks_1 18 rfl) (by decide) ?_
    refine G_sub [2, 3, 4, 0] rfl ?_
    exact h
theorem k_X6_drops_0 {l : Launch} {X : XT} {d : Nat} {Q : Ot → AH → Prop} {A : AH} {bc bs : Nat} {v0 : Nat} {v1 : Int32} {v2 : Int32} (h : gR A v0 7 0 fun r1 => aI X A r1 (96 + v1) fun i2 => gR A v0 7 0 fun r3 => sI X A r3 (96 + v1) 0 fun A4 => gR A4 v0 7 0 fun r5 => aI X A4 r5 8 fun i6 => sI X A4 r5 8 (i6 + 1) fun A7 => (v2 = 3 → (2 ≤ (i2 - 1) → G l X M_X6_drops d Q 57 [(0, .ref v0), (1, .int v1), (3, .int (i2 - 1))] [] A7 bc bs) ∧ (¬ 2 ≤ (i2 - 1) → gR A7 v0 7 0 fun r8 => aI X A7 r8 (18 + (i2 - 1)) fun i9 => sI X A7 r8 (18 + (i2 - 1)) (i9 + 1) fun A10 => G l X M_X6_drops d Q 57 [(0, .ref v0), (1, .int v1), (3, .int (i2 - 1))] [] A10 bc bs)) ∧ (¬ v2 = 3 → Q Rv A7)) : G l X M_X6_drops d Q 0 [(0, .ref v0), (1, .int v1), (2, .int v2)] [] A bc bs := by
  refine G_aload_n 0 (dk_at dk_X6_drops 0 rfl) rfl ?_
  refine K_gR gf_X6_7 (dk_at dk_X6_drops 1 rfl) h (fun r1 h => ?_)
  refine G_bipush (v := 96) (dk_at dk_X6_drops 2 rfl) (by decide) ?_
  refine G_iload_n 1 (dk_at dk_X6_drops 3 rfl) rfl ?_
  refine G_iadd (dk_at dk_X6_drops 4 rfl) ?_
  refine K_aI (dk_at dk_X6_drops 5 rfl) h (fun i2 h => ?_)
  refine G_iconst (v := 1) (dk_at dk_X6_drops 6 rfl) (by decide) ?_
  refine G_isub (dk_at dk_X6_drops 7 rfl) ?_
  refine G_istore_n (lv' := [(3, .int (i2 - 1)), (0, .ref v0), (1, .int v1), (2, .int v2)]) (dk_at dk_X6_drops 8 rfl) (by decide) rfl ?_
  refine G_aload_n 1 (dk_at dk_X6_drops 9 rfl) rfl ?_
  refine K_gR gf_X6_7 (dk_at dk_X6_drops 10 rfl) h (fun r3 h => ?_)
  refine G_bipush (v := 96) (dk_at dk_X6_drops 11 rfl) (by decide) ?_
  refine G_iload_n 2 (dk_at dk_X6_drops 12 rfl) rfl ?_
  refine G_iadd (dk_at dk_X6_drops 13 rfl) ?_
  refine G_iconst (v := 0) (dk_at dk_X6_drops 14 rfl) (by decide) ?_
  refine K_sI (dk_at dk_X6_drops 15 rfl) h (fun A4 h => ?_)
  refine G_aload_n 1 (dk_at dk_X6_drops 16 rfl) rfl ?_
  refine K_gR gf_X6_7 (dk_at dk_X6_drops 17 rfl) h (fun r5 h => ?_)
  refine G_bipush (v := 8) (dk_at dk_X6_drops 18 rfl) (by decide) ?_
  refine G_dup2 (dk_at dk_X6_drops 19 rfl) rfl rfl ?_
  refine K_aI (dk_at dk_X6_drops 20 rfl) h (fun i6 h => ?_)
  refine G_iconst (v := 1) (dk_at dk_X6_drops 21 rfl) (by decide) ?_
  refine G_iadd (dk_at dk_X6_drops 22 rfl) ?_
  refine K_sI (dk_at dk_X6_drops 23 rfl) h (fun A7 h => ?_)
  refine G_iload_n 3 (dk_at dk_X6_drops 24 rfl) rfl ?_
  refine G_iconst (v := 3) (dk_at dk_X6_drops 25 rfl) (by decide) ?_
  refine G_icmp_eq (tgt := 39) (dk_at dk_X6_drops 26 rfl) (by decide) (fun c => ?_) (fun c => ?_)
  · replace h := h.1 c
    refine G_iload_n 0 (dk_at dk_X6_drops 28 rfl) rfl ?_
    refine G_iconst (v := 2) (dk_at dk_X6_drops 29 rfl) (by decide) ?_
    refine G_icmp_ge (tgt := 57) (dk_at dk_X6_drops 30 rfl) (by decide) (fun c => ?_) (fun c => ?_)
    · replace h := h.1 c
      refine G_sub [1, 2, 0] rfl ?_
      exact h
    · replace h := h.2 c
      refine G_aload_n 1 (dk_at dk_X6_drops 31 rfl) rfl ?_
      refine K_gR gf_X6_7 (dk_at dk_X6_drops 32 rfl) h (fun r8 h => ?_)
      refine G_bipush (v := 18) (dk_at dk_X6_drops 33 rfl) (by decide) ?_
      refine G_iload_n 0 (dk_at dk_X6_drops 34 rfl) rfl ?_
      refine G_iadd (dk_at dk_X6_drops 35 rfl) ?_
      refine G_dup2 (dk_at dk_X6_drops 36 rfl) rfl rfl ?_
      refine K_aI (dk_at dk_X6_drops 37 rfl) h (fun i9 h => ?_)
      refine G_iconst (v := 1) (dk_at dk_X6_drops 38 rfl) (by decide) ?_
      refine G_iadd (dk_at dk_X6_drops 39 rfl) ?_
      refine K_sI (dk_at dk_X6_drops 40 rfl) h (fun A10 h => ?_)
      refine G_sub [1, 2, 0] rfl ?_
      exact h
  · replace h := h.2 c
    exact G_vret rfl (dk_at dk_X6_drops 27 rfl) h
theorem k_X6_drops_57 {l : Launch} {X : XT} {d : Nat} {Q : Ot → AH → Prop} {A : AH} {bc bs : Nat} {v0 : Nat} {v1 : Int32} {v3 : Int32} (h : isO A v0 7 ∧ Cal l X d bc bs M_X6_tells [.ref v0, .int 3, .int v1, .int v3] A fun o4 A1 b2 c3 => rV o4 (fun E => Q (.inr E) A1) <| Q Rv A1) : G l X M_X6_drops d Q 57 [(0, .ref v0), (1, .int v1), (3, .int v3)] [] A bc bs := by
  refine G_aload_n 0 (dk_at dk_X6_drops 41 rfl) rfl ?_
  refine G_iconst (v := 3) (dk_at dk_X6_drops 42 rfl) (by decide) ?_
  refine G_iload_n 1 (dk_at dk_X6_drops 43 rfl) rfl ?_
  refine G_iload_n 2 (dk_at dk_X6_drops 44 rfl) rfl ?_
  obtain ⟨⟨_, ho⟩, h⟩ := h
  refine G_callV (As := [.int 3, .int v1, .int v3]) (rest := []) lk_X6_234 rfl (dk_at dk_X6_drops 45 rfl) rfl rfl (Nat.le_of_ble_eq_true rfl) ho (h.mono fun o4 A1 b2 c3 h => aftV h fun h => ?_)
  exact G_vret rfl (dk_at dk_X6_drops 46 rfl) h
theorem k_X6_searches_0 {l : Launch} {X : XT} {d : Nat} {Q : Ot → AH → Prop} {A : AH} {bc bs : Nat} {v0 : Nat} {v1 : Int32} (h : isO A v0 7 ∧ Cal l X d bc bs M_X6_looks [.ref v0, .int v1] A fun o4 A1 b2 c3 => rV o4 (fun E => Q (.inr E) A1) <| isO A1 v0 7 ∧ Cal l X d b2 c3 M_X6_firstPart [.ref v0, .int v1] A1 fun o8 A5 b6 c7 => rI o8 (fun E => Q (.inr E) A5) fun i9 => G l X M_X6_searches d Q 13 [(0, .ref v0), (1, .int v1), (2, .int i9), (3, .int 0)] [] A5 b6 c7) : G l X M_X6_searches d Q 0 [(0, .ref v0), (1, .int v1)] [] A bc bs := by
  refine G_aload_n 0 (dk_at dk_X6_searches_0 0 rfl) rfl ?_
  refine G_iload_n 1 (dk_at dk_X6_searches_0 1 rfl) rfl ?_
  obtain ⟨⟨_, ho⟩, h⟩ := h
  refine G_callV (As := [.int v1]) (rest := []) lk_X6_259 rfl (dk_at dk_X6_searches_0 2 rfl) rfl rfl (Nat.le_of_ble_eq_true rfl) ho (h.mono fun o4 A1 b2 c3 h => aftV h fun h => ?_)
  refine G_aload_n 0 (dk_at dk_X6_searches_0 3 rfl) rfl ?_
  refine G_iload_n 1 (dk_at dk_X6_searches_0 4 rfl) rfl ?_
  obtain ⟨⟨_, ho⟩, h⟩ := h
  refine G_callV (As := [.int v1]) (rest := []) lk_X6_167 rfl (dk_at dk_X6_searches_0 5 rfl) rfl rfl (Nat.le_of_ble_eq_true rfl) ho (h.mono fun o8 A5 b6 c7 h => aftI h fun i9 h => ?_)
  refine G_istore_n (lv' := [(2, .int i9), (0, .ref v0), (1, .int v1)]) (dk_at dk_X6_searches_0 6 rfl) (by decide) rfl ?_
  refine G_iconst (v := 0) (dk_at dk_X6_searches_0 7 rfl) (by decide) ?_
  refine G_istore_n (lv' := [(3, .int 0), (2, .int i9), (0, .ref v0), (1, .int v1)]) (dk_at dk_X6_searches_0 8 rfl) (by decide) rfl ?_
  refine G_sub [2, 3, 1, 0] rfl ?_
  exact h
theorem k_X6_searches_13 {l : Launch} {X : XT} {d : Nat} {Q : Ot → AH → Prop} {A : AH} {bc bs : Nat} {v0 : Nat} {v1 : Int32} {v2 : Int32} {v3 : Int32} (h : isO A v0 7 ∧ Cal l X d bc bs M_X6_partsOf [.ref v0, .int v1] A fun o4 A1 b2 c3 => rI o4 (fun E => Q (.inr E) A1) fun i5 => (i5 ≤ v3 → gI A1 v0 7 20 fun i6 => (¬ i6 = 0 → G l X M_X6_searches d Q 77 [(0, .ref v0)] [] A1 b2 c3) ∧ (i6 = 0 → isO A1 v0 7 ∧ Cal l X d b2 c3 M_X6_tells [.ref v0, .int 4, .int v1, .int 0] A1 fun o10 A7 b8 c9 => rV o10 (fun E => Q (.inr E) A7) <| G l X M_X6_searches d Q 77 [(0, .ref v0)] [] A7 b8 c9)) ∧ (¬ i5 ≤ v3 → gI A1 v0 7 20 fun i11 => (i11 = 0 → G l X M_X6_searches d Q 38 [(0, .ref v0), (1, .int v1), (2, .int v2), (3, .int v3)] [] A1 b2 c3) ∧ (¬ i11 = 0 → gR A1 v0 7 18 fun r12 => aZ X A1 r12 v3 fun i13 => (i13 = 0 → G l X M_X6_searches d Q 13 [(0, .ref v0), (1, .int v1), (2, .int v2), (3, .int (v3 + 1))] [] A1 b2 c3) ∧ (¬ i13 = 0 → G l X M_X6_searches d Q 38 [(0, .ref v0), (1, .int v1), (2, .int v2), (3, .int v3)] [] A1 b2 c3)))) : G l X M_X6_searches d Q 13 [(0, .ref v0), (1, .int v1), (2, .int v2), (3, .int v3)] [] A bc bs := by
  refine G_iload_n 3 (dk_at dk_X6_searches_0 9 rfl) rfl ?_
  refine G_aload_n 0 (dk_at dk_X6_searches_0 10 rfl) rfl ?_
  refine G_iload_n 1 (dk_at dk_X6_searches_0 11 rfl) rfl ?_
  obtain ⟨⟨_, ho⟩, h⟩ := h
  refine G_callV (As := [.int v1]) (rest := [.int v3]) lk_X6_170 rfl (dk_at dk_X6_searches_0 12 rfl) rfl rfl (Nat.le_of_ble_eq_true rfl) ho (h.mono fun o4 A1 b2 c3 h => aftI h fun i5 h => ?_)
  refine G_icmp_ge (tgt := 63) (dk_at dk_X6_searches_0 13 rfl) (by decide) (fun c => ?_) (fun c => ?_)
  · replace h := h.1 c
    refine G_aload_n 0 (dk_at dk_X6_searches_0 35 rfl) rfl ?_
    refine K_gI gf_X6_252 (dk_at dk_X6_searches_0 36 rfl) h (fun i6 h => ?_)
    refine G_if_ne (tgt := 77) (dk_at dk_X6_searches_0 37 rfl) (by decide) (fun c => ?_) (fun c => ?_)
    · replace h := h.1 c
      refine G_sub [0] rfl ?_
      exact h
    · replace h := h.2 c
      refine G_aload_n 0 (dk_at dk_X6_searches_0 38 rfl) rfl ?_
      refine G_iconst (v := 4) (dk_at dk_X6_searches_0 39 rfl) (by decide) ?_
      refine G_iload_n 1 (dk_at dk_X6_searches_0 40 rfl) rfl ?_
      refine G_iconst (v := 0) (dk_at dk_X6_searches_0 41 rfl) (by decide) ?_
      obtain ⟨⟨_, ho⟩, h⟩ := h
      refine G_callV (As := [.int 4, .int v1, .int 0]) (rest := []) lk_X6_234 rfl (dk_at dk_X6_searches_0 42 rfl) rfl rfl (Nat.le_of_ble_eq_true rfl) ho (h.mono fun o10 A7 b8 c9 h => aftV h fun h => ?_)
      refine G_sub [0] rfl ?_
      exact h
  · replace h := h.2 c
    refine G_aload_n 0 (dk_at dk_X6_searches_0 14 rfl) rfl ?_
    refine K_gI gf_X6_252 (dk_at dk_X6_searches_0 15 rfl) h (fun i11 h => ?_)
    refine G_if_eq (tgt := 38) (dk_at dk_X6_searches_0 16 rfl) (by decide) (fun c => ?_) (fun c => ?_)
    · replace h := h.1 c
      exact h
    · replace h := h.2 c
      refine G_aload_n 0 (dk_at dk_X6_searches_0 17 rfl) rfl ?_
      refine K_gR gf_X6_35 (dk_at dk_X6_searches_0 18 rfl) h (fun r12 h => ?_)
      refine G_iload_n 3 (dk_at dk_X6_searches_0 19 rfl) rfl ?_
      refine K_aZ (dk_at dk_X6_searches_0 20 rfl) h (fun i13 h => ?_)
      refine G_if_eq (tgt := 57) (dk_at dk_X6_searches_0 21 rfl) (by decide) (fun c => ?_) (fun c => ?_)
      · replace h := h.1 c
        refine G_iinc (v := v3 + 1) (lv' := [(3, .int (v3 + 1)), (0, .ref v0), (1, .int v1), (2, .int v2)]) 3 (dk_at dk_X6_searches_0 33 rfl) rfl rfl (by decide) rfl ?_
        refine G_goto (tgt := 13) (dk_at dk_X6_searches_0 34 rfl) (by decide) ?_
        refine G_sub [1, 2, 3, 0] rfl ?_
        exact h
      · replace h := h.2 c
        exact h
theorem k_X6_searches_38 {l : Launch} {X : XT} {d : Nat} {Q : Ot → AH → Prop} {A : AH} {bc bs : Nat} {v0 : Nat} {v1 : Int32} {v2 : Int32} {v3 : Int32} (h : gI A v0 7 20 fun i1 => (¬ i1 = 0 → G l X M_X6_searches d Q 54 [(0, .ref v0), (1, .int v1), (2, .int v2), (3, .int v3)] [.int 3, .int (v2 + v3), .ref v0] A bc bs) ∧ (i1 = 0 → G l X M_X6_searches d Q 54 [(0, .ref v0), (1, .int v1), (2, .int v2), (3, .int v3)] [.int 4, .int (v2 + v3), .ref v0] A bc bs)) : G l X M_X6_searches d Q 38 [(0, .ref v0), (1, .int v1), (2, .int v2), (3, .int v3)] [] A bc bs := by
  refine G_aload_n 0 (dk_at dk_X6_searches_0 22 rfl) rfl ?_
  refine G_iload_n 2 (dk_at dk_X6_searches_0 23 rfl) rfl ?_
  refine G_iload_n 3 (dk_at dk_X6_searches_0 24 rfl) rfl ?_
  refine G_iadd (dk_at dk_X6_searches_0 25 rfl) ?_
  refine G_aload_n 0 (dk_at dk_X6_searches_0 26 rfl) rfl ?_
  refine K_gI gf_X6_252 (dk_at dk_X6_searches_0 27 rfl) h (fun i1 h => ?_)
  refine G_if_ne (tgt := 53) (dk_at dk_X6_searches_0 28 rfl) (by decide) (fun c => ?_) (fun c => ?_)
  · replace h := h.1 c
    refine G_iconst (v := 3) (dk_at dk_X6_searches_0 31 rfl) (by decide) ?_
    exact h
  · replace h := h.2 c
    refine G_iconst (v := 4) (dk_at dk_X6_searches_0 29 rfl) (by decide) ?_
    refine G_goto (tgt := 54) (dk_at dk_X6_searches_0 30 rfl) (by decide) ?_
    exact h
theorem k_X6_searches_54 {l : Launch} {X : XT} {d : Nat} {Q : Ot → AH → Prop} {A : AH} {bc bs : Nat} {v0 : Nat} {v1 : Int32} {v2 : Int32} {v3 : Int32} {s0 : Int32} {s1 : Int32} {s2 : Nat} (h : isO A s2 7 ∧ Cal l X d bc bs M_X6_drops [.ref s2, .int s1, .int s0] A fun o4 A1 b2 c3 => rV o4 (fun E => Q (.inr E) A1) <| G l X M_X6_searches d Q 13 [(0, .ref v0), (1, .int v1), (2, .int v2), (3, .int (v3 + 1))] [] A1 b2 c3) : G l X M_X6_searches d Q 54 [(0, .ref v0), (1, .int v1), (2, .int v2), (3, .int v3)] [.int s0, .int s1, .ref s2] A bc bs := by
  obtain ⟨⟨_, ho⟩, h⟩ := h
  refine G_callV (As := [.int s1, .int s0]) (rest := []) lk_X6_262 rfl (dk_at dk_X6_searches_0 32 rfl) rfl rfl (Nat.le_of_ble_eq_true rfl) ho (h.mono fun o4 A1 b2 c3 h => aftV h fun h => ?_)
  refine G_iinc (v := v3 + 1) (lv' := [(3, .int (v3 + 1)), (0, .ref v0), (1, .int v1), (2, .int v2)]) 3 (dk_at dk_X6_searches_0 33 rfl) rfl rfl (by decide) rfl ?_
  refine G_goto (tgt := 13) (dk_at dk_X6_searches_0 34 rfl) (by decide) ?_
  refine G_sub [1, 2, 3, 0] rfl ?_
  exact h
theorem k_X6_searches_77 {l : Launch} {X : XT} {d : Nat} {Q : Ot → AH → Prop} {A : AH} {bc bs : Nat} {v0 : Nat} (h : gR A v0 7 0 fun r1 => aI X A r1 6 fun i2 => gI A v0 7 19 fun i3 => sI X A r1 6 (i2 + i3) fun A4 => gR A4 v0 7 0 fun r5 => aI X A4 r5 13 fun i6 => (¬ i6 = 0 → G l X M_X6_searches d Q 147 [(0, .ref v0)] [] A4 bc bs) ∧ (i6 = 0 → gR A4 v0 7 0 fun r7 => aI X A4 r7 19 fun i8 => gR A4 v0 7 0 fun r9 => aI X A4 r9 4 fun i10 => (i8 < i10 → G l X M_X6_searches d Q 147 [(0, .ref v0)] [] A4 bc bs) ∧ (¬ i8 < i10 → gR A4 v0 7 0 fun r11 => sI X A4 r11 13 1 fun A12 => gR A12 v0 7 0 fun r13 => sI X A12 r13 15 0 fun A14 => gR A14 v0 7 0 fun r15 => aI X A14 r15 19 fun i16 => isO A14 v0 7 ∧ Cal l X d bc bs M_X6_tells [.ref v0, .int 6, .int 1, .int i16] A14 fun o20 A17 b18 c19 => rV o20 (fun E => Q (.inr E) A17) <| G l X M_X6_searches d Q 147 [(0, .ref v0)] [] A17 b18 c19))) : G l X M_X6_searches d Q 77 [(0, .ref v0)] [] A bc bs := by
  refine G_aload_n 0 (dk_at dk_X6_searches_0 43 rfl) rfl ?_
  refine K_gR gf_X6_7 (dk_at dk_X6_searches_0 44 rfl) h (fun r1 h => ?_)
  refine G_bipush (v := 6) (dk_at dk_X6_searches_0 45 rfl) (by decide) ?_
  refine G_dup2 (dk_at dk_X6_searches_0 46 rfl) rfl rfl ?_
  refine K_aI (dk_at dk_X6_searches_0 47 rfl) h (fun i2 h => ?_)
  refine G_aload_n 0 (dk_at dk_X6_searches_0 48 rfl) rfl ?_
  refine K_gI gf_X6_249 (dk_at dk_X6_searches_0 49 rfl) h (fun i3 h => ?_)
  refine G_iadd (dk_at dk_X6_searches_1 0 rfl) ?_
  refine K_sI (dk_at dk_X6_searches_1 1 rfl) h (fun A4 h => ?_)
  refine G_aload_n 0 (dk_at dk_X6_searches_1 2 rfl) rfl ?_
  refine K_gR gf_X6_7 (dk_at dk_X6_searches_1 3 rfl) h (fun r5 h => ?_)
  refine G_bipush (v := 13) (dk_at dk_X6_searches_1 4 rfl) (by decide) ?_
  refine K_aI (dk_at dk_X6_searches_1 5 rfl) h (fun i6 h => ?_)
  refine G_if_ne (tgt := 147) (dk_at dk_X6_searches_1 6 rfl) (by decide) (fun c => ?_) (fun c => ?_)
  · replace h := h.1 c
    exact h
  · replace h := h.2 c
    refine G_aload_n 0 (dk_at dk_X6_searches_1 7 rfl) rfl ?_
    refine K_gR gf_X6_7 (dk_at dk_X6_searches_1 8 rfl) h (fun r7 h => ?_)
    refine G_bipush (v := 19) (dk_at dk_X6_searches_1 9 rfl) (by decide) ?_
    refine K_aI (dk_at dk_X6_searches_1 10 rfl) h (fun i8 h => ?_)
    refine G_aload_n 0 (dk_at dk_X6_searches_1 11 rfl) rfl ?_
    refine K_gR gf_X6_7 (dk_at dk_X6_searches_1 12 rfl) h (fun r9 h => ?_)
    refine G_iconst (v := 4) (dk_at dk_X6_searches_1 13 rfl) (by decide) ?_
    refine K_aI (dk_at dk_X6_searches_1 14 rfl) h (fun i10 h => ?_)
    refine G_icmp_lt (tgt := 147) (dk_at dk_X6_searches_1 15 rfl) (by decide) (fun c => ?_) (fun c => ?_)
    · replace h := h.1 c
      exact h
    · replace h := h.2 c
      refine G_aload_n 0 (dk_at dk_X6_searches_1 16 rfl) rfl ?_
      refine K_gR gf_X6_7 (dk_at dk_X6_searches_1 17 rfl) h (fun r11 h => ?_)
      refine G_bipush (v := 13) (dk_at dk_X6_searches_1 18 rfl) (by decide) ?_
      refine G_iconst (v := 1) (dk_at dk_X6_searches_1 19 rfl) (by decide) ?_
      refine K_sI (dk_at dk_X6_searches_1 20 rfl) h (fun A12 h => ?_)
      refine G_aload_n 0 (dk_at dk_X6_searches_1 21 rfl) rfl ?_
      refine K_gR gf_X6_7 (dk_at dk_X6_searches_1 22 rfl) h (fun r13 h => ?_)
      refine G_bipush (v := 15) (dk_at dk_X6_searches_1 23 rfl) (by decide) ?_
      refine G_iconst (v := 0) (dk_at dk_X6_searches_1 24 rfl) (by decide) ?_
      refine K_sI (dk_at dk_X6_searches_1 25 rfl) h (fun A14 h => ?_)
      refine G_aload_n 0 (dk_at dk_X6_searches_1 26 rfl) rfl ?_
      refine G_bipush (v := 6) (dk_at dk_X6_searches_1 27 rfl) (by decide) ?_
      refine G_iconst (v := 1) (dk_at dk_X6_searches_1 28 rfl) (by decide) ?_
      refine G_aload_n 0 (dk_at dk_X6_searches_1 29 rfl) rfl ?_
      refine K_gR gf_X6_7 (dk_at dk_X6_searches_1 30 rfl) h (fun r15 h => ?_)
      refine G_bipush (v := 19) (dk_at dk_X6_searches_1 31 rfl) (by decide) ?_
      refine K_aI (dk_at dk_X6_searches_1 32 rfl) h (fun i16 h => ?_)
      obtain ⟨⟨_, ho⟩, h⟩ := h
      refine G_callV (As := [.int 6, .int 1, .int i16]) (rest := []) lk_X6_234 rfl (dk_at dk_X6_searches_1 33 rfl) rfl rfl (Nat.le_of_ble_eq_true rfl) ho (h.mono fun o20 A17 b18 c19 h => aftV h fun h => ?_)
      exact h
theorem k_X6_searches_147 {l : Launch} {X : XT} {d : Nat} {Q : Ot → AH → Prop} {A : AH} {bc bs : Nat} {v0 : Nat} (h : gI A v0 7 19 fun i1 => Q (Ri i1) A) : G l X M_X6_searches d Q 147 [(0, .ref v0)] [] A bc bs := by
  refine G_aload_n 0 (dk_at dk_X6_searches_1 34 rfl) rfl ?_
  refine K_gI gf_X6_249 (dk_at dk_X6_searches_1 35 rfl) h (fun i1 h => ?_)
  exact G_iret (ty := .int) rfl rfl (dk_at dk_X6_searches_1 36 rfl) h
theorem k_X6_search_0 {l : Launch} {X : XT} {d : Nat} {Q : Ot → AH → Prop} {A : AH} {bc bs : Nat} {v0 : Nat} {v1 : Int32} (h : isO A v0 7 ∧ Cal l X d bc bs M_X6_isPiece [.ref v0, .int v1] A fun o4 A1 b2 c3 => rI o4 (fun E => Q (.inr E) A1) fun i5 => (¬ i5 = 0 → isO A1 v0 7 ∧ Cal l X d b2 c3 M_X6_stateOf [.ref v0, .int v1] A1 fun o9 A6 b7 c8 => rI o9 (fun E => Q (.inr E) A6) fun i10 => (¬ i10 = 2 → G l X M_X6_search d Q 37 [(0, .ref v0), (1, .int v1)] [.int 2, .ref v0] A6 b7 c8) ∧ (i10 = 2 → gR A6 v0 7 0 fun r11 => aI X A6 r11 14 fun i12 => (¬ i12 = 0 → G l X M_X6_search d Q 37 [(0, .ref v0), (1, .int v1)] [.int 0, .ref v0] A6 b7 c8) ∧ (i12 = 0 → G l X M_X6_search d Q 37 [(0, .ref v0), (1, .int v1)] [.int 2, .ref v0] A6 b7 c8))) ∧ (i5 = 0 → G l X M_X6_search d Q 37 [(0, .ref v0), (1, .int v1)] [.int 1, .ref v0] A1 b2 c3)) : G l X M_X6_search d Q 0 [(0, .ref v0), (1, .int v1)] [] A bc bs := by
  refine G_aload_n 0 (dk_at dk_X6_search 0 rfl) rfl ?_
  refine G_aload_n 0 (dk_at dk_X6_search 1 rfl) rfl ?_
  refine G_iload_n 1 (dk_at dk_X6_search 2 rfl) rfl ?_
  obtain ⟨⟨_, ho⟩, h⟩ := h
  refine G_callV (As := [.int v1]) (rest := [.ref v0]) lk_X6_216 rfl (dk_at dk_X6_search 3 rfl) rfl rfl (Nat.le_of_ble_eq_true rfl) ho (h.mono fun o4 A1 b2 c3 h => aftI h fun i5 h => ?_)
  refine G_if_ne (tgt := 13) (dk_at dk_X6_search 4 rfl) (by decide) (fun c => ?_) (fun c => ?_)
  · replace h := h.1 c
    refine G_aload_n 0 (dk_at dk_X6_search 7 rfl) rfl ?_
    refine G_iload_n 1 (dk_at dk_X6_search 8 rfl) rfl ?_
    obtain ⟨⟨_, ho⟩, h⟩ := h
    refine G_callV (As := [.int v1]) (rest := [.ref v0]) lk_X6_195 rfl (dk_at dk_X6_search 9 rfl) rfl rfl (Nat.le_of_ble_eq_true rfl) ho (h.mono fun o9 A6 b7 c8 h => aftI h fun i10 h => ?_)
    refine G_iconst (v := 2) (dk_at dk_X6_search 10 rfl) (by decide) ?_
    refine G_icmp_ne (tgt := 32) (dk_at dk_X6_search 11 rfl) (by decide) (fun c => ?_) (fun c => ?_)
    · replace h := h.1 c
      refine G_iconst (v := 2) (dk_at dk_X6_search 17 rfl) (by decide) ?_
      refine G_goto (tgt := 37) (dk_at dk_X6_search 18 rfl) (by decide) ?_
      exact h
    · replace h := h.2 c
      refine G_aload_n 0 (dk_at dk_X6_search 12 rfl) rfl ?_
      refine K_gR gf_X6_7 (dk_at dk_X6_search 13 rfl) h (fun r11 h => ?_)
      refine G_bipush (v := 14) (dk_at dk_X6_search 14 rfl) (by decide) ?_
      refine K_aI (dk_at dk_X6_search 15 rfl) h (fun i12 h => ?_)
      refine G_if_ne (tgt := 36) (dk_at dk_X6_search 16 rfl) (by decide) (fun c => ?_) (fun c => ?_)
      · replace h := h.1 c
        refine G_iconst (v := 0) (dk_at dk_X6_search 19 rfl) (by decide) ?_
        exact h
      · replace h := h.2 c
        refine G_iconst (v := 2) (dk_at dk_X6_search 17 rfl) (by decide) ?_
        refine G_goto (tgt := 37) (dk_at dk_X6_search 18 rfl) (by decide) ?_
        exact h
  · replace h := h.2 c
    refine G_iconst (v := 1) (dk_at dk_X6_search 5 rfl) (by decide) ?_
    refine G_goto (tgt := 37) (dk_at dk_X6_search 6 rfl) (by decide) ?_
    exact h
theorem k_X6_search_37 {l : Launch} {X : XT} {d : Nat} {Q : Ot → AH → Prop} {A : AH} {bc bs : Nat} {v0 : Nat} {v1 : Int32} {s0 : Int32} {s1 : Nat} (h : pV A s1 7 5 (.int s0) fun A1 => gI A1 v0 7 5 fun i2 => (i2 ≤ 0 → isO A1 v0 7 ∧ Cal l X d bc bs M_X6_keeps [.ref v0] A1 fun o6 A3 b4 c5 => rV o6 (fun E => Q (.inr E) A3) <| isO A3 v0 7 ∧ Cal l X d b4 c5 M_X6_searches [.ref v0, .int v1] A3 fun o10 A7 b8 c9 => rI o10 (fun E => Q (.inr E) A7) fun i11 => Q (Ri i11) A7) ∧ (¬ i2 ≤ 0 → Q (Ri 0) A1)) : G l X M_X6_search d Q 37 [(0, .ref v0), (1, .int v1)] [.int s0, .ref s1] A bc bs := by
  refine K_pI pf_X6_50 (dk_at dk_X6_search 20 rfl) h (fun A1 h => ?_)
  refine G_aload_n 0 (dk_at dk_X6_search 21 rfl) rfl ?_
  refine K_gI gf_X6_50 (dk_at dk_X6_search 22 rfl) h (fun i2 h => ?_)
  refine G_if_le (tgt := 49) (dk_at dk_X6_search 23 rfl) (by decide) (fun c => ?_) (fun c => ?_)
  · replace h := h.1 c
    refine G_aload_n 0 (dk_at dk_X6_search 26 rfl) rfl ?_
    obtain ⟨⟨_, ho⟩, h⟩ := h
    refine G_callV (As := []) (rest := []) lk_X6_153 rfl (dk_at dk_X6_search 27 rfl) rfl rfl (Nat.le_of_ble_eq_true rfl) ho (h.mono fun o6 A3 b4 c5 h => aftV h fun h => ?_)
    refine G_aload_n 0 (dk_at dk_X6_search 28 rfl) rfl ?_
    refine G_iload_n 1 (dk_at dk_X6_search 29 rfl) rfl ?_
    obtain ⟨⟨_, ho⟩, h⟩ := h
    refine G_callV (As := [.int v1]) (rest := []) lk_X6_265 rfl (dk_at dk_X6_search 30 rfl) rfl rfl (Nat.le_of_ble_eq_true rfl) ho (h.mono fun o10 A7 b8 c9 h => aftI h fun i11 h => ?_)
    exact G_iret (ty := .int) rfl rfl (dk_at dk_X6_search 31 rfl) h
  · replace h := h.2 c
    refine G_iconst (v := 0) (dk_at dk_X6_search 24 rfl) (by decide) ?_
    exact G_iret (ty := .int) rfl rfl (dk_at dk_X6_search 25 rfl) h
theorem k_X6_queriesFor_0 {l : Launch} {X : XT} {d : Nat} {Q : Ot → AH → Prop} {A : AH} {bc bs : Nat} {v0 : Nat} {v1 : Int32} (h : isO A v0 7 ∧ Cal l X d bc bs M_X6_isPiece [.ref v0, .int v1] A fun o4 A1 b2 c3 => rI o4 (fun E => Q (.inr E) A1) fun i5 => (¬ i5 = 0 → isO A1 v0 7 ∧ Cal l X d b2 c3 M_X6_stateOf [.ref v0, .int v1] A1 fun o9 A6 b7 c8 => rI o9 (fun E => Q (.inr E) A6) fun i10 => (i10 = 2 → G l X M_X6_queriesFor d Q 27 [(0, .ref v0), (1, .int v1)] [.int 0, .ref v0] A6 b7 c8) ∧ (¬ i10 = 2 → G l X M_X6_queriesFor d Q 27 [(0, .ref v0), (1, .int v1)] [.int 2, .ref v0] A6 b7 c8)) ∧ (i5 = 0 → G l X M_X6_queriesFor d Q 27 [(0, .ref v0), (1, .int v1)] [.int 1, .ref v0] A1 b2 c3)) : G l X M_X6_queriesFor d Q 0 [(0, .ref v0), (1, .int v1)] [] A bc bs := by
  refine G_aload_n 0 (dk_at dk_X6_queriesFor 0 rfl) rfl ?_
  refine G_aload_n 0 (dk_at dk_X6_queriesFor 1 rfl) rfl ?_
  refine G_iload_n 1 (dk_at dk_X6_queriesFor 2 rfl) rfl ?_
  obtain ⟨⟨_, ho⟩, h⟩ := h
  refine G_callV (As := [.int v1]) (rest := [.ref v0]) lk_X6_216 rfl (dk_at dk_X6_queriesFor 3 rfl) rfl rfl (Nat.le_of_ble_eq_true rfl) ho (h.mono fun o4 A1 b2 c3 h => aftI h fun i5 h => ?_)
  refine G_if_ne (tgt := 13) (dk_at dk_X6_queriesFor 4 rfl) (by decide) (fun c => ?_) (fun c => ?_)
  · replace h := h.1 c
    refine G_aload_n 0 (dk_at dk_X6_queriesFor 7 rfl) rfl ?_
    refine G_iload_n 1 (dk_at dk_X6_queriesFor 8 rfl) rfl ?_
    obtain ⟨⟨_, ho⟩, h⟩ := h
    refine G_callV (As := [.int v1]) (rest := [.ref v0]) lk_X6_195 rfl (dk_at dk_X6_queriesFor 9 rfl) rfl rfl (Nat.le_of_ble_eq_true rfl) ho (h.mono fun o9 A6 b7 c8 h => aftI h fun i10 h => ?_)
    refine G_iconst (v := 2) (dk_at dk_X6_queriesFor 10 rfl) (by decide) ?_
    refine G_icmp_eq (tgt := 26) (dk_at dk_X6_queriesFor 11 rfl) (by decide) (fun c => ?_) (fun c => ?_)
    · replace h := h.1 c
      refine G_iconst (v := 0) (dk_at dk_X6_queriesFor 14 rfl) (by decide) ?_
      exact h
    · replace h := h.2 c
      refine G_iconst (v := 2) (dk_at dk_X6_queriesFor 12 rfl) (by decide) ?_
      refine G_goto (tgt := 27) (dk_at dk_X6_queriesFor 13 rfl) (by decide) ?_
      exact h
  · replace h := h.2 c
    refine G_iconst (v := 1) (dk_at dk_X6_queriesFor 5 rfl) (by decide) ?_
    refine G_goto (tgt := 27) (dk_at dk_X6_queriesFor 6 rfl) (by decide) ?_
    exact h
theorem k_X6_queriesFor_27 {l : Launch} {X : XT} {d : Nat} {Q : Ot → AH → Prop} {A : AH} {bc bs : Nat} {v0 : Nat} {v1 : Int32} {s0 : Int32} {s1 : Nat} (h : pV A s1 7 5 (.int s0) fun A1 => gI A1 v0 7 5 fun i2 => (i2 ≤ 0 → isO A1 v0 7 ∧ Cal l X d bc bs M_X6_looks [.ref v0, .int v1] A1 fun o6 A3 b4 c5 => rV o6 (fun E => Q (.inr E) A3) <| gI A3 v0 7 19 fun i7 => Q (Ri i7) A3) ∧ (¬ i2 ≤ 0 → Q (Ri 0) A1)) : G l X M_X6_queriesFor d Q 27 [(0, .ref v0), (1, .int v1)] [.int s0, .ref s1] A bc bs := by
  refine K_pI pf_X6_50 (dk_at dk_X6_queriesFor 15 rfl) h (fun A1 h => ?_)
  refine G_aload_n 0 (dk_at dk_X6_queriesFor 16 rfl) rfl ?_
  refine K_gI gf_X6_50 (dk_at dk_X6_queriesFor 17 rfl) h (fun i2 h => ?_)
  refine G_if_le (tgt := 39) (dk_at dk_X6_queriesFor 18 rfl) (by decide) (fun c => ?_) (fun c => ?_)
  · replace h := h.1 c
    refine G_aload_n 0 (dk_at dk_X6_queriesFor 21 rfl) rfl ?_
    refine G_iload_n 1 (dk_at dk_X6_queriesFor 22 rfl) rfl ?_
    obtain ⟨⟨_, ho⟩, h⟩ := h
    refine G_callV (As := [.int v1]) (rest := []) lk_X6_259 rfl (dk_at dk_X6_queriesFor 23 rfl) rfl rfl (Nat.le_of_ble_eq_true rfl) ho (h.mono fun o6 A3 b4 c5 h => aftV h fun h => ?_)
    refine G_aload_n 0 (dk_at dk_X6_queriesFor 24 rfl) rfl ?_
    refine K_gI gf_X6_249 (dk_at dk_X6_queriesFor 25 rfl) h (fun i7 h => ?_)
    exact G_iret (ty := .int) rfl rfl (dk_at dk_X6_queriesFor 26 rfl) h
  · replace h := h.2 c
    refine G_iconst (v := 0) (dk_at dk_X6_queriesFor 19 rfl) (by decide) ?_
    exact G_iret (ty := .int) rfl rfl (dk_at dk_X6_queriesFor 20 rfl) h
theorem k_X6_drop_0 {l : Launch} {X : XT} {d : Nat} {Q : Ot → AH → Prop} {A : AH} {bc bs : Nat} {v0 : Nat} {v1 : Int32} (h : isO A v0 7 ∧ Cal l X d bc bs M_X6_isPart [.ref v0, .int v1] A fun o4 A1 b2 c3 => rI o4 (fun E => Q (.inr E) A1) fun i5 => (¬ i5 = 0 → isO A1 v0 7 ∧ Cal l X d b2 c3 M_X6_isMissing [.ref v0, .int v1] A1 fun o9 A6 b7 c8 => rI o9 (fun E => Q (.inr E) A6) fun i10 => (i10 = 0 → G l X M_X6_drop d Q 26 [(0, .ref v0), (1, .int v1)] [.int 0, .ref v0] A6 b7 c8) ∧ (¬ i10 = 0 → G l X M_X6_drop d Q 26 [(0, .ref v0), (1, .int v1)] [.int 2, .ref v0] A6 b7 c8)) ∧ (i5 = 0 → G l X M_X6_drop d Q 26 [(0, .ref v0), (1, .int v1)] [.int 1, .ref v0] A1 b2 c3)) : G l X M_X6_drop d Q 0 [(0, .ref v0), (1, .int v1)] [] A bc bs := by
  refine G_aload_n 0 (dk_at dk_X6_drop 0 rfl) rfl ?_
  refine G_aload_n 0 (dk_at dk_X6_drop 1 rfl) rfl ?_
  refine G_iload_n 1 (dk_at dk_X6_drop 2 rfl) rfl ?_
  obtain ⟨⟨_, ho⟩, h⟩ := h
  refine G_callV (As := [.int v1]) (rest := [.ref v0]) lk_X6_222 rfl (dk_at dk_X6_drop 3 rfl) rfl rfl (Nat.le_of_ble_eq_true rfl) ho (h.mono fun o4 A1 b2 c3 h => aftI h fun i5 h => ?_)
  refine G_if_ne (tgt := 13) (dk_at dk_X6_drop 4 rfl) (by decide) (fun c => ?_) (fun c => ?_)
  · replace h := h.1 c
    refine G_aload_n 0 (dk_at dk_X6_drop 7 rfl) rfl ?_
    refine G_iload_n 1 (dk_at dk_X6_drop 8 rfl) rfl ?_
    obtain ⟨⟨_, ho⟩, h⟩ := h
    refine G_callV (As := [.int v1]) (rest := [.ref v0]) lk_X6_179 rfl (dk_at dk_X6_drop 9 rfl) rfl rfl (Nat.le_of_ble_eq_true rfl) ho (h.mono fun o9 A6 b7 c8 h => aftI h fun i10 h => ?_)
    refine G_if_eq (tgt := 25) (dk_at dk_X6_drop 10 rfl) (by decide) (fun c => ?_) (fun c => ?_)
    · replace h := h.1 c
      refine G_iconst (v := 0) (dk_at dk_X6_drop 13 rfl) (by decide) ?_
      exact h
    · replace h := h.2 c
      refine G_iconst (v := 2) (dk_at dk_X6_drop 11 rfl) (by decide) ?_
      refine G_goto (tgt := 26) (dk_at dk_X6_drop 12 rfl) (by decide) ?_
      exact h
  · replace h := h.2 c
    refine G_iconst (v := 1) (dk_at dk_X6_drop 5 rfl) (by decide) ?_
    refine G_goto (tgt := 26) (dk_at dk_X6_drop 6 rfl) (by decide) ?_
    exact h
theorem k_X6_drop_26 {l : Launch} {X : XT} {d : Nat} {Q : Ot → AH → Prop} {A : AH} {bc bs : Nat} {v0 : Nat} {v1 : Int32} {s0 : Int32} {s1 : Nat} (h : pV A s1 7 5 (.int s0) fun A1 => gI A1 v0 7 5 fun i2 => (i2 ≤ 0 → isO A1 v0 7 ∧ Cal l X d bc bs M_X6_keeps [.ref v0] A1 fun o6 A3 b4 c5 => rV o6 (fun E => Q (.inr E) A3) <| gR A3 v0 7 0 fun r7 => aI X A3 r7 (96 + v1) fun i8 => gR A3 v0 7 0 fun r9 => sI X A3 r9 (96 + v1) 0 fun A10 => Q (Ri (i8 - 1)) A10) ∧ (¬ i2 ≤ 0 → Q (Ri 0) A1)) : G l X M_X6_drop d Q 26 [(0, .ref v0), (1, .int v1)] [.int s0, .ref s1] A bc bs := by
  refine K_pI pf_X6_50 (dk_at dk_X6_drop 14 rfl) h (fun A1 h => ?_)
  refine G_aload_n 0 (dk_at dk_X6_drop 15 rfl) rfl ?_
  refine K_gI gf_X6_50 (dk_at dk_X6_drop 16 rfl) h (fun i2 h => ?_)
  refine G_if_le (tgt := 38) (dk_at dk_X6_drop 17 rfl) (by decide) (fun c => ?_) (fun c => ?_)
  · replace h := h.1 c
    refine G_aload_n 0 (dk_at dk_X6_drop 20 rfl) rfl ?_
    obtain ⟨⟨_, ho⟩, h⟩ := h
    refine G_callV (As := []) (rest := []) lk_X6_153 rfl (dk_at dk_X6_drop 21 rfl) rfl rfl (Nat.le_of_ble_eq_true rfl) ho (h.mono fun o6 A3 b4 c5 h => aftV h fun h => ?_)
    refine G_aload_n 0 (dk_at dk_X6_drop 22 rfl) rfl ?_
    refine K_gR gf_X6_7 (dk_at dk_X6_drop 23 rfl) h (fun r7 h => ?_)
    refine G_bipush (v := 96) (dk_at dk_X6_drop 24 rfl) (by decide) ?_
    refine G_iload_n 1 (dk_at dk_X6_drop 25 rfl) rfl ?_
    refine G_iadd (dk_at dk_X6_drop 26 rfl) ?_
    refine K_aI (dk_at dk_X6_drop 27 rfl) h (fun i8 h => ?_)
    refine G_iconst (v := 1) (dk_at dk_X6_drop 28 rfl) (by decide) ?_
    refine G_isub (dk_at dk_X6_drop 29 rfl) ?_
    refine G_istore_n (lv' := [(2, .int (i8 - 1)), (0, .ref v0), (1, .int v1)]) (dk_at dk_X6_drop 30 rfl) (by decide) rfl ?_
    refine G_aload_n 1 (dk_at dk_X6_drop 31 rfl) rfl ?_
    refine K_gR gf_X6_7 (dk_at dk_X6_drop 32 rfl) h (fun r9 h => ?_)
    refine G_bipush (v := 96) (dk_at dk_X6_drop 33 rfl) (by decide) ?_
    refine G_iload_n 2 (dk_at dk_X6_drop 34 rfl) rfl ?_
    refine G_iadd (dk_at dk_X6_drop 35 rfl) ?_
    refine G_iconst (v := 0) (dk_at dk_X6_drop 36 rfl) (by decide) ?_
    refine K_sI (dk_at dk_X6_drop 37 rfl) h (fun A10 h => ?_)
    refine G_iload_n 0 (dk_at dk_X6_drop 38 rfl) rfl ?_
    exact G_iret (ty := .int) rfl rfl (dk_at dk_X6_drop 39 rfl) h
  · replace h := h.2 c
    refine G_iconst (v := 0) (dk_at dk_X6_drop 18 rfl) (by decide) ?_
    exact G_iret (ty := .int) rfl rfl (dk_at dk_X6_drop 19 rfl) h
theorem k_X6_lowestMissing_0 {l : Launch} {X : XT} {d : Nat} {Q : Ot → AH → Prop} {A : AH} {bc bs : Nat} {v0 : Nat} (h : G l X M_X6_lowestMissing d Q 2 [(0, .ref v0), (1, .int 0)] [] A bc bs) : G l X M_X6_lowestMissing d Q 0 [(0, .ref v0)] [] A bc bs := by
  refine G_iconst (v := 0) (dk_at dk_X6_lowestMissing 0 rfl) (by decide) ?_
  refine G_istore_n (lv' := [(1, .int 0), (0, .ref v0)]) (dk_at dk_X6_lowestMissing 1 rfl) (by decide) rfl ?_
  refine G_sub [1, 0] rfl ?_
  exact h
theorem k_X6_lowestMissing_2 {l : Launch} {X : XT} {d : Nat} {Q : Ot → AH → Prop} {A : AH} {bc bs : Nat} {v0 : Nat} {v1 : Int32} (h : isO A v0 7 ∧ Cal l X d bc bs M_X6_parts [.ref v0] A fun o4 A1 b2 c3 => rI o4 (fun E => Q (.inr E) A1) fun i5 => (i5 ≤ v1 → Q (Ri ((-1))) A1) ∧ (¬ i5 ≤ v1 → isO A1 v0 7 ∧ Cal l X d b2 c3 M_X6_isMissing [.ref v0, .int v1] A1 fun o9 A6 b7 c8 => rI o9 (fun E => Q (.inr E) A6) fun i10 => (i10 = 0 → G l X M_X6_lowestMissing d Q 2 [(0, .ref v0), (1, .int (v1 + 1))] [] A6 b7 c8) ∧ (¬ i10 = 0 → Q (Ri v1) A6))) : G l X M_X6_lowestMissing d Q 2 [(0, .ref v0), (1, .int v1)] [] A bc bs := by
  refine G_iload_n 1 (dk_at dk_X6_lowestMissing 2 rfl) rfl ?_
  refine G_aload_n 0 (dk_at dk_X6_lowestMissing 3 rfl) rfl ?_
  obtain ⟨⟨_, ho⟩, h⟩ := h
  refine G_callV (As := []) (rest := [.int v1]) lk_X6_156 rfl (dk_at dk_X6_lowestMissing 4 rfl) rfl rfl (Nat.le_of_ble_eq_true rfl) ho (h.mono fun o4 A1 b2 c3 h => aftI h fun i5 h => ?_)
  refine G_icmp_ge (tgt := 26) (dk_at dk_X6_lowestMissing 5 rfl) (by decide) (fun c => ?_) (fun c => ?_)
  · replace h := h.1 c
    refine G_iconst (v := (-1)) (dk_at dk_X6_lowestMissing 14 rfl) (by decide) ?_
    exact G_iret (ty := .int) rfl rfl (dk_at dk_X6_lowestMissing 15 rfl) h
  · replace h := h.2 c
    refine G_aload_n 0 (dk_at dk_X6_lowestMissing 6 rfl) rfl ?_
    refine G_iload_n 1 (dk_at dk_X6_lowestMissing 7 rfl) rfl ?_
    obtain ⟨⟨_, ho⟩, h⟩ := h
    refine G_callV (As := [.int v1]) (rest := []) lk_X6_179 rfl (dk_at dk_X6_lowestMissing 8 rfl) rfl rfl (Nat.le_of_ble_eq_true rfl) ho (h.mono fun o9 A6 b7 c8 h => aftI h fun i10 h => ?_)
    refine G_if_eq (tgt := 20) (dk_at dk_X6_lowestMissing 9 rfl) (by decide) (fun c => ?_) (fun c => ?_)
    · replace h := h.1 c
      refine G_iinc (v := v1 + 1) (lv' := [(1, .int (v1 + 1)), (0, .ref v0)]) 1 (dk_at dk_X6_lowestMissing 12 rfl) rfl rfl (by decide) rfl ?_
      refine G_goto (tgt := 2) (dk_at dk_X6_lowestMissing 13 rfl) (by decide) ?_
      refine G_sub [1, 0] rfl ?_
      exact h
    · replace h := h.2 c
      refine G_iload_n 1 (dk_at dk_X6_lowestMissing 10 rfl) rfl ?_
      exact G_iret (ty := .int) rfl rfl (dk_at dk_X6_lowestMissing 11 rfl) h
theorem k_X6_highestMissing_0 {l : Launch} {X : XT} {d : Nat} {Q : Ot → AH → Prop} {A : AH} {bc bs : Nat} {v0 : Nat} (h : isO A v0 7 ∧ Cal l X d bc bs M_X6_parts [.ref v0] A fun o4 A1 b2 c3 => rI o4 (fun E => Q (.inr E) A1) fun i5 => G l X M_X6_highestMissing d Q 7 [(0, .ref v0), (1, .int (i5 - 1))] [] A1 b2 c3) : G l X M_X6_highestMissing d Q 0 [(0, .ref v0)] [] A bc bs := by
  refine G_aload_n 0 (dk_at dk_X6_highestMissing 0 rfl) rfl ?_
  obtain ⟨⟨_, ho⟩, h⟩ := h
  refine G_callV (As := []) (rest := []) lk_X6_156 rfl (dk_at dk_X6_highestMissing 1 rfl) rfl rfl (Nat.le_of_ble_eq_true rfl) ho (h.mono fun o4 A1 b2 c3 h => aftI h fun i5 h => ?_)
  refine G_iconst (v := 1) (dk_at dk_X6_highestMissing 2 rfl) (by decide) ?_
  refine G_isub (dk_at dk_X6_highestMissing 3 rfl) ?_
  refine G_istore_n (lv' := [(1, .int (i5 - 1)), (0, .ref v0)]) (dk_at dk_X6_highestMissing 4 rfl) (by decide) rfl ?_
  refine G_sub [1, 0] rfl ?_
  exact h
theorem k_X6_highestMissing_7 {l : Launch} {X : XT} {d : Nat} {Q : Ot → AH → Prop} {A : AH} {bc bs : Nat} {v0 : Nat} {v1 : Int32} (h : (v1 < 0 → Q (Ri ((-1))) A) ∧ (¬ v1 < 0 → isO A v0 7 ∧ Cal l X d bc bs M_X6_isMissing [.ref v0, .int v1] A fun o4 A1 b2 c3 => rI o4 (fun E => Q (.inr E) A1) fun i5 => (i5 = 0 → G l X M_X6_highestMissing d Q 7 [(0, .ref v0), (1, .int (v1 + (-1)))] [] A1 b2 c3) ∧ (¬ i5 = 0 → Q (Ri v1) A1))) : G l X M_X6_highestMissing d Q 7 [(0, .ref v0), (1, .int v1)] [] A bc bs := by
  refine G_iload_n 1 (dk_at dk_X6_highestMissing 5 rfl) rfl ?_
  refine G_if_lt (tgt := 27) (dk_at dk_X6_highestMissing 6 rfl) (by decide) (fun c => ?_) (fun c => ?_)
  · replace h := h.1 c
    refine G_iconst (v := (-1)) (dk_at dk_X6_highestMissing 15 rfl) (by decide) ?_
    exact G_iret (ty := .int) rfl rfl (dk_at dk_X6_highestMissing 16 rfl) h
  · replace h := h.2 c
    refine G_aload_n 0 (dk_at dk_X6_highestMissing 7 rfl) rfl ?_
    refine G_iload_n 1 (dk_at dk_X6_highestMissing 8 rfl) rfl ?_
    obtain ⟨⟨_, ho⟩, h⟩ := h
    refine G_callV (As := [.int v1]) (rest := []) lk_X6_179 rfl (dk_at dk_X6_highestMissing 9 rfl) rfl rfl (Nat.le_of_ble_eq_true rfl) ho (h.mono fun o4 A1 b2 c3 h => aftI h fun i5 h => ?_)
    refine G_if_eq (tgt := 21) (dk_at dk_X6_highestMissing 10 rfl) (by decide) (fun c => ?_) (fun c => ?_)
    · replace h := h.1 c
      refine G_iinc (v := v1 + (-1)) (lv' := [(1, .int (v1 + (-1))), (0, .ref v0)]) 1 (dk_at dk_X6_highestMissing 13 rfl) rfl rfl (by decide) rfl ?_
      refine G_goto (tgt := 7) (dk_at dk_X6_highestMissing 14 rfl) (by decide) ?_
      refine G_sub [1, 0] rfl ?_
      exact h
    · replace h := h.2 c
      refine G_iload_n 1 (dk_at dk_X6_highestMissing 11 rfl) rfl ?_
      exact G_iret (ty := .int) rfl rfl (dk_at dk_X6_highestMissing 12 rfl) h
theorem k_X6_ticks_0 {l : Launch} {X : XT} {d : Nat} {Q : Ot → AH → Prop} {A : AH} {bc bs : Nat} {v0 : Nat} (h : isO A v0 7 ∧ Cal l X d bc bs M_X6_lowestMissing [.ref v0] A fun o4 A1 b2 c3 => rI o4 (fun E => Q (.inr E) A1) fun i5 => gR A1 v0 7 0 fun r6 => aI X A1 r6 14 fun i7 => (¬ i7 = 1 → G l X M_X6_ticks d Q 31 [(0, .ref v0), (1, .int 0)] [] A1 b2 c3) ∧ (i7 = 1 → (i5 = ((-1)) → G l X M_X6_ticks d Q 31 [(0, .ref v0), (1, .int 0)] [] A1 b2 c3) ∧ (¬ i5 = ((-1)) → isO A1 v0 7 ∧ Cal l X d b2 c3 M_X6_arrives [.ref v0, .int 0, .int i5] A1 fun o11 A8 b9 c10 => rV o11 (fun E => Q (.inr E) A8) <| G l X M_X6_ticks d Q 31 [(0, .ref v0), (1, .int 1)] [] A8 b9 c10))) : G l X M_X6_ticks d Q 0 [(0, .ref v0)] [] A bc bs := by
  refine G_iconst (v := 0) (dk_at dk_X6_ticks 0 rfl) (by decide) ?_
  refine G_istore_n (lv' := [(1, .int 0), (0, .ref v0)]) (dk_at dk_X6_ticks 1 rfl) (by decide) rfl ?_
  refine G_aload_n 1 (dk_at dk_X6_ticks 2 rfl) rfl ?_
  obtain ⟨⟨_, ho⟩, h⟩ := h
  refine G_callV (As := []) (rest := []) lk_X6_268 rfl (dk_at dk_X6_ticks 3 rfl) rfl rfl (Nat.le_of_ble_eq_true rfl) ho (h.mono fun o4 A1 b2 c3 h => aftI h fun i5 h => ?_)
  refine G_istore_n (lv' := [(2, .int i5), (1, .int 0), (0, .ref v0)]) (dk_at dk_X6_ticks 4 rfl) (by decide) rfl ?_
  refine G_aload_n 2 (dk_at dk_X6_ticks 5 rfl) rfl ?_
  refine K_gR gf_X6_7 (dk_at dk_X6_ticks 6 rfl) h (fun r6 h => ?_)
  refine G_bipush (v := 14) (dk_at dk_X6_ticks 7 rfl) (by decide) ?_
  refine K_aI (dk_at dk_X6_ticks 8 rfl) h (fun i7 h => ?_)
  refine G_iconst (v := 1) (dk_at dk_X6_ticks 9 rfl) (by decide) ?_
  refine G_icmp_ne (tgt := 31) (dk_at dk_X6_ticks 10 rfl) (by decide) (fun c => ?_) (fun c => ?_)
  · replace h := h.1 c
    refine G_sub [2, 1] rfl ?_
    exact h
  · replace h := h.2 c
    refine G_iload_n 0 (dk_at dk_X6_ticks 11 rfl) rfl ?_
    refine G_iconst (v := (-1)) (dk_at dk_X6_ticks 12 rfl) (by decide) ?_
    refine G_icmp_eq (tgt := 31) (dk_at dk_X6_ticks 13 rfl) (by decide) (fun c => ?_) (fun c => ?_)
    · replace h := h.1 c
      refine G_sub [2, 1] rfl ?_
      exact h
    · replace h := h.2 c
      refine G_aload_n 2 (dk_at dk_X6_ticks 14 rfl) rfl ?_
      refine G_iconst (v := 0) (dk_at dk_X6_ticks 15 rfl) (by decide) ?_
      refine G_iload_n 0 (dk_at dk_X6_ticks 16 rfl) rfl ?_
      obtain ⟨⟨_, ho⟩, h⟩ := h
      refine G_callV (As := [.int 0, .int i5]) (rest := []) lk_X6_246 rfl (dk_at dk_X6_ticks 17 rfl) rfl rfl (Nat.le_of_ble_eq_true rfl) ho (h.mono fun o11 A8 b9 c10 h => aftV h fun h => ?_)
      refine G_iconst (v := 1) (dk_at dk_X6_ticks 18 rfl) (by decide) ?_
      refine G_istore_n (lv' := [(1, .int 1), (2, .int i5), (0, .ref v0)]) (dk_at dk_X6_ticks 19 rfl) (by decide) rfl ?_
      refine G_sub [2, 0] rfl ?_
      exact h
theorem k_X6_ticks_31 {l : Launch} {X : XT} {d : Nat} {Q : Ot → AH → Prop} {A : AH} {bc bs : Nat} {v0 : Nat} {v1 : Int32} (h : isO A v0 7 ∧ Cal l X d bc bs M_X6_highestMissing [.ref v0] A fun o4 A1 b2 c3 => rI o4 (fun E => Q (.inr E) A1) fun i5 => gR A1 v0 7 0 fun r6 => aI X A1 r6 15 fun i7 => (¬ i7 = 1 → G l X M_X6_ticks d Q 63 [(0, .ref v0), (1, .int v1), (4, .int 0)] [] A1 b2 c3) ∧ (i7 = 1 → (i5 = ((-1)) → G l X M_X6_ticks d Q 63 [(0, .ref v0), (1, .int v1), (4, .int 0)] [] A1 b2 c3) ∧ (¬ i5 = ((-1)) → isO A1 v0 7 ∧ Cal l X d b2 c3 M_X6_arrives [.ref v0, .int 1, .int i5] A1 fun o11 A8 b9 c10 => rV o11 (fun E => Q (.inr E) A8) <| G l X M_X6_ticks d Q 63 [(0, .ref v0), (1, .int 1), (4, .int 0)] [] A8 b9 c10))) : G l X M_X6_ticks d Q 31 [(0, .ref v0), (1, .int v1)] [] A bc bs := by
  refine G_aload_n 0 (dk_at dk_X6_ticks 20 rfl) rfl ?_
  obtain ⟨⟨_, ho⟩, h⟩ := h
  refine G_callV (As := []) (rest := []) lk_X6_271 rfl (dk_at dk_X6_ticks 21 rfl) rfl rfl (Nat.le_of_ble_eq_true rfl) ho (h.mono fun o4 A1 b2 c3 h => aftI h fun i5 h => ?_)
  refine G_istore_n (lv' := [(3, .int i5), (0, .ref v0), (1, .int v1)]) (dk_at dk_X6_ticks 22 rfl) (by decide) rfl ?_
  refine G_aload_n 1 (dk_at dk_X6_ticks 23 rfl) rfl ?_
  refine K_gR gf_X6_7 (dk_at dk_X6_ticks 24 rfl) h (fun r6 h => ?_)
  refine G_bipush (v := 15) (dk_at dk_X6_ticks 25 rfl) (by decide) ?_
  refine K_aI (dk_at dk_X6_ticks 26 rfl) h (fun i7 h => ?_)
  refine G_iconst (v := 1) (dk_at dk_X6_ticks 27 rfl) (by decide) ?_
  refine G_icmp_ne (tgt := 60) (dk_at dk_X6_ticks 28 rfl) (by decide) (fun c => ?_) (fun c => ?_)
  · replace h := h.1 c
    refine G_iconst (v := 0) (dk_at dk_X6_ticks 38 rfl) (by decide) ?_
    refine G_istore (lv' := [(4, .int 0), (3, .int i5), (0, .ref v0), (1, .int v1)]) (dk_at dk_X6_ticks 39 rfl) (by decide) rfl ?_
    refine G_sub [2, 3, 0] rfl ?_
    exact h
  · replace h := h.2 c
    refine G_iload_n 0 (dk_at dk_X6_ticks 29 rfl) rfl ?_
    refine G_iconst (v := (-1)) (dk_at dk_X6_ticks 30 rfl) (by decide) ?_
    refine G_icmp_eq (tgt := 60) (dk_at dk_X6_ticks 31 rfl) (by decide) (fun c => ?_) (fun c => ?_)
    · replace h := h.1 c
      refine G_iconst (v := 0) (dk_at dk_X6_ticks 38 rfl) (by decide) ?_
      refine G_istore (lv' := [(4, .int 0), (3, .int i5), (0, .ref v0), (1, .int v1)]) (dk_at dk_X6_ticks 39 rfl) (by decide) rfl ?_
      refine G_sub [2, 3, 0] rfl ?_
      exact h
    · replace h := h.2 c
      refine G_aload_n 1 (dk_at dk_X6_ticks 32 rfl) rfl ?_
      refine G_iconst (v := 1) (dk_at dk_X6_ticks 33 rfl) (by decide) ?_
      refine G_iload_n 0 (dk_at dk_X6_ticks 34 rfl) rfl ?_
      obtain ⟨⟨_, ho⟩, h⟩ := h
      refine G_callV (As := [.int 1, .int i5]) (rest := []) lk_X6_246 rfl (dk_at dk_X6_ticks 35 rfl) rfl rfl (Nat.le_of_ble_eq_true rfl) ho (h.mono fun o11 A8 b9 c10 h => aftV h fun h => ?_)
      refine G_iconst (v := 1) (dk_at dk_X6_ticks 36 rfl) (by decide) ?_
      refine G_istore_n (lv' := [(1, .int 1), (3, .int i5), (0, .ref v0)]) (dk_at dk_X6_ticks 37 rfl) (by decide) rfl ?_
      refine G_iconst (v := 0) (dk_at dk_X6_ticks 38 rfl) (by decide) ?_
      refine G_istore (lv' := [(4, .int 0), (1, .int 1), (3, .int i5), (0, .ref v0)]) (dk_at dk_X6_ticks 39 rfl) (by decide) rfl ?_
      refine G_sub [3, 1, 0] rfl ?_
      exact h
theorem k_X6_ticks_63 {l : Launch} {X : XT} {d : Nat} {Q : Ot → AH → Prop} {A : AH} {bc bs : Nat} {v0 : Nat} {v1 : Int32} {v4 : Int32} (h : isO A v0 7 ∧ Cal l X d bc bs M_X6_pieces [.ref v0] A fun o4 A1 b2 c3 => rI o4 (fun E => Q (.inr E) A1) fun i5 => (i5 ≤ v4 → ((v1 : Int32) = 0 ∨ (v1 : Int32) = 1) ∧ Q (Ri v1) A1) ∧ (¬ i5 ≤ v4 → gR A1 v0 7 0 fun r6 => aI X A1 r6 14 fun i7 => (¬ i7 = 1 → ((v1 : Int32) = 0 ∨ (v1 : Int32) = 1) ∧ Q (Ri v1) A1) ∧ (i7 = 1 → isO A1 v0 7 ∧ Cal l X d b2 c3 M_X6_stateOf [.ref v0, .int v4] A1 fun o11 A8 b9 c10 => rI o11 (fun E => Q (.inr E) A8) fun i12 => (i12 = 2 → isO A8 v0 7 ∧ Cal l X d b9 c10 M_X6_searches [.ref v0, .int v4] A8 fun o16 A13 b14 c15 => rI o16 (fun E => Q (.inr E) A13) fun i17 => pV A13 v0 7 21 (.int i17) fun A18 => G l X M_X6_ticks d Q 63 [(0, .ref v0), (1, .int 1), (4, .int (v4 + 1))] [] A18 b14 c15) ∧ (¬ i12 = 2 → G l X M_X6_ticks d Q 63 [(0, .ref v0), (1, .int v1), (4, .int (v4 + 1))] [] A8 b9 c10)))) : G l X M_X6_ticks d Q 63 [(0, .ref v0), (1, .int v1), (4, .int v4)] [] A bc bs := by
  refine G_iload 2 (dk_at dk_X6_ticks 40 rfl) rfl ?_
  refine G_aload_n 0 (dk_at dk_X6_ticks 41 rfl) rfl ?_
  obtain ⟨⟨_, ho⟩, h⟩ := h
  refine G_callV (As := []) (rest := [.int v4]) lk_X6_165 rfl (dk_at dk_X6_ticks 42 rfl) rfl rfl (Nat.le_of_ble_eq_true rfl) ho (h.mono fun o4 A1 b2 c3 h => aftI h fun i5 h => ?_)
  refine G_icmp_ge (tgt := 114) (dk_at dk_X6_ticks 43 rfl) (by decide) (fun c => ?_) (fun c => ?_)
  · replace h := h.1 c
    refine G_iload_n 1 (dk_at dk_X6_ticks 65 rfl) rfl ?_
    refine G_iret (ty := .boolean) rfl (by rcases h.1 with e | e <;> (rw [e]; rfl)) (dk_at dk_X6_ticks 66 rfl) h.2
  · replace h := h.2 c
    refine G_aload_n 0 (dk_at dk_X6_ticks 44 rfl) rfl ?_
    refine K_gR gf_X6_7 (dk_at dk_X6_ticks 45 rfl) h (fun r6 h => ?_)
    refine G_bipush (v := 14) (dk_at dk_X6_ticks 46 rfl) (by decide) ?_
    refine K_aI (dk_at dk_X6_ticks 47 rfl) h (fun i7 h => ?_)
    refine G_iconst (v := 1) (dk_at dk_X6_ticks 48 rfl) (by decide) ?_
    refine G_icmp_ne (tgt := 114) (dk_at dk_X6_ticks 49 rfl) (by decide) (fun c => ?_) (fun c => ?_)
    · replace h := h.1 c
      refine G_iload_n 1 (dk_at dk_X6_ticks 65 rfl) rfl ?_
      refine G_iret (ty := .boolean) rfl (by rcases h.1 with e | e <;> (rw [e]; rfl)) (dk_at dk_X6_ticks 66 rfl) h.2
    · replace h := h.2 c
      refine G_aload_n 0 (dk_at dk_X6_ticks 50 rfl) rfl ?_
      refine G_iload 2 (dk_at dk_X6_ticks 51 rfl) rfl ?_
      obtain ⟨⟨_, ho⟩, h⟩ := h
      refine G_callV (As := [.int v4]) (rest := []) lk_X6_195 rfl (dk_at dk_X6_ticks 52 rfl) rfl rfl (Nat.le_of_ble_eq_true rfl) ho (h.mono fun o11 A8 b9 c10 h => aftI h fun i12 h => ?_)
      refine G_iconst (v := 2) (dk_at dk_X6_ticks 53 rfl) (by decide) ?_
      refine G_icmp_eq (tgt := 96) (dk_at dk_X6_ticks 54 rfl) (by decide) (fun c => ?_) (fun c => ?_)
      · replace h := h.1 c
        refine G_aload_n 0 (dk_at dk_X6_ticks 56 rfl) rfl ?_
        refine G_aload_n 0 (dk_at dk_X6_ticks 57 rfl) rfl ?_
        refine G_iload 2 (dk_at dk_X6_ticks 58 rfl) rfl ?_
        obtain ⟨⟨_, ho⟩, h⟩ := h
        refine G_callV (As := [.int v4]) (rest := [.ref v0]) lk_X6_265 rfl (dk_at dk_X6_ticks 59 rfl) rfl rfl (Nat.le_of_ble_eq_true rfl) ho (h.mono fun o16 A13 b14 c15 h => aftI h fun i17 h => ?_)
        refine K_pI pf_X6_274 (dk_at dk_X6_ticks 60 rfl) h (fun A18 h => ?_)
        refine G_iconst (v := 1) (dk_at dk_X6_ticks 61 rfl) (by decide) ?_
        refine G_istore_n (lv' := [(1, .int 1), (0, .ref v0), (4, .int v4)]) (dk_at dk_X6_ticks 62 rfl) (by decide) rfl ?_
        refine G_iinc (v := v4 + 1) (lv' := [(4, .int (v4 + 1)), (1, .int 1), (0, .ref v0)]) 2 (dk_at dk_X6_ticks 63 rfl) rfl rfl (by decide) rfl ?_
        refine G_goto (tgt := 63) (dk_at dk_X6_ticks 64 rfl) (by decide) ?_
        refine G_sub [2, 1, 0] rfl ?_
        exact h
      · replace h := h.2 c
        refine G_goto (tgt := 108) (dk_at dk_X6_ticks 55 rfl) (by decide) ?_
        refine G_iinc (v := v4 + 1) (lv' := [(4, .int (v4 + 1)), (0, .ref v0), (1, .int v1)]) 2 (dk_at dk_X6_ticks 63 rfl) rfl rfl (by decide) rfl ?_
        refine G_goto (tgt := 63) (dk_at dk_X6_ticks 64 rfl) (by decide) ?_
        refine G_sub [1, 2, 0] rfl ?_
        exact h
theorem k_X6_isFinished_0 {l : Launch} {X : XT} {d : Nat} {Q : Ot → AH → Prop} {A : AH} {bc bs : Nat} {v0 : Nat} (h : G l X M_X6_isFinished d Q 2 [(0, .ref v0), (1, .int 0)] [] A bc bs) : G l X M_X6_isFinished d Q 0 [(0, .ref v0)] [] A bc bs := by
  refine G_iconst (v := 0) (dk_at dk_X6_isFinished 0 rfl) (by decide) ?_
  refine G_istore_n (lv' := [(1, .int 0), (0, .ref v0)]) (dk_at dk_X6_isFinished 1 rfl) (by decide) rfl ?_
  refine G_sub [1, 0] rfl ?_
  exact h
theorem k_X6_isFinished_2 {l : Launch} {X : XT} {d : Nat} {Q : Ot → AH → Prop} {A : AH} {bc bs : Nat} {v0 : Nat} {v1 : Int32} (h : isO A v0 7 ∧ Cal l X d bc bs M_X6_pieces [.ref v0] A fun o4 A1 b2 c3 => rI o4 (fun E => Q (.inr E) A1) fun i5 => (i5 ≤ v1 → Q (Ri 1) A1) ∧ (¬ i5 ≤ v1 → isO A1 v0 7 ∧ Cal l X d b2 c3 M_X6_stateOf [.ref v0, .int v1] A1 fun o9 A6 b7 c8 => rI o9 (fun E => Q (.inr E) A6) fun i10 => (i10 = 1 → G l X M_X6_isFinished d Q 2 [(0, .ref v0), (1, .int (v1 + 1))] [] A6 b7 c8) ∧ (¬ i10 = 1 → Q (Ri 0) A6))) : G l X M_X6_isFinished d Q 2 [(0, .ref v0), (1, .int v1)] [] A bc bs := by
  refine G_iload_n 1 (dk_at dk_X6_isFinished 2 rfl) rfl ?_
  refine G_aload_n 0 (dk_at dk_X6_isFinished 3 rfl) rfl ?_
  obtain ⟨⟨_, ho⟩, h⟩ := h
  refine G_callV (As := []) (rest := [.int v1]) lk_X6_165 rfl (dk_at dk_X6_isFinished 4 rfl) rfl rfl (Nat.le_of_ble_eq_true rfl) ho (h.mono fun o4 A1 b2 c3 h => aftI h fun i5 h => ?_)
  refine G_icmp_ge (tgt := 27) (dk_at dk_X6_isFinished 5 rfl) (by decide) (fun c => ?_) (fun c => ?_)
  · replace h := h.1 c
    refine G_iconst (v := 1) (dk_at dk_X6_isFinished 15 rfl) (by decide) ?_
    exact G_iret (ty := .boolean) rfl rfl (dk_at dk_X6_isFinished 16 rfl) h
  · replace h := h.2 c
    refine G_aload_n 0 (dk_at dk_X6_isFinished 6 rfl) rfl ?_
    refine G_iload_n 1 (dk_at dk_X6_isFinished 7 rfl) rfl ?_
    obtain ⟨⟨_, ho⟩, h⟩ := h
    refine G_callV (As := [.int v1]) (rest := []) lk_X6_195 rfl (dk_at dk_X6_isFinished 8 rfl) rfl rfl (Nat.le_of_ble_eq_true rfl) ho (h.mono fun o9 A6 b7 c8 h => aftI h fun i10 h => ?_)
    refine G_iconst (v := 1) (dk_at dk_X6_isFinished 9 rfl) (by decide) ?_
    refine G_icmp_eq (tgt := 21) (dk_at dk_X6_isFinished 10 rfl) (by decide) (fun c => ?_) (fun c => ?_)
    · replace h := h.1 c
      refine G_iinc (v := v1 + 1) (lv' := [(1, .int (v1 + 1)), (0, .ref v0)]) 1 (dk_at dk_X6_isFinished 13 rfl) rfl rfl (by decide) rfl ?_
      refine G_goto (tgt := 2) (dk_at dk_X6_isFinished 14 rfl) (by decide) ?_
      refine G_sub [1, 0] rfl ?_
      exact h
    · replace h := h.2 c
      refine G_iconst (v := 0) (dk_at dk_X6_isFinished 11 rfl) (by decide) ?_
      exact G_iret (ty := .boolean) rfl rfl (dk_at dk_X6_isFinished 12 rfl) h
theorem k_X6_runs_0 {l : Launch} {X : XT} {d : Nat} {Q : Ot → AH → Prop} {A : AH} {bc bs : Nat} {v0 : Nat} {v1 : Int32} (h : G l X M_X6_runs d Q 2 [(0, .ref v0), (1, .int v1), (2, .int 0)] [] A bc bs) : G l X M_X6_runs d Q 0 [(0, .ref v0), (1, .int v1)] [] A bc bs := by
  refine G_iconst (v := 0) (dk_at dk_X6_runs 0 rfl) (by decide) ?_
  refine G_istore_n (lv' := [(2, .int 0), (0, .ref v0), (1, .int v1)]) (dk_at dk_X6_runs 1 rfl) (by decide) rfl ?_
  refine G_sub [1, 2, 0] rfl ?_
  exact h
theorem k_X6_runs_2 {l : Launch} {X : XT} {d : Nat} {Q : Ot → AH → Prop} {A : AH} {bc bs : Nat} {v0 : Nat} {v1 : Int32} {v2 : Int32} (h : (v1 ≤ v2 → Q (Ri v2) A) ∧ (¬ v1 ≤ v2 → isO A v0 7 ∧ Cal l X d bc bs M_X6_isFinished [.ref v0] A fun o4 A1 b2 c3 => rI o4 (fun E => Q (.inr E) A1) fun i5 => (¬ i5 = 0 → Q (Ri v2) A1) ∧ (i5 = 0 → isO A1 v0 7 ∧ Cal l X d b2 c3 M_X6_ticks [.ref v0] A1 fun o9 A6 b7 c8 => rI o9 (fun E => Q (.inr E) A6) fun i10 => (¬ i10 = 0 → G l X M_X6_runs d Q 2 [(0, .ref v0), (1, .int v1), (2, .int (v2 + 1))] [] A6 b7 c8) ∧ (i10 = 0 → Q (Ri v2) A6)))) : G l X M_X6_runs d Q 2 [(0, .ref v0), (1, .int v1), (2, .int v2)] [] A bc bs := by
  refine G_iload_n 2 (dk_at dk_X6_runs 2 rfl) rfl ?_
  refine G_iload_n 1 (dk_at dk_X6_runs 3 rfl) rfl ?_
  refine G_icmp_ge (tgt := 29) (dk_at dk_X6_runs 4 rfl) (by decide) (fun c => ?_) (fun c => ?_)
  · replace h := h.1 c
    refine G_iload_n 2 (dk_at dk_X6_runs 15 rfl) rfl ?_
    exact G_iret (ty := .int) rfl rfl (dk_at dk_X6_runs 16 rfl) h
  · replace h := h.2 c
    refine G_aload_n 0 (dk_at dk_X6_runs 5 rfl) rfl ?_
    obtain ⟨⟨_, ho⟩, h⟩ := h
    refine G_callV (As := []) (rest := []) lk_X6_277 rfl (dk_at dk_X6_runs 6 rfl) rfl rfl (Nat.le_of_ble_eq_true rfl) ho (h.mono fun o4 A1 b2 c3 h => aftI h fun i5 h => ?_)
    refine G_if_ne (tgt := 29) (dk_at dk_X6_runs 7 rfl) (by decide) (fun c => ?_) (fun c => ?_)
    · replace h := h.1 c
      refine G_iload_n 2 (dk_at dk_X6_runs 15 rfl) rfl ?_
      exact G_iret (ty := .int) rfl rfl (dk_at dk_X6_runs 16 rfl) h
    · replace h := h.2 c
      refine G_aload_n 0 (dk_at dk_X6_runs 8 rfl) rfl ?_
      obtain ⟨⟨_, ho⟩, h⟩ := h
      refine G_callV (As := []) (rest := []) lk_X6_281 rfl (dk_at dk_X6_runs 9 rfl) rfl rfl (Nat.le_of_ble_eq_true rfl) ho (h.mono fun o9 A6 b7 c8 h => aftI h fun i10 h => ?_)
      refine G_if_ne (tgt := 23) (dk_at dk_X6_runs 10 rfl) (by decide) (fun c => ?_) (fun c => ?_)
      · replace h := h.1 c
        refine G_iinc (v := v2 + 1) (lv' := [(2, .int (v2 + 1)), (0, .ref v0), (1, .int v1)]) 2 (dk_at dk_X6_runs 13 rfl) rfl rfl (by decide) rfl ?_
        refine G_goto (tgt := 2) (dk_at dk_X6_runs 14 rfl) (by decide) ?_
        refine G_sub [1, 2, 0] rfl ?_
        exact h
      · replace h := h.2 c
        refine G_iload_n 2 (dk_at dk_X6_runs 11 rfl) rfl ?_
        exact G_iret (ty := .int) rfl rfl (dk_at dk_X6_runs 12 rfl) h
theorem k_X6_run_0 {l : Launch} {X : XT} {d : Nat} {Q : Ot → AH → Prop} {A : AH} {bc bs : Nat} {v0 : Nat} {v1 : Int32} (h : Cal l X d bc bs M_X6_isIn [.int v1, .int 1, .int 300] A fun o4 A1 b2 c3 => rI o4 (fun E => Q (.inr E) A1) fun i5 => (i5 = 0 → G l X M_X6_run d Q 17 [(0, .ref v0), (1, .int v1)] [.int 1, .ref v0] A1 b2 c3) ∧ (¬ i5 = 0 → G l X M_X6_run d Q 17 [(0, .ref v0), (1, .int v1)] [.int 0, .ref v0] A1 b2 c3)) : G l X M_X6_run d Q 0 [(0, .ref v0), (1, .int v1)] [] A bc bs := by
  refine G_aload_n 0 (dk_at dk_X6_run 0 rfl) rfl ?_
  refine G_iload_n 1 (dk_at dk_X6_run 1 rfl) rfl ?_
  refine G_iconst (v := 1) (dk_at dk_X6_run 2 rfl) (by decide) ?_
  refine G_sipush (v := 300) (dk_at dk_X6_run 3 rfl) (by decide) ?_
  refine G_callS (As := [.int v1, .int 1, .int 300]) (rest := [.ref v0]) lk_X6_62 rfl (dk_at dk_X6_run 4 rfl) rfl rfl (Nat.le_of_ble_eq_true rfl) (h.mono fun o4 A1 b2 c3 h => aftI h fun i5 h => ?_)
  refine G_if_eq (tgt := 16) (dk_at dk_X6_run 5 rfl) (by decide) (fun c => ?_) (fun c => ?_)
  · replace h := h.1 c
    refine G_iconst (v := 1) (dk_at dk_X6_run 8 rfl) (by decide) ?_
    exact h
  · replace h := h.2 c
    refine G_iconst (v := 0) (dk_at dk_X6_run 6 rfl) (by decide) ?_
    refine G_goto (tgt := 17) (dk_at dk_X6_run 7 rfl) (by decide) ?_
    exact h
theorem k_X6_run_17 {l : Launch} {X : XT} {d : Nat} {Q : Ot → AH → Prop} {A : AH} {bc bs : Nat} {v0 : Nat} {v1 : Int32} {s0 : Int32} {s1 : Nat} (h : pV A s1 7 5 (.int s0) fun A1 => gI A1 v0 7 5 fun i2 => (i2 ≤ 0 → isO A1 v0 7 ∧ Cal l X d bc bs M_X6_keeps [.ref v0] A1 fun o6 A3 b4 c5 => rV o6 (fun E => Q (.inr E) A3) <| isO A3 v0 7 ∧ Cal l X d b4 c5 M_X6_runs [.ref v0, .int v1] A3 fun o10 A7 b8 c9 => rI o10 (fun E => Q (.inr E) A7) fun i11 => Q (Ri i11) A7) ∧ (¬ i2 ≤ 0 → Q (Ri 0) A1)) : G l X M_X6_run d Q 17 [(0, .ref v0), (1, .int v1)] [.int s0, .ref s1] A bc bs := by
  refine K_pI pf_X6_50 (dk_at dk_X6_run 9 rfl) h (fun A1 h => ?_)
  refine G_aload_n 0 (dk_at dk_X6_run 10 rfl) rfl ?_
  refine K_gI gf_X6_50 (dk_at dk_X6_run 11 rfl) h (fun i2 h => ?_)
  refine G_if_le (tgt := 29) (dk_at dk_X6_run 12 rfl) (by decide) (fun c => ?_) (fun c => ?_)
  · replace h := h.1 c
    refine G_aload_n 0 (dk_at dk_X6_run 15 rfl) rfl ?_
    obtain ⟨⟨_, ho⟩, h⟩ := h
    refine G_callV (As := []) (rest := []) lk_X6_153 rfl (dk_at dk_X6_run 16 rfl) rfl rfl (Nat.le_of_ble_eq_true rfl) ho (h.mono fun o6 A3 b4 c5 h => aftV h fun h => ?_)
    refine G_aload_n 0 (dk_at dk_X6_run 17 rfl) rfl ?_
    refine G_iload_n 1 (dk_at dk_X6_run 18 rfl) rfl ?_
    obtain ⟨⟨_, ho⟩, h⟩ := h
    refine G_callV (As := [.int v1]) (rest := []) lk_X6_284 rfl (dk_at dk_X6_run 19 rfl) rfl rfl (Nat.le_of_ble_eq_true rfl) ho (h.mono fun o10 A7 b8 c9 h => aftI h fun i11 h => ?_)
    exact G_iret (ty := .int) rfl rfl (dk_at dk_X6_run 20 rfl) h
  · replace h := h.2 c
    refine G_iconst (v := 0) (dk_at dk_X6_run 13 rfl) (by decide) ?_
    exact G_iret (ty := .int) rfl rfl (dk_at dk_X6_run 14 rfl) h
theorem k_X6_ticksLeft_0 {l : Launch} {X : XT} {d : Nat} {Q : Ot → AH → Prop} {A : AH} {bc bs : Nat} {v0 : Nat} (h : pV A v0 7 5 (.int 0) fun A1 => isO A1 v0 7 ∧ Cal l X d bc bs M_X6_putsAside [.ref v0] A1 fun o5 A2 b3 c4 => rV o5 (fun E => Q (.inr E) A2) <| isO A2 v0 7 ∧ Cal l X d b3 c4 M_X6_runs [.ref v0, .int 600] A2 fun o9 A6 b7 c8 => rI o9 (fun E => Q (.inr E) A6) fun i10 => isO A6 v0 7 ∧ Cal l X d b7 c8 M_X6_isFinished [.ref v0] A6 fun o14 A11 b12 c13 => rI o14 (fun E => Q (.inr E) A11) fun i15 => gR A11 v0 7 2 fun r16 => isO A11 v0 7 ∧ Cal l X d b12 c13 M_X6_becomes [.ref v0, .ref r16, .int 0] A11 fun o20 A17 b18 c19 => rV o20 (fun E => Q (.inr E) A17) <| (i15 = 0 → Q (Ri ((-1))) A17) ∧ (¬ i15 = 0 → Q (Ri i10) A17)) : G l X M_X6_ticksLeft d Q 0 [(0, .ref v0)] [] A bc bs := by
  refine G_aload_n 0 (dk_at dk_X6_ticksLeft 0 rfl) rfl ?_
  refine G_iconst (v := 0) (dk_at dk_X6_ticksLeft 1 rfl) (by decide) ?_
  refine K_pI pf_X6_50 (dk_at dk_X6_ticksLeft 2 rfl) h (fun A1 h => ?_)
  refine G_aload_n 0 (dk_at dk_X6_ticksLeft 3 rfl) rfl ?_
  obtain ⟨⟨_, ho⟩, h⟩ := h
  refine G_callV (As := []) (rest := []) lk_X6_287 rfl (dk_at dk_X6_ticksLeft 4 rfl) rfl rfl (Nat.le_of_ble_eq_true rfl) ho (h.mono fun o5 A2 b3 c4 h => aftV h fun h => ?_)
  refine G_aload_n 0 (dk_at dk_X6_ticksLeft 5 rfl) rfl ?_
  refine G_sipush (v := 600) (dk_at dk_X6_ticksLeft 6 rfl) (by decide) ?_
  obtain ⟨⟨_, ho⟩, h⟩ := h
  refine G_callV (As := [.int 600]) (rest := []) lk_X6_284 rfl (dk_at dk_X6_ticksLeft 7 rfl) rfl rfl (Nat.le_of_ble_eq_true rfl) ho (h.mono fun o9 A6 b7 c8 h => aftI h fun i10 h => ?_)
  refine G_istore_n (lv' := [(1, .int i10), (0, .ref v0)]) (dk_at dk_X6_ticksLeft 8 rfl) (by decide) rfl ?_
  refine G_aload_n 1 (dk_at dk_X6_ticksLeft 9 rfl) rfl ?_
  obtain ⟨⟨_, ho⟩, h⟩ := h
  refine G_callV (As := []) (rest := []) lk_X6_277 rfl (dk_at dk_X6_ticksLeft 10 rfl) rfl rfl (Nat.le_of_ble_eq_true rfl) ho (h.mono fun o14 A11 b12 c13 h => aftI h fun i15 h => ?_)
  refine G_istore_n (lv' := [(2, .int i15), (1, .int i10), (0, .ref v0)]) (dk_at dk_X6_ticksLeft 11 rfl) (by decide) rfl ?_
  refine G_aload_n 2 (dk_at dk_X6_ticksLeft 12 rfl) rfl ?_
  refine G_aload_n 2 (dk_at dk_X6_ticksLeft 13 rfl) rfl ?_
  refine K_gR gf_X6_16 (dk_at dk_X6_ticksLeft 14 rfl) h (fun r16 h => ?_)
  refine G_iconst (v := 0) (dk_at dk_X6_ticksLeft 15 rfl) (by decide) ?_
  obtain ⟨⟨_, ho⟩, h⟩ := h
  refine G_callV (As := [.ref r16, .int 0]) (rest := []) lk_X6_46 rfl (dk_at dk_X6_ticksLeft 16 rfl) rfl rfl (Nat.le_of_ble_eq_true rfl) ho (h.mono fun o20 A17 b18 c19 h => aftV h fun h => ?_)
  refine G_iload_n 0 (dk_at dk_X6_ticksLeft 17 rfl) rfl ?_
  refine G_if_eq (tgt := 39) (dk_at dk_X6_ticksLeft 18 rfl) (by decide) (fun c => ?_) (fun c => ?_)
  · replace h := h.1 c
    refine G_iconst (v := (-1)) (dk_at dk_X6_ticksLeft 21 rfl) (by decide) ?_
    exact G_iret (ty := .int) rfl rfl (dk_at dk_X6_ticksLeft 22 rfl) h
  · replace h := h.2 c
    refine G_iload_n 1 (dk_at dk_X6_ticksLeft 19 rfl) rfl ?_
    refine G_goto (tgt := 40) (dk_at dk_X6_ticksLeft 20 rfl) (by decide) ?_
    exact G_iret (ty := .int) rfl rfl (dk_at dk_X6_ticksLeft 22 rfl) h
theorem k_X6_file_0 {l : Launch} {X : XT} {d : Nat} {Q : Ot → AH → Prop} {A : AH} {bc bs : Nat} {v0 : Nat} {v1 : Int32} (h : Q (Ri (696 + (242 * v1))) A) : G l X M_X6_file d Q 0 [(0, .ref v0), (1, .int v1)] [] A bc bs := by
  refine G_sipush (v := 696) (dk_at dk_X6_file 0 rfl) (by decide) ?_
  refine G_sipush (v := 242) (dk_at dk_X6_file 1 rfl) (by decide) ?_
  refine G_iload_n 1 (dk_at dk_X6_file 2 rfl) rfl ?_
  refine G_imul (dk_at dk_X6_file 3 rfl) ?_
  refine G_iadd (dk_at dk_X6_file 4 rfl) ?_
  exact G_iret (ty := .int) rfl rfl (dk_at dk_X6_file 5 rfl) h
theorem k_X6_isPartial_0 {l : Launch} {X : XT} {d : Nat} {Q : Ot → AH → Prop} {A : AH} {bc bs : Nat} {v0 : Nat} {v1 : Int32} (h : gR A v0 7 0 fun r1 => aI X A r1 9 fun i2 => Cal l X d bc bs M_X6_isIn [.int v1, .int 0, .int (i2 - 1)] A fun o6 A3 b4 c5 => rI o6 (fun E => Q (.inr E) A3) fun i7 => ((i7 : Int32) = 0 ∨ (i7 : Int32) = 1) ∧ Q (Ri i7) A3) : G l X M_X6_isPartial d Q 0 [(0, .ref v0), (1, .int v1)] [] A bc bs := by
  refine G_iload_n 1 (dk_at dk_X6_isPartial 0 rfl) rfl ?_
  refine G_iconst (v := 0) (dk_at dk_X6_isPartial 1 rfl) (by decide) ?_
  refine G_aload_n 0 (dk_at dk_X6_isPartial 2 rfl) rfl ?_
  refine K_gR gf_X6_7 (dk_at dk_X6_isPartial 3 rfl) h (fun r1 h => ?_)
  refine G_bipush (v := 9) (dk_at dk_X6_isPartial 4 rfl) (by decide) ?_
  refine K_aI (dk_at dk_X6_isPartial 5 rfl) h (fun i2 h => ?_)
  refine G_iconst (v := 1) (dk_at dk_X6_isPartial 6 rfl) (by decide) ?_
  refine G_isub (dk_at dk_X6_isPartial 7 rfl) ?_
  refine G_callS (As := [.int v1, .int 0, .int (i2 - 1)]) (rest := []) lk_X6_62 rfl (dk_at dk_X6_isPartial 8 rfl) rfl rfl (Nat.le_of_ble_eq_true rfl) (h.mono fun o6 A3 b4 c5 h => aftI h fun i7 h => ?_)
  refine G_iret (ty := .boolean) rfl (by rcases h.1 with e | e <;> (rw [e]; rfl)) (dk_at dk_X6_isPartial 9 rfl) h.2
theorem k_X6_isName_0 {l : Launch} {X : XT} {d : Nat} {Q : Ot → AH → Prop} {A : AH} {bc bs : Nat} {v0 : Int32} (h : Cal l X d bc bs M_X6_isIn [.int v0, .int 0, .int 999] A fun o4 A1 b2 c3 => rI o4 (fun E => Q (.inr E) A1) fun i5 => ((i5 : Int32) = 0 ∨ (i5 : Int32) = 1) ∧ Q (Ri i5) A1) : G l X M_X6_isName d Q 0 [(0, .int v0)] [] A bc bs := by
  refine G_iload_n 0 (dk_at dk_X6_isName 0 rfl) rfl ?_
  refine G_iconst (v := 0) (dk_at dk_X6_isName 1 rfl) (by decide) ?_
  refine G_sipush (v := 999) (dk_at dk_X6_isName 2 rfl) (by decide) ?_
  refine G_callS (As := [.int v0, .int 0, .int 999]) (rest := []) lk_X6_62 rfl (dk_at dk_X6_isName 3 rfl) rfl rfl (Nat.le_of_ble_eq_true rfl) (h.mono fun o4 A1 b2 c3 h => aftI h fun i5 h => ?_)
  refine G_iret (ty := .boolean) rfl (by rcases h.1 with e | e <;> (rw [e]; rfl)) (dk_at dk_X6_isName 4 rfl) h.2
theorem k_X6_keep_0 {l : Launch} {X : XT} {d : Nat} {Q : Ot → AH → Prop} {A : AH} {bc bs : Nat} {v0 : Nat} {v1 : Int32} (h : Cal l X d bc bs M_X6_isName [.int v1] A fun o4 A1 b2 c3 => rI o4 (fun E => Q (.inr E) A1) fun i5 => (¬ i5 = 0 → isO A1 v0 7 ∧ Cal l X d b2 c3 M_X6_isMissing [.ref v0, .int 0] A1 fun o9 A6 b7 c8 => rI o9 (fun E => Q (.inr E) A6) fun i10 => (¬ i10 = 0 → G l X M_X6_keep d Q 36 [(0, .ref v0), (1, .int v1)] [.int 2, .ref v0] A6 b7 c8) ∧ (i10 = 0 → gR A6 v0 7 0 fun r11 => aI X A6 r11 9 fun i12 => (¬ i12 = 4 → G l X M_X6_keep d Q 36 [(0, .ref v0), (1, .int v1)] [.int 0, .ref v0] A6 b7 c8) ∧ (i12 = 4 → G l X M_X6_keep d Q 36 [(0, .ref v0), (1, .int v1)] [.int 2, .ref v0] A6 b7 c8))) ∧ (i5 = 0 → G l X M_X6_keep d Q 36 [(0, .ref v0), (1, .int v1)] [.int 1, .ref v0] A1 b2 c3)) : G l X M_X6_keep d Q 0 [(0, .ref v0), (1, .int v1)] [] A bc bs := by
  refine G_aload_n 0 (dk_at dk_X6_keep_0 0 rfl) rfl ?_
  refine G_iload_n 1 (dk_at dk_X6_keep_0 1 rfl) rfl ?_
  refine G_callS (As := [.int v1]) (rest := [.ref v0]) lk_X6_290 rfl (dk_at dk_X6_keep_0 2 rfl) rfl rfl (Nat.le_of_ble_eq_true rfl) (h.mono fun o4 A1 b2 c3 h => aftI h fun i5 h => ?_)
  refine G_if_ne (tgt := 12) (dk_at dk_X6_keep_0 3 rfl) (by decide) (fun c => ?_) (fun c => ?_)
  · replace h := h.1 c
    refine G_aload_n 0 (dk_at dk_X6_keep_0 6 rfl) rfl ?_
    refine G_iconst (v := 0) (dk_at dk_X6_keep_0 7 rfl) (by decide) ?_
    obtain ⟨⟨_, ho⟩, h⟩ := h
    refine G_callV (As := [.int 0]) (rest := [.ref v0]) lk_X6_179 rfl (dk_at dk_X6_keep_0 8 rfl) rfl rfl (Nat.le_of_ble_eq_true rfl) ho (h.mono fun o9 A6 b7 c8 h => aftI h fun i10 h => ?_)
    refine G_if_ne (tgt := 31) (dk_at dk_X6_keep_0 9 rfl) (by decide) (fun c => ?_) (fun c => ?_)
    · replace h := h.1 c
      refine G_iconst (v := 2) (dk_at dk_X6_keep_0 16 rfl) (by decide) ?_
      refine G_goto (tgt := 36) (dk_at dk_X6_keep_0 17 rfl) (by decide) ?_
      exact h
    · replace h := h.2 c
      refine G_aload_n 0 (dk_at dk_X6_keep_0 10 rfl) rfl ?_
      refine K_gR gf_X6_7 (dk_at dk_X6_keep_0 11 rfl) h (fun r11 h => ?_)
      refine G_bipush (v := 9) (dk_at dk_X6_keep_0 12 rfl) (by decide) ?_
      refine K_aI (dk_at dk_X6_keep_0 13 rfl) h (fun i12 h => ?_)
      refine G_iconst (v := 4) (dk_at dk_X6_keep_0 14 rfl) (by decide) ?_
      refine G_icmp_ne (tgt := 35) (dk_at dk_X6_keep_0 15 rfl) (by decide) (fun c => ?_) (fun c => ?_)
      · replace h := h.1 c
        refine G_iconst (v := 0) (dk_at dk_X6_keep_0 18 rfl) (by decide) ?_
        exact h
      · replace h := h.2 c
        refine G_iconst (v := 2) (dk_at dk_X6_keep_0 16 rfl) (by decide) ?_
        refine G_goto (tgt := 36) (dk_at dk_X6_keep_0 17 rfl) (by decide) ?_
        exact h
  · replace h := h.2 c
    refine G_iconst (v := 1) (dk_at dk_X6_keep_0 4 rfl) (by decide) ?_
    refine G_goto (tgt := 36) (dk_at dk_X6_keep_0 5 rfl) (by decide) ?_
    exact h
theorem k_X6_keep_36 {l : Launch} {X : XT} {d : Nat} {Q : Ot → AH → Prop} {A : AH} {bc bs : Nat} {v0 : Nat} {v1 : Int32} {s0 : Int32} {s1 : Nat} (h : pV A s1 7 5 (.int s0) fun A1 => gI A1 v0 7 5 fun i2 => (i2 ≤ 0 → isO A1 v0 7 ∧ Cal l X d bc bs M_X6_keeps [.ref v0] A1 fun o6 A3 b4 c5 => rV o6 (fun E => Q (.inr E) A3) <| isO A3 v0 7 ∧ Cal l X d b4 c5 M_X6_lowestMissing [.ref v0] A3 fun o10 A7 b8 c9 => rI o10 (fun E => Q (.inr E) A7) fun i11 => (¬ i11 = ((-1)) → isO A7 v0 7 ∧ Cal l X d b8 c9 M_X6_placeOf [.ref v0, .int i11] A7 fun o15 A12 b13 c14 => rI o15 (fun E => Q (.inr E) A12) fun i16 => G l X M_X6_keep d Q 76 [(0, .ref v0), (1, .int v1)] [.int i16] A12 b13 c14) ∧ (i11 = ((-1)) → gR A7 v0 7 0 fun r17 => aI X A7 r17 0 fun i18 => G l X M_X6_keep d Q 76 [(0, .ref v0), (1, .int v1)] [.int i18] A7 b8 c9)) ∧ (¬ i2 ≤ 0 → Q (Ri 0) A1)) : G l X M_X6_keep d Q 36 [(0, .ref v0), (1, .int v1)] [.int s0, .ref s1] A bc bs := by
  refine K_pI pf_X6_50 (dk_at dk_X6_keep_0 19 rfl) h (fun A1 h => ?_)
  refine G_aload_n 0 (dk_at dk_X6_keep_0 20 rfl) rfl ?_
  refine K_gI gf_X6_50 (dk_at dk_X6_keep_0 21 rfl) h (fun i2 h => ?_)
  refine G_if_le (tgt := 48) (dk_at dk_X6_keep_0 22 rfl) (by decide) (fun c => ?_) (fun c => ?_)
  · replace h := h.1 c
    refine G_aload_n 0 (dk_at dk_X6_keep_0 25 rfl) rfl ?_
    obtain ⟨⟨_, ho⟩, h⟩ := h
    refine G_callV (As := []) (rest := []) lk_X6_153 rfl (dk_at dk_X6_keep_0 26 rfl) rfl rfl (Nat.le_of_ble_eq_true rfl) ho (h.mono fun o6 A3 b4 c5 h => aftV h fun h => ?_)
    refine G_aload_n 0 (dk_at dk_X6_keep_0 27 rfl) rfl ?_
    obtain ⟨⟨_, ho⟩, h⟩ := h
    refine G_callV (As := []) (rest := []) lk_X6_268 rfl (dk_at dk_X6_keep_0 28 rfl) rfl rfl (Nat.le_of_ble_eq_true rfl) ho (h.mono fun o10 A7 b8 c9 h => aftI h fun i11 h => ?_)
    refine G_istore_n (lv' := [(2, .int i11), (0, .ref v0), (1, .int v1)]) (dk_at dk_X6_keep_0 29 rfl) (by decide) rfl ?_
    refine G_iload_n 0 (dk_at dk_X6_keep_0 30 rfl) rfl ?_
    refine G_iconst (v := (-1)) (dk_at dk_X6_keep_0 31 rfl) (by decide) ?_
    refine G_icmp_ne (tgt := 71) (dk_at dk_X6_keep_0 32 rfl) (by decide) (fun c => ?_) (fun c => ?_)
    · replace h := h.1 c
      refine G_aload_n 1 (dk_at dk_X6_keep_0 38 rfl) rfl ?_
      refine G_iload_n 0 (dk_at dk_X6_keep_0 39 rfl) rfl ?_
      obtain ⟨⟨_, ho⟩, h⟩ := h
      refine G_callV (As := [.int i11]) (rest := []) lk_X6_176 rfl (dk_at dk_X6_keep_0 40 rfl) rfl rfl (Nat.le_of_ble_eq_true rfl) ho (h.mono fun o15 A12 b13 c14 h => aftI h fun i16 h => ?_)
      refine G_sub [1, 2] rfl ?_
      exact h
    · replace h := h.2 c
      refine G_aload_n 1 (dk_at dk_X6_keep_0 33 rfl) rfl ?_
      refine K_gR gf_X6_7 (dk_at dk_X6_keep_0 34 rfl) h (fun r17 h => ?_)
      refine G_iconst (v := 0) (dk_at dk_X6_keep_0 35 rfl) (by decide) ?_
      refine K_aI (dk_at dk_X6_keep_0 36 rfl) h (fun i18 h => ?_)
      refine G_goto (tgt := 76) (dk_at dk_X6_keep_0 37 rfl) (by decide) ?_
      refine G_sub [1, 2] rfl ?_
      exact h
  · replace h := h.2 c
    refine G_iconst (v := 0) (dk_at dk_X6_keep_0 23 rfl) (by decide) ?_
    exact G_iret (ty := .int) rfl rfl (dk_at dk_X6_keep_0 24 rfl) h
theorem k_X6_keep_76 {l : Launch} {X : XT} {d : Nat} {Q : Ot → AH → Prop} {A : AH} {bc bs : Nat} {v0 : Nat} {v1 : Int32} {s0 : Int32} (h : gR A v0 7 0 fun r1 => aI X A r1 9 fun i2 => isO A v0 7 ∧ Cal l X d bc bs M_X6_file [.ref v0, .int i2] A fun o6 A3 b4 c5 => rI o6 (fun E => Q (.inr E) A3) fun i7 => gR A3 v0 7 0 fun r8 => sI X A3 r8 i7 v1 fun A9 => gR A9 v0 7 0 fun r10 => sI X A9 r10 (i7 + 1) s0 fun A11 => G l X M_X6_keep d Q 111 [(0, .ref v0), (1, .int v1), (3, .int s0), (4, .int i7), (5, .int 0)] [] A11 b4 c5) : G l X M_X6_keep d Q 76 [(0, .ref v0), (1, .int v1)] [.int s0] A bc bs := by
  refine G_istore_n (lv' := [(3, .int s0), (0, .ref v0), (1, .int v1)]) (dk_at dk_X6_keep_0 41 rfl) (by decide) rfl ?_
  refine G_aload_n 1 (dk_at dk_X6_keep_0 42 rfl) rfl ?_
  refine G_aload_n 1 (dk_at dk_X6_keep_0 43 rfl) rfl ?_
  refine K_gR gf_X6_7 (dk_at dk_X6_keep_0 44 rfl) h (fun r1 h => ?_)
  refine G_bipush (v := 9) (dk_at dk_X6_keep_0 45 rfl) (by decide) ?_
  refine K_aI (dk_at dk_X6_keep_0 46 rfl) h (fun i2 h => ?_)
  obtain ⟨⟨_, ho⟩, h⟩ := h
  refine G_callV (As := [.int i2]) (rest := []) lk_X6_293 rfl (dk_at dk_X6_keep_0 47 rfl) rfl rfl (Nat.le_of_ble_eq_true rfl) ho (h.mono fun o6 A3 b4 c5 h => aftI h fun i7 h => ?_)
  refine G_istore (lv' := [(4, .int i7), (3, .int s0), (0, .ref v0), (1, .int v1)]) (dk_at dk_X6_keep_0 48 rfl) (by decide) rfl ?_
  refine G_aload_n 2 (dk_at dk_X6_keep_0 49 rfl) rfl ?_
  refine K_gR gf_X6_7 (dk_at dk_X6_keep_1 0 rfl) h (fun r8 h => ?_)
  refine G_iload 0 (dk_at dk_X6_keep_1 1 rfl) rfl ?_
  refine G_iload_n 3 (dk_at dk_X6_keep_1 2 rfl) rfl ?_
  refine K_sI (dk_at dk_X6_keep_1 3 rfl) h (fun A9 h => ?_)
  refine G_aload_n 2 (dk_at dk_X6_keep_1 4 rfl) rfl ?_
  refine K_gR gf_X6_7 (dk_at dk_X6_keep_1 5 rfl) h (fun r10 h => ?_)
  refine G_iload 0 (dk_at dk_X6_keep_1 6 rfl) rfl ?_
  refine G_iconst (v := 1) (dk_at dk_X6_keep_1 7 rfl) (by decide) ?_
  refine G_iadd (dk_at dk_X6_keep_1 8 rfl) ?_
  refine G_iload_n 1 (dk_at dk_X6_keep_1 9 rfl) rfl ?_
  refine K_sI (dk_at dk_X6_keep_1 10 rfl) h (fun A11 h => ?_)
  refine G_iconst (v := 0) (dk_at dk_X6_keep_1 11 rfl) (by decide) ?_
  refine G_istore (lv' := [(5, .int 0), (4, .int i7), (3, .int s0), (0, .ref v0), (1, .int v1)]) (dk_at dk_X6_keep_1 12 rfl) (by decide) rfl ?_
  refine G_sub [3, 4, 2, 1, 0] rfl ?_
  exact h
theorem k_X6_keep_111 {l : Launch} {X : XT} {d : Nat} {Q : Ot → AH → Prop} {A : AH} {bc bs : Nat} {v0 : Nat} {v1 : Int32} {v3 : Int32} {v4 : Int32} {v5 : Int32} (h : (v3 ≤ v5 → gR A v0 7 0 fun r1 => aI X A r1 9 fun i2 => sI X A r1 9 (i2 + 1) fun A3 => G l X M_X6_keep d Q 160 [(0, .ref v0), (1, .int v1), (3, .int v3), (5, .int 0)] [] A3 bc bs) ∧ (¬ v3 ≤ v5 → gR A v0 7 0 fun r4 => gR A v0 7 0 fun r5 => aI X A r5 (336 + v5) fun i6 => sI X A r4 ((v4 + 2) + v5) i6 fun A7 => G l X M_X6_keep d Q 111 [(0, .ref v0), (1, .int v1), (3, .int v3), (4, .int v4), (5, .int (v5 + 1))] [] A7 bc bs)) : G l X M_X6_keep d Q 111 [(0, .ref v0), (1, .int v1), (3, .int v3), (4, .int v4), (5, .int v5)] [] A bc bs := by
  refine G_iload 4 (dk_at dk_X6_keep_1 13 rfl) rfl ?_
  refine G_iload_n 2 (dk_at dk_X6_keep_1 14 rfl) rfl ?_
  refine G_icmp_ge (tgt := 146) (dk_at dk_X6_keep_1 15 rfl) (by decide) (fun c => ?_) (fun c => ?_)
  · replace h := h.1 c
    refine G_aload_n 0 (dk_at dk_X6_keep_1 32 rfl) rfl ?_
    refine K_gR gf_X6_7 (dk_at dk_X6_keep_1 33 rfl) h (fun r1 h => ?_)
    refine G_bipush (v := 9) (dk_at dk_X6_keep_1 34 rfl) (by decide) ?_
    refine G_dup2 (dk_at dk_X6_keep_1 35 rfl) rfl rfl ?_
    refine K_aI (dk_at dk_X6_keep_1 36 rfl) h (fun i2 h => ?_)
    refine G_iconst (v := 1) (dk_at dk_X6_keep_1 37 rfl) (by decide) ?_
    refine G_iadd (dk_at dk_X6_keep_1 38 rfl) ?_
    refine K_sI (dk_at dk_X6_keep_1 39 rfl) h (fun A3 h => ?_)
    refine G_iconst (v := 0) (dk_at dk_X6_keep_1 40 rfl) (by decide) ?_
    refine G_istore (lv' := [(5, .int 0), (0, .ref v0), (1, .int v1), (3, .int v3), (4, .int v4)]) (dk_at dk_X6_keep_1 41 rfl) (by decide) rfl ?_
    refine G_sub [1, 2, 3, 0] rfl ?_
    exact h
  · replace h := h.2 c
    refine G_aload_n 0 (dk_at dk_X6_keep_1 16 rfl) rfl ?_
    refine K_gR gf_X6_7 (dk_at dk_X6_keep_1 17 rfl) h (fun r4 h => ?_)
    refine G_iload 3 (dk_at dk_X6_keep_1 18 rfl) rfl ?_
    refine G_iconst (v := 2) (dk_at dk_X6_keep_1 19 rfl) (by decide) ?_
    refine G_iadd (dk_at dk_X6_keep_1 20 rfl) ?_
    refine G_iload 4 (dk_at dk_X6_keep_1 21 rfl) rfl ?_
    refine G_iadd (dk_at dk_X6_keep_1 22 rfl) ?_
    refine G_aload_n 0 (dk_at dk_X6_keep_1 23 rfl) rfl ?_
    refine K_gR gf_X6_7 (dk_at dk_X6_keep_1 24 rfl) h (fun r5 h => ?_)
    refine G_sipush (v := 336) (dk_at dk_X6_keep_1 25 rfl) (by decide) ?_
    refine G_iload 4 (dk_at dk_X6_keep_1 26 rfl) rfl ?_
    refine G_iadd (dk_at dk_X6_keep_1 27 rfl) ?_
    refine K_aI (dk_at dk_X6_keep_1 28 rfl) h (fun i6 h => ?_)
    refine K_sI (dk_at dk_X6_keep_1 29 rfl) h (fun A7 h => ?_)
    refine G_iinc (v := v5 + 1) (lv' := [(5, .int (v5 + 1)), (0, .ref v0), (1, .int v1), (3, .int v3), (4, .int v4)]) 4 (dk_at dk_X6_keep_1 30 rfl) rfl rfl (by decide) rfl ?_
    refine G_goto (tgt := 111) (dk_at dk_X6_keep_1 31 rfl) (by decide) ?_
    refine G_sub [1, 2, 3, 4, 0] rfl ?_
    exact h
theorem k_X6_keep_160 {l : Launch} {X : XT} {d : Nat} {Q : Ot → AH → Prop} {A : AH} {bc bs : Nat} {v0 : Nat} {v1 : Int32} {v3 : Int32} {v5 : Int32} (h : isO A v0 7 ∧ Cal l X d bc bs M_X6_parts [.ref v0] A fun o4 A1 b2 c3 => rI o4 (fun E => Q (.inr E) A1) fun i5 => (i5 ≤ v5 → isO A1 v0 7 ∧ Cal l X d b2 c3 M_X6_tells [.ref v0, .int 7, .int v1, .int v3] A1 fun o9 A6 b7 c8 => rV o9 (fun E => Q (.inr E) A6) <| Q (Ri v3) A6) ∧ (¬ i5 ≤ v5 → gR A1 v0 7 0 fun r10 => sI X A1 r10 (96 + v5) 0 fun A11 => G l X M_X6_keep d Q 160 [(0, .ref v0), (1, .int v1), (3, .int v3), (5, .int (v5 + 1))] [] A11 b2 c3)) : G l X M_X6_keep d Q 160 [(0, .ref v0), (1, .int v1), (3, .int v3), (5, .int v5)] [] A bc bs := by
  refine G_iload 3 (dk_at dk_X6_keep_1 42 rfl) rfl ?_
  refine G_aload_n 0 (dk_at dk_X6_keep_1 43 rfl) rfl ?_
  obtain ⟨⟨_, ho⟩, h⟩ := h
  refine G_callV (As := []) (rest := [.int v5]) lk_X6_156 rfl (dk_at dk_X6_keep_1 44 rfl) rfl rfl (Nat.le_of_ble_eq_true rfl) ho (h.mono fun o4 A1 b2 c3 h => aftI h fun i5 h => ?_)
  refine G_icmp_ge (tgt := 186) (dk_at dk_X6_keep_1 45 rfl) (by decide) (fun c => ?_) (fun c => ?_)
  · replace h := h.1 c
    refine G_aload_n 0 (dk_at dk_X6_keep_2 5 rfl) rfl ?_
    refine G_bipush (v := 7) (dk_at dk_X6_keep_2 6 rfl) (by decide) ?_
    refine G_iload_n 1 (dk_at dk_X6_keep_2 7 rfl) rfl ?_
    refine G_iload_n 2 (dk_at dk_X6_keep_2 8 rfl) rfl ?_
    obtain ⟨⟨_, ho⟩, h⟩ := h
    refine G_callV (As := [.int 7, .int v1, .int v3]) (rest := []) lk_X6_234 rfl (dk_at dk_X6_keep_2 9 rfl) rfl rfl (Nat.le_of_ble_eq_true rfl) ho (h.mono fun o9 A6 b7 c8 h => aftV h fun h => ?_)
    refine G_iload_n 2 (dk_at dk_X6_keep_2 10 rfl) rfl ?_
    exact G_iret (ty := .int) rfl rfl (dk_at dk_X6_keep_2 11 rfl) h
  · replace h := h.2 c
    refine G_aload_n 0 (dk_at dk_X6_keep_1 46 rfl) rfl ?_
    refine K_gR gf_X6_7 (dk_at dk_X6_keep_1 47 rfl) h (fun r10 h => ?_)
    refine G_bipush (v := 96) (dk_at dk_X6_keep_1 48 rfl) (by decide) ?_
    refine G_iload 3 (dk_at dk_X6_keep_1 49 rfl) rfl ?_
    refine G_iadd (dk_at dk_X6_keep_2 0 rfl) ?_
    refine G_iconst (v := 0) (dk_at dk_X6_keep_2 1 rfl) (by decide) ?_
    refine K_sI (dk_at dk_X6_keep_2 2 rfl) h (fun A11 h => ?_)
    refine G_iinc (v := v5 + 1) (lv' := [(5, .int (v5 + 1)), (0, .ref v0), (1, .int v1), (3, .int v3)]) 3 (dk_at dk_X6_keep_2 3 rfl) rfl rfl (by decide) rfl ?_
    refine G_goto (tgt := 160) (dk_at dk_X6_keep_2 4 rfl) (by decide) ?_
    refine G_sub [1, 2, 3, 0] rfl ?_
    exact h
theorem k_X6_goes_0 {l : Launch} {X : XT} {d : Nat} {Q : Ot → AH → Prop} {A : AH} {bc bs : Nat} {v0 : Nat} {v1 : Int32} (h : gR A v0 7 0 fun r1 => aI X A r1 9 fun i2 => sI X A r1 9 (i2 - 1) fun A3 => isO A3 v0 7 ∧ Cal l X d bc bs M_X6_file [.ref v0, .int v1] A3 fun o7 A4 b5 c6 => rI o7 (fun E => Q (.inr E) A4) fun i8 => G l X M_X6_goes d Q 17 [(0, .ref v0), (2, .int i8)] [] A4 b5 c6) : G l X M_X6_goes d Q 0 [(0, .ref v0), (1, .int v1)] [] A bc bs := by
  refine G_aload_n 0 (dk_at dk_X6_goes 0 rfl) rfl ?_
  refine K_gR gf_X6_7 (dk_at dk_X6_goes 1 rfl) h (fun r1 h => ?_)
  refine G_bipush (v := 9) (dk_at dk_X6_goes 2 rfl) (by decide) ?_
  refine G_dup2 (dk_at dk_X6_goes 3 rfl) rfl rfl ?_
  refine K_aI (dk_at dk_X6_goes 4 rfl) h (fun i2 h => ?_)
  refine G_iconst (v := 1) (dk_at dk_X6_goes 5 rfl) (by decide) ?_
  refine G_isub (dk_at dk_X6_goes 6 rfl) ?_
  refine K_sI (dk_at dk_X6_goes 7 rfl) h (fun A3 h => ?_)
  refine G_aload_n 0 (dk_at dk_X6_goes 8 rfl) rfl ?_
  refine G_iload_n 1 (dk_at dk_X6_goes 9 rfl) rfl ?_
  obtain ⟨⟨_, ho⟩, h⟩ := h
  refine G_callV (As := [.int v1]) (rest := []) lk_X6_293 rfl (dk_at dk_X6_goes 10 rfl) rfl rfl (Nat.le_of_ble_eq_true rfl) ho (h.mono fun o7 A4 b5 c6 h => aftI h fun i8 h => ?_)
  refine G_istore_n (lv' := [(2, .int i8), (0, .ref v0), (1, .int v1)]) (dk_at dk_X6_goes 11 rfl) (by decide) rfl ?_
  refine G_sub [1, 0] rfl ?_
  exact h
theorem k_X6_goes_17 {l : Launch} {X : XT} {d : Nat} {Q : Ot → AH → Prop} {A : AH} {bc bs : Nat} {v0 : Nat} {v2 : Int32} (h : gR A v0 7 0 fun r1 => aI X A r1 9 fun i2 => isO A v0 7 ∧ Cal l X d bc bs M_X6_file [.ref v0, .int i2] A fun o6 A3 b4 c5 => rI o6 (fun E => Q (.inr E) A3) fun i7 => (i7 ≤ v2 → Q Rv A3) ∧ (¬ i7 ≤ v2 → gR A3 v0 7 0 fun r8 => gR A3 v0 7 0 fun r9 => aI X A3 r9 (v2 + 242) fun i10 => sI X A3 r8 v2 i10 fun A11 => G l X M_X6_goes d Q 17 [(0, .ref v0), (2, .int (v2 + 1))] [] A11 b4 c5)) : G l X M_X6_goes d Q 17 [(0, .ref v0), (2, .int v2)] [] A bc bs := by
  refine G_iload_n 1 (dk_at dk_X6_goes 12 rfl) rfl ?_
  refine G_aload_n 0 (dk_at dk_X6_goes 13 rfl) rfl ?_
  refine G_aload_n 0 (dk_at dk_X6_goes 14 rfl) rfl ?_
  refine K_gR gf_X6_7 (dk_at dk_X6_goes 15 rfl) h (fun r1 h => ?_)
  refine G_bipush (v := 9) (dk_at dk_X6_goes 16 rfl) (by decide) ?_
  refine K_aI (dk_at dk_X6_goes 17 rfl) h (fun i2 h => ?_)
  obtain ⟨⟨_, ho⟩, h⟩ := h
  refine G_callV (As := [.int i2]) (rest := [.int v2]) lk_X6_293 rfl (dk_at dk_X6_goes 18 rfl) rfl rfl (Nat.le_of_ble_eq_true rfl) ho (h.mono fun o6 A3 b4 c5 h => aftI h fun i7 h => ?_)
  refine G_icmp_ge (tgt := 54) (dk_at dk_X6_goes 19 rfl) (by decide) (fun c => ?_) (fun c => ?_)
  · replace h := h.1 c
    exact G_vret rfl (dk_at dk_X6_goes 32 rfl) h
  · replace h := h.2 c
    refine G_aload_n 0 (dk_at dk_X6_goes 20 rfl) rfl ?_
    refine K_gR gf_X6_7 (dk_at dk_X6_goes 21 rfl) h (fun r8 h => ?_)
    refine G_iload_n 1 (dk_at dk_X6_goes 22 rfl) rfl ?_
    refine G_aload_n 0 (dk_at dk_X6_goes 23 rfl) rfl ?_
    refine K_gR gf_X6_7 (dk_at dk_X6_goes 24 rfl) h (fun r9 h => ?_)
    refine G_iload_n 1 (dk_at dk_X6_goes 25 rfl) rfl ?_
    refine G_sipush (v := 242) (dk_at dk_X6_goes 26 rfl) (by decide) ?_
    refine G_iadd (dk_at dk_X6_goes 27 rfl) ?_
    refine K_aI (dk_at dk_X6_goes 28 rfl) h (fun i10 h => ?_)
    refine K_sI (dk_at dk_X6_goes 29 rfl) h (fun A11 h => ?_)
    refine G_iinc (v := v2 + 1) (lv' := [(2, .int (v2 + 1)), (0, .ref v0)]) 1 (dk_at dk_X6_goes 30 rfl) rfl rfl (by decide) rfl ?_
    refine G_goto (tgt := 17) (dk_at dk_X6_goes 31 rfl) (by decide) ?_
    refine G_sub [1, 0] rfl ?_
    exact h
theorem k_X6_resume_0 {l : Launch} {X : XT} {d : Nat} {Q : Ot → AH → Prop} {A : AH} {bc bs : Nat} {v0 : Nat} {v1 : Int32} (h : isO A v0 7 ∧ Cal l X d bc bs M_X6_isPartial [.ref v0, .int v1] A fun o4 A1 b2 c3 => rI o4 (fun E => Q (.inr E) A1) fun i5 => (¬ i5 = 0 → isO A1 v0 7 ∧ Cal l X d b2 c3 M_X6_missing [.ref v0] A1 fun o9 A6 b7 c8 => rI o9 (fun E => Q (.inr E) A6) fun i10 => isO A6 v0 7 ∧ Cal l X d b7 c8 M_X6_parts [.ref v0] A6 fun o14 A11 b12 c13 => rI o14 (fun E => Q (.inr E) A11) fun i15 => (i15 ≤ i10 → G l X M_X6_resume d Q 29 [(0, .ref v0), (1, .int v1)] [.int 0, .ref v0] A11 b12 c13) ∧ (¬ i15 ≤ i10 → G l X M_X6_resume d Q 29 [(0, .ref v0), (1, .int v1)] [.int 2, .ref v0] A11 b12 c13)) ∧ (i5 = 0 → G l X M_X6_resume d Q 29 [(0, .ref v0), (1, .int v1)] [.int 1, .ref v0] A1 b2 c3)) : G l X M_X6_resume d Q 0 [(0, .ref v0), (1, .int v1)] [] A bc bs := by
  refine G_aload_n 0 (dk_at dk_X6_resume_0 0 rfl) rfl ?_
  refine G_aload_n 0 (dk_at dk_X6_resume_0 1 rfl) rfl ?_
  refine G_iload_n 1 (dk_at dk_X6_resume_0 2 rfl) rfl ?_
  obtain ⟨⟨_, ho⟩, h⟩ := h
  refine G_callV (As := [.int v1]) (rest := [.ref v0]) lk_X6_295 rfl (dk_at dk_X6_resume_0 3 rfl) rfl rfl (Nat.le_of_ble_eq_true rfl) ho (h.mono fun o4 A1 b2 c3 h => aftI h fun i5 h => ?_)
  refine G_if_ne (tgt := 13) (dk_at dk_X6_resume_0 4 rfl) (by decide) (fun c => ?_) (fun c => ?_)
  · replace h := h.1 c
    refine G_aload_n 0 (dk_at dk_X6_resume_0 7 rfl) rfl ?_
    obtain ⟨⟨_, ho⟩, h⟩ := h
    refine G_callV (As := []) (rest := [.ref v0]) lk_X6_201 rfl (dk_at dk_X6_resume_0 8 rfl) rfl rfl (Nat.le_of_ble_eq_true rfl) ho (h.mono fun o9 A6 b7 c8 h => aftI h fun i10 h => ?_)
    refine G_aload_n 0 (dk_at dk_X6_resume_0 9 rfl) rfl ?_
    obtain ⟨⟨_, ho⟩, h⟩ := h
    refine G_callV (As := []) (rest := [.int i10, .ref v0]) lk_X6_156 rfl (dk_at dk_X6_resume_0 10 rfl) rfl rfl (Nat.le_of_ble_eq_true rfl) ho (h.mono fun o14 A11 b12 c13 h => aftI h fun i15 h => ?_)
    refine G_icmp_ge (tgt := 28) (dk_at dk_X6_resume_0 11 rfl) (by decide) (fun c => ?_) (fun c => ?_)
    · replace h := h.1 c
      refine G_iconst (v := 0) (dk_at dk_X6_resume_0 14 rfl) (by decide) ?_
      exact h
    · replace h := h.2 c
      refine G_iconst (v := 2) (dk_at dk_X6_resume_0 12 rfl) (by decide) ?_
      refine G_goto (tgt := 29) (dk_at dk_X6_resume_0 13 rfl) (by decide) ?_
      exact h
  · replace h := h.2 c
    refine G_iconst (v := 1) (dk_at dk_X6_resume_0 5 rfl) (by decide) ?_
    refine G_goto (tgt := 29) (dk_at dk_X6_resume_0 6 rfl) (by decide) ?_
    exact h
theorem k_X6_resume_29 {l : Launch} {X : XT} {d : Nat} {Q : Ot → AH → Prop} {A : AH} {bc bs : Nat} {v0 : Nat} {v1 : Int32} {s0 : Int32} {s1 : Nat} (h : pV A s1 7 5 (.int s0) fun A1 => gI A1 v0 7 5 fun i2 => (i2 ≤ 0 → isO A1 v0 7 ∧ Cal l X d bc bs M_X6_keeps [.ref v0] A1 fun o6 A3 b4 c5 => rV o6 (fun E => Q (.inr E) A3) <| isO A3 v0 7 ∧ Cal l X d b4 c5 M_X6_file [.ref v0, .int v1] A3 fun o10 A7 b8 c9 => rI o10 (fun E => Q (.inr E) A7) fun i11 => G l X M_X6_resume d Q 53 [(0, .ref v0), (1, .int v1), (2, .int i11), (3, .int 0)] [] A7 b8 c9) ∧ (¬ i2 ≤ 0 → Q (Ri 0) A1)) : G l X M_X6_resume d Q 29 [(0, .ref v0), (1, .int v1)] [.int s0, .ref s1] A bc bs := by
  refine K_pI pf_X6_50 (dk_at dk_X6_resume_0 15 rfl) h (fun A1 h => ?_)
  refine G_aload_n 0 (dk_at dk_X6_resume_0 16 rfl) rfl ?_
  refine K_gI gf_X6_50 (dk_at dk_X6_resume_0 17 rfl) h (fun i2 h => ?_)
  refine G_if_le (tgt := 41) (dk_at dk_X6_resume_0 18 rfl) (by decide) (fun c => ?_) (fun c => ?_)
  · replace h := h.1 c
    refine G_aload_n 0 (dk_at dk_X6_resume_0 21 rfl) rfl ?_
    obtain ⟨⟨_, ho⟩, h⟩ := h
    refine G_callV (As := []) (rest := []) lk_X6_153 rfl (dk_at dk_X6_resume_0 22 rfl) rfl rfl (Nat.le_of_ble_eq_true rfl) ho (h.mono fun o6 A3 b4 c5 h => aftV h fun h => ?_)
    refine G_aload_n 0 (dk_at dk_X6_resume_0 23 rfl) rfl ?_
    refine G_iload_n 1 (dk_at dk_X6_resume_0 24 rfl) rfl ?_
    obtain ⟨⟨_, ho⟩, h⟩ := h
    refine G_callV (As := [.int v1]) (rest := []) lk_X6_293 rfl (dk_at dk_X6_resume_0 25 rfl) rfl rfl (Nat.le_of_ble_eq_true rfl) ho (h.mono fun o10 A7 b8 c9 h => aftI h fun i11 h => ?_)
    refine G_istore_n (lv' := [(2, .int i11), (0, .ref v0), (1, .int v1)]) (dk_at dk_X6_resume_0 26 rfl) (by decide) rfl ?_
    refine G_iconst (v := 0) (dk_at dk_X6_resume_0 27 rfl) (by decide) ?_
    refine G_istore_n (lv' := [(3, .int 0), (2, .int i11), (0, .ref v0), (1, .int v1)]) (dk_at dk_X6_resume_0 28 rfl) (by decide) rfl ?_
    refine G_sub [2, 3, 1, 0] rfl ?_
    exact h
  · replace h := h.2 c
    refine G_iconst (v := 0) (dk_at dk_X6_resume_0 19 rfl) (by decide) ?_
    exact G_iret (ty := .int) rfl rfl (dk_at dk_X6_resume_0 20 rfl) h
theorem k_X6_resume_53 {l : Launch} {X : XT} {d : Nat} {Q : Ot → AH → Prop} {A : AH} {bc bs : Nat} {v0 : Nat} {v1 : Int32} {v2 : Int32} {v3 : Int32} (h : isO A v0 7 ∧ Cal l X d bc bs M_X6_parts [.ref v0] A fun o4 A1 b2 c3 => rI o4 (fun E => Q (.inr E) A1) fun i5 => (i5 ≤ v3 → G l X M_X6_resume d Q 150 [(0, .ref v0), (1, .int v1), (2, .int v2), (3, .int v3)] [] A1 b2 c3) ∧ (¬ i5 ≤ v3 → isO A1 v0 7 ∧ Cal l X d b2 c3 M_X6_placeOf [.ref v0, .int v3] A1 fun o9 A6 b7 c8 => rI o9 (fun E => Q (.inr E) A6) fun i10 => isO A6 v0 7 ∧ Cal l X d b7 c8 M_X6_partLength [.ref v0, .int v3] A6 fun o14 A11 b12 c13 => rI o14 (fun E => Q (.inr E) A11) fun i15 => gR A11 v0 7 0 fun r16 => aI X A11 r16 (v2 + 1) fun i17 => (i17 < (i10 + i15) → G l X M_X6_resume d Q 150 [(0, .ref v0), (1, .int v1), (2, .int v2), (3, .int v3)] [] A11 b12 c13) ∧ (¬ i17 < (i10 + i15) → gR A11 v0 7 0 fun r18 => sI X A11 r18 (96 + v3) 3 fun A19 => isO A19 v0 7 ∧ Cal l X d b12 c13 M_X6_placeOf [.ref v0, .int v3] A19 fun o23 A20 b21 c22 => rI o23 (fun E => Q (.inr E) A20) fun i24 => G l X M_X6_resume d Q 100 [(0, .ref v0), (1, .int v1), (2, .int v2), (3, .int v3), (4, .int i24)] [] A20 b21 c22))) : G l X M_X6_resume d Q 53 [(0, .ref v0), (1, .int v1), (2, .int v2), (3, .int v3)] [] A bc bs := by
  refine G_iload_n 3 (dk_at dk_X6_resume_0 29 rfl) rfl ?_
  refine G_aload_n 0 (dk_at dk_X6_resume_0 30 rfl) rfl ?_
  obtain ⟨⟨_, ho⟩, h⟩ := h
  refine G_callV (As := []) (rest := [.int v3]) lk_X6_156 rfl (dk_at dk_X6_resume_0 31 rfl) rfl rfl (Nat.le_of_ble_eq_true rfl) ho (h.mono fun o4 A1 b2 c3 h => aftI h fun i5 h => ?_)
  refine G_icmp_ge (tgt := 150) (dk_at dk_X6_resume_0 32 rfl) (by decide) (fun c => ?_) (fun c => ?_)
  · replace h := h.1 c
    exact h
  · replace h := h.2 c
    refine G_aload_n 0 (dk_at dk_X6_resume_0 33 rfl) rfl ?_
    refine G_iload_n 3 (dk_at dk_X6_resume_0 34 rfl) rfl ?_
    obtain ⟨⟨_, ho⟩, h⟩ := h
    refine G_callV (As := [.int v3]) (rest := []) lk_X6_176 rfl (dk_at dk_X6_resume_0 35 rfl) rfl rfl (Nat.le_of_ble_eq_true rfl) ho (h.mono fun o9 A6 b7 c8 h => aftI h fun i10 h => ?_)
    refine G_aload_n 0 (dk_at dk_X6_resume_0 36 rfl) rfl ?_
    refine G_iload_n 3 (dk_at dk_X6_resume_0 37 rfl) rfl ?_
    obtain ⟨⟨_, ho⟩, h⟩ := h
    refine G_callV (As := [.int v3]) (rest := [.int i10]) lk_X6_219 rfl (dk_at dk_X6_resume_0 38 rfl) rfl rfl (Nat.le_of_ble_eq_true rfl) ho (h.mono fun o14 A11 b12 c13 h => aftI h fun i15 h => ?_)
    refine G_iadd (dk_at dk_X6_resume_0 39 rfl) ?_
    refine G_aload_n 0 (dk_at dk_X6_resume_0 40 rfl) rfl ?_
    refine K_gR gf_X6_7 (dk_at dk_X6_resume_0 41 rfl) h (fun r16 h => ?_)
    refine G_iload_n 2 (dk_at dk_X6_resume_0 42 rfl) rfl ?_
    refine G_iconst (v := 1) (dk_at dk_X6_resume_0 43 rfl) (by decide) ?_
    refine G_iadd (dk_at dk_X6_resume_0 44 rfl) ?_
    refine K_aI (dk_at dk_X6_resume_0 45 rfl) h (fun i17 h => ?_)
    refine G_icmp_gt (tgt := 150) (dk_at dk_X6_resume_0 46 rfl) (by decide) (fun c => ?_) (fun c => ?_)
    · replace h := h.1 c
      exact h
    · replace h := h.2 c
      refine G_aload_n 0 (dk_at dk_X6_resume_0 47 rfl) rfl ?_
      refine K_gR gf_X6_7 (dk_at dk_X6_resume_0 48 rfl) h (fun r18 h => ?_)
      refine G_bipush (v := 96) (dk_at dk_X6_resume_0 49 rfl) (by decide) ?_
      refine G_iload_n 3 (dk_at dk_X6_resume_1 0 rfl) rfl ?_
      refine G_iadd (dk_at dk_X6_resume_1 1 rfl) ?_
      refine G_iconst (v := 3) (dk_at dk_X6_resume_1 2 rfl) (by decide) ?_
      refine K_sI (dk_at dk_X6_resume_1 3 rfl) h (fun A19 h => ?_)
      refine G_aload_n 0 (dk_at dk_X6_resume_1 4 rfl) rfl ?_
      refine G_iload_n 3 (dk_at dk_X6_resume_1 5 rfl) rfl ?_
      obtain ⟨⟨_, ho⟩, h⟩ := h
      refine G_callV (As := [.int v3]) (rest := []) lk_X6_176 rfl (dk_at dk_X6_resume_1 6 rfl) rfl rfl (Nat.le_of_ble_eq_true rfl) ho (h.mono fun o23 A20 b21 c22 h => aftI h fun i24 h => ?_)
      refine G_istore (lv' := [(4, .int i24), (0, .ref v0), (1, .int v1), (2, .int v2), (3, .int v3)]) (dk_at dk_X6_resume_1 7 rfl) (by decide) rfl ?_
      refine G_sub [1, 2, 3, 4, 0] rfl ?_
      exact h
theorem k_X6_resume_100 {l : Launch} {X : XT} {d : Nat} {Q : Ot → AH → Prop} {A : AH} {bc bs : Nat} {v0 : Nat} {v1 : Int32} {v2 : Int32} {v3 : Int32} {v4 : Int32} (h : isO A v0 7 ∧ Cal l X d bc bs M_X6_placeOf [.ref v0, .int v3] A fun o4 A1 b2 c3 => rI o4 (fun E => Q (.inr E) A1) fun i5 => isO A1 v0 7 ∧ Cal l X d b2 c3 M_X6_partLength [.ref v0, .int v3] A1 fun o9 A6 b7 c8 => rI o9 (fun E => Q (.inr E) A6) fun i10 => ((i5 + i10) ≤ v4 → G l X M_X6_resume d Q 53 [(0, .ref v0), (1, .int v1), (2, .int v2), (3, .int (v3 + 1))] [] A6 b7 c8) ∧ (¬ (i5 + i10) ≤ v4 → gR A6 v0 7 0 fun r11 => gR A6 v0 7 0 fun r12 => aI X A6 r12 ((v2 + 2) + v4) fun i13 => sI X A6 r11 (336 + v4) i13 fun A14 => G l X M_X6_resume d Q 100 [(0, .ref v0), (1, .int v1), (2, .int v2), (3, .int v3), (4, .int (v4 + 1))] [] A14 b7 c8)) : G l X M_X6_resume d Q 100 [(0, .ref v0), (1, .int v1), (2, .int v2), (3, .int v3), (4, .int v4)] [] A bc bs := by
  refine G_iload 4 (dk_at dk_X6_resume_1 8 rfl) rfl ?_
  refine G_aload_n 0 (dk_at dk_X6_resume_1 9 rfl) rfl ?_
  refine G_iload_n 3 (dk_at dk_X6_resume_1 10 rfl) rfl ?_
  obtain ⟨⟨_, ho⟩, h⟩ := h
  refine G_callV (As := [.int v3]) (rest := [.int v4]) lk_X6_176 rfl (dk_at dk_X6_resume_1 11 rfl) rfl rfl (Nat.le_of_ble_eq_true rfl) ho (h.mono fun o4 A1 b2 c3 h => aftI h fun i5 h => ?_)
  refine G_aload_n 0 (dk_at dk_X6_resume_1 12 rfl) rfl ?_
  refine G_iload_n 3 (dk_at dk_X6_resume_1 13 rfl) rfl ?_
  obtain ⟨⟨_, ho⟩, h⟩ := h
  refine G_callV (As := [.int v3]) (rest := [.int i5, .int v4]) lk_X6_219 rfl (dk_at dk_X6_resume_1 14 rfl) rfl rfl (Nat.le_of_ble_eq_true rfl) ho (h.mono fun o9 A6 b7 c8 h => aftI h fun i10 h => ?_)
  refine G_iadd (dk_at dk_X6_resume_1 15 rfl) ?_
  refine G_icmp_ge (tgt := 144) (dk_at dk_X6_resume_1 16 rfl) (by decide) (fun c => ?_) (fun c => ?_)
  · replace h := h.1 c
    refine G_iinc (v := v3 + 1) (lv' := [(3, .int (v3 + 1)), (0, .ref v0), (1, .int v1), (2, .int v2), (4, .int v4)]) 3 (dk_at dk_X6_resume_1 33 rfl) rfl rfl (by decide) rfl ?_
    refine G_goto (tgt := 53) (dk_at dk_X6_resume_1 34 rfl) (by decide) ?_
    refine G_sub [1, 2, 3, 0] rfl ?_
    exact h
  · replace h := h.2 c
    refine G_aload_n 0 (dk_at dk_X6_resume_1 17 rfl) rfl ?_
    refine K_gR gf_X6_7 (dk_at dk_X6_resume_1 18 rfl) h (fun r11 h => ?_)
    refine G_sipush (v := 336) (dk_at dk_X6_resume_1 19 rfl) (by decide) ?_
    refine G_iload 4 (dk_at dk_X6_resume_1 20 rfl) rfl ?_
    refine G_iadd (dk_at dk_X6_resume_1 21 rfl) ?_
    refine G_aload_n 0 (dk_at dk_X6_resume_1 22 rfl) rfl ?_
    refine K_gR gf_X6_7 (dk_at dk_X6_resume_1 23 rfl) h (fun r12 h => ?_)
    refine G_iload_n 2 (dk_at dk_X6_resume_1 24 rfl) rfl ?_
    refine G_iconst (v := 2) (dk_at dk_X6_resume_1 25 rfl) (by decide) ?_
    refine G_iadd (dk_at dk_X6_resume_1 26 rfl) ?_
    refine G_iload 4 (dk_at dk_X6_resume_1 27 rfl) rfl ?_
    refine G_iadd (dk_at dk_X6_resume_1 28 rfl) ?_
    refine K_aI (dk_at dk_X6_resume_1 29 rfl) h (fun i13 h => ?_)
    refine K_sI (dk_at dk_X6_resume_1 30 rfl) h (fun A14 h => ?_)
    refine G_iinc (v := v4 + 1) (lv' := [(4, .int (v4 + 1)), (0, .ref v0), (1, .int v1), (2, .int v2), (3, .int v3)]) 4 (dk_at dk_X6_resume_1 31 rfl) rfl rfl (by decide) rfl ?_
    refine G_goto (tgt := 100) (dk_at dk_X6_resume_1 32 rfl) (by decide) ?_
    refine G_sub [1, 2, 3, 4, 0] rfl ?_
    exact h
theorem k_X6_resume_150 {l : Launch} {X : XT} {d : Nat} {Q : Ot → AH → Prop} {A : AH} {bc bs : Nat} {v0 : Nat} {v1 : Int32} {v2 : Int32} {v3 : Int32} (h : gR A v0 7 0 fun r1 => aI X A r1 v2 fun i2 => isO A v0 7 ∧ Cal l X d bc bs M_X6_tells [.ref v0, .int 8, .int i2, .int v3] A fun o6 A3 b4 c5 => rV o6 (fun E => Q (.inr E) A3) <| G l X M_X6_resume d Q 166 [(0, .ref v0), (1, .int v1), (4, .int 0)] [] A3 b4 c5) : G l X M_X6_resume d Q 150 [(0, .ref v0), (1, .int v1), (2, .int v2), (3, .int v3)] [] A bc bs := by
  refine G_aload_n 0 (dk_at dk_X6_resume_1 35 rfl) rfl ?_
  refine G_bipush (v := 8) (dk_at dk_X6_resume_1 36 rfl) (by decide) ?_
  refine G_aload_n 0 (dk_at dk_X6_resume_1 37 rfl) rfl ?_
  refine K_gR gf_X6_7 (dk_at dk_X6_resume_1 38 rfl) h (fun r1 h => ?_)
  refine G_iload_n 2 (dk_at dk_X6_resume_1 39 rfl) rfl ?_
  refine K_aI (dk_at dk_X6_resume_1 40 rfl) h (fun i2 h => ?_)
  refine G_iload_n 3 (dk_at dk_X6_resume_1 41 rfl) rfl ?_
  obtain ⟨⟨_, ho⟩, h⟩ := h
  refine G_callV (As := [.int 8, .int i2, .int v3]) (rest := []) lk_X6_234 rfl (dk_at dk_X6_resume_1 42 rfl) rfl rfl (Nat.le_of_ble_eq_true rfl) ho (h.mono fun o6 A3 b4 c5 h => aftV h fun h => ?_)
  refine G_iconst (v := 0) (dk_at dk_X6_resume_1 43 rfl) (by decide) ?_
  refine G_istore (lv' := [(4, .int 0), (0, .ref v0), (1, .int v1), (2, .int v2), (3, .int v3)]) (dk_at dk_X6_resume_1 44 rfl) (by decide) rfl ?_
  refine G_sub [1, 2, 0] rfl ?_
  exact h
theorem k_X6_resume_166 {l : Launch} {X : XT} {d : Nat} {Q : Ot → AH → Prop} {A : AH} {bc bs : Nat} {v0 : Nat} {v1 : Int32} {v4 : Int32} (h : isO A v0 7 ∧ Cal l X d bc bs M_X6_pieces [.ref v0] A fun o4 A1 b2 c3 => rI o4 (fun E => Q (.inr E) A1) fun i5 => (i5 ≤ v4 → isO A1 v0 7 ∧ Cal l X d b2 c3 M_X6_goes [.ref v0, .int v1] A1 fun o9 A6 b7 c8 => rV o9 (fun E => Q (.inr E) A6) <| isO A6 v0 7 ∧ Cal l X d b7 c8 M_X6_piecesIn [.ref v0, .int 1] A6 fun o13 A10 b11 c12 => rI o13 (fun E => Q (.inr E) A10) fun i14 => Q (Ri i14) A10) ∧ (¬ i5 ≤ v4 → isO A1 v0 7 ∧ Cal l X d b2 c3 M_X6_judges [.ref v0, .int v4] A1 fun o18 A15 b16 c17 => rV o18 (fun E => Q (.inr E) A15) <| G l X M_X6_resume d Q 166 [(0, .ref v0), (1, .int v1), (4, .int (v4 + 1))] [] A15 b16 c17)) : G l X M_X6_resume d Q 166 [(0, .ref v0), (1, .int v1), (4, .int v4)] [] A bc bs := by
  refine G_iload 2 (dk_at dk_X6_resume_1 45 rfl) rfl ?_
  refine G_aload_n 0 (dk_at dk_X6_resume_1 46 rfl) rfl ?_
  obtain ⟨⟨_, ho⟩, h⟩ := h
  refine G_callV (As := []) (rest := [.int v4]) lk_X6_165 rfl (dk_at dk_X6_resume_1 47 rfl) rfl rfl (Nat.le_of_ble_eq_true rfl) ho (h.mono fun o4 A1 b2 c3 h => aftI h fun i5 h => ?_)
  refine G_icmp_ge (tgt := 187) (dk_at dk_X6_resume_1 48 rfl) (by decide) (fun c => ?_) (fun c => ?_)
  · replace h := h.1 c
    refine G_aload_n 0 (dk_at dk_X6_resume_2 4 rfl) rfl ?_
    refine G_iload_n 1 (dk_at dk_X6_resume_2 5 rfl) rfl ?_
    obtain ⟨⟨_, ho⟩, h⟩ := h
    refine G_callV (As := [.int v1]) (rest := []) lk_X6_298 rfl (dk_at dk_X6_resume_2 6 rfl) rfl rfl (Nat.le_of_ble_eq_true rfl) ho (h.mono fun o9 A6 b7 c8 h => aftV h fun h => ?_)
    refine G_aload_n 0 (dk_at dk_X6_resume_2 7 rfl) rfl ?_
    refine G_iconst (v := 1) (dk_at dk_X6_resume_2 8 rfl) (by decide) ?_
    obtain ⟨⟨_, ho⟩, h⟩ := h
    refine G_callV (As := [.int 1]) (rest := []) lk_X6_198 rfl (dk_at dk_X6_resume_2 9 rfl) rfl rfl (Nat.le_of_ble_eq_true rfl) ho (h.mono fun o13 A10 b11 c12 h => aftI h fun i14 h => ?_)
    exact G_iret (ty := .int) rfl rfl (dk_at dk_X6_resume_2 10 rfl) h
  · replace h := h.2 c
    refine G_aload_n 0 (dk_at dk_X6_resume_1 49 rfl) rfl ?_
    refine G_iload 2 (dk_at dk_X6_resume_2 0 rfl) rfl ?_
    obtain ⟨⟨_, ho⟩, h⟩ := h
    refine G_callV (As := [.int v4]) (rest := []) lk_X6_240 rfl (dk_at dk_X6_resume_2 1 rfl) rfl rfl (Nat.le_of_ble_eq_true rfl) ho (h.mono fun o18 A15 b16 c17 h => aftV h fun h => ?_)
    refine G_iinc (v := v4 + 1) (lv' := [(4, .int (v4 + 1)), (0, .ref v0), (1, .int v1)]) 2 (dk_at dk_X6_resume_2 2 rfl) rfl rfl (by decide) rfl ?_
    refine G_goto (tgt := 166) (dk_at dk_X6_resume_2 3 rfl) (by decide) ?_
    refine G_sub [1, 2, 0] rfl ?_
    exact h
theorem k_X6_named_0 {l : Launch} {X : XT} {d : Nat} {Q : Ot → AH → Prop} {A : AH} {bc bs : Nat} {v0 : Nat} {v1 : Int32} (h : G l X M_X6_named d Q 4 [(0, .ref v0), (1, .int v1), (2, .int ((-1))), (3, .int 0)] [] A bc bs) : G l X M_X6_named d Q 0 [(0, .ref v0), (1, .int v1)] [] A bc bs := by
  refine G_iconst (v := (-1)) (dk_at dk_X6_named 0 rfl) (by decide) ?_
  refine G_istore_n (lv' := [(2, .int ((-1))), (0, .ref v0), (1, .int v1)]) (dk_at dk_X6_named 1 rfl) (by decide) rfl ?_
  refine G_iconst (v := 0) (dk_at dk_X6_named 2 rfl) (by decide) ?_
  refine G_istore_n (lv' := [(3, .int 0), (2, .int ((-1))), (0, .ref v0), (1, .int v1)]) (dk_at dk_X6_named 3 rfl) (by decide) rfl ?_
  refine G_sub [2, 3, 1, 0] rfl ?_
  exact h
theorem k_X6_named_4 {l : Launch} {X : XT} {d : Nat} {Q : Ot → AH → Prop} {A : AH} {bc bs : Nat} {v0 : Nat} {v1 : Int32} {v2 : Int32} {v3 : Int32} (h : gR A v0 7 0 fun r1 => aI X A r1 9 fun i2 => (i2 ≤ v3 → (¬ v2 = ((-1)) → G l X M_X6_named d Q 52 [(0, .ref v0), (2, .int v2)] [.int 0, .ref v0] A bc bs) ∧ (v2 = ((-1)) → G l X M_X6_named d Q 52 [(0, .ref v0), (2, .int v2)] [.int 1, .ref v0] A bc bs)) ∧ (¬ i2 ≤ v3 → gR A v0 7 0 fun r3 => isO A v0 7 ∧ Cal l X d bc bs M_X6_file [.ref v0, .int v3] A fun o7 A4 b5 c6 => rI o7 (fun E => Q (.inr E) A4) fun i8 => aI X A4 r3 i8 fun i9 => (¬ i9 = v1 → G l X M_X6_named d Q 4 [(0, .ref v0), (1, .int v1), (2, .int v2), (3, .int (v3 + 1))] [] A4 b5 c6) ∧ (i9 = v1 → G l X M_X6_named d Q 4 [(0, .ref v0), (1, .int v1), (2, .int v3), (3, .int (v3 + 1))] [] A4 b5 c6))) : G l X M_X6_named d Q 4 [(0, .ref v0), (1, .int v1), (2, .int v2), (3, .int v3)] [] A bc bs := by
  refine G_iload_n 3 (dk_at dk_X6_named 4 rfl) rfl ?_
  refine G_aload_n 0 (dk_at dk_X6_named 5 rfl) rfl ?_
  refine K_gR gf_X6_7 (dk_at dk_X6_named 6 rfl) h (fun r1 h => ?_)
  refine G_bipush (v := 9) (dk_at dk_X6_named 7 rfl) (by decide) ?_
  refine K_aI (dk_at dk_X6_named 8 rfl) h (fun i2 h => ?_)
  refine G_icmp_ge (tgt := 41) (dk_at dk_X6_named 9 rfl) (by decide) (fun c => ?_) (fun c => ?_)
  · replace h := h.1 c
    refine G_aload_n 0 (dk_at dk_X6_named 24 rfl) rfl ?_
    refine G_iload_n 2 (dk_at dk_X6_named 25 rfl) rfl ?_
    refine G_iconst (v := (-1)) (dk_at dk_X6_named 26 rfl) (by decide) ?_
    refine G_icmp_ne (tgt := 51) (dk_at dk_X6_named 27 rfl) (by decide) (fun c => ?_) (fun c => ?_)
    · replace h := h.1 c
      refine G_iconst (v := 0) (dk_at dk_X6_named 30 rfl) (by decide) ?_
      refine G_sub [0, 2] rfl ?_
      exact h
    · replace h := h.2 c
      refine G_iconst (v := 1) (dk_at dk_X6_named 28 rfl) (by decide) ?_
      refine G_goto (tgt := 52) (dk_at dk_X6_named 29 rfl) (by decide) ?_
      refine G_sub [0, 2] rfl ?_
      exact h
  · replace h := h.2 c
    refine G_aload_n 0 (dk_at dk_X6_named 10 rfl) rfl ?_
    refine K_gR gf_X6_7 (dk_at dk_X6_named 11 rfl) h (fun r3 h => ?_)
    refine G_aload_n 0 (dk_at dk_X6_named 12 rfl) rfl ?_
    refine G_iload_n 3 (dk_at dk_X6_named 13 rfl) rfl ?_
    obtain ⟨⟨_, ho⟩, h⟩ := h
    refine G_callV (As := [.int v3]) (rest := [.ref r3]) lk_X6_293 rfl (dk_at dk_X6_named 14 rfl) rfl rfl (Nat.le_of_ble_eq_true rfl) ho (h.mono fun o7 A4 b5 c6 h => aftI h fun i8 h => ?_)
    refine K_aI (dk_at dk_X6_named 15 rfl) h (fun i9 h => ?_)
    refine G_iload_n 1 (dk_at dk_X6_named 16 rfl) rfl ?_
    refine G_icmp_ne (tgt := 33) (dk_at dk_X6_named 17 rfl) (by decide) (fun c => ?_) (fun c => ?_)
    · replace h := h.1 c
      refine G_iload_n 2 (dk_at dk_X6_named 20 rfl) rfl ?_
      refine G_istore_n (lv' := [(2, .int v2), (0, .ref v0), (1, .int v1), (3, .int v3)]) (dk_at dk_X6_named 21 rfl) (by decide) rfl ?_
      refine G_iinc (v := v3 + 1) (lv' := [(3, .int (v3 + 1)), (2, .int v2), (0, .ref v0), (1, .int v1)]) 3 (dk_at dk_X6_named 22 rfl) rfl rfl (by decide) rfl ?_
      refine G_goto (tgt := 4) (dk_at dk_X6_named 23 rfl) (by decide) ?_
      refine G_sub [2, 3, 1, 0] rfl ?_
      exact h
    · replace h := h.2 c
      refine G_iload_n 3 (dk_at dk_X6_named 18 rfl) rfl ?_
      refine G_goto (tgt := 34) (dk_at dk_X6_named 19 rfl) (by decide) ?_
      refine G_istore_n (lv' := [(2, .int v3), (0, .ref v0), (1, .int v1), (3, .int v3)]) (dk_at dk_X6_named 21 rfl) (by decide) rfl ?_
      refine G_iinc (v := v3 + 1) (lv' := [(3, .int (v3 + 1)), (2, .int v3), (0, .ref v0), (1, .int v1)]) 3 (dk_at dk_X6_named 22 rfl) rfl rfl (by decide) rfl ?_
      refine G_goto (tgt := 4) (dk_at dk_X6_named 23 rfl) (by decide) ?_
      refine G_sub [2, 3, 1, 0] rfl ?_
      exact h
theorem k_X6_named_52 {l : Launch} {X : XT} {d : Nat} {Q : Ot → AH → Prop} {A : AH} {bc bs : Nat} {v0 : Nat} {v2 : Int32} {s0 : Int32} {s1 : Nat} (h : pV A s1 7 5 (.int s0) fun A1 => gI A1 v0 7 5 fun i2 => (i2 ≤ 0 → Q (Ri v2) A1) ∧ (¬ i2 ≤ 0 → Q (Ri 0) A1)) : G l X M_X6_named d Q 52 [(0, .ref v0), (2, .int v2)] [.int s0, .ref s1] A bc bs := by
  refine K_pI pf_X6_50 (dk_at dk_X6_named 31 rfl) h (fun A1 h => ?_)
  refine G_aload_n 0 (dk_at dk_X6_named 32 rfl) rfl ?_
  refine K_gI gf_X6_50 (dk_at dk_X6_named 33 rfl) h (fun i2 h => ?_)
  refine G_if_le (tgt := 66) (dk_at dk_X6_named 34 rfl) (by decide) (fun c => ?_) (fun c => ?_)
  · replace h := h.1 c
    refine G_iload_n 1 (dk_at dk_X6_named 37 rfl) rfl ?_
    exact G_iret (ty := .int) rfl rfl (dk_at dk_X6_named 38 rfl) h
  · replace h := h.2 c
    refine G_iconst (v := 0) (dk_at dk_X6_named 35 rfl) (by decide) ?_
    refine G_goto (tgt := 67) (dk_at dk_X6_named 36 rfl) (by decide) ?_
    exact G_iret (ty := .int) rfl rfl (dk_at dk_X6_named 38 rfl) h
theorem k_X6_sized_0 {l : Launch} {X : XT} {d : Nat} {Q : Ot → AH → Prop} {A : AH} {bc bs : Nat} {v0 : Nat} {v1 : Int32} (h : gR A v0 7 0 fun r1 => aI X A r1 9 fun i2 => G l X M_X6_sized d Q 12 [(0, .ref v0), (1, .int v1), (2, .int ((-1))), (3, .int (i2 - 1))] [] A bc bs) : G l X M_X6_sized d Q 0 [(0, .ref v0), (1, .int v1)] [] A bc bs := by
  refine G_iconst (v := (-1)) (dk_at dk_X6_sized 0 rfl) (by decide) ?_
  refine G_istore_n (lv' := [(2, .int ((-1))), (0, .ref v0), (1, .int v1)]) (dk_at dk_X6_sized 1 rfl) (by decide) rfl ?_
  refine G_aload_n 1 (dk_at dk_X6_sized 2 rfl) rfl ?_
  refine K_gR gf_X6_7 (dk_at dk_X6_sized 3 rfl) h (fun r1 h => ?_)
  refine G_bipush (v := 9) (dk_at dk_X6_sized 4 rfl) (by decide) ?_
  refine K_aI (dk_at dk_X6_sized 5 rfl) h (fun i2 h => ?_)
  refine G_iconst (v := 1) (dk_at dk_X6_sized 6 rfl) (by decide) ?_
  refine G_isub (dk_at dk_X6_sized 7 rfl) ?_
  refine G_istore_n (lv' := [(3, .int (i2 - 1)), (2, .int ((-1))), (0, .ref v0), (1, .int v1)]) (dk_at dk_X6_sized 8 rfl) (by decide) rfl ?_
  refine G_sub [2, 3, 1, 0] rfl ?_
  exact h
theorem k_X6_sized_12 {l : Launch} {X : XT} {d : Nat} {Q : Ot → AH → Prop} {A : AH} {bc bs : Nat} {v0 : Nat} {v1 : Int32} {v2 : Int32} {v3 : Int32} (h : (v3 < 0 → (¬ v2 = ((-1)) → G l X M_X6_sized d Q 55 [(0, .ref v0), (2, .int v2)] [.int 0, .ref v0] A bc bs) ∧ (v2 = ((-1)) → G l X M_X6_sized d Q 55 [(0, .ref v0), (2, .int v2)] [.int 1, .ref v0] A bc bs)) ∧ (¬ v3 < 0 → gR A v0 7 0 fun r1 => isO A v0 7 ∧ Cal l X d bc bs M_X6_file [.ref v0, .int v3] A fun o5 A2 b3 c4 => rI o5 (fun E => Q (.inr E) A2) fun i6 => aI X A2 r1 (i6 + 1) fun i7 => (¬ i7 = v1 → G l X M_X6_sized d Q 12 [(0, .ref v0), (1, .int v1), (2, .int v2), (3, .int (v3 + (-1)))] [] A2 b3 c4) ∧ (i7 = v1 → G l X M_X6_sized d Q 12 [(0, .ref v0), (1, .int v1), (2, .int v3), (3, .int (v3 + (-1)))] [] A2 b3 c4))) : G l X M_X6_sized d Q 12 [(0, .ref v0), (1, .int v1), (2, .int v2), (3, .int v3)] [] A bc bs := by
  refine G_iload_n 3 (dk_at dk_X6_sized 9 rfl) rfl ?_
  refine G_if_lt (tgt := 44) (dk_at dk_X6_sized 10 rfl) (by decide) (fun c => ?_) (fun c => ?_)
  · replace h := h.1 c
    refine G_aload_n 0 (dk_at dk_X6_sized 27 rfl) rfl ?_
    refine G_iload_n 2 (dk_at dk_X6_sized 28 rfl) rfl ?_
    refine G_iconst (v := (-1)) (dk_at dk_X6_sized 29 rfl) (by decide) ?_
    refine G_icmp_ne (tgt := 54) (dk_at dk_X6_sized 30 rfl) (by decide) (fun c => ?_) (fun c => ?_)
    · replace h := h.1 c
      refine G_iconst (v := 0) (dk_at dk_X6_sized 33 rfl) (by decide) ?_
      refine G_sub [0, 2] rfl ?_
      exact h
    · replace h := h.2 c
      refine G_iconst (v := 1) (dk_at dk_X6_sized 31 rfl) (by decide) ?_
      refine G_goto (tgt := 55) (dk_at dk_X6_sized 32 rfl) (by decide) ?_
      refine G_sub [0, 2] rfl ?_
      exact h
  · replace h := h.2 c
    refine G_aload_n 0 (dk_at dk_X6_sized 11 rfl) rfl ?_
    refine K_gR gf_X6_7 (dk_at dk_X6_sized 12 rfl) h (fun r1 h => ?_)
    refine G_aload_n 0 (dk_at dk_X6_sized 13 rfl) rfl ?_
    refine G_iload_n 3 (dk_at dk_X6_sized 14 rfl) rfl ?_
    obtain ⟨⟨_, ho⟩, h⟩ := h
    refine G_callV (As := [.int v3]) (rest := [.ref r1]) lk_X6_293 rfl (dk_at dk_X6_sized 15 rfl) rfl rfl (Nat.le_of_ble_eq_true rfl) ho (h.mono fun o5 A2 b3 c4 h => aftI h fun i6 h => ?_)
    refine G_iconst (v := 1) (dk_at dk_X6_sized 16 rfl) (by decide) ?_
    refine G_iadd (dk_at dk_X6_sized 17 rfl) ?_
    refine K_aI (dk_at dk_X6_sized 18 rfl) h (fun i7 h => ?_)
    refine G_iload_n 1 (dk_at dk_X6_sized 19 rfl) rfl ?_
    refine G_icmp_ne (tgt := 36) (dk_at dk_X6_sized 20 rfl) (by decide) (fun c => ?_) (fun c => ?_)
    · replace h := h.1 c
      refine G_iload_n 2 (dk_at dk_X6_sized 23 rfl) rfl ?_
      refine G_istore_n (lv' := [(2, .int v2), (0, .ref v0), (1, .int v1), (3, .int v3)]) (dk_at dk_X6_sized 24 rfl) (by decide) rfl ?_
      refine G_iinc (v := v3 + (-1)) (lv' := [(3, .int (v3 + (-1))), (2, .int v2), (0, .ref v0), (1, .int v1)]) 3 (dk_at dk_X6_sized 25 rfl) rfl rfl (by decide) rfl ?_
      refine G_goto (tgt := 12) (dk_at dk_X6_sized 26 rfl) (by decide) ?_
      refine G_sub [2, 3, 1, 0] rfl ?_
      exact h
    · replace h := h.2 c
      refine G_iload_n 3 (dk_at dk_X6_sized 21 rfl) rfl ?_
      refine G_goto (tgt := 37) (dk_at dk_X6_sized 22 rfl) (by decide) ?_
      refine G_istore_n (lv' := [(2, .int v3), (0, .ref v0), (1, .int v1), (3, .int v3)]) (dk_at dk_X6_sized 24 rfl) (by decide) rfl ?_
      refine G_iinc (v := v3 + (-1)) (lv' := [(3, .int (v3 + (-1))), (2, .int v3), (0, .ref v0), (1, .int v1)]) 3 (dk_at dk_X6_sized 25 rfl) rfl rfl (by decide) rfl ?_
      refine G_goto (tgt := 12) (dk_at dk_X6_sized 26 rfl) (by decide) ?_
      refine G_sub [2, 3, 1, 0] rfl ?_
      exact h
theorem k_X6_sized_55 {l : Launch} {X : XT} {d : Nat} {Q : Ot → AH → Prop} {A : AH} {bc bs : Nat} {v0 : Nat} {v2 : Int32} {s0 : Int32} {s1 : Nat} (h : pV A s1 7 5 (.int s0) fun A1 => gI A1 v0 7 5 fun i2 => (i2 ≤ 0 → Q (Ri v2) A1) ∧ (¬ i2 ≤ 0 → Q (Ri 0) A1)) : G l X M_X6_sized d Q 55 [(0, .ref v0), (2, .int v2)] [.int s0, .ref s1] A bc bs := by
  refine K_pI pf_X6_50 (dk_at dk_X6_sized 34 rfl) h (fun A1 h => ?_)
  refine G_aload_n 0 (dk_at dk_X6_sized 35 rfl) rfl ?_
  refine K_gI gf_X6_50 (dk_at dk_X6_sized 36 rfl) h (fun i2 h => ?_)
  refine G_if_le (tgt := 69) (dk_at dk_X6_sized 37 rfl) (by decide) (fun c => ?_) (fun c => ?_)
  · replace h := h.1 c
    refine G_iload_n 1 (dk_at dk_X6_sized 40 rfl) rfl ?_
    exact G_iret (ty := .int) rfl rfl (dk_at dk_X6_sized 41 rfl) h
  · replace h := h.2 c
    refine G_iconst (v := 0) (dk_at dk_X6_sized 38 rfl) (by decide) ?_
    refine G_goto (tgt := 70) (dk_at dk_X6_sized 39 rfl) (by decide) ?_
    exact G_iret (ty := .int) rfl rfl (dk_at dk_X6_sized 41 rfl) h
theorem k_X6_rename_0 {l : Launch} {X : XT} {d : Nat} {Q : Ot → AH → Prop} {A : AH} {bc bs : Nat} {v0 : Nat} {v1 : Int32} {v2 : Int32} (h : isO A v0 7 ∧ Cal l X d bc bs M_X6_isPartial [.ref v0, .int v1] A fun o4 A1 b2 c3 => rI o4 (fun E => Q (.inr E) A1) fun i5 => (¬ i5 = 0 → Cal l X d b2 c3 M_X6_isName [.int v2] A1 fun o9 A6 b7 c8 => rI o9 (fun E => Q (.inr E) A6) fun i10 => (i10 = 0 → G l X M_X6_rename d Q 25 [(0, .ref v0), (1, .int v1), (2, .int v2)] [.int 2, .ref v0] A6 b7 c8) ∧ (¬ i10 = 0 → G l X M_X6_rename d Q 25 [(0, .ref v0), (1, .int v1), (2, .int v2)] [.int 0, .ref v0] A6 b7 c8)) ∧ (i5 = 0 → G l X M_X6_rename d Q 25 [(0, .ref v0), (1, .int v1), (2, .int v2)] [.int 1, .ref v0] A1 b2 c3)) : G l X M_X6_rename d Q 0 [(0, .ref v0), (1, .int v1), (2, .int v2)] [] A bc bs := by
  refine G_aload_n 0 (dk_at dk_X6_rename 0 rfl) rfl ?_
  refine G_aload_n 0 (dk_at dk_X6_rename 1 rfl) rfl ?_
  refine G_iload_n 1 (dk_at dk_X6_rename 2 rfl) rfl ?_
  obtain ⟨⟨_, ho⟩, h⟩ := h
  refine G_callV (As := [.int v1]) (rest := [.ref v0]) lk_X6_295 rfl (dk_at dk_X6_rename 3 rfl) rfl rfl (Nat.le_of_ble_eq_true rfl) ho (h.mono fun o4 A1 b2 c3 h => aftI h fun i5 h => ?_)
  refine G_if_ne (tgt := 13) (dk_at dk_X6_rename 4 rfl) (by decide) (fun c => ?_) (fun c => ?_)
  · replace h := h.1 c
    refine G_iload_n 2 (dk_at dk_X6_rename 7 rfl) rfl ?_
    refine G_callS (As := [.int v2]) (rest := [.ref v0]) lk_X6_290 rfl (dk_at dk_X6_rename 8 rfl) rfl rfl (Nat.le_of_ble_eq_true rfl) (h.mono fun o9 A6 b7 c8 h => aftI h fun i10 h => ?_)
    refine G_if_eq (tgt := 24) (dk_at dk_X6_rename 9 rfl) (by decide) (fun c => ?_) (fun c => ?_)
    · replace h := h.1 c
      refine G_iconst (v := 2) (dk_at dk_X6_rename 12 rfl) (by decide) ?_
      exact h
    · replace h := h.2 c
      refine G_iconst (v := 0) (dk_at dk_X6_rename 10 rfl) (by decide) ?_
      refine G_goto (tgt := 25) (dk_at dk_X6_rename 11 rfl) (by decide) ?_
      exact h
  · replace h := h.2 c
    refine G_iconst (v := 1) (dk_at dk_X6_rename 5 rfl) (by decide) ?_
    refine G_goto (tgt := 25) (dk_at dk_X6_rename 6 rfl) (by decide) ?_
    exact h
theorem k_X6_rename_25 {l : Launch} {X : XT} {d : Nat} {Q : Ot → AH → Prop} {A : AH} {bc bs : Nat} {v0 : Nat} {v1 : Int32} {v2 : Int32} {s0 : Int32} {s1 : Nat} (h : pV A s1 7 5 (.int s0) fun A1 => gI A1 v0 7 5 fun i2 => (i2 ≤ 0 → isO A1 v0 7 ∧ Cal l X d bc bs M_X6_keeps [.ref v0] A1 fun o6 A3 b4 c5 => rV o6 (fun E => Q (.inr E) A3) <| gR A3 v0 7 0 fun r7 => isO A3 v0 7 ∧ Cal l X d b4 c5 M_X6_file [.ref v0, .int v1] A3 fun o11 A8 b9 c10 => rI o11 (fun E => Q (.inr E) A8) fun i12 => aI X A8 r7 i12 fun i13 => gR A8 v0 7 0 fun r14 => isO A8 v0 7 ∧ Cal l X d b9 c10 M_X6_file [.ref v0, .int v1] A8 fun o18 A15 b16 c17 => rI o18 (fun E => Q (.inr E) A15) fun i19 => sI X A15 r14 i19 v2 fun A20 => Q (Ri i13) A20) ∧ (¬ i2 ≤ 0 → Q (Ri 0) A1)) : G l X M_X6_rename d Q 25 [(0, .ref v0), (1, .int v1), (2, .int v2)] [.int s0, .ref s1] A bc bs := by
  refine K_pI pf_X6_50 (dk_at dk_X6_rename 13 rfl) h (fun A1 h => ?_)
  refine G_aload_n 0 (dk_at dk_X6_rename 14 rfl) rfl ?_
  refine K_gI gf_X6_50 (dk_at dk_X6_rename 15 rfl) h (fun i2 h => ?_)
  refine G_if_le (tgt := 37) (dk_at dk_X6_rename 16 rfl) (by decide) (fun c => ?_) (fun c => ?_)
  · replace h := h.1 c
    refine G_aload_n 0 (dk_at dk_X6_rename 19 rfl) rfl ?_
    obtain ⟨⟨_, ho⟩, h⟩ := h
    refine G_callV (As := []) (rest := []) lk_X6_153 rfl (dk_at dk_X6_rename 20 rfl) rfl rfl (Nat.le_of_ble_eq_true rfl) ho (h.mono fun o6 A3 b4 c5 h => aftV h fun h => ?_)
    refine G_aload_n 0 (dk_at dk_X6_rename 21 rfl) rfl ?_
    refine K_gR gf_X6_7 (dk_at dk_X6_rename 22 rfl) h (fun r7 h => ?_)
    refine G_aload_n 0 (dk_at dk_X6_rename 23 rfl) rfl ?_
    refine G_iload_n 1 (dk_at dk_X6_rename 24 rfl) rfl ?_
    obtain ⟨⟨_, ho⟩, h⟩ := h
    refine G_callV (As := [.int v1]) (rest := [.ref r7]) lk_X6_293 rfl (dk_at dk_X6_rename 25 rfl) rfl rfl (Nat.le_of_ble_eq_true rfl) ho (h.mono fun o11 A8 b9 c10 h => aftI h fun i12 h => ?_)
    refine K_aI (dk_at dk_X6_rename 26 rfl) h (fun i13 h => ?_)
    refine G_istore_n (lv' := [(3, .int i13), (0, .ref v0), (1, .int v1), (2, .int v2)]) (dk_at dk_X6_rename 27 rfl) (by decide) rfl ?_
    refine G_aload_n 1 (dk_at dk_X6_rename 28 rfl) rfl ?_
    refine K_gR gf_X6_7 (dk_at dk_X6_rename 29 rfl) h (fun r14 h => ?_)
    refine G_aload_n 1 (dk_at dk_X6_rename 30 rfl) rfl ?_
    refine G_iload_n 2 (dk_at dk_X6_rename 31 rfl) rfl ?_
    obtain ⟨⟨_, ho⟩, h⟩ := h
    refine G_callV (As := [.int v1]) (rest := [.ref r14]) lk_X6_293 rfl (dk_at dk_X6_rename 32 rfl) rfl rfl (Nat.le_of_ble_eq_true rfl) ho (h.mono fun o18 A15 b16 c17 h => aftI h fun i19 h => ?_)
    refine G_iload_n 3 (dk_at dk_X6_rename 33 rfl) rfl ?_
    refine K_sI (dk_at dk_X6_rename 34 rfl) h (fun A20 h => ?_)
    refine G_iload_n 0 (dk_at dk_X6_rename 35 rfl) rfl ?_
    exact G_iret (ty := .int) rfl rfl (dk_at dk_X6_rename 36 rfl) h
  · replace h := h.2 c
    refine G_iconst (v := 0) (dk_at dk_X6_rename 17 rfl) (by decide) ?_
    exact G_iret (ty := .int) rfl rfl (dk_at dk_X6_rename 18 rfl) h
theorem k_X6_spoil_0 {l : Launch} {X : XT} {d : Nat} {Q : Ot → AH → Prop} {A : AH} {bc bs : Nat} {v0 : Nat} {v1 : Int32} {v2 : Int32} {v3 : Int32} (h : isO A v0 7 ∧ Cal l X d bc bs M_X6_isPartial [.ref v0, .int v1] A fun o4 A1 b2 c3 => rI o4 (fun E => Q (.inr E) A1) fun i5 => (i5 = 0 → G l X M_X6_spoil d Q 51 [(0, .ref v0), (1, .int v1), (2, .int v2), (3, .int v3)] [.int 1, .ref v0] A1 b2 c3) ∧ (¬ i5 = 0 → gR A1 v0 7 0 fun r6 => isO A1 v0 7 ∧ Cal l X d b2 c3 M_X6_file [.ref v0, .int v1] A1 fun o10 A7 b8 c9 => rI o10 (fun E => Q (.inr E) A7) fun i11 => aI X A7 r6 (i11 + 1) fun i12 => Cal l X d b8 c9 M_X6_isIn [.int v2, .int 0, .int (i12 - 1)] A7 fun o16 A13 b14 c15 => rI o16 (fun E => Q (.inr E) A13) fun i17 => (¬ i17 = 0 → Cal l X d b14 c15 M_X6_isIn [.int v3, .int 1, .int 255] A13 fun o21 A18 b19 c20 => rI o21 (fun E => Q (.inr E) A18) fun i22 => (i22 = 0 → G l X M_X6_spoil d Q 51 [(0, .ref v0), (1, .int v1), (2, .int v2), (3, .int v3)] [.int 2, .ref v0] A18 b19 c20) ∧ (¬ i22 = 0 → G l X M_X6_spoil d Q 51 [(0, .ref v0), (1, .int v1), (2, .int v2), (3, .int v3)] [.int 0, .ref v0] A18 b19 c20)) ∧ (i17 = 0 → G l X M_X6_spoil d Q 51 [(0, .ref v0), (1, .int v1), (2, .int v2), (3, .int v3)] [.int 1, .ref v0] A13 b14 c15))) : G l X M_X6_spoil d Q 0 [(0, .ref v0), (1, .int v1), (2, .int v2), (3, .int v3)] [] A bc bs := by
  refine G_aload_n 0 (dk_at dk_X6_spoil 0 rfl) rfl ?_
  refine G_aload_n 0 (dk_at dk_X6_spoil 1 rfl) rfl ?_
  refine G_iload_n 1 (dk_at dk_X6_spoil 2 rfl) rfl ?_
  obtain ⟨⟨_, ho⟩, h⟩ := h
  refine G_callV (As := [.int v1]) (rest := [.ref v0]) lk_X6_295 rfl (dk_at dk_X6_spoil 3 rfl) rfl rfl (Nat.le_of_ble_eq_true rfl) ho (h.mono fun o4 A1 b2 c3 h => aftI h fun i5 h => ?_)
  refine G_if_eq (tgt := 31) (dk_at dk_X6_spoil 4 rfl) (by decide) (fun c => ?_) (fun c => ?_)
  · replace h := h.1 c
    refine G_iconst (v := 1) (dk_at dk_X6_spoil 19 rfl) (by decide) ?_
    refine G_goto (tgt := 51) (dk_at dk_X6_spoil 20 rfl) (by decide) ?_
    exact h
  · replace h := h.2 c
    refine G_iload_n 2 (dk_at dk_X6_spoil 5 rfl) rfl ?_
    refine G_iconst (v := 0) (dk_at dk_X6_spoil 6 rfl) (by decide) ?_
    refine G_aload_n 0 (dk_at dk_X6_spoil 7 rfl) rfl ?_
    refine K_gR gf_X6_7 (dk_at dk_X6_spoil 8 rfl) h (fun r6 h => ?_)
    refine G_aload_n 0 (dk_at dk_X6_spoil 9 rfl) rfl ?_
    refine G_iload_n 1 (dk_at dk_X6_spoil 10 rfl) rfl ?_
    obtain ⟨⟨_, ho⟩, h⟩ := h
    refine G_callV (As := [.int v1]) (rest := [.ref r6, .int 0, .int v2, .ref v0]) lk_X6_293 rfl (dk_at dk_X6_spoil 11 rfl) rfl rfl (Nat.le_of_ble_eq_true rfl) ho (h.mono fun o10 A7 b8 c9 h => aftI h fun i11 h => ?_)
    refine G_iconst (v := 1) (dk_at dk_X6_spoil 12 rfl) (by decide) ?_
    refine G_iadd (dk_at dk_X6_spoil 13 rfl) ?_
    refine K_aI (dk_at dk_X6_spoil 14 rfl) h (fun i12 h => ?_)
    refine G_iconst (v := 1) (dk_at dk_X6_spoil 15 rfl) (by decide) ?_
    refine G_isub (dk_at dk_X6_spoil 16 rfl) ?_
    refine G_callS (As := [.int v2, .int 0, .int (i12 - 1)]) (rest := [.ref v0]) lk_X6_62 rfl (dk_at dk_X6_spoil 17 rfl) rfl rfl (Nat.le_of_ble_eq_true rfl) (h.mono fun o16 A13 b14 c15 h => aftI h fun i17 h => ?_)
    refine G_if_ne (tgt := 35) (dk_at dk_X6_spoil 18 rfl) (by decide) (fun c => ?_) (fun c => ?_)
    · replace h := h.1 c
      refine G_iload_n 3 (dk_at dk_X6_spoil 21 rfl) rfl ?_
      refine G_iconst (v := 1) (dk_at dk_X6_spoil 22 rfl) (by decide) ?_
      refine G_sipush (v := 255) (dk_at dk_X6_spoil 23 rfl) (by decide) ?_
      refine G_callS (As := [.int v3, .int 1, .int 255]) (rest := [.ref v0]) lk_X6_62 rfl (dk_at dk_X6_spoil 24 rfl) rfl rfl (Nat.le_of_ble_eq_true rfl) (h.mono fun o21 A18 b19 c20 h => aftI h fun i22 h => ?_)
      refine G_if_eq (tgt := 50) (dk_at dk_X6_spoil 25 rfl) (by decide) (fun c => ?_) (fun c => ?_)
      · replace h := h.1 c
        refine G_iconst (v := 2) (dk_at dk_X6_spoil 28 rfl) (by decide) ?_
        exact h
      · replace h := h.2 c
        refine G_iconst (v := 0) (dk_at dk_X6_spoil 26 rfl) (by decide) ?_
        refine G_goto (tgt := 51) (dk_at dk_X6_spoil 27 rfl) (by decide) ?_
        exact h
    · replace h := h.2 c
      refine G_iconst (v := 1) (dk_at dk_X6_spoil 19 rfl) (by decide) ?_
      refine G_goto (tgt := 51) (dk_at dk_X6_spoil 20 rfl) (by decide) ?_
      exact h
theorem k_X6_spoil_51 {l : Launch} {X : XT} {d : Nat} {Q : Ot → AH → Prop} {A : AH} {bc bs : Nat} {v0 : Nat} {v1 : Int32} {v2 : Int32} {v3 : Int32} {s0 : Int32} {s1 : Nat} (h : pV A s1 7 5 (.int s0) fun A1 => gI A1 v0 7 5 fun i2 => (i2 ≤ 0 → isO A1 v0 7 ∧ Cal l X d bc bs M_X6_keeps [.ref v0] A1 fun o6 A3 b4 c5 => rV o6 (fun E => Q (.inr E) A3) <| isO A3 v0 7 ∧ Cal l X d b4 c5 M_X6_file [.ref v0, .int v1] A3 fun o10 A7 b8 c9 => rI o10 (fun E => Q (.inr E) A7) fun i11 => gR A7 v0 7 0 fun r12 => gR A7 v0 7 0 fun r13 => aI X A7 r13 ((i11 + 2) + v2) fun i14 => sI X A7 r12 ((i11 + 2) + v2) ((i14 + v3) - (i14 + v3) / 256 * 256) fun A15 => gR A15 v0 7 0 fun r16 => aI X A15 r16 ((i11 + 2) + v2) fun i17 => Q (Ri i17) A15) ∧ (¬ i2 ≤ 0 → Q (Ri 0) A1)) : G l X M_X6_spoil d Q 51 [(0, .ref v0), (1, .int v1), (2, .int v2), (3, .int v3)] [.int s0, .ref s1] A bc bs := by
  refine K_pI pf_X6_50 (dk_at dk_X6_spoil 29 rfl) h (fun A1 h => ?_)
  refine G_aload_n 0 (dk_at dk_X6_spoil 30 rfl) rfl ?_
  refine K_gI gf_X6_50 (dk_at dk_X6_spoil 31 rfl) h (fun i2 h => ?_)
  refine G_if_le (tgt := 63) (dk_at dk_X6_spoil 32 rfl) (by decide) (fun c => ?_) (fun c => ?_)
  · replace h := h.1 c
    refine G_aload_n 0 (dk_at dk_X6_spoil 35 rfl) rfl ?_
    obtain ⟨⟨_, ho⟩, h⟩ := h
    refine G_callV (As := []) (rest := []) lk_X6_153 rfl (dk_at dk_X6_spoil 36 rfl) rfl rfl (Nat.le_of_ble_eq_true rfl) ho (h.mono fun o6 A3 b4 c5 h => aftV h fun h => ?_)
    refine G_aload_n 0 (dk_at dk_X6_spoil 37 rfl) rfl ?_
    refine G_iload_n 1 (dk_at dk_X6_spoil 38 rfl) rfl ?_
    obtain ⟨⟨_, ho⟩, h⟩ := h
    refine G_callV (As := [.int v1]) (rest := []) lk_X6_293 rfl (dk_at dk_X6_spoil 39 rfl) rfl rfl (Nat.le_of_ble_eq_true rfl) ho (h.mono fun o10 A7 b8 c9 h => aftI h fun i11 h => ?_)
    refine G_iconst (v := 2) (dk_at dk_X6_spoil 40 rfl) (by decide) ?_
    refine G_iadd (dk_at dk_X6_spoil 41 rfl) ?_
    refine G_iload_n 2 (dk_at dk_X6_spoil 42 rfl) rfl ?_
    refine G_iadd (dk_at dk_X6_spoil 43 rfl) ?_
    refine G_istore (lv' := [(4, .int ((i11 + 2) + v2)), (0, .ref v0), (1, .int v1), (2, .int v2), (3, .int v3)]) (dk_at dk_X6_spoil 44 rfl) (by decide) rfl ?_
    refine G_aload_n 1 (dk_at dk_X6_spoil 45 rfl) rfl ?_
    refine K_gR gf_X6_7 (dk_at dk_X6_spoil 46 rfl) h (fun r12 h => ?_)
    refine G_iload 0 (dk_at dk_X6_spoil 47 rfl) rfl ?_
    refine G_aload_n 1 (dk_at dk_X6_spoil 48 rfl) rfl ?_
    refine K_gR gf_X6_7 (dk_at dk_X6_spoil 49 rfl) h (fun r13 h => ?_)
    refine G_iload 0 (dk_at dk_X6_spoil 50 rfl) rfl ?_
    refine K_aI (dk_at dk_X6_spoil 51 rfl) h (fun i14 h => ?_)
    refine G_iload_n 4 (dk_at dk_X6_spoil 52 rfl) rfl ?_
    refine G_iadd (dk_at dk_X6_spoil 53 rfl) ?_
    refine G_sipush (v := 256) (dk_at dk_X6_spoil 54 rfl) (by decide) ?_
    refine G_irem (dk_at dk_X6_spoil 55 rfl) (by decide) ?_
    refine K_sI (dk_at dk_X6_spoil 56 rfl) h (fun A15 h => ?_)
    refine G_aload_n 1 (dk_at dk_X6_spoil 57 rfl) rfl ?_
    refine K_gR gf_X6_7 (dk_at dk_X6_spoil 58 rfl) h (fun r16 h => ?_)
    refine G_iload 0 (dk_at dk_X6_spoil 59 rfl) rfl ?_
    refine K_aI (dk_at dk_X6_spoil 60 rfl) h (fun i17 h => ?_)
    exact G_iret (ty := .int) rfl rfl (dk_at dk_X6_spoil 61 rfl) h
  · replace h := h.2 c
    refine G_iconst (v := 0) (dk_at dk_X6_spoil 33 rfl) (by decide) ?_
    exact G_iret (ty := .int) rfl rfl (dk_at dk_X6_spoil 34 rfl) h
theorem k_X6_discard_0 {l : Launch} {X : XT} {d : Nat} {Q : Ot → AH → Prop} {A : AH} {bc bs : Nat} {v0 : Nat} {v1 : Int32} (h : isO A v0 7 ∧ Cal l X d bc bs M_X6_isPartial [.ref v0, .int v1] A fun o4 A1 b2 c3 => rI o4 (fun E => Q (.inr E) A1) fun i5 => (i5 = 0 → G l X M_X6_discard d Q 14 [(0, .ref v0), (1, .int v1)] [.int 1, .ref v0] A1 b2 c3) ∧ (¬ i5 = 0 → G l X M_X6_discard d Q 14 [(0, .ref v0), (1, .int v1)] [.int 0, .ref v0] A1 b2 c3)) : G l X M_X6_discard d Q 0 [(0, .ref v0), (1, .int v1)] [] A bc bs := by
  refine G_aload_n 0 (dk_at dk_X6_discard 0 rfl) rfl ?_
  refine G_aload_n 0 (dk_at dk_X6_discard 1 rfl) rfl ?_
  refine G_iload_n 1 (dk_at dk_X6_discard 2 rfl) rfl ?_
  obtain ⟨⟨_, ho⟩, h⟩ := h
  refine G_callV (As := [.int v1]) (rest := [.ref v0]) lk_X6_295 rfl (dk_at dk_X6_discard 3 rfl) rfl rfl (Nat.le_of_ble_eq_true rfl) ho (h.mono fun o4 A1 b2 c3 h => aftI h fun i5 h => ?_)
  refine G_if_eq (tgt := 13) (dk_at dk_X6_discard 4 rfl) (by decide) (fun c => ?_) (fun c => ?_)
  · replace h := h.1 c
    refine G_iconst (v := 1) (dk_at dk_X6_discard 7 rfl) (by decide) ?_
    exact h
  · replace h := h.2 c
    refine G_iconst (v := 0) (dk_at dk_X6_discard 5 rfl) (by decide) ?_
    refine G_goto (tgt := 14) (dk_at dk_X6_discard 6 rfl) (by decide) ?_
    exact h
theorem k_X6_discard_14 {l : Launch} {X : XT} {d : Nat} {Q : Ot → AH → Prop} {A : AH} {bc bs : Nat} {v0 : Nat} {v1 : Int32} {s0 : Int32} {s1 : Nat} (h : pV A s1 7 5 (.int s0) fun A1 => gI A1 v0 7 5 fun i2 => (i2 ≤ 0 → isO A1 v0 7 ∧ Cal l X d bc bs M_X6_keeps [.ref v0] A1 fun o6 A3 b4 c5 => rV o6 (fun E => Q (.inr E) A3) <| isO A3 v0 7 ∧ Cal l X d b4 c5 M_X6_goes [.ref v0, .int v1] A3 fun o10 A7 b8 c9 => rV o10 (fun E => Q (.inr E) A7) <| gR A7 v0 7 0 fun r11 => aI X A7 r11 9 fun i12 => Q (Ri i12) A7) ∧ (¬ i2 ≤ 0 → Q (Ri 0) A1)) : G l X M_X6_discard d Q 14 [(0, .ref v0), (1, .int v1)] [.int s0, .ref s1] A bc bs := by
  refine K_pI pf_X6_50 (dk_at dk_X6_discard 8 rfl) h (fun A1 h => ?_)
  refine G_aload_n 0 (dk_at dk_X6_discard 9 rfl) rfl ?_
  refine K_gI gf_X6_50 (dk_at dk_X6_discard 10 rfl) h (fun i2 h => ?_)
  refine G_if_le (tgt := 26) (dk_at dk_X6_discard 11 rfl) (by decide) (fun c => ?_) (fun c => ?_)
  · replace h := h.1 c
    refine G_aload_n 0 (dk_at dk_X6_discard 14 rfl) rfl ?_
    obtain ⟨⟨_, ho⟩, h⟩ := h
    refine G_callV (As := []) (rest := []) lk_X6_153 rfl (dk_at dk_X6_discard 15 rfl) rfl rfl (Nat.le_of_ble_eq_true rfl) ho (h.mono fun o6 A3 b4 c5 h => aftV h fun h => ?_)
    refine G_aload_n 0 (dk_at dk_X6_discard 16 rfl) rfl ?_
    refine G_iload_n 1 (dk_at dk_X6_discard 17 rfl) rfl ?_
    obtain ⟨⟨_, ho⟩, h⟩ := h
    refine G_callV (As := [.int v1]) (rest := []) lk_X6_298 rfl (dk_at dk_X6_discard 18 rfl) rfl rfl (Nat.le_of_ble_eq_true rfl) ho (h.mono fun o10 A7 b8 c9 h => aftV h fun h => ?_)
    refine G_aload_n 0 (dk_at dk_X6_discard 19 rfl) rfl ?_
    refine K_gR gf_X6_7 (dk_at dk_X6_discard 20 rfl) h (fun r11 h => ?_)
    refine G_bipush (v := 9) (dk_at dk_X6_discard 21 rfl) (by decide) ?_
    refine K_aI (dk_at dk_X6_discard 22 rfl) h (fun i12 h => ?_)
    exact G_iret (ty := .int) rfl rfl (dk_at dk_X6_discard 23 rfl) h
  · replace h := h.2 c
    refine G_iconst (v := 0) (dk_at dk_X6_discard 12 rfl) (by decide) ?_
    exact G_iret (ty := .int) rfl rfl (dk_at dk_X6_discard 13 rfl) h
theorem k_X6_otherBytes_0 {l : Launch} {X : XT} {d : Nat} {Q : Ot → AH → Prop} {A : AH} {bc bs : Nat} {v0 : Nat} {v1 : Int32} (h : G l X M_X6_otherBytes d Q 4 [(0, .ref v0), (1, .int v1), (2, .int 0), (3, .int 0)] [] A bc bs) : G l X M_X6_otherBytes d Q 0 [(0, .ref v0), (1, .int v1)] [] A bc bs := by
  refine G_iconst (v := 0) (dk_at dk_X6_otherBytes 0 rfl) (by decide) ?_
  refine G_istore_n (lv' := [(2, .int 0), (0, .ref v0), (1, .int v1)]) (dk_at dk_X6_otherBytes 1 rfl) (by decide) rfl ?_
  refine G_iconst (v := 0) (dk_at dk_X6_otherBytes 2 rfl) (by decide) ?_
  refine G_istore_n (lv' := [(3, .int 0), (2, .int 0), (0, .ref v0), (1, .int v1)]) (dk_at dk_X6_otherBytes 3 rfl) (by decide) rfl ?_
  refine G_sub [2, 3, 1, 0] rfl ?_
  exact h
theorem k_X6_otherBytes_4 {l : Launch} {X : XT} {d : Nat} {Q : Ot → AH → Prop} {A : AH} {bc bs : Nat} {v0 : Nat} {v1 : Int32} {v2 : Int32} {v3 : Int32} (h : gR A v0 7 0 fun r1 => aI X A r1 (v1 + 1) fun i2 => (i2 ≤ v3 → Q (Ri v2) A) ∧ (¬ i2 ≤ v3 → gR A v0 7 0 fun r3 => aI X A r3 ((v1 + 2) + v3) fun i4 => isO A v0 7 ∧ Cal l X d bc bs M_X6_byteOf [.ref v0, .int 0, .int v3] A fun o8 A5 b6 c7 => rI o8 (fun E => Q (.inr E) A5) fun i9 => (i4 = i9 → G l X M_X6_otherBytes d Q 4 [(0, .ref v0), (1, .int v1), (2, .int (v2 + 0)), (3, .int (v3 + 1))] [] A5 b6 c7) ∧ (¬ i4 = i9 → G l X M_X6_otherBytes d Q 4 [(0, .ref v0), (1, .int v1), (2, .int (v2 + 1)), (3, .int (v3 + 1))] [] A5 b6 c7))) : G l X M_X6_otherBytes d Q 4 [(0, .ref v0), (1, .int v1), (2, .int v2), (3, .int v3)] [] A bc bs := by
  refine G_iload_n 3 (dk_at dk_X6_otherBytes 4 rfl) rfl ?_
  refine G_aload_n 0 (dk_at dk_X6_otherBytes 5 rfl) rfl ?_
  refine K_gR gf_X6_7 (dk_at dk_X6_otherBytes 6 rfl) h (fun r1 h => ?_)
  refine G_iload_n 1 (dk_at dk_X6_otherBytes 7 rfl) rfl ?_
  refine G_iconst (v := 1) (dk_at dk_X6_otherBytes 8 rfl) (by decide) ?_
  refine G_iadd (dk_at dk_X6_otherBytes 9 rfl) ?_
  refine K_aI (dk_at dk_X6_otherBytes 10 rfl) h (fun i2 h => ?_)
  refine G_icmp_ge (tgt := 49) (dk_at dk_X6_otherBytes 11 rfl) (by decide) (fun c => ?_) (fun c => ?_)
  · replace h := h.1 c
    refine G_iload_n 2 (dk_at dk_X6_otherBytes 33 rfl) rfl ?_
    exact G_iret (ty := .int) rfl rfl (dk_at dk_X6_otherBytes 34 rfl) h
  · replace h := h.2 c
    refine G_iload_n 2 (dk_at dk_X6_otherBytes 12 rfl) rfl ?_
    refine G_aload_n 0 (dk_at dk_X6_otherBytes 13 rfl) rfl ?_
    refine K_gR gf_X6_7 (dk_at dk_X6_otherBytes 14 rfl) h (fun r3 h => ?_)
    refine G_iload_n 1 (dk_at dk_X6_otherBytes 15 rfl) rfl ?_
    refine G_iconst (v := 2) (dk_at dk_X6_otherBytes 16 rfl) (by decide) ?_
    refine G_iadd (dk_at dk_X6_otherBytes 17 rfl) ?_
    refine G_iload_n 3 (dk_at dk_X6_otherBytes 18 rfl) rfl ?_
    refine G_iadd (dk_at dk_X6_otherBytes 19 rfl) ?_
    refine K_aI (dk_at dk_X6_otherBytes 20 rfl) h (fun i4 h => ?_)
    refine G_aload_n 0 (dk_at dk_X6_otherBytes 21 rfl) rfl ?_
    refine G_iconst (v := 0) (dk_at dk_X6_otherBytes 22 rfl) (by decide) ?_
    refine G_iload_n 3 (dk_at dk_X6_otherBytes 23 rfl) rfl ?_
    obtain ⟨⟨_, ho⟩, h⟩ := h
    refine G_callV (As := [.int 0, .int v3]) (rest := [.int i4, .int v2]) lk_X6_182 rfl (dk_at dk_X6_otherBytes 24 rfl) rfl rfl (Nat.le_of_ble_eq_true rfl) ho (h.mono fun o8 A5 b6 c7 h => aftI h fun i9 h => ?_)
    refine G_icmp_eq (tgt := 40) (dk_at dk_X6_otherBytes 25 rfl) (by decide) (fun c => ?_) (fun c => ?_)
    · replace h := h.1 c
      refine G_iconst (v := 0) (dk_at dk_X6_otherBytes 28 rfl) (by decide) ?_
      refine G_iadd (dk_at dk_X6_otherBytes 29 rfl) ?_
      refine G_istore_n (lv' := [(2, .int (v2 + 0)), (0, .ref v0), (1, .int v1), (3, .int v3)]) (dk_at dk_X6_otherBytes 30 rfl) (by decide) rfl ?_
      refine G_iinc (v := v3 + 1) (lv' := [(3, .int (v3 + 1)), (2, .int (v2 + 0)), (0, .ref v0), (1, .int v1)]) 3 (dk_at dk_X6_otherBytes 31 rfl) rfl rfl (by decide) rfl ?_
      refine G_goto (tgt := 4) (dk_at dk_X6_otherBytes 32 rfl) (by decide) ?_
      refine G_sub [2, 3, 1, 0] rfl ?_
      exact h
    · replace h := h.2 c
      refine G_iconst (v := 1) (dk_at dk_X6_otherBytes 26 rfl) (by decide) ?_
      refine G_goto (tgt := 41) (dk_at dk_X6_otherBytes 27 rfl) (by decide) ?_
      refine G_iadd (dk_at dk_X6_otherBytes 29 rfl) ?_
      refine G_istore_n (lv' := [(2, .int (v2 + 1)), (0, .ref v0), (1, .int v1), (3, .int v3)]) (dk_at dk_X6_otherBytes 30 rfl) (by decide) rfl ?_
      refine G_iinc (v := v3 + 1) (lv' := [(3, .int (v3 + 1)), (2, .int (v2 + 1)), (0, .ref v0), (1, .int v1)]) 3 (dk_at dk_X6_otherBytes 31 rfl) rfl rfl (by decide) rfl ?_
      refine G_goto (tgt := 4) (dk_at dk_X6_otherBytes 32 rfl) (by decide) ?_
      refine G_sub [2, 3, 1, 0] rfl ?_
      exact h
theorem k_X6_goodPieces_0 {l : Launch} {X : XT} {d : Nat} {Q : Ot → AH → Prop} {A : AH} {bc bs : Nat} {v0 : Nat} {v1 : Int32} (h : G l X M_X6_goodPieces d Q 2 [(0, .ref v0), (1, .int v1), (2, .int 0)] [] A bc bs) : G l X M_X6_goodPieces d Q 0 [(0, .ref v0), (1, .int v1)] [] A bc bs := by
  refine G_iconst (v := 0) (dk_at dk_X6_goodPieces 0 rfl) (by decide) ?_
  refine G_istore_n (lv' := [(2, .int 0), (0, .ref v0), (1, .int v1)]) (dk_at dk_X6_goodPieces 1 rfl) (by decide) rfl ?_
  refine G_sub [1, 2, 0] rfl ?_
  exact h
theorem k_X6_goodPieces_2 {l : Launch} {X : XT} {d : Nat} {Q : Ot → AH → Prop} {A : AH} {bc bs : Nat} {v0 : Nat} {v1 : Int32} {v2 : Int32} (h : isO A v0 7 ∧ Cal l X d bc bs M_X6_pieces [.ref v0] A fun o4 A1 b2 c3 => rI o4 (fun E => Q (.inr E) A1) fun i5 => (i5 ≤ v2 → Q (Ri v2) A1) ∧ (¬ i5 ≤ v2 → gR A1 v0 7 0 fun r6 => aI X A1 r6 2 fun i7 => isO A1 v0 7 ∧ Cal l X d b2 c3 M_X6_pieceLength [.ref v0, .int v2] A1 fun o11 A8 b9 c10 => rI o11 (fun E => Q (.inr E) A8) fun i12 => gR A8 v0 7 0 fun r13 => aI X A8 r13 (v1 + 1) fun i14 => (i14 < ((i7 * v2) + i12) → Q (Ri v2) A8) ∧ (¬ i14 < ((i7 * v2) + i12) → gR A8 v0 7 0 fun r15 => aI X A8 r15 2 fun i16 => isO A8 v0 7 ∧ Cal l X d b9 c10 M_X6_pieceLength [.ref v0, .int v2] A8 fun o20 A17 b18 c19 => rI o20 (fun E => Q (.inr E) A17) fun i21 => isO A17 v0 7 ∧ Cal l X d b18 c19 M_X6_rowSum [.ref v0, .int ((v1 + 2) + (i16 * v2)), .int i21] A17 fun o25 A22 b23 c24 => rI o25 (fun E => Q (.inr E) A22) fun i26 => gR A22 v0 7 0 fun r27 => aI X A22 r27 2 fun i28 => isO A22 v0 7 ∧ Cal l X d b23 c24 M_X6_pieceLength [.ref v0, .int v2] A22 fun o32 A29 b30 c31 => rI o32 (fun E => Q (.inr E) A29) fun i33 => isO A29 v0 7 ∧ Cal l X d b30 c31 M_X6_sumOf [.ref v0, .int 0, .int (i28 * v2), .int i33] A29 fun o37 A34 b35 c36 => rI o37 (fun E => Q (.inr E) A34) fun i38 => (¬ i26 = i38 → Q (Ri v2) A34) ∧ (i26 = i38 → G l X M_X6_goodPieces d Q 2 [(0, .ref v0), (1, .int v1), (2, .int (v2 + 1))] [] A34 b35 c36)))) : G l X M_X6_goodPieces d Q 2 [(0, .ref v0), (1, .int v1), (2, .int v2)] [] A bc bs := by
  refine G_iload_n 2 (dk_at dk_X6_goodPieces 2 rfl) rfl ?_
  refine G_aload_n 0 (dk_at dk_X6_goodPieces 3 rfl) rfl ?_
  obtain ⟨⟨_, ho⟩, h⟩ := h
  refine G_callV (As := []) (rest := [.int v2]) lk_X6_165 rfl (dk_at dk_X6_goodPieces 4 rfl) rfl rfl (Nat.le_of_ble_eq_true rfl) ho (h.mono fun o4 A1 b2 c3 h => aftI h fun i5 h => ?_)
  refine G_icmp_ge (tgt := 83) (dk_at dk_X6_goodPieces 5 rfl) (by decide) (fun c => ?_) (fun c => ?_)
  · replace h := h.1 c
    refine G_iload_n 2 (dk_at dk_X6_goodPieces 53 rfl) rfl ?_
    exact G_iret (ty := .int) rfl rfl (dk_at dk_X6_goodPieces 54 rfl) h
  · replace h := h.2 c
    refine G_aload_n 0 (dk_at dk_X6_goodPieces 6 rfl) rfl ?_
    refine K_gR gf_X6_7 (dk_at dk_X6_goodPieces 7 rfl) h (fun r6 h => ?_)
    refine G_iconst (v := 2) (dk_at dk_X6_goodPieces 8 rfl) (by decide) ?_
    refine K_aI (dk_at dk_X6_goodPieces 9 rfl) h (fun i7 h => ?_)
    refine G_iload_n 2 (dk_at dk_X6_goodPieces 10 rfl) rfl ?_
    refine G_imul (dk_at dk_X6_goodPieces 11 rfl) ?_
    refine G_aload_n 0 (dk_at dk_X6_goodPieces 12 rfl) rfl ?_
    refine G_iload_n 2 (dk_at dk_X6_goodPieces 13 rfl) rfl ?_
    obtain ⟨⟨_, ho⟩, h⟩ := h
    refine G_callV (As := [.int v2]) (rest := [.int (i7 * v2)]) lk_X6_159 rfl (dk_at dk_X6_goodPieces 14 rfl) rfl rfl (Nat.le_of_ble_eq_true rfl) ho (h.mono fun o11 A8 b9 c10 h => aftI h fun i12 h => ?_)
    refine G_iadd (dk_at dk_X6_goodPieces 15 rfl) ?_
    refine G_aload_n 0 (dk_at dk_X6_goodPieces 16 rfl) rfl ?_
    refine K_gR gf_X6_7 (dk_at dk_X6_goodPieces 17 rfl) h (fun r13 h => ?_)
    refine G_iload_n 1 (dk_at dk_X6_goodPieces 18 rfl) rfl ?_
    refine G_iconst (v := 1) (dk_at dk_X6_goodPieces 19 rfl) (by decide) ?_
    refine G_iadd (dk_at dk_X6_goodPieces 20 rfl) ?_
    refine K_aI (dk_at dk_X6_goodPieces 21 rfl) h (fun i14 h => ?_)
    refine G_icmp_gt (tgt := 83) (dk_at dk_X6_goodPieces 22 rfl) (by decide) (fun c => ?_) (fun c => ?_)
    · replace h := h.1 c
      refine G_iload_n 2 (dk_at dk_X6_goodPieces 53 rfl) rfl ?_
      exact G_iret (ty := .int) rfl rfl (dk_at dk_X6_goodPieces 54 rfl) h
    · replace h := h.2 c
      refine G_aload_n 0 (dk_at dk_X6_goodPieces 23 rfl) rfl ?_
      refine G_iload_n 1 (dk_at dk_X6_goodPieces 24 rfl) rfl ?_
      refine G_iconst (v := 2) (dk_at dk_X6_goodPieces 25 rfl) (by decide) ?_
      refine G_iadd (dk_at dk_X6_goodPieces 26 rfl) ?_
      refine G_aload_n 0 (dk_at dk_X6_goodPieces 27 rfl) rfl ?_
      refine K_gR gf_X6_7 (dk_at dk_X6_goodPieces 28 rfl) h (fun r15 h => ?_)
      refine G_iconst (v := 2) (dk_at dk_X6_goodPieces 29 rfl) (by decide) ?_
      refine K_aI (dk_at dk_X6_goodPieces 30 rfl) h (fun i16 h => ?_)
      refine G_iload_n 2 (dk_at dk_X6_goodPieces 31 rfl) rfl ?_
      refine G_imul (dk_at dk_X6_goodPieces 32 rfl) ?_
      refine G_iadd (dk_at dk_X6_goodPieces 33 rfl) ?_
      refine G_aload_n 0 (dk_at dk_X6_goodPieces 34 rfl) rfl ?_
      refine G_iload_n 2 (dk_at dk_X6_goodPieces 35 rfl) rfl ?_
      obtain ⟨⟨_, ho⟩, h⟩ := h
      refine G_callV (As := [.int v2]) (rest := [.int ((v1 + 2) + (i16 * v2)), .ref v0]) lk_X6_159 rfl (dk_at dk_X6_goodPieces 36 rfl) rfl rfl (Nat.le_of_ble_eq_true rfl) ho (h.mono fun o20 A17 b18 c19 h => aftI h fun i21 h => ?_)
      obtain ⟨⟨_, ho⟩, h⟩ := h
      refine G_callV (As := [.int ((v1 + 2) + (i16 * v2)), .int i21]) (rest := []) lk_X6_188 rfl (dk_at dk_X6_goodPieces 37 rfl) rfl rfl (Nat.le_of_ble_eq_true rfl) ho (h.mono fun o25 A22 b23 c24 h => aftI h fun i26 h => ?_)
      refine G_aload_n 0 (dk_at dk_X6_goodPieces 38 rfl) rfl ?_
      refine G_iconst (v := 0) (dk_at dk_X6_goodPieces 39 rfl) (by decide) ?_
      refine G_aload_n 0 (dk_at dk_X6_goodPieces 40 rfl) rfl ?_
      refine K_gR gf_X6_7 (dk_at dk_X6_goodPieces 41 rfl) h (fun r27 h => ?_)
      refine G_iconst (v := 2) (dk_at dk_X6_goodPieces 42 rfl) (by decide) ?_
      refine K_aI (dk_at dk_X6_goodPieces 43 rfl) h (fun i28 h => ?_)
      refine G_iload_n 2 (dk_at dk_X6_goodPieces 44 rfl) rfl ?_
      refine G_imul (dk_at dk_X6_goodPieces 45 rfl) ?_
      refine G_aload_n 0 (dk_at dk_X6_goodPieces 46 rfl) rfl ?_
      refine G_iload_n 2 (dk_at dk_X6_goodPieces 47 rfl) rfl ?_
      obtain ⟨⟨_, ho⟩, h⟩ := h
      refine G_callV (As := [.int v2]) (rest := [.int (i28 * v2), .int 0, .ref v0, .int i26]) lk_X6_159 rfl (dk_at dk_X6_goodPieces 48 rfl) rfl rfl (Nat.le_of_ble_eq_true rfl) ho (h.mono fun o32 A29 b30 c31 h => aftI h fun i33 h => ?_)
      obtain ⟨⟨_, ho⟩, h⟩ := h
      refine G_callV (As := [.int 0, .int (i28 * v2), .int i33]) (rest := [.int i26]) lk_X6_191 rfl (dk_at dk_X6_goodPieces 49 rfl) rfl rfl (Nat.le_of_ble_eq_true rfl) ho (h.mono fun o37 A34 b35 c36 h => aftI h fun i38 h => ?_)
      refine G_icmp_ne (tgt := 83) (dk_at dk_X6_goodPieces 50 rfl) (by decide) (fun c => ?_) (fun c => ?_)
      · replace h := h.1 c
        refine G_iload_n 2 (dk_at dk_X6_goodPieces 53 rfl) rfl ?_
        exact G_iret (ty := .int) rfl rfl (dk_at dk_X6_goodPieces 54 rfl) h
      · replace h := h.2 c
        refine G_iinc (v := v2 + 1) (lv' := [(2, .int (v2 + 1)), (0, .ref v0), (1, .int v1)]) 2 (dk_at dk_X6_goodPieces 51 rfl) rfl rfl (by decide) rfl ?_
        refine G_goto (tgt := 2) (dk_at dk_X6_goodPieces 52 rfl) (by decide) ?_
        refine G_sub [1, 2, 0] rfl ?_
        exact h
theorem k_X6_partial_0 {l : Launch} {X : XT} {d : Nat} {Q : Ot → AH → Prop} {A : AH} {bc bs : Nat} {v0 : Nat} {v1 : Int32} {v2 : Int32} (h : isO A v0 7 ∧ Cal l X d bc bs M_X6_isPartial [.ref v0, .int v1] A fun o4 A1 b2 c3 => rI o4 (fun E => Q (.inr E) A1) fun i5 => (¬ i5 = 0 → Cal l X d b2 c3 M_X6_isIn [.int v2, .int 0, .int 4] A1 fun o9 A6 b7 c8 => rI o9 (fun E => Q (.inr E) A6) fun i10 => (i10 = 0 → G l X M_X6_partial d Q 27 [(0, .ref v0), (1, .int v1), (2, .int v2)] [.int 2, .ref v0] A6 b7 c8) ∧ (¬ i10 = 0 → G l X M_X6_partial d Q 27 [(0, .ref v0), (1, .int v1), (2, .int v2)] [.int 0, .ref v0] A6 b7 c8)) ∧ (i5 = 0 → G l X M_X6_partial d Q 27 [(0, .ref v0), (1, .int v1), (2, .int v2)] [.int 1, .ref v0] A1 b2 c3)) : G l X M_X6_partial d Q 0 [(0, .ref v0), (1, .int v1), (2, .int v2)] [] A bc bs := by
  refine G_aload_n 0 (dk_at dk_X6_partial 0 rfl) rfl ?_
  refine G_aload_n 0 (dk_at dk_X6_partial 1 rfl) rfl ?_
  refine G_iload_n 1 (dk_at dk_X6_partial 2 rfl) rfl ?_
  obtain ⟨⟨_, ho⟩, h⟩ := h
  refine G_callV (As := [.int v1]) (rest := [.ref v0]) lk_X6_295 rfl (dk_at dk_X6_partial 3 rfl) rfl rfl (Nat.le_of_ble_eq_true rfl) ho (h.mono fun o4 A1 b2 c3 h => aftI h fun i5 h => ?_)
  refine G_if_ne (tgt := 13) (dk_at dk_X6_partial 4 rfl) (by decide) (fun c => ?_) (fun c => ?_)
  · replace h := h.1 c
    refine G_iload_n 2 (dk_at dk_X6_partial 7 rfl) rfl ?_
    refine G_iconst (v := 0) (dk_at dk_X6_partial 8 rfl) (by decide) ?_
    refine G_iconst (v := 4) (dk_at dk_X6_partial 9 rfl) (by decide) ?_
    refine G_callS (As := [.int v2, .int 0, .int 4]) (rest := [.ref v0]) lk_X6_62 rfl (dk_at dk_X6_partial 10 rfl) rfl rfl (Nat.le_of_ble_eq_true rfl) (h.mono fun o9 A6 b7 c8 h => aftI h fun i10 h => ?_)
    refine G_if_eq (tgt := 26) (dk_at dk_X6_partial 11 rfl) (by decide) (fun c => ?_) (fun c => ?_)
    · replace h := h.1 c
      refine G_iconst (v := 2) (dk_at dk_X6_partial 14 rfl) (by decide) ?_
      exact h
    · replace h := h.2 c
      refine G_iconst (v := 0) (dk_at dk_X6_partial 12 rfl) (by decide) ?_
      refine G_goto (tgt := 27) (dk_at dk_X6_partial 13 rfl) (by decide) ?_
      exact h
  · replace h := h.2 c
    refine G_iconst (v := 1) (dk_at dk_X6_partial 5 rfl) (by decide) ?_
    refine G_goto (tgt := 27) (dk_at dk_X6_partial 6 rfl) (by decide) ?_
    exact h
theorem k_X6_partial_27 {l : Launch} {X : XT} {d : Nat} {Q : Ot → AH → Prop} {A : AH} {bc bs : Nat} {v0 : Nat} {v1 : Int32} {v2 : Int32} {s0 : Int32} {s1 : Nat} (h : pV A s1 7 5 (.int s0) fun A1 => gI A1 v0 7 5 fun i2 => (i2 ≤ 0 → isO A1 v0 7 ∧ Cal l X d bc bs M_X6_file [.ref v0, .int v1] A1 fun o6 A3 b4 c5 => rI o6 (fun E => Q (.inr E) A3) fun i7 => (2 ≤ v2 → (¬ v2 = 2 → (¬ v2 = 3 → isO A3 v0 7 ∧ Cal l X d b4 c5 M_X6_goodPieces [.ref v0, .int i7] A3 fun o11 A8 b9 c10 => rI o11 (fun E => Q (.inr E) A8) fun i12 => Q (Ri i12) A8) ∧ (v2 = 3 → isO A3 v0 7 ∧ Cal l X d b4 c5 M_X6_otherBytes [.ref v0, .int i7] A3 fun o16 A13 b14 c15 => rI o16 (fun E => Q (.inr E) A13) fun i17 => Q (Ri i17) A13)) ∧ (v2 = 2 → gR A3 v0 7 0 fun r18 => aI X A3 r18 (i7 + 1) fun i19 => isO A3 v0 7 ∧ Cal l X d b4 c5 M_X6_rowSum [.ref v0, .int (i7 + 2), .int i19] A3 fun o23 A20 b21 c22 => rI o23 (fun E => Q (.inr E) A20) fun i24 => Q (Ri i24) A20)) ∧ (¬ 2 ≤ v2 → gR A3 v0 7 0 fun r25 => aI X A3 r25 (i7 + v2) fun i26 => Q (Ri i26) A3)) ∧ (¬ i2 ≤ 0 → Q (Ri 0) A1)) : G l X M_X6_partial d Q 27 [(0, .ref v0), (1, .int v1), (2, .int v2)] [.int s0, .ref s1] A bc bs := by
  refine K_pI pf_X6_50 (dk_at dk_X6_partial 15 rfl) h (fun A1 h => ?_)
  refine G_aload_n 0 (dk_at dk_X6_partial 16 rfl) rfl ?_
  refine K_gI gf_X6_50 (dk_at dk_X6_partial 17 rfl) h (fun i2 h => ?_)
  refine G_if_le (tgt := 39) (dk_at dk_X6_partial 18 rfl) (by decide) (fun c => ?_) (fun c => ?_)
  · replace h := h.1 c
    refine G_aload_n 0 (dk_at dk_X6_partial 21 rfl) rfl ?_
    refine G_iload_n 1 (dk_at dk_X6_partial 22 rfl) rfl ?_
    obtain ⟨⟨_, ho⟩, h⟩ := h
    refine G_callV (As := [.int v1]) (rest := []) lk_X6_293 rfl (dk_at dk_X6_partial 23 rfl) rfl rfl (Nat.le_of_ble_eq_true rfl) ho (h.mono fun o6 A3 b4 c5 h => aftI h fun i7 h => ?_)
    refine G_istore_n (lv' := [(3, .int i7), (0, .ref v0), (1, .int v1), (2, .int v2)]) (dk_at dk_X6_partial 24 rfl) (by decide) rfl ?_
    refine G_iload_n 3 (dk_at dk_X6_partial 25 rfl) rfl ?_
    refine G_iconst (v := 2) (dk_at dk_X6_partial 26 rfl) (by decide) ?_
    refine G_icmp_ge (tgt := 61) (dk_at dk_X6_partial 27 rfl) (by decide) (fun c => ?_) (fun c => ?_)
    · replace h := h.1 c
      refine G_iload_n 3 (dk_at dk_X6_partial 35 rfl) rfl ?_
      refine G_iconst (v := 2) (dk_at dk_X6_partial 36 rfl) (by decide) ?_
      refine G_icmp_ne (tgt := 84) (dk_at dk_X6_partial 37 rfl) (by decide) (fun c => ?_) (fun c => ?_)
      · replace h := h.1 c
        refine G_iload_n 3 (dk_at dk_X6_partial 50 rfl) rfl ?_
        refine G_iconst (v := 3) (dk_at dk_X6_partial 51 rfl) (by decide) ?_
        refine G_icmp_ne (tgt := 97) (dk_at dk_X6_partial 52 rfl) (by decide) (fun c => ?_) (fun c => ?_)
        · replace h := h.1 c
          refine G_aload_n 1 (dk_at dk_X6_partial 57 rfl) rfl ?_
          refine G_iload_n 0 (dk_at dk_X6_partial 58 rfl) rfl ?_
          obtain ⟨⟨_, ho⟩, h⟩ := h
          refine G_callV (As := [.int i7]) (rest := []) lk_X6_304 rfl (dk_at dk_X6_partial 59 rfl) rfl rfl (Nat.le_of_ble_eq_true rfl) ho (h.mono fun o11 A8 b9 c10 h => aftI h fun i12 h => ?_)
          exact G_iret (ty := .int) rfl rfl (dk_at dk_X6_partial 60 rfl) h
        · replace h := h.2 c
          refine G_aload_n 1 (dk_at dk_X6_partial 53 rfl) rfl ?_
          refine G_iload_n 0 (dk_at dk_X6_partial 54 rfl) rfl ?_
          obtain ⟨⟨_, ho⟩, h⟩ := h
          refine G_callV (As := [.int i7]) (rest := []) lk_X6_301 rfl (dk_at dk_X6_partial 55 rfl) rfl rfl (Nat.le_of_ble_eq_true rfl) ho (h.mono fun o16 A13 b14 c15 h => aftI h fun i17 h => ?_)
          refine G_goto (tgt := 102) (dk_at dk_X6_partial 56 rfl) (by decide) ?_
          exact G_iret (ty := .int) rfl rfl (dk_at dk_X6_partial 60 rfl) h
      · replace h := h.2 c
        refine G_aload_n 1 (dk_at dk_X6_partial 38 rfl) rfl ?_
        refine G_iload_n 0 (dk_at dk_X6_partial 39 rfl) rfl ?_
        refine G_iconst (v := 2) (dk_at dk_X6_partial 40 rfl) (by decide) ?_
        refine G_iadd (dk_at dk_X6_partial 41 rfl) ?_
        refine G_aload_n 1 (dk_at dk_X6_partial 42 rfl) rfl ?_
        refine K_gR gf_X6_7 (dk_at dk_X6_partial 43 rfl) h (fun r18 h => ?_)
        refine G_iload_n 0 (dk_at dk_X6_partial 44 rfl) rfl ?_
        refine G_iconst (v := 1) (dk_at dk_X6_partial 45 rfl) (by decide) ?_
        refine G_iadd (dk_at dk_X6_partial 46 rfl) ?_
        refine K_aI (dk_at dk_X6_partial 47 rfl) h (fun i19 h => ?_)
        obtain ⟨⟨_, ho⟩, h⟩ := h
        refine G_callV (As := [.int (i7 + 2), .int i19]) (rest := []) lk_X6_188 rfl (dk_at dk_X6_partial 48 rfl) rfl rfl (Nat.le_of_ble_eq_true rfl) ho (h.mono fun o23 A20 b21 c22 h => aftI h fun i24 h => ?_)
        refine G_goto (tgt := 102) (dk_at dk_X6_partial 49 rfl) (by decide) ?_
        exact G_iret (ty := .int) rfl rfl (dk_at dk_X6_partial 60 rfl) h
    · replace h := h.2 c
      refine G_aload_n 1 (dk_at dk_X6_partial 28 rfl) rfl ?_
      refine K_gR gf_X6_7 (dk_at dk_X6_partial 29 rfl) h (fun r25 h => ?_)
      refine G_iload_n 0 (dk_at dk_X6_partial 30 rfl) rfl ?_
      refine G_iload_n 3 (dk_at dk_X6_partial 31 rfl) rfl ?_
      refine G_iadd (dk_at dk_X6_partial 32 rfl) ?_
      refine K_aI (dk_at dk_X6_partial 33 rfl) h (fun i26 h => ?_)
      refine G_goto (tgt := 102) (dk_at dk_X6_partial 34 rfl) (by decide) ?_
      exact G_iret (ty := .int) rfl rfl (dk_at dk_X6_partial 60 rfl) h
  · replace h := h.2 c
    refine G_iconst (v := 0) (dk_at dk_X6_partial 19 rfl) (by decide) ?_
    exact G_iret (ty := .int) rfl rfl (dk_at dk_X6_partial 20 rfl) h
theorem k_X6_wrongBytes_0 {l : Launch} {X : XT} {d : Nat} {Q : Ot → AH → Prop} {A : AH} {bc bs : Nat} {v0 : Nat} (h : pV A v0 7 5 (.int 0) fun A1 => G l X M_X6_wrongBytes d Q 9 [(0, .ref v0), (1, .int 0), (2, .int 0)] [] A1 bc bs) : G l X M_X6_wrongBytes d Q 0 [(0, .ref v0)] [] A bc bs := by
  refine G_aload_n 0 (dk_at dk_X6_wrongBytes 0 rfl) rfl ?_
  refine G_iconst (v := 0) (dk_at dk_X6_wrongBytes 1 rfl) (by decide) ?_
  refine K_pI pf_X6_50 (dk_at dk_X6_wrongBytes 2 rfl) h (fun A1 h => ?_)
  refine G_iconst (v := 0) (dk_at dk_X6_wrongBytes 3 rfl) (by decide) ?_
  refine G_istore_n (lv' := [(1, .int 0), (0, .ref v0)]) (dk_at dk_X6_wrongBytes 4 rfl) (by decide) rfl ?_
  refine G_iconst (v := 0) (dk_at dk_X6_wrongBytes 5 rfl) (by decide) ?_
  refine G_istore_n (lv' := [(2, .int 0), (1, .int 0), (0, .ref v0)]) (dk_at dk_X6_wrongBytes 6 rfl) (by decide) rfl ?_
  refine G_sub [2, 1, 0] rfl ?_
  exact h
theorem k_X6_wrongBytes_9 {l : Launch} {X : XT} {d : Nat} {Q : Ot → AH → Prop} {A : AH} {bc bs : Nat} {v0 : Nat} {v1 : Int32} {v2 : Int32} (h : isO A v0 7 ∧ Cal l X d bc bs M_X6_parts [.ref v0] A fun o4 A1 b2 c3 => rI o4 (fun E => Q (.inr E) A1) fun i5 => (i5 ≤ v2 → Q (Ri v1) A1) ∧ (¬ i5 ≤ v2 → isO A1 v0 7 ∧ Cal l X d b2 c3 M_X6_wrongIn [.ref v0, .int v2] A1 fun o9 A6 b7 c8 => rI o9 (fun E => Q (.inr E) A6) fun i10 => G l X M_X6_wrongBytes d Q 9 [(0, .ref v0), (1, .int (v1 + i10)), (2, .int (v2 + 1))] [] A6 b7 c8)) : G l X M_X6_wrongBytes d Q 9 [(0, .ref v0), (1, .int v1), (2, .int v2)] [] A bc bs := by
  refine G_iload_n 2 (dk_at dk_X6_wrongBytes 7 rfl) rfl ?_
  refine G_aload_n 0 (dk_at dk_X6_wrongBytes 8 rfl) rfl ?_
  obtain ⟨⟨_, ho⟩, h⟩ := h
  refine G_callV (As := []) (rest := [.int v2]) lk_X6_156 rfl (dk_at dk_X6_wrongBytes 9 rfl) rfl rfl (Nat.le_of_ble_eq_true rfl) ho (h.mono fun o4 A1 b2 c3 h => aftI h fun i5 h => ?_)
  refine G_icmp_ge (tgt := 31) (dk_at dk_X6_wrongBytes 10 rfl) (by decide) (fun c => ?_) (fun c => ?_)
  · replace h := h.1 c
    refine G_iload_n 1 (dk_at dk_X6_wrongBytes 19 rfl) rfl ?_
    exact G_iret (ty := .int) rfl rfl (dk_at dk_X6_wrongBytes 20 rfl) h
  · replace h := h.2 c
    refine G_iload_n 1 (dk_at dk_X6_wrongBytes 11 rfl) rfl ?_
    refine G_aload_n 0 (dk_at dk_X6_wrongBytes 12 rfl) rfl ?_
    refine G_iload_n 2 (dk_at dk_X6_wrongBytes 13 rfl) rfl ?_
    obtain ⟨⟨_, ho⟩, h⟩ := h
    refine G_callV (As := [.int v2]) (rest := [.int v1]) lk_X6_225 rfl (dk_at dk_X6_wrongBytes 14 rfl) rfl rfl (Nat.le_of_ble_eq_true rfl) ho (h.mono fun o9 A6 b7 c8 h => aftI h fun i10 h => ?_)
    refine G_iadd (dk_at dk_X6_wrongBytes 15 rfl) ?_
    refine G_istore_n (lv' := [(1, .int (v1 + i10)), (0, .ref v0), (2, .int v2)]) (dk_at dk_X6_wrongBytes 16 rfl) (by decide) rfl ?_
    refine G_iinc (v := v2 + 1) (lv' := [(2, .int (v2 + 1)), (1, .int (v1 + i10)), (0, .ref v0)]) 2 (dk_at dk_X6_wrongBytes 17 rfl) rfl rfl (by decide) rfl ?_
    refine G_goto (tgt := 9) (dk_at dk_X6_wrongBytes 18 rfl) (by decide) ?_
    refine G_sub [2, 1, 0] rfl ?_
    exact h
theorem k_X6_differingParts_0 {l : Launch} {X : XT} {d : Nat} {Q : Ot → AH → Prop} {A : AH} {bc bs : Nat} {v0 : Nat} (h : pV A v0 7 5 (.int 0) fun A1 => G l X M_X6_differingParts d Q 9 [(0, .ref v0), (1, .int 0), (2, .int 0)] [] A1 bc bs) : G l X M_X6_differingParts d Q 0 [(0, .ref v0)] [] A bc bs := by
  refine G_aload_n 0 (dk_at dk_X6_differingParts 0 rfl) rfl ?_
  refine G_iconst (v := 0) (dk_at dk_X6_differingParts 1 rfl) (by decide) ?_
  refine K_pI pf_X6_50 (dk_at dk_X6_differingParts 2 rfl) h (fun A1 h => ?_)
  refine G_iconst (v := 0) (dk_at dk_X6_differingParts 3 rfl) (by decide) ?_
  refine G_istore_n (lv' := [(1, .int 0), (0, .ref v0)]) (dk_at dk_X6_differingParts 4 rfl) (by decide) rfl ?_
  refine G_iconst (v := 0) (dk_at dk_X6_differingParts 5 rfl) (by decide) ?_
  refine G_istore_n (lv' := [(2, .int 0), (1, .int 0), (0, .ref v0)]) (dk_at dk_X6_differingParts 6 rfl) (by decide) rfl ?_
  refine G_sub [2, 1, 0] rfl ?_
  exact h
theorem k_X6_differingParts_9 {l : Launch} {X : XT} {d : Nat} {Q : Ot → AH → Prop} {A : AH} {bc bs : Nat} {v0 : Nat} {v1 : Int32} {v2 : Int32} (h : isO A v0 7 ∧ Cal l X d bc bs M_X6_parts [.ref v0] A fun o4 A1 b2 c3 => rI o4 (fun E => Q (.inr E) A1) fun i5 => (i5 ≤ v2 → Q (Ri v1) A1) ∧ (¬ i5 ≤ v2 → isO A1 v0 7 ∧ Cal l X d b2 c3 M_X6_placeOf [.ref v0, .int v2] A1 fun o9 A6 b7 c8 => rI o9 (fun E => Q (.inr E) A6) fun i10 => G l X M_X6_differingParts d Q 26 [(0, .ref v0), (1, .int v1), (2, .int v2), (3, .int 0), (4, .int i10)] [] A6 b7 c8)) : G l X M_X6_differingParts d Q 9 [(0, .ref v0), (1, .int v1), (2, .int v2)] [] A bc bs := by
  refine G_iload_n 2 (dk_at dk_X6_differingParts 7 rfl) rfl ?_
  refine G_aload_n 0 (dk_at dk_X6_differingParts 8 rfl) rfl ?_
  obtain ⟨⟨_, ho⟩, h⟩ := h
  refine G_callV (As := []) (rest := [.int v2]) lk_X6_156 rfl (dk_at dk_X6_differingParts 9 rfl) rfl rfl (Nat.le_of_ble_eq_true rfl) ho (h.mono fun o4 A1 b2 c3 h => aftI h fun i5 h => ?_)
  refine G_icmp_ge (tgt := 93) (dk_at dk_X6_differingParts 10 rfl) (by decide) (fun c => ?_) (fun c => ?_)
  · replace h := h.1 c
    refine G_iload_n 1 (dk_at dk_X6_differingParts 53 rfl) rfl ?_
    exact G_iret (ty := .int) rfl rfl (dk_at dk_X6_differingParts 54 rfl) h
  · replace h := h.2 c
    refine G_iconst (v := 0) (dk_at dk_X6_differingParts 11 rfl) (by decide) ?_
    refine G_istore_n (lv' := [(3, .int 0), (0, .ref v0), (1, .int v1), (2, .int v2)]) (dk_at dk_X6_differingParts 12 rfl) (by decide) rfl ?_
    refine G_aload_n 1 (dk_at dk_X6_differingParts 13 rfl) rfl ?_
    refine G_iload_n 3 (dk_at dk_X6_differingParts 14 rfl) rfl ?_
    obtain ⟨⟨_, ho⟩, h⟩ := h
    refine G_callV (As := [.int v2]) (rest := []) lk_X6_176 rfl (dk_at dk_X6_differingParts 15 rfl) rfl rfl (Nat.le_of_ble_eq_true rfl) ho (h.mono fun o9 A6 b7 c8 h => aftI h fun i10 h => ?_)
    refine G_istore (lv' := [(4, .int i10), (3, .int 0), (0, .ref v0), (1, .int v1), (2, .int v2)]) (dk_at dk_X6_differingParts 16 rfl) (by decide) rfl ?_
    refine G_sub [2, 3, 4, 1, 0] rfl ?_
    exact h
theorem k_X6_differingParts_26 {l : Launch} {X : XT} {d : Nat} {Q : Ot → AH → Prop} {A : AH} {bc bs : Nat} {v0 : Nat} {v1 : Int32} {v2 : Int32} {v3 : Int32} {v4 : Int32} (h : isO A v0 7 ∧ Cal l X d bc bs M_X6_placeOf [.ref v0, .int v2] A fun o4 A1 b2 c3 => rI o4 (fun E => Q (.inr E) A1) fun i5 => isO A1 v0 7 ∧ Cal l X d b2 c3 M_X6_partLength [.ref v0, .int v2] A1 fun o9 A6 b7 c8 => rI o9 (fun E => Q (.inr E) A6) fun i10 => ((i5 + i10) ≤ v4 → (v3 = 0 → G l X M_X6_differingParts d Q 9 [(0, .ref v0), (1, .int (v1 + 0)), (2, .int (v2 + 1))] [] A6 b7 c8) ∧ (¬ v3 = 0 → G l X M_X6_differingParts d Q 9 [(0, .ref v0), (1, .int (v1 + 1)), (2, .int (v2 + 1))] [] A6 b7 c8)) ∧ (¬ (i5 + i10) ≤ v4 → (¬ v3 = 0 → G l X M_X6_differingParts d Q 26 [(0, .ref v0), (1, .int v1), (2, .int v2), (3, .int 1), (4, .int (v4 + 1))] [] A6 b7 c8) ∧ (v3 = 0 → isO A6 v0 7 ∧ Cal l X d b7 c8 M_X6_byteOf [.ref v0, .int 0, .int v4] A6 fun o14 A11 b12 c13 => rI o14 (fun E => Q (.inr E) A11) fun i15 => isO A11 v0 7 ∧ Cal l X d b12 c13 M_X6_byteOf [.ref v0, .int 1, .int v4] A11 fun o19 A16 b17 c18 => rI o19 (fun E => Q (.inr E) A16) fun i20 => (i15 = i20 → G l X M_X6_differingParts d Q 26 [(0, .ref v0), (1, .int v1), (2, .int v2), (3, .int 0), (4, .int (v4 + 1))] [] A16 b17 c18) ∧ (¬ i15 = i20 → G l X M_X6_differingParts d Q 26 [(0, .ref v0), (1, .int v1), (2, .int v2), (3, .int 1), (4, .int (v4 + 1))] [] A16 b17 c18)))) : G l X M_X6_differingParts d Q 26 [(0, .ref v0), (1, .int v1), (2, .int v2), (3, .int v3), (4, .int v4)] [] A bc bs := by
  refine G_iload 4 (dk_at dk_X6_differingParts 17 rfl) rfl ?_
  refine G_aload_n 0 (dk_at dk_X6_differingParts 18 rfl) rfl ?_
  refine G_iload_n 2 (dk_at dk_X6_differingParts 19 rfl) rfl ?_
  obtain ⟨⟨_, ho⟩, h⟩ := h
  refine G_callV (As := [.int v2]) (rest := [.int v4]) lk_X6_176 rfl (dk_at dk_X6_differingParts 20 rfl) rfl rfl (Nat.le_of_ble_eq_true rfl) ho (h.mono fun o4 A1 b2 c3 h => aftI h fun i5 h => ?_)
  refine G_aload_n 0 (dk_at dk_X6_differingParts 21 rfl) rfl ?_
  refine G_iload_n 2 (dk_at dk_X6_differingParts 22 rfl) rfl ?_
  obtain ⟨⟨_, ho⟩, h⟩ := h
  refine G_callV (As := [.int v2]) (rest := [.int i5, .int v4]) lk_X6_219 rfl (dk_at dk_X6_differingParts 23 rfl) rfl rfl (Nat.le_of_ble_eq_true rfl) ho (h.mono fun o9 A6 b7 c8 h => aftI h fun i10 h => ?_)
  refine G_iadd (dk_at dk_X6_differingParts 24 rfl) ?_
  refine G_icmp_ge (tgt := 75) (dk_at dk_X6_differingParts 25 rfl) (by decide) (fun c => ?_) (fun c => ?_)
  · replace h := h.1 c
    refine G_iload_n 1 (dk_at dk_X6_differingParts 43 rfl) rfl ?_
    refine G_iload_n 3 (dk_at dk_X6_differingParts 44 rfl) rfl ?_
    refine G_if_eq (tgt := 84) (dk_at dk_X6_differingParts 45 rfl) (by decide) (fun c => ?_) (fun c => ?_)
    · replace h := h.1 c
      refine G_iconst (v := 0) (dk_at dk_X6_differingParts 48 rfl) (by decide) ?_
      refine G_iadd (dk_at dk_X6_differingParts 49 rfl) ?_
      refine G_istore_n (lv' := [(1, .int (v1 + 0)), (0, .ref v0), (2, .int v2), (3, .int v3), (4, .int v4)]) (dk_at dk_X6_differingParts 50 rfl) (by decide) rfl ?_
      refine G_iinc (v := v2 + 1) (lv' := [(2, .int (v2 + 1)), (1, .int (v1 + 0)), (0, .ref v0), (3, .int v3), (4, .int v4)]) 2 (dk_at dk_X6_differingParts 51 rfl) rfl rfl (by decide) rfl ?_
      refine G_goto (tgt := 9) (dk_at dk_X6_differingParts 52 rfl) (by decide) ?_
      refine G_sub [2, 1, 0] rfl ?_
      exact h
    · replace h := h.2 c
      refine G_iconst (v := 1) (dk_at dk_X6_differingParts 46 rfl) (by decide) ?_
      refine G_goto (tgt := 85) (dk_at dk_X6_differingParts 47 rfl) (by decide) ?_
      refine G_iadd (dk_at dk_X6_differingParts 49 rfl) ?_
      refine G_istore_n (lv' := [(1, .int (v1 + 1)), (0, .ref v0), (2, .int v2), (3, .int v3), (4, .int v4)]) (dk_at dk_X6_differingParts 50 rfl) (by decide) rfl ?_
      refine G_iinc (v := v2 + 1) (lv' := [(2, .int (v2 + 1)), (1, .int (v1 + 1)), (0, .ref v0), (3, .int v3), (4, .int v4)]) 2 (dk_at dk_X6_differingParts 51 rfl) rfl rfl (by decide) rfl ?_
      refine G_goto (tgt := 9) (dk_at dk_X6_differingParts 52 rfl) (by decide) ?_
      refine G_sub [2, 1, 0] rfl ?_
      exact h
  · replace h := h.2 c
    refine G_iload_n 3 (dk_at dk_X6_differingParts 26 rfl) rfl ?_
    refine G_if_ne (tgt := 63) (dk_at dk_X6_differingParts 27 rfl) (by decide) (fun c => ?_) (fun c => ?_)
    · replace h := h.1 c
      refine G_iconst (v := 1) (dk_at dk_X6_differingParts 37 rfl) (by decide) ?_
      refine G_goto (tgt := 68) (dk_at dk_X6_differingParts 38 rfl) (by decide) ?_
      refine G_istore_n (lv' := [(3, .int 1), (0, .ref v0), (1, .int v1), (2, .int v2), (4, .int v4)]) (dk_at dk_X6_differingParts 40 rfl) (by decide) rfl ?_
      refine G_iinc (v := v4 + 1) (lv' := [(4, .int (v4 + 1)), (3, .int 1), (0, .ref v0), (1, .int v1), (2, .int v2)]) 4 (dk_at dk_X6_differingParts 41 rfl) rfl rfl (by decide) rfl ?_
      refine G_goto (tgt := 26) (dk_at dk_X6_differingParts 42 rfl) (by decide) ?_
      refine G_sub [2, 3, 4, 1, 0] rfl ?_
      exact h
    · replace h := h.2 c
      refine G_aload_n 0 (dk_at dk_X6_differingParts 28 rfl) rfl ?_
      refine G_iconst (v := 0) (dk_at dk_X6_differingParts 29 rfl) (by decide) ?_
      refine G_iload 4 (dk_at dk_X6_differingParts 30 rfl) rfl ?_
      obtain ⟨⟨_, ho⟩, h⟩ := h
      refine G_callV (As := [.int 0, .int v4]) (rest := []) lk_X6_182 rfl (dk_at dk_X6_differingParts 31 rfl) rfl rfl (Nat.le_of_ble_eq_true rfl) ho (h.mono fun o14 A11 b12 c13 h => aftI h fun i15 h => ?_)
      refine G_aload_n 0 (dk_at dk_X6_differingParts 32 rfl) rfl ?_
      refine G_iconst (v := 1) (dk_at dk_X6_differingParts 33 rfl) (by decide) ?_
      refine G_iload 4 (dk_at dk_X6_differingParts 34 rfl) rfl ?_
      obtain ⟨⟨_, ho⟩, h⟩ := h
      refine G_callV (As := [.int 1, .int v4]) (rest := [.int i15]) lk_X6_182 rfl (dk_at dk_X6_differingParts 35 rfl) rfl rfl (Nat.le_of_ble_eq_true rfl) ho (h.mono fun o19 A16 b17 c18 h => aftI h fun i20 h => ?_)
      refine G_icmp_eq (tgt := 67) (dk_at dk_X6_differingParts 36 rfl) (by decide) (fun c => ?_) (fun c => ?_)
      · replace h := h.1 c
        refine G_iconst (v := 0) (dk_at dk_X6_differingParts 39 rfl) (by decide) ?_
        refine G_istore_n (lv' := [(3, .int 0), (0, .ref v0), (1, .int v1), (2, .int v2), (4, .int v4)]) (dk_at dk_X6_differingParts 40 rfl) (by decide) rfl ?_
        refine G_iinc (v := v4 + 1) (lv' := [(4, .int (v4 + 1)), (3, .int 0), (0, .ref v0), (1, .int v1), (2, .int v2)]) 4 (dk_at dk_X6_differingParts 41 rfl) rfl rfl (by decide) rfl ?_
        refine G_goto (tgt := 26) (dk_at dk_X6_differingParts 42 rfl) (by decide) ?_
        refine G_sub [2, 3, 4, 1, 0] rfl ?_
        exact h
      · replace h := h.2 c
        refine G_iconst (v := 1) (dk_at dk_X6_differingParts 37 rfl) (by decide) ?_
        refine G_goto (tgt := 68) (dk_at dk_X6_differingParts 38 rfl) (by decide) ?_
        refine G_istore_n (lv' := [(3, .int 1), (0, .ref v0), (1, .int v1), (2, .int v2), (4, .int v4)]) (dk_at dk_X6_differingParts 40 rfl) (by decide) rfl ?_
        refine G_iinc (v := v4 + 1) (lv' := [(4, .int (v4 + 1)), (3, .int 1), (0, .ref v0), (1, .int v1), (2, .int v2)]) 4 (dk_at dk_X6_differingParts 41 rfl) rfl rfl (by decide) rfl ?_
        refine G_goto (tgt := 26) (dk_at dk_X6_differingParts 42 rfl) (by decide) ?_
        refine G_sub [2, 3, 4, 1, 0] rfl ?_
        exact h
theorem k_X6_progress_0 {l : Launch} {X : XT} {d : Nat} {Q : Ot → AH → Prop} {A : AH} {bc bs : Nat} {v0 : Nat} (h : pV A v0 7 5 (.int 0) fun A1 => G l X M_X6_progress d Q 9 [(0, .ref v0), (1, .int 0), (2, .int 0)] [] A1 bc bs) : G l X M_X6_progress d Q 0 [(0, .ref v0)] [] A bc bs := by
  refine G_aload_n 0 (dk_at dk_X6_progress 0 rfl) rfl ?_
  refine G_iconst (v := 0) (dk_at dk_X6_progress 1 rfl) (by decide) ?_
  refine K_pI pf_X6_50 (dk_at dk_X6_progress 2 rfl) h (fun A1 h => ?_)
  refine G_iconst (v := 0) (dk_at dk_X6_progress 3 rfl) (by decide) ?_
  refine G_istore_n (lv' := [(1, .int 0), (0, .ref v0)]) (dk_at dk_X6_progress 4 rfl) (by decide) rfl ?_
  refine G_iconst (v := 0) (dk_at dk_X6_progress 5 rfl) (by decide) ?_
  refine G_istore_n (lv' := [(2, .int 0), (1, .int 0), (0, .ref v0)]) (dk_at dk_X6_progress 6 rfl) (by decide) rfl ?_
  refine G_sub [2, 1, 0] rfl ?_
  exact h
theorem k_X6_progress_9 {l : Launch} {X : XT} {d : Nat} {Q : Ot → AH → Prop} {A : AH} {bc bs : Nat} {v0 : Nat} {v1 : Int32} {v2 : Int32} (h : isO A v0 7 ∧ Cal l X d bc bs M_X6_pieces [.ref v0] A fun o4 A1 b2 c3 => rI o4 (fun E => Q (.inr E) A1) fun i5 => (i5 ≤ v2 → gR A1 v0 7 0 fun r6 => aI X A1 r6 0 fun i7 => vf_n32 (FP.fdiv (FP.i2f v1) (FP.i2f i7)) ∧ Q (Rf (FP.fdiv (FP.i2f v1) (FP.i2f i7))) A1) ∧ (¬ i5 ≤ v2 → isO A1 v0 7 ∧ Cal l X d b2 c3 M_X6_stateOf [.ref v0, .int v2] A1 fun o11 A8 b9 c10 => rI o11 (fun E => Q (.inr E) A8) fun i12 => (¬ i12 = 1 → G l X M_X6_progress d Q 9 [(0, .ref v0), (1, .int (v1 + 0)), (2, .int (v2 + 1))] [] A8 b9 c10) ∧ (i12 = 1 → isO A8 v0 7 ∧ Cal l X d b9 c10 M_X6_pieceLength [.ref v0, .int v2] A8 fun o16 A13 b14 c15 => rI o16 (fun E => Q (.inr E) A13) fun i17 => G l X M_X6_progress d Q 9 [(0, .ref v0), (1, .int (v1 + i17)), (2, .int (v2 + 1))] [] A13 b14 c15))) : G l X M_X6_progress d Q 9 [(0, .ref v0), (1, .int v1), (2, .int v2)] [] A bc bs := by
  refine G_iload_n 2 (dk_at dk_X6_progress 7 rfl) rfl ?_
  refine G_aload_n 0 (dk_at dk_X6_progress 8 rfl) rfl ?_
  obtain ⟨⟨_, ho⟩, h⟩ := h
  refine G_callV (As := []) (rest := [.int v2]) lk_X6_165 rfl (dk_at dk_X6_progress 9 rfl) rfl rfl (Nat.le_of_ble_eq_true rfl) ho (h.mono fun o4 A1 b2 c3 h => aftI h fun i5 h => ?_)
  refine G_icmp_ge (tgt := 44) (dk_at dk_X6_progress 10 rfl) (by decide) (fun c => ?_) (fun c => ?_)
  · replace h := h.1 c
    refine G_iload_n 1 (dk_at dk_X6_progress 26 rfl) rfl ?_
    refine G_i2f (dk_at dk_X6_progress 27 rfl) ?_
    refine G_aload_n 0 (dk_at dk_X6_progress 28 rfl) rfl ?_
    refine K_gR gf_X6_7 (dk_at dk_X6_progress 29 rfl) h (fun r6 h => ?_)
    refine G_iconst (v := 0) (dk_at dk_X6_progress 30 rfl) (by decide) ?_
    refine K_aI (dk_at dk_X6_progress 31 rfl) h (fun i7 h => ?_)
    refine G_i2f (dk_at dk_X6_progress 32 rfl) ?_
    obtain ⟨h0, h⟩ := h
    refine G_fdiv (dk_at dk_X6_progress 33 rfl) h0 ?_
    exact G_fret rfl (dk_at dk_X6_progress 34 rfl) h
  · replace h := h.2 c
    refine G_iload_n 1 (dk_at dk_X6_progress 11 rfl) rfl ?_
    refine G_aload_n 0 (dk_at dk_X6_progress 12 rfl) rfl ?_
    refine G_iload_n 2 (dk_at dk_X6_progress 13 rfl) rfl ?_
    obtain ⟨⟨_, ho⟩, h⟩ := h
    refine G_callV (As := [.int v2]) (rest := [.int v1]) lk_X6_195 rfl (dk_at dk_X6_progress 14 rfl) rfl rfl (Nat.le_of_ble_eq_true rfl) ho (h.mono fun o11 A8 b9 c10 h => aftI h fun i12 h => ?_)
    refine G_iconst (v := 1) (dk_at dk_X6_progress 15 rfl) (by decide) ?_
    refine G_icmp_ne (tgt := 35) (dk_at dk_X6_progress 16 rfl) (by decide) (fun c => ?_) (fun c => ?_)
    · replace h := h.1 c
      refine G_iconst (v := 0) (dk_at dk_X6_progress 21 rfl) (by decide) ?_
      refine G_iadd (dk_at dk_X6_progress 22 rfl) ?_
      refine G_istore_n (lv' := [(1, .int (v1 + 0)), (0, .ref v0), (2, .int v2)]) (dk_at dk_X6_progress 23 rfl) (by decide) rfl ?_
      refine G_iinc (v := v2 + 1) (lv' := [(2, .int (v2 + 1)), (1, .int (v1 + 0)), (0, .ref v0)]) 2 (dk_at dk_X6_progress 24 rfl) rfl rfl (by decide) rfl ?_
      refine G_goto (tgt := 9) (dk_at dk_X6_progress 25 rfl) (by decide) ?_
      refine G_sub [2, 1, 0] rfl ?_
      exact h
    · replace h := h.2 c
      refine G_aload_n 0 (dk_at dk_X6_progress 17 rfl) rfl ?_
      refine G_iload_n 2 (dk_at dk_X6_progress 18 rfl) rfl ?_
      obtain ⟨⟨_, ho⟩, h⟩ := h
      refine G_callV (As := [.int v2]) (rest := [.int v1]) lk_X6_159 rfl (dk_at dk_X6_progress 19 rfl) rfl rfl (Nat.le_of_ble_eq_true rfl) ho (h.mono fun o16 A13 b14 c15 h => aftI h fun i17 h => ?_)
      refine G_goto (tgt := 36) (dk_at dk_X6_progress 20 rfl) (by decide) ?_
      refine G_iadd (dk_at dk_X6_progress 22 rfl) ?_
      refine G_istore_n (lv' := [(1, .int (v1 + i17)), (0, .ref v0), (2, .int v2)]) (dk_at dk_X6_progress 23 rfl) (by decide) rfl ?_
      refine G_iinc (v := v2 + 1) (lv' := [(2, .int (v2 + 1)), (1, .int (v1 + i17)), (0, .ref v0)]) 2 (dk_at dk_X6_progress 24 rfl) rfl rfl (by decide) rfl ?_
      refine G_goto (tgt := 9) (dk_at dk_X6_progress 25 rfl) (by decide) ?_
      refine G_sub [2, 1, 0] rfl ?_
      exact h
theorem k_X6_writeMap_0 {l : Launch} {X : XT} {d : Nat} {Q : Ot → AH → Prop} {A : AH} {bc bs : Nat} {v0 : Nat} (h : pV A v0 7 5 (.int 0) fun A1 => isO A1 v0 7 ∧ Cal l X d bc bs M_X6_pieces [.ref v0] A1 fun o5 A2 b3 c4 => rI o5 (fun E => Q (.inr E) A2) fun i6 => pV A2 v0 7 23 (.int i6) fun A7 => G l X M_X6_writeMap d Q 15 [(0, .ref v0), (1, .int 0)] [] A7 b3 c4) : G l X M_X6_writeMap d Q 0 [(0, .ref v0)] [] A bc bs := by
  refine G_aload_n 0 (dk_at dk_X6_writeMap 0 rfl) rfl ?_
  refine G_iconst (v := 0) (dk_at dk_X6_writeMap 1 rfl) (by decide) ?_
  refine K_pI pf_X6_50 (dk_at dk_X6_writeMap 2 rfl) h (fun A1 h => ?_)
  refine G_aload_n 0 (dk_at dk_X6_writeMap 3 rfl) rfl ?_
  refine G_aload_n 0 (dk_at dk_X6_writeMap 4 rfl) rfl ?_
  obtain ⟨⟨_, ho⟩, h⟩ := h
  refine G_callV (As := []) (rest := [.ref v0]) lk_X6_165 rfl (dk_at dk_X6_writeMap 5 rfl) rfl rfl (Nat.le_of_ble_eq_true rfl) ho (h.mono fun o5 A2 b3 c4 h => aftI h fun i6 h => ?_)
  refine K_pI pf_X6_307 (dk_at dk_X6_writeMap 6 rfl) h (fun A7 h => ?_)
  refine G_iconst (v := 0) (dk_at dk_X6_writeMap 7 rfl) (by decide) ?_
  refine G_istore_n (lv' := [(1, .int 0), (0, .ref v0)]) (dk_at dk_X6_writeMap 8 rfl) (by decide) rfl ?_
  refine G_sub [1, 0] rfl ?_
  exact h
theorem k_X6_writeMap_15 {l : Launch} {X : XT} {d : Nat} {Q : Ot → AH → Prop} {A : AH} {bc bs : Nat} {v0 : Nat} {v1 : Int32} (h : gI A v0 7 23 fun i1 => (i1 ≤ v1 → gI A v0 7 23 fun i2 => Q (Ri i2) A) ∧ (¬ i1 ≤ v1 → isO A v0 7 ∧ Cal l X d bc bs M_X6_stateOf [.ref v0, .int v1] A fun o6 A3 b4 c5 => rI o6 (fun E => Q (.inr E) A3) fun i7 => isO A3 v0 7 ∧ Cal l X d b4 c5 M_X6_missingIn [.ref v0, .int v1] A3 fun o11 A8 b9 c10 => rI o11 (fun E => Q (.inr E) A8) fun i12 => gR A8 v0 7 22 fun r13 => (¬ i7 = 1 → (¬ i7 = 2 → isO A8 v0 7 ∧ Cal l X d b9 c10 M_X6_partsOf [.ref v0, .int v1] A8 fun o17 A14 b15 c16 => rI o17 (fun E => Q (.inr E) A14) fun i18 => (¬ i12 = i18 → G l X M_X6_writeMap d Q 81 [(0, .ref v0), (1, .int v1)] [.int (48 + (i12 - i12 / 10 * 10)), .int v1, .ref r13] A14 b15 c16) ∧ (i12 = i18 → G l X M_X6_writeMap d Q 81 [(0, .ref v0), (1, .int v1)] [.int 46, .int v1, .ref r13] A14 b15 c16)) ∧ (i7 = 2 → G l X M_X6_writeMap d Q 81 [(0, .ref v0), (1, .int v1)] [.int 83, .int v1, .ref r13] A8 b9 c10)) ∧ (i7 = 1 → G l X M_X6_writeMap d Q 81 [(0, .ref v0), (1, .int v1)] [.int 71, .int v1, .ref r13] A8 b9 c10))) : G l X M_X6_writeMap d Q 15 [(0, .ref v0), (1, .int v1)] [] A bc bs := by
  refine G_iload_n 1 (dk_at dk_X6_writeMap 9 rfl) rfl ?_
  refine G_aload_n 0 (dk_at dk_X6_writeMap 10 rfl) rfl ?_
  refine K_gI gf_X6_307 (dk_at dk_X6_writeMap 11 rfl) h (fun i1 h => ?_)
  refine G_icmp_ge (tgt := 88) (dk_at dk_X6_writeMap 12 rfl) (by decide) (fun c => ?_) (fun c => ?_)
  · replace h := h.1 c
    refine G_aload_n 0 (dk_at dk_X6_writeMap 49 rfl) rfl ?_
    refine K_gI gf_X6_307 (dk_at dk_X6_writeMap 50 rfl) h (fun i2 h => ?_)
    exact G_iret (ty := .int) rfl rfl (dk_at dk_X6_writeMap 51 rfl) h
  · replace h := h.2 c
    refine G_aload_n 0 (dk_at dk_X6_writeMap 13 rfl) rfl ?_
    refine G_iload_n 1 (dk_at dk_X6_writeMap 14 rfl) rfl ?_
    obtain ⟨⟨_, ho⟩, h⟩ := h
    refine G_callV (As := [.int v1]) (rest := []) lk_X6_195 rfl (dk_at dk_X6_writeMap 15 rfl) rfl rfl (Nat.le_of_ble_eq_true rfl) ho (h.mono fun o6 A3 b4 c5 h => aftI h fun i7 h => ?_)
    refine G_istore_n (lv' := [(2, .int i7), (0, .ref v0), (1, .int v1)]) (dk_at dk_X6_writeMap 16 rfl) (by decide) rfl ?_
    refine G_aload_n 1 (dk_at dk_X6_writeMap 17 rfl) rfl ?_
    refine G_iload_n 2 (dk_at dk_X6_writeMap 18 rfl) rfl ?_
    obtain ⟨⟨_, ho⟩, h⟩ := h
    refine G_callV (As := [.int v1]) (rest := []) lk_X6_185 rfl (dk_at dk_X6_writeMap 19 rfl) rfl rfl (Nat.le_of_ble_eq_true rfl) ho (h.mono fun o11 A8 b9 c10 h => aftI h fun i12 h => ?_)
    refine G_istore_n (lv' := [(3, .int i12), (2, .int i7), (0, .ref v0), (1, .int v1)]) (dk_at dk_X6_writeMap 20 rfl) (by decide) rfl ?_
    refine G_aload_n 2 (dk_at dk_X6_writeMap 21 rfl) rfl ?_
    refine K_gR gf_X6_39 (dk_at dk_X6_writeMap 22 rfl) h (fun r13 h => ?_)
    refine G_iload_n 3 (dk_at dk_X6_writeMap 23 rfl) rfl ?_
    refine G_iload_n 1 (dk_at dk_X6_writeMap 24 rfl) rfl ?_
    refine G_iconst (v := 1) (dk_at dk_X6_writeMap 25 rfl) (by decide) ?_
    refine G_icmp_ne (tgt := 50) (dk_at dk_X6_writeMap 26 rfl) (by decide) (fun c => ?_) (fun c => ?_)
    · replace h := h.1 c
      refine G_iload_n 1 (dk_at dk_X6_writeMap 29 rfl) rfl ?_
      refine G_iconst (v := 2) (dk_at dk_X6_writeMap 30 rfl) (by decide) ?_
      refine G_icmp_ne (tgt := 60) (dk_at dk_X6_writeMap 31 rfl) (by decide) (fun c => ?_) (fun c => ?_)
      · replace h := h.1 c
        refine G_iload_n 0 (dk_at dk_X6_writeMap 34 rfl) rfl ?_
        refine G_aload_n 2 (dk_at dk_X6_writeMap 35 rfl) rfl ?_
        refine G_iload_n 3 (dk_at dk_X6_writeMap 36 rfl) rfl ?_
        obtain ⟨⟨_, ho⟩, h⟩ := h
        refine G_callV (As := [.int v1]) (rest := [.int i12, .int v1, .ref r13]) lk_X6_170 rfl (dk_at dk_X6_writeMap 37 rfl) rfl rfl (Nat.le_of_ble_eq_true rfl) ho (h.mono fun o17 A14 b15 c16 h => aftI h fun i18 h => ?_)
        refine G_icmp_ne (tgt := 74) (dk_at dk_X6_writeMap 38 rfl) (by decide) (fun c => ?_) (fun c => ?_)
        · replace h := h.1 c
          refine G_bipush (v := 48) (dk_at dk_X6_writeMap 41 rfl) (by decide) ?_
          refine G_iload_n 0 (dk_at dk_X6_writeMap 42 rfl) rfl ?_
          refine G_bipush (v := 10) (dk_at dk_X6_writeMap 43 rfl) (by decide) ?_
          refine G_irem (dk_at dk_X6_writeMap 44 rfl) (by decide) ?_
          refine G_iadd (dk_at dk_X6_writeMap 45 rfl) ?_
          refine G_sub [2, 3] rfl ?_
          exact h
        · replace h := h.2 c
          refine G_bipush (v := 46) (dk_at dk_X6_writeMap 39 rfl) (by decide) ?_
          refine G_goto (tgt := 81) (dk_at dk_X6_writeMap 40 rfl) (by decide) ?_
          refine G_sub [2, 3] rfl ?_
          exact h
      · replace h := h.2 c
        refine G_bipush (v := 83) (dk_at dk_X6_writeMap 32 rfl) (by decide) ?_
        refine G_goto (tgt := 81) (dk_at dk_X6_writeMap 33 rfl) (by decide) ?_
        refine G_sub [2, 3] rfl ?_
        exact h
    · replace h := h.2 c
      refine G_bipush (v := 71) (dk_at dk_X6_writeMap 27 rfl) (by decide) ?_
      refine G_goto (tgt := 81) (dk_at dk_X6_writeMap 28 rfl) (by decide) ?_
      refine G_sub [2, 3] rfl ?_
      exact h
theorem k_X6_writeMap_81 {l : Launch} {X : XT} {d : Nat} {Q : Ot → AH → Prop} {A : AH} {bc bs : Nat} {v0 : Nat} {v1 : Int32} {s0 : Int32} {s1 : Int32} {s2 : Nat} (h : sI X A s2 s1 s0 fun A1 => G l X M_X6_writeMap d Q 15 [(0, .ref v0), (1, .int (v1 + 1))] [] A1 bc bs) : G l X M_X6_writeMap d Q 81 [(0, .ref v0), (1, .int v1)] [.int s0, .int s1, .ref s2] A bc bs := by
  refine K_sI (dk_at dk_X6_writeMap 46 rfl) h (fun A1 h => ?_)
  refine G_iinc (v := v1 + 1) (lv' := [(1, .int (v1 + 1)), (0, .ref v0)]) 1 (dk_at dk_X6_writeMap 47 rfl) rfl rfl (by decide) rfl ?_
  refine G_goto (tgt := 15) (dk_at dk_X6_writeMap 48 rfl) (by decide) ?_
  refine G_sub [1, 0] rfl ?_
  exact h
theorem k_X6_writtenByte_0 {l : Launch} {X : XT} {d : Nat} {Q : Ot → AH → Prop} {A : AH} {bc bs : Nat} {v0 : Nat} {v1 : Int32} (h : gI A v0 7 23 fun i1 => Cal l X d bc bs M_X6_isIn [.int v1, .int 0, .int (i1 - 1)] A fun o5 A2 b3 c4 => rI o5 (fun E => Q (.inr E) A2) fun i6 => (i6 = 0 → G l X M_X6_writtenByte d Q 20 [(0, .ref v0), (1, .int v1)] [.int 1, .ref v0] A2 b3 c4) ∧ (¬ i6 = 0 → G l X M_X6_writtenByte d Q 20 [(0, .ref v0), (1, .int v1)] [.int 0, .ref v0] A2 b3 c4)) : G l X M_X6_writtenByte d Q 0 [(0, .ref v0), (1, .int v1)] [] A bc bs := by
  refine G_aload_n 0 (dk_at dk_X6_writtenByte 0 rfl) rfl ?_
  refine G_iload_n 1 (dk_at dk_X6_writtenByte 1 rfl) rfl ?_
  refine G_iconst (v := 0) (dk_at dk_X6_writtenByte 2 rfl) (by decide) ?_
  refine G_aload_n 0 (dk_at dk_X6_writtenByte 3 rfl) rfl ?_
  refine K_gI gf_X6_307 (dk_at dk_X6_writtenByte 4 rfl) h (fun i1 h => ?_)
  refine G_iconst (v := 1) (dk_at dk_X6_writtenByte 5 rfl) (by decide) ?_
  refine G_isub (dk_at dk_X6_writtenByte 6 rfl) ?_
  refine G_callS (As := [.int v1, .int 0, .int (i1 - 1)]) (rest := [.ref v0]) lk_X6_62 rfl (dk_at dk_X6_writtenByte 7 rfl) rfl rfl (Nat.le_of_ble_eq_true rfl) (h.mono fun o5 A2 b3 c4 h => aftI h fun i6 h => ?_)
  refine G_if_eq (tgt := 19) (dk_at dk_X6_writtenByte 8 rfl) (by decide) (fun c => ?_) (fun c => ?_)
  · replace h := h.1 c
    refine G_iconst (v := 1) (dk_at dk_X6_writtenByte 11 rfl) (by decide) ?_
    exact h
  · replace h := h.2 c
    refine G_iconst (v := 0) (dk_at dk_X6_writtenByte 9 rfl) (by decide) ?_
    refine G_goto (tgt := 20) (dk_at dk_X6_writtenByte 10 rfl) (by decide) ?_
    exact h
theorem k_X6_writtenByte_20 {l : Launch} {X : XT} {d : Nat} {Q : Ot → AH → Prop} {A : AH} {bc bs : Nat} {v0 : Nat} {v1 : Int32} {s0 : Int32} {s1 : Nat} (h : pV A s1 7 5 (.int s0) fun A1 => gI A1 v0 7 5 fun i2 => (i2 ≤ 0 → gR A1 v0 7 22 fun r3 => aI X A1 r3 v1 fun i4 => Q (Ri i4) A1) ∧ (¬ i2 ≤ 0 → Q (Ri 0) A1)) : G l X M_X6_writtenByte d Q 20 [(0, .ref v0), (1, .int v1)] [.int s0, .ref s1] A bc bs := by
  refine K_pI pf_X6_50 (dk_at dk_X6_writtenByte 12 rfl) h (fun A1 h => ?_)
  refine G_aload_n 0 (dk_at dk_X6_writtenByte 13 rfl) rfl ?_
  refine K_gI gf_X6_50 (dk_at dk_X6_writtenByte 14 rfl) h (fun i2 h => ?_)
  refine G_if_le (tgt := 34) (dk_at dk_X6_writtenByte 15 rfl) (by decide) (fun c => ?_) (fun c => ?_)
  · replace h := h.1 c
    refine G_aload_n 0 (dk_at dk_X6_writtenByte 18 rfl) rfl ?_
    refine K_gR gf_X6_39 (dk_at dk_X6_writtenByte 19 rfl) h (fun r3 h => ?_)
    refine G_iload_n 1 (dk_at dk_X6_writtenByte 20 rfl) rfl ?_
    refine K_aI (dk_at dk_X6_writtenByte 21 rfl) h (fun i4 h => ?_)
    exact G_iret (ty := .int) rfl rfl (dk_at dk_X6_writtenByte 22 rfl) h
  · replace h := h.2 c
    refine G_iconst (v := 0) (dk_at dk_X6_writtenByte 16 rfl) (by decide) ?_
    refine G_goto (tgt := 40) (dk_at dk_X6_writtenByte 17 rfl) (by decide) ?_
    exact G_iret (ty := .int) rfl rfl (dk_at dk_X6_writtenByte 22 rfl) h
