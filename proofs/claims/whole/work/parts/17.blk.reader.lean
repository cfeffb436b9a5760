/-! blocks: what a method asks, row by row, as one formula (laid by wip/whole/gen) -/
theorem k_X4_init_0 {l : Launch} {X : XT} {d : Nat} {Q : Ot → AH → Prop} {A : AH} {bc bs : Nat} {v0 : Nat} {v1 : Nat} {v2 : Int32} (h : pV A v0 5 2 (.int 0) fun A1 => pV A1 v0 5 3 (.int 0) fun A2 => pV A2 v0 5 4 (.int 0) fun A3 => pV A3 v0 5 5 (.int ((-1))) fun A4 => pV A4 v0 5 0 (.ref v1) fun A5 => pV A5 v0 5 1 (.int v2) fun A6 => Q Rv A6) : G l X M_X4_init d Q 0 [(0, .ref v0), (1, .ref v1), (2, .int v2)] [] A bc bs := by
  refine G_aload_n 0 (dk_at dk_X4_init 0 rfl) rfl ?_
  refine G_objInit wd_14 wo_1 wo_2 (dk_at dk_X4_init 1 rfl) (Nat.le_of_ble_eq_true rfl) ?_
  refine G_aload_n 0 (dk_at dk_X4_init 2 rfl) rfl ?_
  refine G_iconst (v := 0) (dk_at dk_X4_init 3 rfl) (by decide) ?_
  refine K_pI pf_X4_9 (dk_at dk_X4_init 4 rfl) h (fun A1 h => ?_)
  refine G_aload_n 0 (dk_at dk_X4_init 5 rfl) rfl ?_
  refine G_iconst (v := 0) (dk_at dk_X4_init 6 rfl) (by decide) ?_
  refine K_pI pf_X4_15 (dk_at dk_X4_init 7 rfl) h (fun A2 h => ?_)
  refine G_aload_n 0 (dk_at dk_X4_init 8 rfl) rfl ?_
  refine G_iconst (v := 0) (dk_at dk_X4_init 9 rfl) (by decide) ?_
  refine K_pI pf_X4_18 (dk_at dk_X4_init 10 rfl) h (fun A3 h => ?_)
  refine G_aload_n 0 (dk_at dk_X4_init 11 rfl) rfl ?_
  refine G_iconst (v := (-1)) (dk_at dk_X4_init 12 rfl) (by decide) ?_
  refine K_pI pf_X4_21 (dk_at dk_X4_init 13 rfl) h (fun A4 h => ?_)
  refine G_aload_n 0 (dk_at dk_X4_init 14 rfl) rfl ?_
  refine G_aload_n 1 (dk_at dk_X4_init 15 rfl) rfl ?_
  refine K_pR pf_X4_24 rfl rfl (dk_at dk_X4_init 16 rfl) h (fun A5 h => ?_)
  refine G_aload_n 0 (dk_at dk_X4_init 17 rfl) rfl ?_
  refine G_iload_n 2 (dk_at dk_X4_init 18 rfl) rfl ?_
  refine K_pI pf_X4_28 (dk_at dk_X4_init 19 rfl) h (fun A6 h => ?_)
  exact G_vret rfl (dk_at dk_X4_init 20 rfl) h
theorem k_X4_readPlan_0 {l : Launch} {X : XT} {d : Nat} {Q : Ot → AH → Prop} {A : AH} {bc bs : Nat} {v0 : Nat} (h : isO A v0 5 ∧ Cal l X d bc bs M_X4_takeWord [.ref v0, .ref (xK X 0)] A fun o4 A1 b2 c3 => rV o4 (fun E => Q (.inr E) A1) <| isO A1 v0 5 ∧ Cal l X d b2 c3 M_X4_takeNumber [.ref v0, .int 1, .int 240] A1 fun o8 A5 b6 c7 => rI o8 (fun E => Q (.inr E) A5) fun i9 => isO A5 v0 5 ∧ Cal l X d b6 c7 M_X4_takeNumber [.ref v0, .int 0, .int 999] A5 fun o13 A10 b11 c12 => rI o13 (fun E => Q (.inr E) A10) fun i14 => isO A10 v0 5 ∧ Cal l X d b11 c12 M_X4_takeWord [.ref v0, .ref (xK X 1)] A10 fun o18 A15 b16 c17 => rV o18 (fun E => Q (.inr E) A15) <| isO A15 v0 5 ∧ Cal l X d b16 c17 M_X4_takeNumber [.ref v0, .int 4, .int 48] A15 fun o22 A19 b20 c21 => rI o22 (fun E => Q (.inr E) A19) fun i23 => isO A19 v0 5 ∧ Cal l X d b20 c21 M_X4_takeNumber [.ref v0, .int 1, .int i23] A19 fun o27 A24 b25 c26 => rI o27 (fun E => Q (.inr E) A24) fun i28 => isO A24 v0 5 ∧ Cal l X d b25 c26 M_X4_takeSemicolon [.ref v0] A24 fun o32 A29 b30 c31 => rV o32 (fun E => Q (.inr E) A29) <| gI A29 v0 5 4 fun i33 => (i33 = 0 → mk A29 (ob 4 df_4) 16 b30 c31 fun r34 A35 b36 c37 => Cal l X d b36 c37 M_X3_init [.ref r34, .int i9, .int i14, .int i23, .int i28] A35 fun o41 A38 b39 c40 => zV o41 <| G l X M_X4_readPlan d Q 76 [(0, .ref v0), (5, .ref r34), (6, .int 0)] [] A38 b39 c40) ∧ (¬ i33 = 0 → Q (Rq none) A29)) : G l X M_X4_readPlan d Q 0 [(0, .ref v0)] [] A bc bs := by
  refine G_aload_n 0 (dk_at dk_X4_readPlan 0 rfl) rfl ?_
  refine G_ldcS (i := 0) (own := "PieceTransfer$Reader") rfl rfl (dk_at dk_X4_readPlan 1 rfl) ?_
  obtain ⟨⟨_, ho⟩, h⟩ := h
  refine G_callV (As := [.ref (xK X 0)]) (rest := []) lk_X4_33 rfl (dk_at dk_X4_readPlan 2 rfl) rfl rfl (Nat.le_of_ble_eq_true rfl) ho (h.mono fun o4 A1 b2 c3 h => aftV h fun h => ?_)
  refine G_aload_n 0 (dk_at dk_X4_readPlan 3 rfl) rfl ?_
  refine G_iconst (v := 1) (dk_at dk_X4_readPlan 4 rfl) (by decide) ?_
  refine G_sipush (v := 240) (dk_at dk_X4_readPlan 5 rfl) (by decide) ?_
  obtain ⟨⟨_, ho⟩, h⟩ := h
  refine G_callV (As := [.int 1, .int 240]) (rest := []) lk_X4_37 rfl (dk_at dk_X4_readPlan 6 rfl) rfl rfl (Nat.le_of_ble_eq_true rfl) ho (h.mono fun o8 A5 b6 c7 h => aftI h fun i9 h => ?_)
  refine G_istore_n (lv' := [(1, .int i9), (0, .ref v0)]) (dk_at dk_X4_readPlan 7 rfl) (by decide) rfl ?_
  refine G_aload_n 1 (dk_at dk_X4_readPlan 8 rfl) rfl ?_
  refine G_iconst (v := 0) (dk_at dk_X4_readPlan 9 rfl) (by decide) ?_
  refine G_sipush (v := 999) (dk_at dk_X4_readPlan 10 rfl) (by decide) ?_
  obtain ⟨⟨_, ho⟩, h⟩ := h
  refine G_callV (As := [.int 0, .int 999]) (rest := []) lk_X4_37 rfl (dk_at dk_X4_readPlan 11 rfl) rfl rfl (Nat.le_of_ble_eq_true rfl) ho (h.mono fun o13 A10 b11 c12 h => aftI h fun i14 h => ?_)
  refine G_istore_n (lv' := [(2, .int i14), (1, .int i9), (0, .ref v0)]) (dk_at dk_X4_readPlan 12 rfl) (by decide) rfl ?_
  refine G_aload_n 2 (dk_at dk_X4_readPlan 13 rfl) rfl ?_
  refine G_ldcS (i := 1) (own := "PieceTransfer$Reader") rfl rfl (dk_at dk_X4_readPlan 14 rfl) ?_
  obtain ⟨⟨_, ho⟩, h⟩ := h
  refine G_callV (As := [.ref (xK X 1)]) (rest := []) lk_X4_33 rfl (dk_at dk_X4_readPlan 15 rfl) rfl rfl (Nat.le_of_ble_eq_true rfl) ho (h.mono fun o18 A15 b16 c17 h => aftV h fun h => ?_)
  refine G_aload_n 2 (dk_at dk_X4_readPlan 16 rfl) rfl ?_
  refine G_iconst (v := 4) (dk_at dk_X4_readPlan 17 rfl) (by decide) ?_
  refine G_bipush (v := 48) (dk_at dk_X4_readPlan 18 rfl) (by decide) ?_
  obtain ⟨⟨_, ho⟩, h⟩ := h
  refine G_callV (As := [.int 4, .int 48]) (rest := []) lk_X4_37 rfl (dk_at dk_X4_readPlan 19 rfl) rfl rfl (Nat.le_of_ble_eq_true rfl) ho (h.mono fun o22 A19 b20 c21 h => aftI h fun i23 h => ?_)
  refine G_istore_n (lv' := [(3, .int i23), (2, .int i14), (1, .int i9), (0, .ref v0)]) (dk_at dk_X4_readPlan 20 rfl) (by decide) rfl ?_
  refine G_aload_n 3 (dk_at dk_X4_readPlan 21 rfl) rfl ?_
  refine G_iconst (v := 1) (dk_at dk_X4_readPlan 22 rfl) (by decide) ?_
  refine G_iload_n 0 (dk_at dk_X4_readPlan 23 rfl) rfl ?_
  obtain ⟨⟨_, ho⟩, h⟩ := h
  refine G_callV (As := [.int 1, .int i23]) (rest := []) lk_X4_37 rfl (dk_at dk_X4_readPlan 24 rfl) rfl rfl (Nat.le_of_ble_eq_true rfl) ho (h.mono fun o27 A24 b25 c26 h => aftI h fun i28 h => ?_)
  refine G_istore (lv' := [(4, .int i28), (3, .int i23), (2, .int i14), (1, .int i9), (0, .ref v0)]) (dk_at dk_X4_readPlan 25 rfl) (by decide) rfl ?_
  refine G_aload_n 4 (dk_at dk_X4_readPlan 26 rfl) rfl ?_
  obtain ⟨⟨_, ho⟩, h⟩ := h
  refine G_callV (As := []) (rest := []) lk_X4_43 rfl (dk_at dk_X4_readPlan 27 rfl) rfl rfl (Nat.le_of_ble_eq_true rfl) ho (h.mono fun o32 A29 b30 c31 h => aftV h fun h => ?_)
  refine G_aload_n 4 (dk_at dk_X4_readPlan 28 rfl) rfl ?_
  refine K_gI gf_X4_18 (dk_at dk_X4_readPlan 29 rfl) h (fun i33 h => ?_)
  refine G_if_eq (tgt := 59) (dk_at dk_X4_readPlan 30 rfl) (by decide) (fun c => ?_) (fun c => ?_)
  · replace h := h.1 c
    refine K_new no_X4_46 (dk_at dk_X4_readPlan 33 rfl) h (fun r34 A35 b36 c37 h => ?_)
    refine G_dup (dk_at dk_X4_readPlan 34 rfl) rfl ?_
    refine G_iload_n 3 (dk_at dk_X4_readPlan 35 rfl) rfl ?_
    refine G_iload_n 2 (dk_at dk_X4_readPlan 36 rfl) rfl ?_
    refine G_iload_n 1 (dk_at dk_X4_readPlan 37 rfl) rfl ?_
    refine G_iload 0 (dk_at dk_X4_readPlan 38 rfl) rfl ?_
    refine G_callI (As := [.int i9, .int i14, .int i23, .int i28]) (rest := [.ref r34]) lk_X4_48 (dk_at dk_X4_readPlan 39 rfl) rfl rfl (Nat.le_of_ble_eq_true rfl) (h.mono fun o41 A38 b39 c40 h => atfV h fun h => ?_)
    refine G_astore (lv' := [(5, .ref r34), (4, .int i28), (3, .int i23), (2, .int i14), (1, .int i9), (0, .ref v0)]) (dk_at dk_X4_readPlan 40 rfl) (by decide) rfl ?_
    refine G_iconst (v := 0) (dk_at dk_X4_readPlan 41 rfl) (by decide) ?_
    refine G_istore (lv' := [(6, .int 0), (5, .ref r34), (4, .int i28), (3, .int i23), (2, .int i14), (1, .int i9), (0, .ref v0)]) (dk_at dk_X4_readPlan 42 rfl) (by decide) rfl ?_
    refine G_sub [6, 1, 0] rfl ?_
    exact h
  · replace h := h.2 c
    refine G_null (dk_at dk_X4_readPlan 31 rfl) ?_
    exact G_aretQ (r := none) rfl (Or.inl ⟨_, rfl⟩) (dk_at dk_X4_readPlan 32 rfl) h
theorem k_X4_readPlan_76 {l : Launch} {X : XT} {d : Nat} {Q : Ot → AH → Prop} {A : AH} {bc bs : Nat} {v0 : Nat} {v5 : Nat} {v6 : Int32} (h : gI A v0 5 1 fun i1 => (i1 ≤ v6 → G l X M_X4_readPlan d Q 104 [(0, .ref v0), (5, .ref v5)] [] A bc bs) ∧ (¬ i1 ≤ v6 → isO A v0 5 ∧ Cal l X d bc bs M_X4_hasMore [.ref v0] A fun o5 A2 b3 c4 => rI o5 (fun E => Q (.inr E) A2) fun i6 => (i6 = 0 → G l X M_X4_readPlan d Q 104 [(0, .ref v0), (5, .ref v5)] [] A2 b3 c4) ∧ (¬ i6 = 0 → isO A2 v0 5 ∧ Cal l X d b3 c4 M_X4_takeStatement [.ref v0, .ref v5] A2 fun o10 A7 b8 c9 => rV o10 (fun E => Q (.inr E) A7) <| G l X M_X4_readPlan d Q 76 [(0, .ref v0), (5, .ref v5), (6, .int (v6 + 1))] [] A7 b8 c9))) : G l X M_X4_readPlan d Q 76 [(0, .ref v0), (5, .ref v5), (6, .int v6)] [] A bc bs := by
  refine G_iload 2 (dk_at dk_X4_readPlan 43 rfl) rfl ?_
  refine G_aload_n 0 (dk_at dk_X4_readPlan 44 rfl) rfl ?_
  refine K_gI gf_X4_28 (dk_at dk_X4_readPlan 45 rfl) h (fun i1 h => ?_)
  refine G_icmp_ge (tgt := 104) (dk_at dk_X4_readPlan 46 rfl) (by decide) (fun c => ?_) (fun c => ?_)
  · replace h := h.1 c
    refine G_sub [0, 1] rfl ?_
    exact h
  · replace h := h.2 c
    refine G_aload_n 0 (dk_at dk_X4_readPlan 47 rfl) rfl ?_
    obtain ⟨⟨_, ho⟩, h⟩ := h
    refine G_callV (As := []) (rest := []) lk_X4_51 rfl (dk_at dk_X4_readPlan 48 rfl) rfl rfl (Nat.le_of_ble_eq_true rfl) ho (h.mono fun o5 A2 b3 c4 h => aftI h fun i6 h => ?_)
    refine G_if_eq (tgt := 104) (dk_at dk_X4_readPlan 49 rfl) (by decide) (fun c => ?_) (fun c => ?_)
    · replace h := h.1 c
      refine G_sub [0, 1] rfl ?_
      exact h
    · replace h := h.2 c
      refine G_aload_n 0 (dk_at dk_X4_readPlan 50 rfl) rfl ?_
      refine G_aload 1 (dk_at dk_X4_readPlan 51 rfl) rfl ?_
      obtain ⟨⟨_, ho⟩, h⟩ := h
      refine G_callV (As := [.ref v5]) (rest := []) lk_X4_55 rfl (dk_at dk_X4_readPlan 52 rfl) rfl rfl (Nat.le_of_ble_eq_true rfl) ho (h.mono fun o10 A7 b8 c9 h => aftV h fun h => ?_)
      refine G_iinc (v := v6 + 1) (lv' := [(6, .int (v6 + 1)), (0, .ref v0), (5, .ref v5)]) 2 (dk_at dk_X4_readPlan 53 rfl) rfl rfl (by decide) rfl ?_
      refine G_goto (tgt := 76) (dk_at dk_X4_readPlan 54 rfl) (by decide) ?_
      refine G_sub [1, 2, 0] rfl ?_
      exact h
theorem k_X4_readPlan_104 {l : Launch} {X : XT} {d : Nat} {Q : Ot → AH → Prop} {A : AH} {bc bs : Nat} {v0 : Nat} {v5 : Nat} (h : gI A v0 5 4 fun i1 => (¬ i1 = 0 → Q (Rq none) A) ∧ (i1 = 0 → Q (Rq (some v5)) A)) : G l X M_X4_readPlan d Q 104 [(0, .ref v0), (5, .ref v5)] [] A bc bs := by
  refine G_aload_n 0 (dk_at dk_X4_readPlan 55 rfl) rfl ?_
  refine K_gI gf_X4_18 (dk_at dk_X4_readPlan 56 rfl) h (fun i1 h => ?_)
  refine G_if_ne (tgt := 116) (dk_at dk_X4_readPlan 57 rfl) (by decide) (fun c => ?_) (fun c => ?_)
  · replace h := h.1 c
    refine G_null (dk_at dk_X4_readPlan 60 rfl) ?_
    exact G_aretQ (r := none) rfl (Or.inl ⟨_, rfl⟩) (dk_at dk_X4_readPlan 61 rfl) h
  · replace h := h.2 c
    refine G_aload 1 (dk_at dk_X4_readPlan 58 rfl) rfl ?_
    refine G_goto (tgt := 117) (dk_at dk_X4_readPlan 59 rfl) (by decide) ?_
    exact G_aretQ (r := some v5) rfl (Or.inl ⟨_, rfl⟩) (dk_at dk_X4_readPlan 61 rfl) h
theorem k_X4_hasMore_0 {l : Launch} {X : XT} {d : Nat} {Q : Ot → AH → Prop} {A : AH} {bc bs : Nat} {v0 : Nat} (h : isO A v0 5 ∧ Cal l X d bc bs M_X4_skipSpaces [.ref v0] A fun o4 A1 b2 c3 => rV o4 (fun E => Q (.inr E) A1) <| gI A1 v0 5 4 fun i5 => (¬ i5 = 0 → Q (Ri 0) A1) ∧ (i5 = 0 → gI A1 v0 5 2 fun i6 => gI A1 v0 5 1 fun i7 => (i7 ≤ i6 → Q (Ri 0) A1) ∧ (¬ i7 ≤ i6 → Q (Ri 1) A1))) : G l X M_X4_hasMore d Q 0 [(0, .ref v0)] [] A bc bs := by
  refine G_aload_n 0 (dk_at dk_X4_hasMore 0 rfl) rfl ?_
  obtain ⟨⟨_, ho⟩, h⟩ := h
  refine G_callV (As := []) (rest := []) lk_X4_59 rfl (dk_at dk_X4_hasMore 1 rfl) rfl rfl (Nat.le_of_ble_eq_true rfl) ho (h.mono fun o4 A1 b2 c3 h => aftV h fun h => ?_)
  refine G_aload_n 0 (dk_at dk_X4_hasMore 2 rfl) rfl ?_
  refine K_gI gf_X4_18 (dk_at dk_X4_hasMore 3 rfl) h (fun i5 h => ?_)
  refine G_if_ne (tgt := 26) (dk_at dk_X4_hasMore 4 rfl) (by decide) (fun c => ?_) (fun c => ?_)
  · replace h := h.1 c
    refine G_iconst (v := 0) (dk_at dk_X4_hasMore 12 rfl) (by decide) ?_
    exact G_iret (ty := .boolean) rfl rfl (dk_at dk_X4_hasMore 13 rfl) h
  · replace h := h.2 c
    refine G_aload_n 0 (dk_at dk_X4_hasMore 5 rfl) rfl ?_
    refine K_gI gf_X4_9 (dk_at dk_X4_hasMore 6 rfl) h (fun i6 h => ?_)
    refine G_aload_n 0 (dk_at dk_X4_hasMore 7 rfl) rfl ?_
    refine K_gI gf_X4_28 (dk_at dk_X4_hasMore 8 rfl) h (fun i7 h => ?_)
    refine G_icmp_ge (tgt := 26) (dk_at dk_X4_hasMore 9 rfl) (by decide) (fun c => ?_) (fun c => ?_)
    · replace h := h.1 c
      refine G_iconst (v := 0) (dk_at dk_X4_hasMore 12 rfl) (by decide) ?_
      exact G_iret (ty := .boolean) rfl rfl (dk_at dk_X4_hasMore 13 rfl) h
    · replace h := h.2 c
      refine G_iconst (v := 1) (dk_at dk_X4_hasMore 10 rfl) (by decide) ?_
      refine G_goto (tgt := 27) (dk_at dk_X4_hasMore 11 rfl) (by decide) ?_
      exact G_iret (ty := .boolean) rfl rfl (dk_at dk_X4_hasMore 13 rfl) h
theorem k_X4_takeStatement_0 {l : Launch} {X : XT} {d : Nat} {Q : Ot → AH → Prop} {A : AH} {bc bs : Nat} {v0 : Nat} {v1 : Nat} (h : gI A v0 5 2 fun i1 => isO A v0 5 ∧ Cal l X d bc bs M_X4_isTaken [.ref v0, .ref (xK X 2)] A fun o5 A2 b3 c4 => rI o5 (fun E => Q (.inr E) A2) fun i6 => (i6 = 0 → isO A2 v0 5 ∧ Cal l X d b3 c4 M_X4_isTaken [.ref v0, .ref (xK X 3)] A2 fun o10 A7 b8 c9 => rI o10 (fun E => Q (.inr E) A7) fun i11 => (i11 = 0 → isO A7 v0 5 ∧ Cal l X d b8 c9 M_X4_isTaken [.ref v0, .ref (xK X 4)] A7 fun o15 A12 b13 c14 => rI o15 (fun E => Q (.inr E) A12) fun i16 => (i16 = 0 → isO A12 v0 5 ∧ Cal l X d b13 c14 M_X4_isTaken [.ref v0, .ref (xK X 5)] A12 fun o20 A17 b18 c19 => rI o20 (fun E => Q (.inr E) A17) fun i21 => (i21 = 0 → isO A17 v0 5 ∧ Cal l X d b18 c19 M_X4_fail [.ref v0, .int ((-2)), .int i1] A17 fun o25 A22 b23 c24 => rV o25 (fun E => Q (.inr E) A22) <| G l X M_X4_takeStatement d Q 89 [(0, .ref v0)] [] A22 b23 c24) ∧ (¬ i21 = 0 → isO A17 v0 5 ∧ Cal l X d b18 c19 M_X4_takeNumber [.ref v0, .int 1, .int 99] A17 fun o29 A26 b27 c28 => rI o29 (fun E => Q (.inr E) A26) fun i30 => pV A26 v1 4 1 (.int i30) fun A31 => G l X M_X4_takeStatement d Q 89 [(0, .ref v0)] [] A31 b27 c28)) ∧ (¬ i16 = 0 → isO A12 v0 5 ∧ Cal l X d b13 c14 M_X4_takeCut [.ref v0, .ref v1, .int i1] A12 fun o35 A32 b33 c34 => rV o35 (fun E => Q (.inr E) A32) <| G l X M_X4_takeStatement d Q 89 [(0, .ref v0)] [] A32 b33 c34)) ∧ (¬ i11 = 0 → isO A7 v0 5 ∧ Cal l X d b8 c9 M_X4_takeBreak [.ref v0, .ref v1, .int i1] A7 fun o39 A36 b37 c38 => rV o39 (fun E => Q (.inr E) A36) <| G l X M_X4_takeStatement d Q 89 [(0, .ref v0)] [] A36 b37 c38)) ∧ (¬ i6 = 0 → isO A2 v0 5 ∧ Cal l X d b3 c4 M_X4_takeFlaw [.ref v0, .ref v1, .int i1] A2 fun o43 A40 b41 c42 => rV o43 (fun E => Q (.inr E) A40) <| G l X M_X4_takeStatement d Q 89 [(0, .ref v0)] [] A40 b41 c42)) : G l X M_X4_takeStatement d Q 0 [(0, .ref v0), (1, .ref v1)] [] A bc bs := by
  refine G_aload_n 0 (dk_at dk_X4_takeStatement 0 rfl) rfl ?_
  refine K_gI gf_X4_9 (dk_at dk_X4_takeStatement 1 rfl) h (fun i1 h => ?_)
  refine G_istore_n (lv' := [(2, .int i1), (0, .ref v0), (1, .ref v1)]) (dk_at dk_X4_takeStatement 2 rfl) (by decide) rfl ?_
  refine G_aload_n 1 (dk_at dk_X4_takeStatement 3 rfl) rfl ?_
  refine G_ldcS (i := 2) (own := "PieceTransfer$Reader") rfl rfl (dk_at dk_X4_takeStatement 4 rfl) ?_
  obtain ⟨⟨_, ho⟩, h⟩ := h
  refine G_callV (As := [.ref (xK X 2)]) (rest := []) lk_X4_64 rfl (dk_at dk_X4_takeStatement 5 rfl) rfl rfl (Nat.le_of_ble_eq_true rfl) ho (h.mono fun o5 A2 b3 c4 h => aftI h fun i6 h => ?_)
  refine G_if_eq (tgt := 23) (dk_at dk_X4_takeStatement 6 rfl) (by decide) (fun c => ?_) (fun c => ?_)
  · replace h := h.1 c
    refine G_aload_n 1 (dk_at dk_X4_takeStatement 12 rfl) rfl ?_
    refine G_ldcS (i := 3) (own := "PieceTransfer$Reader") rfl rfl (dk_at dk_X4_takeStatement 13 rfl) ?_
    obtain ⟨⟨_, ho⟩, h⟩ := h
    refine G_callV (As := [.ref (xK X 3)]) (rest := []) lk_X4_64 rfl (dk_at dk_X4_takeStatement 14 rfl) rfl rfl (Nat.le_of_ble_eq_true rfl) ho (h.mono fun o10 A7 b8 c9 h => aftI h fun i11 h => ?_)
    refine G_if_eq (tgt := 41) (dk_at dk_X4_takeStatement 15 rfl) (by decide) (fun c => ?_) (fun c => ?_)
    · replace h := h.1 c
      refine G_aload_n 1 (dk_at dk_X4_takeStatement 21 rfl) rfl ?_
      refine G_ldcS (i := 4) (own := "PieceTransfer$Reader") rfl rfl (dk_at dk_X4_takeStatement 22 rfl) ?_
      obtain ⟨⟨_, ho⟩, h⟩ := h
      refine G_callV (As := [.ref (xK X 4)]) (rest := []) lk_X4_64 rfl (dk_at dk_X4_takeStatement 23 rfl) rfl rfl (Nat.le_of_ble_eq_true rfl) ho (h.mono fun o15 A12 b13 c14 h => aftI h fun i16 h => ?_)
      refine G_if_eq (tgt := 59) (dk_at dk_X4_takeStatement 24 rfl) (by decide) (fun c => ?_) (fun c => ?_)
      · replace h := h.1 c
        refine G_aload_n 1 (dk_at dk_X4_takeStatement 30 rfl) rfl ?_
        refine G_ldcS (i := 5) (own := "PieceTransfer$Reader") rfl rfl (dk_at dk_X4_takeStatement 31 rfl) ?_
        obtain ⟨⟨_, ho⟩, h⟩ := h
        refine G_callV (As := [.ref (xK X 5)]) (rest := []) lk_X4_64 rfl (dk_at dk_X4_takeStatement 32 rfl) rfl rfl (Nat.le_of_ble_eq_true rfl) ho (h.mono fun o20 A17 b18 c19 h => aftI h fun i21 h => ?_)
        refine G_if_eq (tgt := 82) (dk_at dk_X4_takeStatement 33 rfl) (by decide) (fun c => ?_) (fun c => ?_)
        · replace h := h.1 c
          refine G_aload_n 1 (dk_at dk_X4_takeStatement 41 rfl) rfl ?_
          refine G_bipush (v := (-2)) (dk_at dk_X4_takeStatement 42 rfl) (by decide) ?_
          refine G_iload_n 0 (dk_at dk_X4_takeStatement 43 rfl) rfl ?_
          obtain ⟨⟨_, ho⟩, h⟩ := h
          refine G_callV (As := [.int ((-2)), .int i1]) (rest := []) lk_X4_87 rfl (dk_at dk_X4_takeStatement 44 rfl) rfl rfl (Nat.le_of_ble_eq_true rfl) ho (h.mono fun o25 A22 b23 c24 h => aftV h fun h => ?_)
          refine G_sub [1] rfl ?_
          exact h
        · replace h := h.2 c
          refine G_aload_n 2 (dk_at dk_X4_takeStatement 34 rfl) rfl ?_
          refine G_aload_n 1 (dk_at dk_X4_takeStatement 35 rfl) rfl ?_
          refine G_iconst (v := 1) (dk_at dk_X4_takeStatement 36 rfl) (by decide) ?_
          refine G_bipush (v := 99) (dk_at dk_X4_takeStatement 37 rfl) (by decide) ?_
          obtain ⟨⟨_, ho⟩, h⟩ := h
          refine G_callV (As := [.int 1, .int 99]) (rest := [.ref v1]) lk_X4_37 rfl (dk_at dk_X4_takeStatement 38 rfl) rfl rfl (Nat.le_of_ble_eq_true rfl) ho (h.mono fun o29 A26 b27 c28 h => aftI h fun i30 h => ?_)
          refine K_pI pf_X4_84 (dk_at dk_X4_takeStatement 39 rfl) h (fun A31 h => ?_)
          refine G_goto (tgt := 89) (dk_at dk_X4_takeStatement 40 rfl) (by decide) ?_
          refine G_sub [1] rfl ?_
          exact h
      · replace h := h.2 c
        refine G_aload_n 1 (dk_at dk_X4_takeStatement 25 rfl) rfl ?_
        refine G_aload_n 2 (dk_at dk_X4_takeStatement 26 rfl) rfl ?_
        refine G_iload_n 0 (dk_at dk_X4_takeStatement 27 rfl) rfl ?_
        obtain ⟨⟨_, ho⟩, h⟩ := h
        refine G_callV (As := [.ref v1, .int i1]) (rest := []) lk_X4_79 rfl (dk_at dk_X4_takeStatement 28 rfl) rfl rfl (Nat.le_of_ble_eq_true rfl) ho (h.mono fun o35 A32 b33 c34 h => aftV h fun h => ?_)
        refine G_goto (tgt := 89) (dk_at dk_X4_takeStatement 29 rfl) (by decide) ?_
        refine G_sub [1] rfl ?_
        exact h
    · replace h := h.2 c
      refine G_aload_n 1 (dk_at dk_X4_takeStatement 16 rfl) rfl ?_
      refine G_aload_n 2 (dk_at dk_X4_takeStatement 17 rfl) rfl ?_
      refine G_iload_n 0 (dk_at dk_X4_takeStatement 18 rfl) rfl ?_
      obtain ⟨⟨_, ho⟩, h⟩ := h
      refine G_callV (As := [.ref v1, .int i1]) (rest := []) lk_X4_74 rfl (dk_at dk_X4_takeStatement 19 rfl) rfl rfl (Nat.le_of_ble_eq_true rfl) ho (h.mono fun o39 A36 b37 c38 h => aftV h fun h => ?_)
      refine G_goto (tgt := 89) (dk_at dk_X4_takeStatement 20 rfl) (by decide) ?_
      refine G_sub [1] rfl ?_
      exact h
  · replace h := h.2 c
    refine G_aload_n 1 (dk_at dk_X4_takeStatement 7 rfl) rfl ?_
    refine G_aload_n 2 (dk_at dk_X4_takeStatement 8 rfl) rfl ?_
    refine G_iload_n 0 (dk_at dk_X4_takeStatement 9 rfl) rfl ?_
    obtain ⟨⟨_, ho⟩, h⟩ := h
    refine G_callV (As := [.ref v1, .int i1]) (rest := []) lk_X4_68 rfl (dk_at dk_X4_takeStatement 10 rfl) rfl rfl (Nat.le_of_ble_eq_true rfl) ho (h.mono fun o43 A40 b41 c42 h => aftV h fun h => ?_)
    refine G_goto (tgt := 89) (dk_at dk_X4_takeStatement 11 rfl) (by decide) ?_
    refine G_sub [1] rfl ?_
    exact h
theorem k_X4_takeStatement_89 {l : Launch} {X : XT} {d : Nat} {Q : Ot → AH → Prop} {A : AH} {bc bs : Nat} {v0 : Nat} (h : isO A v0 5 ∧ Cal l X d bc bs M_X4_takeSemicolon [.ref v0] A fun o4 A1 b2 c3 => rV o4 (fun E => Q (.inr E) A1) <| Q Rv A1) : G l X M_X4_takeStatement d Q 89 [(0, .ref v0)] [] A bc bs := by
  refine G_aload_n 0 (dk_at dk_X4_takeStatement 45 rfl) rfl ?_
  obtain ⟨⟨_, ho⟩, h⟩ := h
  refine G_callV (As := []) (rest := []) lk_X4_43 rfl (dk_at dk_X4_takeStatement 46 rfl) rfl rfl (Nat.le_of_ble_eq_true rfl) ho (h.mono fun o4 A1 b2 c3 h => aftV h fun h => ?_)
  exact G_vret rfl (dk_at dk_X4_takeStatement 47 rfl) h
theorem k_X4_takeFlaw_0 {l : Launch} {X : XT} {d : Nat} {Q : Ot → AH → Prop} {A : AH} {bc bs : Nat} {v0 : Nat} {v1 : Nat} {v2 : Int32} (h : gI A v0 5 3 fun i1 => (i1 < 12 → gI A v1 4 0 fun i2 => isO A v0 5 ∧ Cal l X d bc bs M_X4_takeNumber [.ref v0, .int 0, .int (i2 - 1)] A fun o6 A3 b4 c5 => rI o6 (fun E => Q (.inr E) A3) fun i7 => isO A3 v0 5 ∧ Cal l X d b4 c5 M_X4_takeNumber [.ref v0, .int 1, .int 255] A3 fun o11 A8 b9 c10 => rI o11 (fun E => Q (.inr E) A8) fun i12 => isO A8 v1 4 ∧ Cal l X d b9 c10 M_X3_addFlaw [.ref v1, .int i7, .int i12] A8 fun o16 A13 b14 c15 => rV o16 (fun E => Q (.inr E) A13) <| gI A13 v0 5 3 fun i17 => pV A13 v0 5 3 (.int (i17 + 1)) fun A18 => Q Rv A18) ∧ (¬ i1 < 12 → isO A v0 5 ∧ Cal l X d bc bs M_X4_fail [.ref v0, .int ((-4)), .int v2] A fun o22 A19 b20 c21 => rV o22 (fun E => Q (.inr E) A19) <| Q Rv A19)) : G l X M_X4_takeFlaw d Q 0 [(0, .ref v0), (1, .ref v1), (2, .int v2)] [] A bc bs := by
  refine G_aload_n 0 (dk_at dk_X4_takeFlaw 0 rfl) rfl ?_
  refine K_gI gf_X4_15 (dk_at dk_X4_takeFlaw 1 rfl) h (fun i1 h => ?_)
  refine G_bipush (v := 12) (dk_at dk_X4_takeFlaw 2 rfl) (by decide) ?_
  refine G_icmp_lt (tgt := 17) (dk_at dk_X4_takeFlaw 3 rfl) (by decide) (fun c => ?_) (fun c => ?_)
  · replace h := h.1 c
    refine G_aload_n 0 (dk_at dk_X4_takeFlaw 9 rfl) rfl ?_
    refine G_iconst (v := 0) (dk_at dk_X4_takeFlaw 10 rfl) (by decide) ?_
    refine G_aload_n 1 (dk_at dk_X4_takeFlaw 11 rfl) rfl ?_
    refine K_gI gf_X4_91 (dk_at dk_X4_takeFlaw 12 rfl) h (fun i2 h => ?_)
    refine G_iconst (v := 1) (dk_at dk_X4_takeFlaw 13 rfl) (by decide) ?_
    refine G_isub (dk_at dk_X4_takeFlaw 14 rfl) ?_
    obtain ⟨⟨_, ho⟩, h⟩ := h
    refine G_callV (As := [.int 0, .int (i2 - 1)]) (rest := []) lk_X4_37 rfl (dk_at dk_X4_takeFlaw 15 rfl) rfl rfl (Nat.le_of_ble_eq_true rfl) ho (h.mono fun o6 A3 b4 c5 h => aftI h fun i7 h => ?_)
    refine G_istore_n (lv' := [(3, .int i7), (0, .ref v0), (1, .ref v1), (2, .int v2)]) (dk_at dk_X4_takeFlaw 16 rfl) (by decide) rfl ?_
    refine G_aload_n 1 (dk_at dk_X4_takeFlaw 17 rfl) rfl ?_
    refine G_iconst (v := 1) (dk_at dk_X4_takeFlaw 18 rfl) (by decide) ?_
    refine G_sipush (v := 255) (dk_at dk_X4_takeFlaw 19 rfl) (by decide) ?_
    obtain ⟨⟨_, ho⟩, h⟩ := h
    refine G_callV (As := [.int 1, .int 255]) (rest := []) lk_X4_37 rfl (dk_at dk_X4_takeFlaw 20 rfl) rfl rfl (Nat.le_of_ble_eq_true rfl) ho (h.mono fun o11 A8 b9 c10 h => aftI h fun i12 h => ?_)
    refine G_istore (lv' := [(4, .int i12), (3, .int i7), (0, .ref v0), (1, .ref v1), (2, .int v2)]) (dk_at dk_X4_takeFlaw 21 rfl) (by decide) rfl ?_
    refine G_aload_n 3 (dk_at dk_X4_takeFlaw 22 rfl) rfl ?_
    refine G_iload_n 1 (dk_at dk_X4_takeFlaw 23 rfl) rfl ?_
    refine G_iload 0 (dk_at dk_X4_takeFlaw 24 rfl) rfl ?_
    obtain ⟨⟨_, ho⟩, h⟩ := h
    refine G_callV (As := [.int i7, .int i12]) (rest := []) lk_X4_92 rfl (dk_at dk_X4_takeFlaw 25 rfl) rfl rfl (Nat.le_of_ble_eq_true rfl) ho (h.mono fun o16 A13 b14 c15 h => aftV h fun h => ?_)
    refine G_aload_n 2 (dk_at dk_X4_takeFlaw 26 rfl) rfl ?_
    refine G_dup (dk_at dk_X4_takeFlaw 27 rfl) rfl ?_
    refine K_gI gf_X4_15 (dk_at dk_X4_takeFlaw 28 rfl) h (fun i17 h => ?_)
    refine G_iconst (v := 1) (dk_at dk_X4_takeFlaw 29 rfl) (by decide) ?_
    refine G_iadd (dk_at dk_X4_takeFlaw 30 rfl) ?_
    refine K_pI pf_X4_15 (dk_at dk_X4_takeFlaw 31 rfl) h (fun A18 h => ?_)
    exact G_vret rfl (dk_at dk_X4_takeFlaw 32 rfl) h
  · replace h := h.2 c
    refine G_aload_n 0 (dk_at dk_X4_takeFlaw 4 rfl) rfl ?_
    refine G_bipush (v := (-4)) (dk_at dk_X4_takeFlaw 5 rfl) (by decide) ?_
    refine G_iload_n 2 (dk_at dk_X4_takeFlaw 6 rfl) rfl ?_
    obtain ⟨⟨_, ho⟩, h⟩ := h
    refine G_callV (As := [.int ((-4)), .int v2]) (rest := []) lk_X4_87 rfl (dk_at dk_X4_takeFlaw 7 rfl) rfl rfl (Nat.le_of_ble_eq_true rfl) ho (h.mono fun o22 A19 b20 c21 h => aftV h fun h => ?_)
    exact G_vret rfl (dk_at dk_X4_takeFlaw 8 rfl) h
theorem k_X4_takeBreak_0 {l : Launch} {X : XT} {d : Nat} {Q : Ot → AH → Prop} {A : AH} {bc bs : Nat} {v0 : Nat} {v1 : Nat} {v2 : Int32} (h : gI A v1 4 13 fun i1 => (i1 < 12 → isO A v0 5 ∧ Cal l X d bc bs M_X4_takeNumber [.ref v0, .int 1, .int 999] A fun o5 A2 b3 c4 => rI o5 (fun E => Q (.inr E) A2) fun i6 => isO A2 v0 5 ∧ Cal l X d b3 c4 M_X4_takeNumber [.ref v0, .int 0, .int 47] A2 fun o10 A7 b8 c9 => rI o10 (fun E => Q (.inr E) A7) fun i11 => isO A7 v0 5 ∧ Cal l X d b8 c9 M_X4_takeNumber [.ref v0, .int 1, .int 255] A7 fun o15 A12 b13 c14 => rI o15 (fun E => Q (.inr E) A12) fun i16 => isO A12 v1 4 ∧ Cal l X d b13 c14 M_X3_addBreak [.ref v1, .int i6, .int i11, .int i16] A12 fun o20 A17 b18 c19 => rV o20 (fun E => Q (.inr E) A17) <| Q Rv A17) ∧ (¬ i1 < 12 → isO A v0 5 ∧ Cal l X d bc bs M_X4_fail [.ref v0, .int ((-4)), .int v2] A fun o24 A21 b22 c23 => rV o24 (fun E => Q (.inr E) A21) <| Q Rv A21)) : G l X M_X4_takeBreak d Q 0 [(0, .ref v0), (1, .ref v1), (2, .int v2)] [] A bc bs := by
  refine G_aload_n 1 (dk_at dk_X4_takeBreak 0 rfl) rfl ?_
  refine K_gI gf_X4_95 (dk_at dk_X4_takeBreak 1 rfl) h (fun i1 h => ?_)
  refine G_bipush (v := 12) (dk_at dk_X4_takeBreak 2 rfl) (by decide) ?_
  refine G_icmp_lt (tgt := 17) (dk_at dk_X4_takeBreak 3 rfl) (by decide) (fun c => ?_) (fun c => ?_)
  · replace h := h.1 c
    refine G_aload_n 0 (dk_at dk_X4_takeBreak 9 rfl) rfl ?_
    refine G_iconst (v := 1) (dk_at dk_X4_takeBreak 10 rfl) (by decide) ?_
    refine G_sipush (v := 999) (dk_at dk_X4_takeBreak 11 rfl) (by decide) ?_
    obtain ⟨⟨_, ho⟩, h⟩ := h
    refine G_callV (As := [.int 1, .int 999]) (rest := []) lk_X4_37 rfl (dk_at dk_X4_takeBreak 12 rfl) rfl rfl (Nat.le_of_ble_eq_true rfl) ho (h.mono fun o5 A2 b3 c4 h => aftI h fun i6 h => ?_)
    refine G_istore_n (lv' := [(3, .int i6), (0, .ref v0), (1, .ref v1), (2, .int v2)]) (dk_at dk_X4_takeBreak 13 rfl) (by decide) rfl ?_
    refine G_aload_n 1 (dk_at dk_X4_takeBreak 14 rfl) rfl ?_
    refine G_iconst (v := 0) (dk_at dk_X4_takeBreak 15 rfl) (by decide) ?_
    refine G_bipush (v := 47) (dk_at dk_X4_takeBreak 16 rfl) (by decide) ?_
    obtain ⟨⟨_, ho⟩, h⟩ := h
    refine G_callV (As := [.int 0, .int 47]) (rest := []) lk_X4_37 rfl (dk_at dk_X4_takeBreak 17 rfl) rfl rfl (Nat.le_of_ble_eq_true rfl) ho (h.mono fun o10 A7 b8 c9 h => aftI h fun i11 h => ?_)
    refine G_istore (lv' := [(4, .int i11), (3, .int i6), (0, .ref v0), (1, .ref v1), (2, .int v2)]) (dk_at dk_X4_takeBreak 18 rfl) (by decide) rfl ?_
    refine G_aload_n 2 (dk_at dk_X4_takeBreak 19 rfl) rfl ?_
    refine G_iconst (v := 1) (dk_at dk_X4_takeBreak 20 rfl) (by decide) ?_
    refine G_sipush (v := 255) (dk_at dk_X4_takeBreak 21 rfl) (by decide) ?_
    obtain ⟨⟨_, ho⟩, h⟩ := h
    refine G_callV (As := [.int 1, .int 255]) (rest := []) lk_X4_37 rfl (dk_at dk_X4_takeBreak 22 rfl) rfl rfl (Nat.le_of_ble_eq_true rfl) ho (h.mono fun o15 A12 b13 c14 h => aftI h fun i16 h => ?_)
    refine G_istore (lv' := [(5, .int i16), (4, .int i11), (3, .int i6), (0, .ref v0), (1, .ref v1), (2, .int v2)]) (dk_at dk_X4_takeBreak 23 rfl) (by decide) rfl ?_
    refine G_aload_n 4 (dk_at dk_X4_takeBreak 24 rfl) rfl ?_
    refine G_iload_n 2 (dk_at dk_X4_takeBreak 25 rfl) rfl ?_
    refine G_iload 1 (dk_at dk_X4_takeBreak 26 rfl) rfl ?_
    refine G_iload 0 (dk_at dk_X4_takeBreak 27 rfl) rfl ?_
    obtain ⟨⟨_, ho⟩, h⟩ := h
    refine G_callV (As := [.int i6, .int i11, .int i16]) (rest := []) lk_X4_98 rfl (dk_at dk_X4_takeBreak 28 rfl) rfl rfl (Nat.le_of_ble_eq_true rfl) ho (h.mono fun o20 A17 b18 c19 h => aftV h fun h => ?_)
    exact G_vret rfl (dk_at dk_X4_takeBreak 29 rfl) h
  · replace h := h.2 c
    refine G_aload_n 0 (dk_at dk_X4_takeBreak 4 rfl) rfl ?_
    refine G_bipush (v := (-4)) (dk_at dk_X4_takeBreak 5 rfl) (by decide) ?_
    refine G_iload_n 2 (dk_at dk_X4_takeBreak 6 rfl) rfl ?_
    obtain ⟨⟨_, ho⟩, h⟩ := h
    refine G_callV (As := [.int ((-4)), .int v2]) (rest := []) lk_X4_87 rfl (dk_at dk_X4_takeBreak 7 rfl) rfl rfl (Nat.le_of_ble_eq_true rfl) ho (h.mono fun o24 A21 b22 c23 h => aftV h fun h => ?_)
    exact G_vret rfl (dk_at dk_X4_takeBreak 8 rfl) h
theorem k_X4_takeCut_0 {l : Launch} {X : XT} {d : Nat} {Q : Ot → AH → Prop} {A : AH} {bc bs : Nat} {v0 : Nat} {v1 : Nat} {v2 : Int32} (h : gI A v1 4 15 fun i1 => (i1 < 8 → isO A v0 5 ∧ Cal l X d bc bs M_X4_takeNumber [.ref v0, .int 0, .int 1] A fun o5 A2 b3 c4 => rI o5 (fun E => Q (.inr E) A2) fun i6 => isO A2 v0 5 ∧ Cal l X d b3 c4 M_X4_takeNumber [.ref v0, .int 1, .int 999] A2 fun o10 A7 b8 c9 => rI o10 (fun E => Q (.inr E) A7) fun i11 => isO A7 v1 4 ∧ Cal l X d b8 c9 M_X3_addCut [.ref v1, .int i6, .int i11] A7 fun o15 A12 b13 c14 => rV o15 (fun E => Q (.inr E) A12) <| Q Rv A12) ∧ (¬ i1 < 8 → isO A v0 5 ∧ Cal l X d bc bs M_X4_fail [.ref v0, .int ((-4)), .int v2] A fun o19 A16 b17 c18 => rV o19 (fun E => Q (.inr E) A16) <| Q Rv A16)) : G l X M_X4_takeCut d Q 0 [(0, .ref v0), (1, .ref v1), (2, .int v2)] [] A bc bs := by
  refine G_aload_n 1 (dk_at dk_X4_takeCut 0 rfl) rfl ?_
  refine K_gI gf_X4_102 (dk_at dk_X4_takeCut 1 rfl) h (fun i1 h => ?_)
  refine G_bipush (v := 8) (dk_at dk_X4_takeCut 2 rfl) (by decide) ?_
  refine G_icmp_lt (tgt := 17) (dk_at dk_X4_takeCut 3 rfl) (by decide) (fun c => ?_) (fun c => ?_)
  · replace h := h.1 c
    refine G_aload_n 0 (dk_at dk_X4_takeCut 9 rfl) rfl ?_
    refine G_iconst (v := 0) (dk_at dk_X4_takeCut 10 rfl) (by decide) ?_
    refine G_iconst (v := 1) (dk_at dk_X4_takeCut 11 rfl) (by decide) ?_
    obtain ⟨⟨_, ho⟩, h⟩ := h
    refine G_callV (As := [.int 0, .int 1]) (rest := []) lk_X4_37 rfl (dk_at dk_X4_takeCut 12 rfl) rfl rfl (Nat.le_of_ble_eq_true rfl) ho (h.mono fun o5 A2 b3 c4 h => aftI h fun i6 h => ?_)
    refine G_istore_n (lv' := [(3, .int i6), (0, .ref v0), (1, .ref v1), (2, .int v2)]) (dk_at dk_X4_takeCut 13 rfl) (by decide) rfl ?_
    refine G_aload_n 1 (dk_at dk_X4_takeCut 14 rfl) rfl ?_
    refine G_iconst (v := 1) (dk_at dk_X4_takeCut 15 rfl) (by decide) ?_
    refine G_sipush (v := 999) (dk_at dk_X4_takeCut 16 rfl) (by decide) ?_
    obtain ⟨⟨_, ho⟩, h⟩ := h
    refine G_callV (As := [.int 1, .int 999]) (rest := []) lk_X4_37 rfl (dk_at dk_X4_takeCut 17 rfl) rfl rfl (Nat.le_of_ble_eq_true rfl) ho (h.mono fun o10 A7 b8 c9 h => aftI h fun i11 h => ?_)
    refine G_istore (lv' := [(4, .int i11), (3, .int i6), (0, .ref v0), (1, .ref v1), (2, .int v2)]) (dk_at dk_X4_takeCut 18 rfl) (by decide) rfl ?_
    refine G_aload_n 3 (dk_at dk_X4_takeCut 19 rfl) rfl ?_
    refine G_iload_n 1 (dk_at dk_X4_takeCut 20 rfl) rfl ?_
    refine G_iload 0 (dk_at dk_X4_takeCut 21 rfl) rfl ?_
    obtain ⟨⟨_, ho⟩, h⟩ := h
    refine G_callV (As := [.int i6, .int i11]) (rest := []) lk_X4_105 rfl (dk_at dk_X4_takeCut 22 rfl) rfl rfl (Nat.le_of_ble_eq_true rfl) ho (h.mono fun o15 A12 b13 c14 h => aftV h fun h => ?_)
    exact G_vret rfl (dk_at dk_X4_takeCut 23 rfl) h
  · replace h := h.2 c
    refine G_aload_n 0 (dk_at dk_X4_takeCut 4 rfl) rfl ?_
    refine G_bipush (v := (-4)) (dk_at dk_X4_takeCut 5 rfl) (by decide) ?_
    refine G_iload_n 2 (dk_at dk_X4_takeCut 6 rfl) rfl ?_
    obtain ⟨⟨_, ho⟩, h⟩ := h
    refine G_callV (As := [.int ((-4)), .int v2]) (rest := []) lk_X4_87 rfl (dk_at dk_X4_takeCut 7 rfl) rfl rfl (Nat.le_of_ble_eq_true rfl) ho (h.mono fun o19 A16 b17 c18 h => aftV h fun h => ?_)
    exact G_vret rfl (dk_at dk_X4_takeCut 8 rfl) h
theorem k_X4_takeWord_0 {l : Launch} {X : XT} {d : Nat} {Q : Ot → AH → Prop} {A : AH} {bc bs : Nat} {v0 : Nat} {v1 : Nat} (h : isO A v0 5 ∧ Cal l X d bc bs M_X4_skipSpaces [.ref v0] A fun o4 A1 b2 c3 => rV o4 (fun E => Q (.inr E) A1) <| isO A1 v0 5 ∧ Cal l X d b2 c3 M_X4_isTaken [.ref v0, .ref v1] A1 fun o8 A5 b6 c7 => rI o8 (fun E => Q (.inr E) A5) fun i9 => (¬ i9 = 0 → Q Rv A5) ∧ (i9 = 0 → gI A5 v0 5 2 fun i10 => isO A5 v0 5 ∧ Cal l X d b6 c7 M_X4_fail [.ref v0, .int ((-2)), .int i10] A5 fun o14 A11 b12 c13 => rV o14 (fun E => Q (.inr E) A11) <| Q Rv A11)) : G l X M_X4_takeWord d Q 0 [(0, .ref v0), (1, .ref v1)] [] A bc bs := by
  refine G_aload_n 0 (dk_at dk_X4_takeWord 0 rfl) rfl ?_
  obtain ⟨⟨_, ho⟩, h⟩ := h
  refine G_callV (As := []) (rest := []) lk_X4_59 rfl (dk_at dk_X4_takeWord 1 rfl) rfl rfl (Nat.le_of_ble_eq_true rfl) ho (h.mono fun o4 A1 b2 c3 h => aftV h fun h => ?_)
  refine G_aload_n 0 (dk_at dk_X4_takeWord 2 rfl) rfl ?_
  refine G_aload_n 1 (dk_at dk_X4_takeWord 3 rfl) rfl ?_
  obtain ⟨⟨_, ho⟩, h⟩ := h
  refine G_callV (As := [.ref v1]) (rest := []) lk_X4_64 rfl (dk_at dk_X4_takeWord 4 rfl) rfl rfl (Nat.le_of_ble_eq_true rfl) ho (h.mono fun o8 A5 b6 c7 h => aftI h fun i9 h => ?_)
  refine G_if_ne (tgt := 22) (dk_at dk_X4_takeWord 5 rfl) (by decide) (fun c => ?_) (fun c => ?_)
  · replace h := h.1 c
    exact G_vret rfl (dk_at dk_X4_takeWord 11 rfl) h
  · replace h := h.2 c
    refine G_aload_n 0 (dk_at dk_X4_takeWord 6 rfl) rfl ?_
    refine G_bipush (v := (-2)) (dk_at dk_X4_takeWord 7 rfl) (by decide) ?_
    refine G_aload_n 0 (dk_at dk_X4_takeWord 8 rfl) rfl ?_
    refine K_gI gf_X4_9 (dk_at dk_X4_takeWord 9 rfl) h (fun i10 h => ?_)
    obtain ⟨⟨_, ho⟩, h⟩ := h
    refine G_callV (As := [.int ((-2)), .int i10]) (rest := []) lk_X4_87 rfl (dk_at dk_X4_takeWord 10 rfl) rfl rfl (Nat.le_of_ble_eq_true rfl) ho (h.mono fun o14 A11 b12 c13 h => aftV h fun h => ?_)
    exact G_vret rfl (dk_at dk_X4_takeWord 11 rfl) h
theorem k_X4_takeSemicolon_0 {l : Launch} {X : XT} {d : Nat} {Q : Ot → AH → Prop} {A : AH} {bc bs : Nat} {v0 : Nat} (h : isO A v0 5 ∧ Cal l X d bc bs M_X4_skipSpaces [.ref v0] A fun o4 A1 b2 c3 => rV o4 (fun E => Q (.inr E) A1) <| gI A1 v0 5 2 fun i5 => isO A1 v0 5 ∧ Cal l X d b2 c3 M_X4_byteAt [.ref v0, .int i5] A1 fun o9 A6 b7 c8 => rI o9 (fun E => Q (.inr E) A6) fun i10 => (¬ i10 = 59 → gI A6 v0 5 2 fun i11 => isO A6 v0 5 ∧ Cal l X d b7 c8 M_X4_fail [.ref v0, .int ((-2)), .int i11] A6 fun o15 A12 b13 c14 => rV o15 (fun E => Q (.inr E) A12) <| Q Rv A12) ∧ (i10 = 59 → gI A6 v0 5 2 fun i16 => pV A6 v0 5 2 (.int (i16 + 1)) fun A17 => Q Rv A17)) : G l X M_X4_takeSemicolon d Q 0 [(0, .ref v0)] [] A bc bs := by
  refine G_aload_n 0 (dk_at dk_X4_takeSemicolon 0 rfl) rfl ?_
  obtain ⟨⟨_, ho⟩, h⟩ := h
  refine G_callV (As := []) (rest := []) lk_X4_59 rfl (dk_at dk_X4_takeSemicolon 1 rfl) rfl rfl (Nat.le_of_ble_eq_true rfl) ho (h.mono fun o4 A1 b2 c3 h => aftV h fun h => ?_)
  refine G_aload_n 0 (dk_at dk_X4_takeSemicolon 2 rfl) rfl ?_
  refine G_aload_n 0 (dk_at dk_X4_takeSemicolon 3 rfl) rfl ?_
  refine K_gI gf_X4_9 (dk_at dk_X4_takeSemicolon 4 rfl) h (fun i5 h => ?_)
  obtain ⟨⟨_, ho⟩, h⟩ := h
  refine G_callV (As := [.int i5]) (rest := []) lk_X4_108 rfl (dk_at dk_X4_takeSemicolon 5 rfl) rfl rfl (Nat.le_of_ble_eq_true rfl) ho (h.mono fun o9 A6 b7 c8 h => aftI h fun i10 h => ?_)
  refine G_bipush (v := 59) (dk_at dk_X4_takeSemicolon 6 rfl) (by decide) ?_
  refine G_icmp_ne (tgt := 30) (dk_at dk_X4_takeSemicolon 7 rfl) (by decide) (fun c => ?_) (fun c => ?_)
  · replace h := h.1 c
    refine G_aload_n 0 (dk_at dk_X4_takeSemicolon 15 rfl) rfl ?_
    refine G_bipush (v := (-2)) (dk_at dk_X4_takeSemicolon 16 rfl) (by decide) ?_
    refine G_aload_n 0 (dk_at dk_X4_takeSemicolon 17 rfl) rfl ?_
    refine K_gI gf_X4_9 (dk_at dk_X4_takeSemicolon 18 rfl) h (fun i11 h => ?_)
    obtain ⟨⟨_, ho⟩, h⟩ := h
    refine G_callV (As := [.int ((-2)), .int i11]) (rest := []) lk_X4_87 rfl (dk_at dk_X4_takeSemicolon 19 rfl) rfl rfl (Nat.le_of_ble_eq_true rfl) ho (h.mono fun o15 A12 b13 c14 h => aftV h fun h => ?_)
    exact G_vret rfl (dk_at dk_X4_takeSemicolon 20 rfl) h
  · replace h := h.2 c
    refine G_aload_n 0 (dk_at dk_X4_takeSemicolon 8 rfl) rfl ?_
    refine G_dup (dk_at dk_X4_takeSemicolon 9 rfl) rfl ?_
    refine K_gI gf_X4_9 (dk_at dk_X4_takeSemicolon 10 rfl) h (fun i16 h => ?_)
    refine G_iconst (v := 1) (dk_at dk_X4_takeSemicolon 11 rfl) (by decide) ?_
    refine G_iadd (dk_at dk_X4_takeSemicolon 12 rfl) ?_
    refine K_pI pf_X4_9 (dk_at dk_X4_takeSemicolon 13 rfl) h (fun A17 h => ?_)
    refine G_goto (tgt := 40) (dk_at dk_X4_takeSemicolon 14 rfl) (by decide) ?_
    exact G_vret rfl (dk_at dk_X4_takeSemicolon 20 rfl) h
theorem k_X4_isTaken_0 {l : Launch} {X : XT} {d : Nat} {Q : Ot → AH → Prop} {A : AH} {bc bs : Nat} {v0 : Nat} {v1 : Nat} (h : ∃ w6, v1 = xK X w6 ∧ w6 < 12 ∧ Cal l X d bc bs M_J0_length_8abf5 [.ref (xK X w6)] A fun o4 A1 b2 c3 => zI o4 fun i5 => G l X M_X4_isTaken d Q 7 [(0, .ref v0), (1, .ref v1), (2, .int i5), (3, .int 0)] [] A1 b2 c3) : G l X M_X4_isTaken d Q 0 [(0, .ref v0), (1, .ref v1)] [] A bc bs := by
  refine G_aload_n 1 (dk_at dk_X4_isTaken 0 rfl) rfl ?_
  obtain ⟨w6, ew6, hw6, h⟩ := h
  refine G_callVs (i := w6) (As := []) (rest := []) hw6 lk_X4_112 (dk_at dk_X4_isTaken 1 rfl) (by rw [ew6]; rfl) rfl (Nat.le_of_ble_eq_true rfl) (h.mono fun o4 A1 b2 c3 h => atfI h fun i5 h => ?_)
  refine G_istore_n (lv' := [(2, .int i5), (0, .ref v0), (1, .ref v1)]) (dk_at dk_X4_isTaken 2 rfl) (by decide) rfl ?_
  refine G_iconst (v := 0) (dk_at dk_X4_isTaken 3 rfl) (by decide) ?_
  refine G_istore_n (lv' := [(3, .int 0), (2, .int i5), (0, .ref v0), (1, .ref v1)]) (dk_at dk_X4_isTaken 4 rfl) (by decide) rfl ?_
  refine G_sub [2, 3, 1, 0] rfl ?_
  exact h
theorem k_X4_isTaken_7 {l : Launch} {X : XT} {d : Nat} {Q : Ot → AH → Prop} {A : AH} {bc bs : Nat} {v0 : Nat} {v1 : Nat} {v2 : Int32} {v3 : Int32} (h : (v2 ≤ v3 → gI A v0 5 2 fun i1 => isO A v0 5 ∧ Cal l X d bc bs M_X4_byteAt [.ref v0, .int (i1 + v2)] A fun o5 A2 b3 c4 => rI o5 (fun E => Q (.inr E) A2) fun i6 => (i6 < 97 → G l X M_X4_isTaken d Q 63 [(0, .ref v0), (2, .int v2)] [] A2 b3 c4) ∧ (¬ i6 < 97 → (122 < i6 → G l X M_X4_isTaken d Q 63 [(0, .ref v0), (2, .int v2)] [] A2 b3 c4) ∧ (¬ 122 < i6 → Q (Ri 0) A2))) ∧ (¬ v2 ≤ v3 → gI A v0 5 2 fun i7 => isO A v0 5 ∧ Cal l X d bc bs M_X4_byteAt [.ref v0, .int (i7 + v3)] A fun o11 A8 b9 c10 => rI o11 (fun E => Q (.inr E) A8) fun i12 => ∃ w18, v1 = xK X w18 ∧ w18 < 12 ∧ Cal l X d b9 c10 M_J0_charAt_5068e [.ref (xK X w18), .int v3] A8 fun o16 A13 b14 c15 => zI o16 fun i17 => (i12 = i17 → G l X M_X4_isTaken d Q 7 [(0, .ref v0), (1, .ref v1), (2, .int v2), (3, .int (v3 + 1))] [] A13 b14 c15) ∧ (¬ i12 = i17 → Q (Ri 0) A13))) : G l X M_X4_isTaken d Q 7 [(0, .ref v0), (1, .ref v1), (2, .int v2), (3, .int v3)] [] A bc bs := by
  refine G_iload_n 3 (dk_at dk_X4_isTaken 5 rfl) rfl ?_
  refine G_iload_n 2 (dk_at dk_X4_isTaken 6 rfl) rfl ?_
  refine G_icmp_ge (tgt := 38) (dk_at dk_X4_isTaken 7 rfl) (by decide) (fun c => ?_) (fun c => ?_)
  · replace h := h.1 c
    refine G_aload_n 0 (dk_at dk_X4_isTaken 22 rfl) rfl ?_
    refine G_aload_n 0 (dk_at dk_X4_isTaken 23 rfl) rfl ?_
    refine K_gI gf_X4_9 (dk_at dk_X4_isTaken 24 rfl) h (fun i1 h => ?_)
    refine G_iload_n 2 (dk_at dk_X4_isTaken 25 rfl) rfl ?_
    refine G_iadd (dk_at dk_X4_isTaken 26 rfl) ?_
    obtain ⟨⟨_, ho⟩, h⟩ := h
    refine G_callV (As := [.int (i1 + v2)]) (rest := []) lk_X4_108 rfl (dk_at dk_X4_isTaken 27 rfl) rfl rfl (Nat.le_of_ble_eq_true rfl) ho (h.mono fun o5 A2 b3 c4 h => aftI h fun i6 h => ?_)
    refine G_istore_n (lv' := [(3, .int i6), (0, .ref v0), (1, .ref v1), (2, .int v2)]) (dk_at dk_X4_isTaken 28 rfl) (by decide) rfl ?_
    refine G_iload_n 0 (dk_at dk_X4_isTaken 29 rfl) rfl ?_
    refine G_bipush (v := 97) (dk_at dk_X4_isTaken 30 rfl) (by decide) ?_
    refine G_icmp_lt (tgt := 63) (dk_at dk_X4_isTaken 31 rfl) (by decide) (fun c => ?_) (fun c => ?_)
    · replace h := h.1 c
      refine G_sub [1, 3] rfl ?_
      exact h
    · replace h := h.2 c
      refine G_iload_n 0 (dk_at dk_X4_isTaken 32 rfl) rfl ?_
      refine G_bipush (v := 122) (dk_at dk_X4_isTaken 33 rfl) (by decide) ?_
      refine G_icmp_gt (tgt := 63) (dk_at dk_X4_isTaken 34 rfl) (by decide) (fun c => ?_) (fun c => ?_)
      · replace h := h.1 c
        refine G_sub [1, 3] rfl ?_
        exact h
      · replace h := h.2 c
        refine G_iconst (v := 0) (dk_at dk_X4_isTaken 35 rfl) (by decide) ?_
        exact G_iret (ty := .boolean) rfl rfl (dk_at dk_X4_isTaken 36 rfl) h
  · replace h := h.2 c
    refine G_aload_n 0 (dk_at dk_X4_isTaken 8 rfl) rfl ?_
    refine G_aload_n 0 (dk_at dk_X4_isTaken 9 rfl) rfl ?_
    refine K_gI gf_X4_9 (dk_at dk_X4_isTaken 10 rfl) h (fun i7 h => ?_)
    refine G_iload_n 3 (dk_at dk_X4_isTaken 11 rfl) rfl ?_
    refine G_iadd (dk_at dk_X4_isTaken 12 rfl) ?_
    obtain ⟨⟨_, ho⟩, h⟩ := h
    refine G_callV (As := [.int (i7 + v3)]) (rest := []) lk_X4_108 rfl (dk_at dk_X4_isTaken 13 rfl) rfl rfl (Nat.le_of_ble_eq_true rfl) ho (h.mono fun o11 A8 b9 c10 h => aftI h fun i12 h => ?_)
    refine G_aload_n 1 (dk_at dk_X4_isTaken 14 rfl) rfl ?_
    refine G_iload_n 3 (dk_at dk_X4_isTaken 15 rfl) rfl ?_
    obtain ⟨w18, ew18, hw18, h⟩ := h
    refine G_callVs (i := w18) (As := [.int v3]) (rest := [.int i12]) hw18 lk_X4_117 (dk_at dk_X4_isTaken 16 rfl) (by rw [ew18]; rfl) rfl (Nat.le_of_ble_eq_true rfl) (h.mono fun o16 A13 b14 c15 h => atfI h fun i17 h => ?_)
    refine G_icmp_eq (tgt := 32) (dk_at dk_X4_isTaken 17 rfl) (by decide) (fun c => ?_) (fun c => ?_)
    · replace h := h.1 c
      refine G_iinc (v := v3 + 1) (lv' := [(3, .int (v3 + 1)), (0, .ref v0), (1, .ref v1), (2, .int v2)]) 3 (dk_at dk_X4_isTaken 20 rfl) rfl rfl (by decide) rfl ?_
      refine G_goto (tgt := 7) (dk_at dk_X4_isTaken 21 rfl) (by decide) ?_
      refine G_sub [1, 2, 3, 0] rfl ?_
      exact h
    · replace h := h.2 c
      refine G_iconst (v := 0) (dk_at dk_X4_isTaken 18 rfl) (by decide) ?_
      exact G_iret (ty := .boolean) rfl rfl (dk_at dk_X4_isTaken 19 rfl) h
theorem k_X4_isTaken_63 {l : Launch} {X : XT} {d : Nat} {Q : Ot → AH → Prop} {A : AH} {bc bs : Nat} {v0 : Nat} {v2 : Int32} (h : gI A v0 5 2 fun i1 => pV A v0 5 2 (.int (i1 + v2)) fun A2 => Q (Ri 1) A2) : G l X M_X4_isTaken d Q 63 [(0, .ref v0), (2, .int v2)] [] A bc bs := by
  refine G_aload_n 0 (dk_at dk_X4_isTaken 37 rfl) rfl ?_
  refine G_dup (dk_at dk_X4_isTaken 38 rfl) rfl ?_
  refine K_gI gf_X4_9 (dk_at dk_X4_isTaken 39 rfl) h (fun i1 h => ?_)
  refine G_iload_n 1 (dk_at dk_X4_isTaken 40 rfl) rfl ?_
  refine G_iadd (dk_at dk_X4_isTaken 41 rfl) ?_
  refine K_pI pf_X4_9 (dk_at dk_X4_isTaken 42 rfl) h (fun A2 h => ?_)
  refine G_iconst (v := 1) (dk_at dk_X4_isTaken 43 rfl) (by decide) ?_
  exact G_iret (ty := .boolean) rfl rfl (dk_at dk_X4_isTaken 44 rfl) h
theorem k_X4_takeNumber_0 {l : Launch} {X : XT} {d : Nat} {Q : Ot → AH → Prop} {A : AH} {bc bs : Nat} {v0 : Nat} {v1 : Int32} {v2 : Int32} (h : isO A v0 5 ∧ Cal l X d bc bs M_X4_skipSpaces [.ref v0] A fun o4 A1 b2 c3 => rV o4 (fun E => Q (.inr E) A1) <| gI A1 v0 5 2 fun i5 => G l X M_X4_takeNumber d Q 12 [(0, .ref v0), (1, .int v1), (2, .int v2), (3, .int i5), (4, .int 0)] [] A1 b2 c3) : G l X M_X4_takeNumber d Q 0 [(0, .ref v0), (1, .int v1), (2, .int v2)] [] A bc bs := by
  refine G_aload_n 0 (dk_at dk_X4_takeNumber 0 rfl) rfl ?_
  obtain ⟨⟨_, ho⟩, h⟩ := h
  refine G_callV (As := []) (rest := []) lk_X4_59 rfl (dk_at dk_X4_takeNumber 1 rfl) rfl rfl (Nat.le_of_ble_eq_true rfl) ho (h.mono fun o4 A1 b2 c3 h => aftV h fun h => ?_)
  refine G_aload_n 0 (dk_at dk_X4_takeNumber 2 rfl) rfl ?_
  refine K_gI gf_X4_9 (dk_at dk_X4_takeNumber 3 rfl) h (fun i5 h => ?_)
  refine G_istore_n (lv' := [(3, .int i5), (0, .ref v0), (1, .int v1), (2, .int v2)]) (dk_at dk_X4_takeNumber 4 rfl) (by decide) rfl ?_
  refine G_iconst (v := 0) (dk_at dk_X4_takeNumber 5 rfl) (by decide) ?_
  refine G_istore (lv' := [(4, .int 0), (3, .int i5), (0, .ref v0), (1, .int v1), (2, .int v2)]) (dk_at dk_X4_takeNumber 6 rfl) (by decide) rfl ?_
  refine G_sub [2, 3, 4, 1, 0] rfl ?_
  exact h
theorem k_X4_takeNumber_12 {l : Launch} {X : XT} {d : Nat} {Q : Ot → AH → Prop} {A : AH} {bc bs : Nat} {v0 : Nat} {v1 : Int32} {v2 : Int32} {v3 : Int32} {v4 : Int32} (h : gI A v0 5 2 fun i1 => gI A v0 5 1 fun i2 => (i2 ≤ i1 → G l X M_X4_takeNumber d Q 74 [(0, .ref v0), (1, .int v1), (2, .int v2), (3, .int v3), (4, .int v4)] [] A bc bs) ∧ (¬ i2 ≤ i1 → gI A v0 5 2 fun i3 => isO A v0 5 ∧ Cal l X d bc bs M_X4_byteAt [.ref v0, .int i3] A fun o7 A4 b5 c6 => rI o7 (fun E => Q (.inr E) A4) fun i8 => Cal l X d b5 c6 M_X4_isDigit [.int i8] A4 fun o12 A9 b10 c11 => rI o12 (fun E => Q (.inr E) A9) fun i13 => (i13 = 0 → G l X M_X4_takeNumber d Q 74 [(0, .ref v0), (1, .int v1), (2, .int v2), (3, .int v3), (4, .int v4)] [] A9 b10 c11) ∧ (¬ i13 = 0 → gI A9 v0 5 2 fun i14 => isO A9 v0 5 ∧ Cal l X d b10 c11 M_X4_byteAt [.ref v0, .int i14] A9 fun o18 A15 b16 c17 => rI o18 (fun E => Q (.inr E) A15) fun i19 => gI A15 v0 5 2 fun i20 => pV A15 v0 5 2 (.int (i20 + 1)) fun A21 => G l X M_X4_takeNumber d Q 12 [(0, .ref v0), (1, .int v1), (2, .int v2), (3, .int v3), (4, .int (if 100000 < (((10 * v4) + i19) - 48) then 100000 else (((10 * v4) + i19) - 48)))] [] A21 b16 c17))) : G l X M_X4_takeNumber d Q 12 [(0, .ref v0), (1, .int v1), (2, .int v2), (3, .int v3), (4, .int v4)] [] A bc bs := by
  refine G_aload_n 0 (dk_at dk_X4_takeNumber 7 rfl) rfl ?_
  refine K_gI gf_X4_9 (dk_at dk_X4_takeNumber 8 rfl) h (fun i1 h => ?_)
  refine G_aload_n 0 (dk_at dk_X4_takeNumber 9 rfl) rfl ?_
  refine K_gI gf_X4_28 (dk_at dk_X4_takeNumber 10 rfl) h (fun i2 h => ?_)
  refine G_icmp_ge (tgt := 74) (dk_at dk_X4_takeNumber 11 rfl) (by decide) (fun c => ?_) (fun c => ?_)
  · replace h := h.1 c
    exact h
  · replace h := h.2 c
    refine G_aload_n 0 (dk_at dk_X4_takeNumber 12 rfl) rfl ?_
    refine G_aload_n 0 (dk_at dk_X4_takeNumber 13 rfl) rfl ?_
    refine K_gI gf_X4_9 (dk_at dk_X4_takeNumber 14 rfl) h (fun i3 h => ?_)
    obtain ⟨⟨_, ho⟩, h⟩ := h
    refine G_callV (As := [.int i3]) (rest := []) lk_X4_108 rfl (dk_at dk_X4_takeNumber 15 rfl) rfl rfl (Nat.le_of_ble_eq_true rfl) ho (h.mono fun o7 A4 b5 c6 h => aftI h fun i8 h => ?_)
    refine G_callS (As := [.int i8]) (rest := []) lk_X4_121 rfl (dk_at dk_X4_takeNumber 16 rfl) rfl rfl (Nat.le_of_ble_eq_true rfl) (h.mono fun o12 A9 b10 c11 h => aftI h fun i13 h => ?_)
    refine G_if_eq (tgt := 74) (dk_at dk_X4_takeNumber 17 rfl) (by decide) (fun c => ?_) (fun c => ?_)
    · replace h := h.1 c
      exact h
    · replace h := h.2 c
      refine G_bipush (v := 10) (dk_at dk_X4_takeNumber 18 rfl) (by decide) ?_
      refine G_iload 4 (dk_at dk_X4_takeNumber 19 rfl) rfl ?_
      refine G_imul (dk_at dk_X4_takeNumber 20 rfl) ?_
      refine G_aload_n 0 (dk_at dk_X4_takeNumber 21 rfl) rfl ?_
      refine G_aload_n 0 (dk_at dk_X4_takeNumber 22 rfl) rfl ?_
      refine K_gI gf_X4_9 (dk_at dk_X4_takeNumber 23 rfl) h (fun i14 h => ?_)
      obtain ⟨⟨_, ho⟩, h⟩ := h
      refine G_callV (As := [.int i14]) (rest := [.int (10 * v4)]) lk_X4_108 rfl (dk_at dk_X4_takeNumber 24 rfl) rfl rfl (Nat.le_of_ble_eq_true rfl) ho (h.mono fun o18 A15 b16 c17 h => aftI h fun i19 h => ?_)
      refine G_iadd (dk_at dk_X4_takeNumber 25 rfl) ?_
      refine G_bipush (v := 48) (dk_at dk_X4_takeNumber 26 rfl) (by decide) ?_
      refine G_isub (dk_at dk_X4_takeNumber 27 rfl) ?_
      refine G_ldcI wd_15 (dk_at dk_X4_takeNumber 28 rfl) ?_
      refine G_min wd_16 wm_min1 wm_2 wm_min3 (dk_at dk_X4_takeNumber 29 rfl) (Nat.le_of_ble_eq_true rfl) ?_
      refine G_istore (lv' := [(4, .int (if 100000 < (((10 * v4) + i19) - 48) then 100000 else (((10 * v4) + i19) - 48))), (0, .ref v0), (1, .int v1), (2, .int v2), (3, .int v3)]) (dk_at dk_X4_takeNumber 30 rfl) (by decide) rfl ?_
      refine G_aload_n 1 (dk_at dk_X4_takeNumber 31 rfl) rfl ?_
      refine G_dup (dk_at dk_X4_takeNumber 32 rfl) rfl ?_
      refine K_gI gf_X4_9 (dk_at dk_X4_takeNumber 33 rfl) h (fun i20 h => ?_)
      refine G_iconst (v := 1) (dk_at dk_X4_takeNumber 34 rfl) (by decide) ?_
      refine G_iadd (dk_at dk_X4_takeNumber 35 rfl) ?_
      refine K_pI pf_X4_9 (dk_at dk_X4_takeNumber 36 rfl) h (fun A21 h => ?_)
      refine G_goto (tgt := 12) (dk_at dk_X4_takeNumber 37 rfl) (by decide) ?_
      refine G_sub [1, 2, 3, 4, 0] rfl ?_
      exact h
theorem k_X4_takeNumber_74 {l : Launch} {X : XT} {d : Nat} {Q : Ot → AH → Prop} {A : AH} {bc bs : Nat} {v0 : Nat} {v1 : Int32} {v2 : Int32} {v3 : Int32} {v4 : Int32} (h : gI A v0 5 2 fun i1 => (¬ i1 = v3 → (v4 < v1 → G l X M_X4_takeNumber d Q 103 [(0, .ref v0), (1, .int v1), (3, .int v3)] [] A bc bs) ∧ (¬ v4 < v1 → (v4 ≤ v2 → Q (Ri v4) A) ∧ (¬ v4 ≤ v2 → G l X M_X4_takeNumber d Q 103 [(0, .ref v0), (1, .int v1), (3, .int v3)] [] A bc bs))) ∧ (i1 = v3 → isO A v0 5 ∧ Cal l X d bc bs M_X4_fail [.ref v0, .int ((-2)), .int v3] A fun o5 A2 b3 c4 => rV o5 (fun E => Q (.inr E) A2) <| Q (Ri v1) A2)) : G l X M_X4_takeNumber d Q 74 [(0, .ref v0), (1, .int v1), (2, .int v2), (3, .int v3), (4, .int v4)] [] A bc bs := by
  refine G_aload_n 0 (dk_at dk_X4_takeNumber 38 rfl) rfl ?_
  refine K_gI gf_X4_9 (dk_at dk_X4_takeNumber 39 rfl) h (fun i1 h => ?_)
  refine G_iload_n 3 (dk_at dk_X4_takeNumber 40 rfl) rfl ?_
  refine G_icmp_ne (tgt := 91) (dk_at dk_X4_takeNumber 41 rfl) (by decide) (fun c => ?_) (fun c => ?_)
  · replace h := h.1 c
    refine G_iload 4 (dk_at dk_X4_takeNumber 48 rfl) rfl ?_
    refine G_iload_n 1 (dk_at dk_X4_takeNumber 49 rfl) rfl ?_
    refine G_icmp_lt (tgt := 103) (dk_at dk_X4_takeNumber 50 rfl) (by decide) (fun c => ?_) (fun c => ?_)
    · replace h := h.1 c
      refine G_sub [0, 1, 3] rfl ?_
      exact h
    · replace h := h.2 c
      refine G_iload 4 (dk_at dk_X4_takeNumber 51 rfl) rfl ?_
      refine G_iload_n 2 (dk_at dk_X4_takeNumber 52 rfl) rfl ?_
      refine G_icmp_le (tgt := 112) (dk_at dk_X4_takeNumber 53 rfl) (by decide) (fun c => ?_) (fun c => ?_)
      · replace h := h.1 c
        refine G_iload 4 (dk_at dk_X4_takeNumber 60 rfl) rfl ?_
        exact G_iret (ty := .int) rfl rfl (dk_at dk_X4_takeNumber 61 rfl) h
      · replace h := h.2 c
        refine G_sub [0, 1, 3] rfl ?_
        exact h
  · replace h := h.2 c
    refine G_aload_n 0 (dk_at dk_X4_takeNumber 42 rfl) rfl ?_
    refine G_bipush (v := (-2)) (dk_at dk_X4_takeNumber 43 rfl) (by decide) ?_
    refine G_iload_n 3 (dk_at dk_X4_takeNumber 44 rfl) rfl ?_
    obtain ⟨⟨_, ho⟩, h⟩ := h
    refine G_callV (As := [.int ((-2)), .int v3]) (rest := []) lk_X4_87 rfl (dk_at dk_X4_takeNumber 45 rfl) rfl rfl (Nat.le_of_ble_eq_true rfl) ho (h.mono fun o5 A2 b3 c4 h => aftV h fun h => ?_)
    refine G_iload_n 1 (dk_at dk_X4_takeNumber 46 rfl) rfl ?_
    exact G_iret (ty := .int) rfl rfl (dk_at dk_X4_takeNumber 47 rfl) h
theorem k_X4_takeNumber_103 {l : Launch} {X : XT} {d : Nat} {Q : Ot → AH → Prop} {A : AH} {bc bs : Nat} {v0 : Nat} {v1 : Int32} {v3 : Int32} (h : isO A v0 5 ∧ Cal l X d bc bs M_X4_fail [.ref v0, .int ((-3)), .int v3] A fun o4 A1 b2 c3 => rV o4 (fun E => Q (.inr E) A1) <| Q (Ri v1) A1) : G l X M_X4_takeNumber d Q 103 [(0, .ref v0), (1, .int v1), (3, .int v3)] [] A bc bs := by
  refine G_aload_n 0 (dk_at dk_X4_takeNumber 54 rfl) rfl ?_
  refine G_bipush (v := (-3)) (dk_at dk_X4_takeNumber 55 rfl) (by decide) ?_
  refine G_iload_n 2 (dk_at dk_X4_takeNumber 56 rfl) rfl ?_
  obtain ⟨⟨_, ho⟩, h⟩ := h
  refine G_callV (As := [.int ((-3)), .int v3]) (rest := []) lk_X4_87 rfl (dk_at dk_X4_takeNumber 57 rfl) rfl rfl (Nat.le_of_ble_eq_true rfl) ho (h.mono fun o4 A1 b2 c3 h => aftV h fun h => ?_)
  refine G_iload_n 1 (dk_at dk_X4_takeNumber 58 rfl) rfl ?_
  exact G_iret (ty := .int) rfl rfl (dk_at dk_X4_takeNumber 59 rfl) h
theorem k_X4_skipSpaces_0 {l : Launch} {X : XT} {d : Nat} {Q : Ot → AH → Prop} {A : AH} {bc bs : Nat} {v0 : Nat} (h : gI A v0 5 2 fun i1 => gI A v0 5 1 fun i2 => (i2 ≤ i1 → Q Rv A) ∧ (¬ i2 ≤ i1 → gI A v0 5 2 fun i3 => isO A v0 5 ∧ Cal l X d bc bs M_X4_byteAt [.ref v0, .int i3] A fun o7 A4 b5 c6 => rI o7 (fun E => Q (.inr E) A4) fun i8 => (¬ i8 = 32 → Q Rv A4) ∧ (i8 = 32 → gI A4 v0 5 2 fun i9 => pV A4 v0 5 2 (.int (i9 + 1)) fun A10 => G l X M_X4_skipSpaces d Q 0 [(0, .ref v0)] [] A10 b5 c6))) : G l X M_X4_skipSpaces d Q 0 [(0, .ref v0)] [] A bc bs := by
  refine G_aload_n 0 (dk_at dk_X4_skipSpaces 0 rfl) rfl ?_
  refine K_gI gf_X4_9 (dk_at dk_X4_skipSpaces 1 rfl) h (fun i1 h => ?_)
  refine G_aload_n 0 (dk_at dk_X4_skipSpaces 2 rfl) rfl ?_
  refine K_gI gf_X4_28 (dk_at dk_X4_skipSpaces 3 rfl) h (fun i2 h => ?_)
  refine G_icmp_ge (tgt := 37) (dk_at dk_X4_skipSpaces 4 rfl) (by decide) (fun c => ?_) (fun c => ?_)
  · replace h := h.1 c
    exact G_vret rfl (dk_at dk_X4_skipSpaces 18 rfl) h
  · replace h := h.2 c
    refine G_aload_n 0 (dk_at dk_X4_skipSpaces 5 rfl) rfl ?_
    refine G_aload_n 0 (dk_at dk_X4_skipSpaces 6 rfl) rfl ?_
    refine K_gI gf_X4_9 (dk_at dk_X4_skipSpaces 7 rfl) h (fun i3 h => ?_)
    obtain ⟨⟨_, ho⟩, h⟩ := h
    refine G_callV (As := [.int i3]) (rest := []) lk_X4_108 rfl (dk_at dk_X4_skipSpaces 8 rfl) rfl rfl (Nat.le_of_ble_eq_true rfl) ho (h.mono fun o7 A4 b5 c6 h => aftI h fun i8 h => ?_)
    refine G_bipush (v := 32) (dk_at dk_X4_skipSpaces 9 rfl) (by decide) ?_
    refine G_icmp_ne (tgt := 37) (dk_at dk_X4_skipSpaces 10 rfl) (by decide) (fun c => ?_) (fun c => ?_)
    · replace h := h.1 c
      exact G_vret rfl (dk_at dk_X4_skipSpaces 18 rfl) h
    · replace h := h.2 c
      refine G_aload_n 0 (dk_at dk_X4_skipSpaces 11 rfl) rfl ?_
      refine G_dup (dk_at dk_X4_skipSpaces 12 rfl) rfl ?_
      refine K_gI gf_X4_9 (dk_at dk_X4_skipSpaces 13 rfl) h (fun i9 h => ?_)
      refine G_iconst (v := 1) (dk_at dk_X4_skipSpaces 14 rfl) (by decide) ?_
      refine G_iadd (dk_at dk_X4_skipSpaces 15 rfl) ?_
      refine K_pI pf_X4_9 (dk_at dk_X4_skipSpaces 16 rfl) h (fun A10 h => ?_)
      refine G_goto (tgt := 0) (dk_at dk_X4_skipSpaces 17 rfl) (by decide) ?_
      exact h
theorem k_X4_isDigit_0 {l : Launch} {X : XT} {d : Nat} {Q : Ot → AH → Prop} {A : AH} {bc bs : Nat} {v0 : Int32} (h : (v0 < 48 → Q (Ri 0) A) ∧ (¬ v0 < 48 → (57 < v0 → Q (Ri 0) A) ∧ (¬ 57 < v0 → Q (Ri 1) A))) : G l X M_X4_isDigit d Q 0 [(0, .int v0)] [] A bc bs := by
  refine G_iload_n 0 (dk_at dk_X4_isDigit 0 rfl) rfl ?_
  refine G_bipush (v := 48) (dk_at dk_X4_isDigit 1 rfl) (by decide) ?_
  refine G_icmp_lt (tgt := 16) (dk_at dk_X4_isDigit 2 rfl) (by decide) (fun c => ?_) (fun c => ?_)
  · replace h := h.1 c
    refine G_iconst (v := 0) (dk_at dk_X4_isDigit 8 rfl) (by decide) ?_
    exact G_iret (ty := .boolean) rfl rfl (dk_at dk_X4_isDigit 9 rfl) h
  · replace h := h.2 c
    refine G_iload_n 0 (dk_at dk_X4_isDigit 3 rfl) rfl ?_
    refine G_bipush (v := 57) (dk_at dk_X4_isDigit 4 rfl) (by decide) ?_
    refine G_icmp_gt (tgt := 16) (dk_at dk_X4_isDigit 5 rfl) (by decide) (fun c => ?_) (fun c => ?_)
    · replace h := h.1 c
      refine G_iconst (v := 0) (dk_at dk_X4_isDigit 8 rfl) (by decide) ?_
      exact G_iret (ty := .boolean) rfl rfl (dk_at dk_X4_isDigit 9 rfl) h
    · replace h := h.2 c
      refine G_iconst (v := 1) (dk_at dk_X4_isDigit 6 rfl) (by decide) ?_
      refine G_goto (tgt := 17) (dk_at dk_X4_isDigit 7 rfl) (by decide) ?_
      exact G_iret (ty := .boolean) rfl rfl (dk_at dk_X4_isDigit 9 rfl) h
theorem k_X4_byteAt_0 {l : Launch} {X : XT} {d : Nat} {Q : Ot → AH → Prop} {A : AH} {bc bs : Nat} {v0 : Nat} {v1 : Int32} (h : gI A v0 5 1 fun i1 => (i1 ≤ v1 → Q (Ri ((-1))) A) ∧ (¬ i1 ≤ v1 → gR A v0 5 0 fun r2 => Cal l X d bc bs M_X5_at [.ref r2, .int v1] A fun o6 A3 b4 c5 => zI o6 fun i7 => Q (Ri i7) A3)) : G l X M_X4_byteAt d Q 0 [(0, .ref v0), (1, .int v1)] [] A bc bs := by
  refine G_iload_n 1 (dk_at dk_X4_byteAt 0 rfl) rfl ?_
  refine G_aload_n 0 (dk_at dk_X4_byteAt 1 rfl) rfl ?_
  refine K_gI gf_X4_28 (dk_at dk_X4_byteAt 2 rfl) h (fun i1 h => ?_)
  refine G_icmp_ge (tgt := 19) (dk_at dk_X4_byteAt 3 rfl) (by decide) (fun c => ?_) (fun c => ?_)
  · replace h := h.1 c
    refine G_iconst (v := (-1)) (dk_at dk_X4_byteAt 9 rfl) (by decide) ?_
    exact G_iret (ty := .int) rfl rfl (dk_at dk_X4_byteAt 10 rfl) h
  · replace h := h.2 c
    refine G_aload_n 0 (dk_at dk_X4_byteAt 4 rfl) rfl ?_
    refine K_gR gf_X4_24 (dk_at dk_X4_byteAt 5 rfl) h (fun r2 h => ?_)
    refine G_iload_n 1 (dk_at dk_X4_byteAt 6 rfl) rfl ?_
    refine G_callSN (As := [.ref r2, .int v1]) (rest := []) lk_X4_131 (dk_at dk_X4_byteAt 7 rfl) rfl rfl (Nat.le_of_ble_eq_true rfl) (h.mono fun o6 A3 b4 c5 h => atfI h fun i7 h => ?_)
    refine G_goto (tgt := 20) (dk_at dk_X4_byteAt 8 rfl) (by decide) ?_
    exact G_iret (ty := .int) rfl rfl (dk_at dk_X4_byteAt 10 rfl) h
theorem k_X4_fail_0 {l : Launch} {X : XT} {d : Nat} {Q : Ot → AH → Prop} {A : AH} {bc bs : Nat} {v0 : Nat} {v1 : Int32} {v2 : Int32} (h : gI A v0 5 4 fun i1 => (¬ i1 = 0 → Q Rv A) ∧ (i1 = 0 → pV A v0 5 4 (.int v1) fun A2 => pV A2 v0 5 5 (.int v2) fun A3 => Q Rv A3)) : G l X M_X4_fail d Q 0 [(0, .ref v0), (1, .int v1), (2, .int v2)] [] A bc bs := by
  refine G_aload_n 0 (dk_at dk_X4_fail 0 rfl) rfl ?_
  refine K_gI gf_X4_18 (dk_at dk_X4_fail 1 rfl) h (fun i1 h => ?_)
  refine G_if_ne (tgt := 17) (dk_at dk_X4_fail 2 rfl) (by decide) (fun c => ?_) (fun c => ?_)
  · replace h := h.1 c
    exact G_vret rfl (dk_at dk_X4_fail 9 rfl) h
  · replace h := h.2 c
    refine G_aload_n 0 (dk_at dk_X4_fail 3 rfl) rfl ?_
    refine G_iload_n 1 (dk_at dk_X4_fail 4 rfl) rfl ?_
    refine K_pI pf_X4_18 (dk_at dk_X4_fail 5 rfl) h (fun A2 h => ?_)
    refine G_aload_n 0 (dk_at dk_X4_fail 6 rfl) rfl ?_
    refine G_iload_n 2 (dk_at dk_X4_fail 7 rfl) rfl ?_
    refine K_pI pf_X4_21 (dk_at dk_X4_fail 8 rfl) h (fun A3 h => ?_)
    exact G_vret rfl (dk_at dk_X4_fail 9 rfl) h
