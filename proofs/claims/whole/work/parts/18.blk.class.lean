/-! blocks: what a method asks, row by row, as one formula (laid by wip/whole/gen) -/
theorem k_X5_init_0 {l : Launch} {X : XT} {d : Nat} {Q : Ot → AH → Prop} {A : AH} {bc bs : Nat} {v0 : Nat} (h : mkA A 400 (fun N => ia X N (fun _ => 0)) bc bs fun r1 A2 b3 c4 => pV A2 v0 6 0 (.ref r1) fun A5 => pV A5 v0 6 1 (.int 0) fun A6 => pV A6 v0 6 2 (.int ((-1))) fun A7 => mkA A7 60 (fun N => ia X N (fun _ => 0)) b3 c4 fun r8 A9 b10 c11 => pV A9 v0 6 3 (.ref r8) fun A12 => pV A12 v0 6 4 (.int 0) fun A13 => mkA A13 8 (fun N => ra X 3 N (fun _ => none)) b10 c11 fun r14 A15 b16 c17 => pV A15 v0 6 6 (.ref r14) fun A18 => pV A18 v0 6 7 (.int 0) fun A19 => pV A19 v0 6 8 (.int 0) fun A20 => pV A20 v0 6 9 .null fun A21 => mk A21 (ob 4 df_4) 16 b16 c17 fun r22 A23 b24 c25 => Cal l X d b24 c25 M_X3_init [.ref r22, .int 1, .int 0, .int 4, .int 4] A23 fun o29 A26 b27 c28 => zV o29 <| mk A26 (ob 2 df_2) 17 b27 c28 fun r30 A31 b32 c33 => Cal l X d b32 c33 M_X1_init [.ref r30, .ref r22] A31 fun o37 A34 b35 c36 => zV o37 <| pV A34 v0 6 5 (.ref r30) fun A38 => gR A38 v0 6 5 fun r39 => isO A38 r39 2 ∧ Cal l X d b35 c36 M_X1_begin [.ref r39, .ref r22] A38 fun o43 A40 b41 c42 => rV o43 (fun E => Q (.inr E) A40) <| Q Rv A40) : G l X M_X5_init d Q 0 [(0, .ref v0)] [] A bc bs := by
  refine G_aload_n 0 (dk_at dk_X5_init 0 rfl) rfl ?_
  refine G_objInit wd_17 wo_1 wo_2 (dk_at dk_X5_init 1 rfl) (Nat.le_of_ble_eq_true rfl) ?_
  refine G_aload_n 0 (dk_at dk_X5_init 2 rfl) rfl ?_
  refine G_sipush (v := 400) (dk_at dk_X5_init 3 rfl) (by decide) ?_
  refine K_newi wa_i (dk_at dk_X5_init 4 rfl) h (fun r1 A2 b3 c4 h => ?_)
  refine K_pR pf_X5_9 rfl rfl (dk_at dk_X5_init 5 rfl) h (fun A5 h => ?_)
  refine G_aload_n 0 (dk_at dk_X5_init 6 rfl) rfl ?_
  refine G_iconst (v := 0) (dk_at dk_X5_init 7 rfl) (by decide) ?_
  refine K_pI pf_X5_13 (dk_at dk_X5_init 8 rfl) h (fun A6 h => ?_)
  refine G_aload_n 0 (dk_at dk_X5_init 9 rfl) rfl ?_
  refine G_iconst (v := (-1)) (dk_at dk_X5_init 10 rfl) (by decide) ?_
  refine K_pI pf_X5_17 (dk_at dk_X5_init 11 rfl) h (fun A7 h => ?_)
  refine G_aload_n 0 (dk_at dk_X5_init 12 rfl) rfl ?_
  refine G_bipush (v := 60) (dk_at dk_X5_init 13 rfl) (by decide) ?_
  refine K_newi wa_i (dk_at dk_X5_init 14 rfl) h (fun r8 A9 b10 c11 h => ?_)
  refine K_pR pf_X5_20 rfl rfl (dk_at dk_X5_init 15 rfl) h (fun A12 h => ?_)
  refine G_aload_n 0 (dk_at dk_X5_init 16 rfl) rfl ?_
  refine G_iconst (v := 0) (dk_at dk_X5_init 17 rfl) (by decide) ?_
  refine K_pI pf_X5_23 (dk_at dk_X5_init 18 rfl) h (fun A13 h => ?_)
  refine G_aload_n 0 (dk_at dk_X5_init 19 rfl) rfl ?_
  refine G_bipush (v := 8) (dk_at dk_X5_init 20 rfl) (by decide) ?_
  refine K_newq3 wd_18 (dk_at dk_X5_init 21 rfl) h (fun r14 A15 b16 c17 h => ?_)
  refine K_pR pf_X5_28 rfl rfl (dk_at dk_X5_init 22 rfl) h (fun A18 h => ?_)
  refine G_aload_n 0 (dk_at dk_X5_init 23 rfl) rfl ?_
  refine G_iconst (v := 0) (dk_at dk_X5_init 24 rfl) (by decide) ?_
  refine K_pI pf_X5_32 (dk_at dk_X5_init 25 rfl) h (fun A19 h => ?_)
  refine G_aload_n 0 (dk_at dk_X5_init 26 rfl) rfl ?_
  refine G_iconst (v := 0) (dk_at dk_X5_init 27 rfl) (by decide) ?_
  refine K_pI pf_X5_35 (dk_at dk_X5_init 28 rfl) h (fun A20 h => ?_)
  refine G_aload_n 0 (dk_at dk_X5_init 29 rfl) rfl ?_
  refine G_null (dk_at dk_X5_init 30 rfl) ?_
  refine K_pN pf_X5_38 rfl rfl (dk_at dk_X5_init 31 rfl) h (fun A21 h => ?_)
  refine K_new no_X5_42 (dk_at dk_X5_init 32 rfl) h (fun r22 A23 b24 c25 h => ?_)
  refine G_dup (dk_at dk_X5_init 33 rfl) rfl ?_
  refine G_iconst (v := 1) (dk_at dk_X5_init 34 rfl) (by decide) ?_
  refine G_iconst (v := 0) (dk_at dk_X5_init 35 rfl) (by decide) ?_
  refine G_iconst (v := 4) (dk_at dk_X5_init 36 rfl) (by decide) ?_
  refine G_iconst (v := 4) (dk_at dk_X5_init 37 rfl) (by decide) ?_
  refine G_callI (As := [.int 1, .int 0, .int 4, .int 4]) (rest := [.ref r22]) lk_X5_44 (dk_at dk_X5_init 38 rfl) rfl rfl (Nat.le_of_ble_eq_true rfl) (h.mono fun o29 A26 b27 c28 h => atfV h fun h => ?_)
  refine G_astore_n (lv' := [(1, .ref r22), (0, .ref v0)]) (dk_at dk_X5_init 39 rfl) (by decide) rfl ?_
  refine G_aload_n 1 (dk_at dk_X5_init 40 rfl) rfl ?_
  refine K_new no_X5_26 (dk_at dk_X5_init 41 rfl) h (fun r30 A31 b32 c33 h => ?_)
  refine G_dup (dk_at dk_X5_init 42 rfl) rfl ?_
  refine G_aload_n 0 (dk_at dk_X5_init 43 rfl) rfl ?_
  refine G_callI (As := [.ref r22]) (rest := [.ref r30, .ref v0]) lk_X5_47 (dk_at dk_X5_init 44 rfl) rfl rfl (Nat.le_of_ble_eq_true rfl) (h.mono fun o37 A34 b35 c36 h => atfV h fun h => ?_)
  refine K_pR pf_X5_50 rfl rfl (dk_at dk_X5_init 45 rfl) h (fun A38 h => ?_)
  refine G_aload_n 1 (dk_at dk_X5_init 46 rfl) rfl ?_
  refine K_gR gf_X5_50 (dk_at dk_X5_init 47 rfl) h (fun r39 h => ?_)
  refine G_aload_n 0 (dk_at dk_X5_init 48 rfl) rfl ?_
  obtain ⟨⟨_, ho⟩, h⟩ := h
  refine G_callV (As := [.ref r22]) (rest := []) lk_X5_53 rfl (dk_at dk_X5_init 49 rfl) rfl rfl (Nat.le_of_ble_eq_true rfl) ho (h.mono fun o43 A40 b41 c42 h => aftV h fun h => ?_)
  exact G_vret rfl (dk_at dk_X5_init 50 rfl) h
theorem k_X5_append_0 {l : Launch} {X : XT} {d : Nat} {Q : Ot → AH → Prop} {A : AH} {bc bs : Nat} {v0 : Nat} {v1 : Int32} {v2 : Int32} {v3 : Int32} {v4 : Int32} {v5 : Int32} (h : gI A v0 6 1 fun i1 => (400 < (i1 + 20) → G l X M_X5_append d Q 18 [(0, .ref v0), (1, .int v1), (2, .int v2), (3, .int v3), (4, .int v4), (5, .int v5)] [.int 0] A bc bs) ∧ (¬ 400 < (i1 + 20) → G l X M_X5_append d Q 18 [(0, .ref v0), (1, .int v1), (2, .int v2), (3, .int v3), (4, .int v4), (5, .int v5)] [.int 1] A bc bs)) : G l X M_X5_append d Q 0 [(0, .ref v0), (1, .int v1), (2, .int v2), (3, .int v3), (4, .int v4), (5, .int v5)] [] A bc bs := by
  refine G_aload_n 0 (dk_at dk_X5_append 0 rfl) rfl ?_
  refine K_gI gf_X5_13 (dk_at dk_X5_append 1 rfl) h (fun i1 h => ?_)
  refine G_bipush (v := 20) (dk_at dk_X5_append 2 rfl) (by decide) ?_
  refine G_iadd (dk_at dk_X5_append 3 rfl) ?_
  refine G_sipush (v := 400) (dk_at dk_X5_append 4 rfl) (by decide) ?_
  refine G_icmp_gt (tgt := 17) (dk_at dk_X5_append 5 rfl) (by decide) (fun c => ?_) (fun c => ?_)
  · replace h := h.1 c
    refine G_iconst (v := 0) (dk_at dk_X5_append 8 rfl) (by decide) ?_
    exact h
  · replace h := h.2 c
    refine G_iconst (v := 1) (dk_at dk_X5_append 6 rfl) (by decide) ?_
    refine G_goto (tgt := 18) (dk_at dk_X5_append 7 rfl) (by decide) ?_
    exact h
theorem k_X5_append_18 {l : Launch} {X : XT} {d : Nat} {Q : Ot → AH → Prop} {A : AH} {bc bs : Nat} {v0 : Nat} {v1 : Int32} {v2 : Int32} {v3 : Int32} {v4 : Int32} {v5 : Int32} {s0 : Int32} (h : Cal l X d bc bs M_X5_needState [.int s0] A fun o4 A1 b2 c3 => rV o4 (fun E => Q (.inr E) A1) <| isO A1 v0 6 ∧ Cal l X d b2 c3 M_X5_appendBytes [.ref v0, .int v1] A1 fun o8 A5 b6 c7 => rV o8 (fun E => Q (.inr E) A5) <| isO A5 v0 6 ∧ Cal l X d b6 c7 M_X5_appendBytes [.ref v0, .int v2] A5 fun o12 A9 b10 c11 => rV o12 (fun E => Q (.inr E) A9) <| isO A9 v0 6 ∧ Cal l X d b10 c11 M_X5_appendBytes [.ref v0, .int v3] A9 fun o16 A13 b14 c15 => rV o16 (fun E => Q (.inr E) A13) <| isO A13 v0 6 ∧ Cal l X d b14 c15 M_X5_appendBytes [.ref v0, .int v4] A13 fun o20 A17 b18 c19 => rV o20 (fun E => Q (.inr E) A17) <| isO A17 v0 6 ∧ Cal l X d b18 c19 M_X5_appendBytes [.ref v0, .int v5] A17 fun o24 A21 b22 c23 => rV o24 (fun E => Q (.inr E) A21) <| gI A21 v0 6 1 fun i25 => Q (Ri i25) A21) : G l X M_X5_append d Q 18 [(0, .ref v0), (1, .int v1), (2, .int v2), (3, .int v3), (4, .int v4), (5, .int v5)] [.int s0] A bc bs := by
  refine G_callS (As := [.int s0]) (rest := []) lk_X5_56 rfl (dk_at dk_X5_append 9 rfl) rfl rfl (Nat.le_of_ble_eq_true rfl) (h.mono fun o4 A1 b2 c3 h => aftV h fun h => ?_)
  refine G_aload_n 0 (dk_at dk_X5_append 10 rfl) rfl ?_
  refine G_iload_n 1 (dk_at dk_X5_append 11 rfl) rfl ?_
  obtain ⟨⟨_, ho⟩, h⟩ := h
  refine G_callV (As := [.int v1]) (rest := []) lk_X5_60 rfl (dk_at dk_X5_append 12 rfl) rfl rfl (Nat.le_of_ble_eq_true rfl) ho (h.mono fun o8 A5 b6 c7 h => aftV h fun h => ?_)
  refine G_aload_n 0 (dk_at dk_X5_append 13 rfl) rfl ?_
  refine G_iload_n 2 (dk_at dk_X5_append 14 rfl) rfl ?_
  obtain ⟨⟨_, ho⟩, h⟩ := h
  refine G_callV (As := [.int v2]) (rest := []) lk_X5_60 rfl (dk_at dk_X5_append 15 rfl) rfl rfl (Nat.le_of_ble_eq_true rfl) ho (h.mono fun o12 A9 b10 c11 h => aftV h fun h => ?_)
  refine G_aload_n 0 (dk_at dk_X5_append 16 rfl) rfl ?_
  refine G_iload_n 3 (dk_at dk_X5_append 17 rfl) rfl ?_
  obtain ⟨⟨_, ho⟩, h⟩ := h
  refine G_callV (As := [.int v3]) (rest := []) lk_X5_60 rfl (dk_at dk_X5_append 18 rfl) rfl rfl (Nat.le_of_ble_eq_true rfl) ho (h.mono fun o16 A13 b14 c15 h => aftV h fun h => ?_)
  refine G_aload_n 0 (dk_at dk_X5_append 19 rfl) rfl ?_
  refine G_iload 4 (dk_at dk_X5_append 20 rfl) rfl ?_
  obtain ⟨⟨_, ho⟩, h⟩ := h
  refine G_callV (As := [.int v4]) (rest := []) lk_X5_60 rfl (dk_at dk_X5_append 21 rfl) rfl rfl (Nat.le_of_ble_eq_true rfl) ho (h.mono fun o20 A17 b18 c19 h => aftV h fun h => ?_)
  refine G_aload_n 0 (dk_at dk_X5_append 22 rfl) rfl ?_
  refine G_iload 5 (dk_at dk_X5_append 23 rfl) rfl ?_
  obtain ⟨⟨_, ho⟩, h⟩ := h
  refine G_callV (As := [.int v5]) (rest := []) lk_X5_60 rfl (dk_at dk_X5_append 24 rfl) rfl rfl (Nat.le_of_ble_eq_true rfl) ho (h.mono fun o24 A21 b22 c23 h => aftV h fun h => ?_)
  refine G_aload_n 0 (dk_at dk_X5_append 25 rfl) rfl ?_
  refine K_gI gf_X5_13 (dk_at dk_X5_append 26 rfl) h (fun i25 h => ?_)
  exact G_iret (ty := .int) rfl rfl (dk_at dk_X5_append 27 rfl) h
theorem k_X5_appendBytes_0 {l : Launch} {X : XT} {d : Nat} {Q : Ot → AH → Prop} {A : AH} {bc bs : Nat} {v0 : Nat} {v1 : Int32} (h : G l X M_X5_appendBytes d Q 3 [(0, .ref v0), (1, .int v1), (2, .int 24)] [] A bc bs) : G l X M_X5_appendBytes d Q 0 [(0, .ref v0), (1, .int v1)] [] A bc bs := by
  refine G_bipush (v := 24) (dk_at dk_X5_appendBytes 0 rfl) (by decide) ?_
  refine G_istore_n (lv' := [(2, .int 24), (0, .ref v0), (1, .int v1)]) (dk_at dk_X5_appendBytes 1 rfl) (by decide) rfl ?_
  refine G_sub [1, 2, 0] rfl ?_
  exact h
theorem k_X5_appendBytes_3 {l : Launch} {X : XT} {d : Nat} {Q : Ot → AH → Prop} {A : AH} {bc bs : Nat} {v0 : Nat} {v1 : Int32} {v2 : Int32} (h : (v2 < 0 → Q Rv A) ∧ (¬ v2 < 0 → gR A v0 6 0 fun r1 => gI A v0 6 1 fun i2 => Cal l X d bc bs M_X5_put [.ref r1, .int i2, .int (((v1.toUInt32 >>> (Int32.toUInt32 v2 &&& Int32.toUInt32 31)).toInt32) &&& 255)] A fun o6 A3 b4 c5 => rV o6 (fun E => Q (.inr E) A3) <| gI A3 v0 6 1 fun i7 => pV A3 v0 6 1 (.int (i7 + 1)) fun A8 => G l X M_X5_appendBytes d Q 3 [(0, .ref v0), (1, .int v1), (2, .int (v2 + (-8)))] [] A8 b4 c5)) : G l X M_X5_appendBytes d Q 3 [(0, .ref v0), (1, .int v1), (2, .int v2)] [] A bc bs := by
  refine G_iload_n 2 (dk_at dk_X5_appendBytes 2 rfl) rfl ?_
  refine G_if_lt (tgt := 41) (dk_at dk_X5_appendBytes 3 rfl) (by decide) (fun c => ?_) (fun c => ?_)
  · replace h := h.1 c
    exact G_vret rfl (dk_at dk_X5_appendBytes 22 rfl) h
  · replace h := h.2 c
    refine G_aload_n 0 (dk_at dk_X5_appendBytes 4 rfl) rfl ?_
    refine K_gR gf_X5_9 (dk_at dk_X5_appendBytes 5 rfl) h (fun r1 h => ?_)
    refine G_aload_n 0 (dk_at dk_X5_appendBytes 6 rfl) rfl ?_
    refine K_gI gf_X5_13 (dk_at dk_X5_appendBytes 7 rfl) h (fun i2 h => ?_)
    refine G_iload_n 1 (dk_at dk_X5_appendBytes 8 rfl) rfl ?_
    refine G_iload_n 2 (dk_at dk_X5_appendBytes 9 rfl) rfl ?_
    refine G_iushr (dk_at dk_X5_appendBytes 10 rfl) rfl ?_
    refine G_sipush (v := 255) (dk_at dk_X5_appendBytes 11 rfl) (by decide) ?_
    refine G_iand (dk_at dk_X5_appendBytes 12 rfl) ?_
    refine G_callS (As := [.ref r1, .int i2, .int (((v1.toUInt32 >>> (Int32.toUInt32 v2 &&& Int32.toUInt32 31)).toInt32) &&& 255)]) (rest := []) lk_X5_64 rfl (dk_at dk_X5_appendBytes 13 rfl) rfl rfl (Nat.le_of_ble_eq_true rfl) (h.mono fun o6 A3 b4 c5 h => aftV h fun h => ?_)
    refine G_aload_n 0 (dk_at dk_X5_appendBytes 14 rfl) rfl ?_
    refine G_dup (dk_at dk_X5_appendBytes 15 rfl) rfl ?_
    refine K_gI gf_X5_13 (dk_at dk_X5_appendBytes 16 rfl) h (fun i7 h => ?_)
    refine G_iconst (v := 1) (dk_at dk_X5_appendBytes 17 rfl) (by decide) ?_
    refine G_iadd (dk_at dk_X5_appendBytes 18 rfl) ?_
    refine K_pI pf_X5_13 (dk_at dk_X5_appendBytes 19 rfl) h (fun A8 h => ?_)
    refine G_iinc (v := v2 + (-8)) (lv' := [(2, .int (v2 + (-8))), (0, .ref v0), (1, .int v1)]) 2 (dk_at dk_X5_appendBytes 20 rfl) rfl rfl (by decide) rfl ?_
    refine G_goto (tgt := 3) (dk_at dk_X5_appendBytes 21 rfl) (by decide) ?_
    refine G_sub [1, 2, 0] rfl ?_
    exact h
theorem k_X5_load_0 {l : Launch} {X : XT} {d : Nat} {Q : Ot → AH → Prop} {A : AH} {bc bs : Nat} {v0 : Nat} {v1 : Int32} (h : (v1 < 0 → G l X M_X5_load d Q 17 [(0, .ref v0), (1, .int v1)] [.int 0] A bc bs) ∧ (¬ v1 < 0 → gI A v0 6 1 fun i1 => (i1 < v1 → G l X M_X5_load d Q 17 [(0, .ref v0), (1, .int v1)] [.int 0] A bc bs) ∧ (¬ i1 < v1 → G l X M_X5_load d Q 17 [(0, .ref v0), (1, .int v1)] [.int 1] A bc bs))) : G l X M_X5_load d Q 0 [(0, .ref v0), (1, .int v1)] [] A bc bs := by
  refine G_iload_n 1 (dk_at dk_X5_load 0 rfl) rfl ?_
  refine G_if_lt (tgt := 16) (dk_at dk_X5_load 1 rfl) (by decide) (fun c => ?_) (fun c => ?_)
  · replace h := h.1 c
    refine G_iconst (v := 0) (dk_at dk_X5_load 8 rfl) (by decide) ?_
    exact h
  · replace h := h.2 c
    refine G_iload_n 1 (dk_at dk_X5_load 2 rfl) rfl ?_
    refine G_aload_n 0 (dk_at dk_X5_load 3 rfl) rfl ?_
    refine K_gI gf_X5_13 (dk_at dk_X5_load 4 rfl) h (fun i1 h => ?_)
    refine G_icmp_gt (tgt := 16) (dk_at dk_X5_load 5 rfl) (by decide) (fun c => ?_) (fun c => ?_)
    · replace h := h.1 c
      refine G_iconst (v := 0) (dk_at dk_X5_load 8 rfl) (by decide) ?_
      exact h
    · replace h := h.2 c
      refine G_iconst (v := 1) (dk_at dk_X5_load 6 rfl) (by decide) ?_
      refine G_goto (tgt := 17) (dk_at dk_X5_load 7 rfl) (by decide) ?_
      exact h
theorem k_X5_load_17 {l : Launch} {X : XT} {d : Nat} {Q : Ot → AH → Prop} {A : AH} {bc bs : Nat} {v0 : Nat} {v1 : Int32} {s0 : Int32} (h : Cal l X d bc bs M_X5_needArgument [.int s0] A fun o4 A1 b2 c3 => rV o4 (fun E => Q (.inr E) A1) <| mk A1 (ob 5 df_5) 6 b2 c3 fun r5 A6 b7 c8 => gR A6 v0 6 0 fun r9 => Cal l X d b7 c8 M_X4_init [.ref r5, .ref r9, .int v1] A6 fun o13 A10 b11 c12 => zV o13 <| isO A10 r5 5 ∧ Cal l X d b11 c12 M_X4_readPlan [.ref r5] A10 fun o17 A14 b15 c16 => rQ o17 (fun E => Q (.inr E) A14) fun o18 => pV A14 v0 6 1 (.int 0) fun A19 => gI A19 r5 5 5 fun i20 => pV A19 v0 6 2 (.int i20) fun A21 => (∀ a22, o18 = some a22 → isO A21 v0 6 ∧ Cal l X d b15 c16 M_X5_remember [.ref v0] A21 fun o26 A23 b24 c25 => rV o26 (fun E => Q (.inr E) A23) <| gR A23 v0 6 5 fun r27 => isO A23 r27 2 ∧ Cal l X d b24 c25 M_X1_begin [.ref r27, .ref a22] A23 fun o31 A28 b29 c30 => rV o31 (fun E => Q (.inr E) A28) <| gI A28 a22 4 3 fun i32 => Q (Ri i32) A28) ∧ (o18 = none → gI A21 r5 5 4 fun i33 => Q (Ri i33) A21)) : G l X M_X5_load d Q 17 [(0, .ref v0), (1, .int v1)] [.int s0] A bc bs := by
  refine G_callS (As := [.int s0]) (rest := []) lk_X5_68 rfl (dk_at dk_X5_load 9 rfl) rfl rfl (Nat.le_of_ble_eq_true rfl) (h.mono fun o4 A1 b2 c3 h => aftV h fun h => ?_)
  refine K_new no_X5_71 (dk_at dk_X5_load 10 rfl) h (fun r5 A6 b7 c8 h => ?_)
  refine G_dup (dk_at dk_X5_load 11 rfl) rfl ?_
  refine G_aload_n 0 (dk_at dk_X5_load 12 rfl) rfl ?_
  refine K_gR gf_X5_9 (dk_at dk_X5_load 13 rfl) h (fun r9 h => ?_)
  refine G_iload_n 1 (dk_at dk_X5_load 14 rfl) rfl ?_
  refine G_callI (As := [.ref r9, .int v1]) (rest := [.ref r5]) lk_X5_73 (dk_at dk_X5_load 15 rfl) rfl rfl (Nat.le_of_ble_eq_true rfl) (h.mono fun o13 A10 b11 c12 h => atfV h fun h => ?_)
  refine G_astore_n (lv' := [(2, .ref r5), (0, .ref v0), (1, .int v1)]) (dk_at dk_X5_load 16 rfl) (by decide) rfl ?_
  refine G_aload_n 0 (dk_at dk_X5_load 17 rfl) rfl ?_
  obtain ⟨⟨_, ho⟩, h⟩ := h
  refine G_callV (As := []) (rest := []) lk_X5_76 rfl (dk_at dk_X5_load 18 rfl) rfl rfl (Nat.le_of_ble_eq_true rfl) ho (h.mono fun o17 A14 b15 c16 h => aftQ h fun o18 h => ?_)
  refine G_astore_nQ (lv' := [(3, va_rf o18), (2, .ref r5), (0, .ref v0), (1, .int v1)]) (dk_at dk_X5_load 19 rfl) (by decide) (by first | (simp [rf_cat, Value.category]; done) | (simp [rf_cat, Value.category]; decide)) ?_
  refine G_aload_n 2 (dk_at dk_X5_load 20 rfl) rfl ?_
  refine G_iconst (v := 0) (dk_at dk_X5_load 21 rfl) (by decide) ?_
  refine K_pI pf_X5_13 (dk_at dk_X5_load 22 rfl) h (fun A19 h => ?_)
  refine G_aload_n 2 (dk_at dk_X5_load 23 rfl) rfl ?_
  refine G_aload_n 1 (dk_at dk_X5_load 24 rfl) rfl ?_
  refine K_gI gf_X5_80 (dk_at dk_X5_load 25 rfl) h (fun i20 h => ?_)
  refine K_pI pf_X5_17 (dk_at dk_X5_load 26 rfl) h (fun A21 h => ?_)
  refine G_aload_nQ 0 (dk_at dk_X5_load 27 rfl) rfl ?_
  refine G_ifnonnull (tgt := 60) (dk_at dk_X5_load 28 rfl) (by decide) (fun a22 e => ?_) (fun e => ?_)
  · subst e
    replace h := h.1 a22 rfl
    refine G_aload_n 2 (dk_at dk_X5_load 32 rfl) rfl ?_
    obtain ⟨⟨_, ho⟩, h⟩ := h
    refine G_callV (As := []) (rest := []) lk_X5_84 rfl (dk_at dk_X5_load 33 rfl) rfl rfl (Nat.le_of_ble_eq_true rfl) ho (h.mono fun o26 A23 b24 c25 h => aftV h fun h => ?_)
    refine G_aload_n 2 (dk_at dk_X5_load 34 rfl) rfl ?_
    refine K_gR gf_X5_50 (dk_at dk_X5_load 35 rfl) h (fun r27 h => ?_)
    refine G_aload_n 0 (dk_at dk_X5_load 36 rfl) rfl ?_
    obtain ⟨⟨_, ho⟩, h⟩ := h
    refine G_callV (As := [.ref a22]) (rest := []) lk_X5_53 rfl (dk_at dk_X5_load 37 rfl) rfl rfl (Nat.le_of_ble_eq_true rfl) ho (h.mono fun o31 A28 b29 c30 h => aftV h fun h => ?_)
    refine G_aload_n 0 (dk_at dk_X5_load 38 rfl) rfl ?_
    refine K_gI gf_X5_87 (dk_at dk_X5_load 39 rfl) h (fun i32 h => ?_)
    exact G_iret (ty := .int) rfl rfl (dk_at dk_X5_load 40 rfl) h
  · subst e
    replace h := h.2 rfl
    refine G_aload_n 1 (dk_at dk_X5_load 29 rfl) rfl ?_
    refine K_gI gf_X5_81 (dk_at dk_X5_load 30 rfl) h (fun i33 h => ?_)
    exact G_iret (ty := .int) rfl rfl (dk_at dk_X5_load 31 rfl) h
theorem k_X5_errorPosition_0 {l : Launch} {X : XT} {d : Nat} {Q : Ot → AH → Prop} {A : AH} {bc bs : Nat} {v0 : Nat} (h : gI A v0 6 2 fun i1 => Q (Ri i1) A) : G l X M_X5_errorPosition d Q 0 [(0, .ref v0)] [] A bc bs := by
  refine G_aload_n 0 (dk_at dk_X5_errorPosition 0 rfl) rfl ?_
  refine K_gI gf_X5_17 (dk_at dk_X5_errorPosition 1 rfl) h (fun i1 h => ?_)
  exact G_iret (ty := .int) rfl rfl (dk_at dk_X5_errorPosition 2 rfl) h
theorem k_X5_count_0 {l : Launch} {X : XT} {d : Nat} {Q : Ot → AH → Prop} {A : AH} {bc bs : Nat} {v0 : Nat} {v1 : Int32} (h : (v1 = 0 → gR A v0 6 5 fun r1 => gR A r1 2 0 fun r2 => gI A r2 4 0 fun i3 => Q (Ri i3) A) ∧ (v1 = 1 → gR A v0 6 5 fun r4 => gR A r4 2 0 fun r5 => gI A r5 4 2 fun i6 => Q (Ri i6) A) ∧ (v1 = 2 → gR A v0 6 5 fun r7 => gR A r7 2 0 fun r8 => gI A r8 4 3 fun i9 => Q (Ri i9) A) ∧ (v1 = 3 → gR A v0 6 5 fun r10 => gI A r10 2 8 fun i11 => Q (Ri i11) A) ∧ (v1 = 4 → gR A v0 6 5 fun r12 => gI A r12 2 9 fun i13 => Q (Ri i13) A) ∧ (v1 = 5 → gR A v0 6 5 fun r14 => gI A r14 2 6 fun i15 => Q (Ri i15) A) ∧ (v1 = 6 → gR A v0 6 5 fun r16 => gI A r16 2 7 fun i17 => Q (Ri i17) A) ∧ (v1 = 7 → gR A v0 6 5 fun r18 => gI A r18 2 5 fun i19 => Q (Ri i19) A) ∧ (v1 = 8 → gR A v0 6 5 fun r20 => gR A r20 2 15 fun r21 => isO A r21 0 ∧ Cal l X d bc bs M_Jx4a65c_size_8abf5 [.ref r21] A fun o25 A22 b23 c24 => rI o25 (fun E => Q (.inr E) A22) fun i26 => Q (Ri i26) A22) ∧ (v1 = 9 → gR A v0 6 5 fun r27 => gR A r27 2 16 fun r28 => gI A r28 1 3 fun i29 => Q (Ri i29) A) ∧ (v1 = 10 → gR A v0 6 5 fun r30 => gI A r30 2 10 fun i31 => Q (Ri i31) A) ∧ (v1 = 11 → gR A v0 6 5 fun r32 => gR A r32 2 0 fun r33 => gI A r33 4 1 fun i34 => Q (Ri i34) A) ∧ (¬ v1 = 0 → ¬ v1 = 1 → ¬ v1 = 2 → ¬ v1 = 3 → ¬ v1 = 4 → ¬ v1 = 5 → ¬ v1 = 6 → ¬ v1 = 7 → ¬ v1 = 8 → ¬ v1 = 9 → ¬ v1 = 10 → ¬ v1 = 11 → thr A bc bs fun A35 => Q (Th "java/lang/IllegalArgumentException") A35)) : G l X M_X5_count d Q 0 [(0, .ref v0), (1, .int v1)] [] A bc bs := by
  refine G_iload_n 1 (dk_at dk_X5_count 0 rfl) rfl ?_
  by_cases c0 : v1 = 0
  · replace h := h.1 c0
    refine G_tcase (tgt := 64) (dk_at dk_X5_count 1 rfl) (by rw [c0]; decide) (by rw [c0]; decide) (off := 63) (by rw [c0]; rfl) (by decide) ?_
    refine G_aload_n 0 (dk_at dk_X5_count 2 rfl) rfl ?_
    refine K_gR gf_X5_50 (dk_at dk_X5_count 3 rfl) h (fun r1 h => ?_)
    refine K_gR gf_X5_90 (dk_at dk_X5_count 4 rfl) h (fun r2 h => ?_)
    refine K_gI gf_X5_94 (dk_at dk_X5_count 5 rfl) h (fun i3 h => ?_)
    exact G_iret (ty := .int) rfl rfl (dk_at dk_X5_count 6 rfl) h
  by_cases c1 : v1 = 1
  · replace h := h.2.1 c1
    refine G_tcase (tgt := 75) (dk_at dk_X5_count 1 rfl) (by rw [c1]; decide) (by rw [c1]; decide) (off := 74) (by rw [c1]; rfl) (by decide) ?_
    refine G_aload_n 0 (dk_at dk_X5_count 7 rfl) rfl ?_
    refine K_gR gf_X5_50 (dk_at dk_X5_count 8 rfl) h (fun r4 h => ?_)
    refine K_gR gf_X5_90 (dk_at dk_X5_count 9 rfl) h (fun r5 h => ?_)
    refine K_gI gf_X5_97 (dk_at dk_X5_count 10 rfl) h (fun i6 h => ?_)
    exact G_iret (ty := .int) rfl rfl (dk_at dk_X5_count 11 rfl) h
  by_cases c2 : v1 = 2
  · replace h := h.2.2.1 c2
    refine G_tcase (tgt := 86) (dk_at dk_X5_count 1 rfl) (by rw [c2]; decide) (by rw [c2]; decide) (off := 85) (by rw [c2]; rfl) (by decide) ?_
    refine G_aload_n 0 (dk_at dk_X5_count 12 rfl) rfl ?_
    refine K_gR gf_X5_50 (dk_at dk_X5_count 13 rfl) h (fun r7 h => ?_)
    refine K_gR gf_X5_90 (dk_at dk_X5_count 14 rfl) h (fun r8 h => ?_)
    refine K_gI gf_X5_87 (dk_at dk_X5_count 15 rfl) h (fun i9 h => ?_)
    exact G_iret (ty := .int) rfl rfl (dk_at dk_X5_count 16 rfl) h
  by_cases c3 : v1 = 3
  · replace h := h.2.2.2.1 c3
    refine G_tcase (tgt := 97) (dk_at dk_X5_count 1 rfl) (by rw [c3]; decide) (by rw [c3]; decide) (off := 96) (by rw [c3]; rfl) (by decide) ?_
    refine G_aload_n 0 (dk_at dk_X5_count 17 rfl) rfl ?_
    refine K_gR gf_X5_50 (dk_at dk_X5_count 18 rfl) h (fun r10 h => ?_)
    refine K_gI gf_X5_100 (dk_at dk_X5_count 19 rfl) h (fun i11 h => ?_)
    exact G_iret (ty := .int) rfl rfl (dk_at dk_X5_count 20 rfl) h
  by_cases c4 : v1 = 4
  · replace h := h.2.2.2.2.1 c4
    refine G_tcase (tgt := 105) (dk_at dk_X5_count 1 rfl) (by rw [c4]; decide) (by rw [c4]; decide) (off := 104) (by rw [c4]; rfl) (by decide) ?_
    refine G_aload_n 0 (dk_at dk_X5_count 21 rfl) rfl ?_
    refine K_gR gf_X5_50 (dk_at dk_X5_count 22 rfl) h (fun r12 h => ?_)
    refine K_gI gf_X5_103 (dk_at dk_X5_count 23 rfl) h (fun i13 h => ?_)
    exact G_iret (ty := .int) rfl rfl (dk_at dk_X5_count 24 rfl) h
  by_cases c5 : v1 = 5
  · replace h := h.2.2.2.2.2.1 c5
    refine G_tcase (tgt := 113) (dk_at dk_X5_count 1 rfl) (by rw [c5]; decide) (by rw [c5]; decide) (off := 112) (by rw [c5]; rfl) (by decide) ?_
    refine G_aload_n 0 (dk_at dk_X5_count 25 rfl) rfl ?_
    refine K_gR gf_X5_50 (dk_at dk_X5_count 26 rfl) h (fun r14 h => ?_)
    refine K_gI gf_X5_106 (dk_at dk_X5_count 27 rfl) h (fun i15 h => ?_)
    exact G_iret (ty := .int) rfl rfl (dk_at dk_X5_count 28 rfl) h
  by_cases c6 : v1 = 6
  · replace h := h.2.2.2.2.2.2.1 c6
    refine G_tcase (tgt := 121) (dk_at dk_X5_count 1 rfl) (by rw [c6]; decide) (by rw [c6]; decide) (off := 120) (by rw [c6]; rfl) (by decide) ?_
    refine G_aload_n 0 (dk_at dk_X5_count 29 rfl) rfl ?_
    refine K_gR gf_X5_50 (dk_at dk_X5_count 30 rfl) h (fun r16 h => ?_)
    refine K_gI gf_X5_109 (dk_at dk_X5_count 31 rfl) h (fun i17 h => ?_)
    exact G_iret (ty := .int) rfl rfl (dk_at dk_X5_count 32 rfl) h
  by_cases c7 : v1 = 7
  · replace h := h.2.2.2.2.2.2.2.1 c7
    refine G_tcase (tgt := 129) (dk_at dk_X5_count 1 rfl) (by rw [c7]; decide) (by rw [c7]; decide) (off := 128) (by rw [c7]; rfl) (by decide) ?_
    refine G_aload_n 0 (dk_at dk_X5_count 33 rfl) rfl ?_
    refine K_gR gf_X5_50 (dk_at dk_X5_count 34 rfl) h (fun r18 h => ?_)
    refine K_gI gf_X5_112 (dk_at dk_X5_count 35 rfl) h (fun i19 h => ?_)
    exact G_iret (ty := .int) rfl rfl (dk_at dk_X5_count 36 rfl) h
  by_cases c8 : v1 = 8
  · replace h := h.2.2.2.2.2.2.2.2.1 c8
    refine G_tcase (tgt := 137) (dk_at dk_X5_count 1 rfl) (by rw [c8]; decide) (by rw [c8]; decide) (off := 136) (by rw [c8]; rfl) (by decide) ?_
    refine G_aload_n 0 (dk_at dk_X5_count 37 rfl) rfl ?_
    refine K_gR gf_X5_50 (dk_at dk_X5_count 38 rfl) h (fun r20 h => ?_)
    refine K_gR gf_X5_115 (dk_at dk_X5_count 39 rfl) h (fun r21 h => ?_)
    obtain ⟨⟨_, ho⟩, h⟩ := h
    refine G_callV (As := []) (rest := []) lk_X5_119 rfl (dk_at dk_X5_count 40 rfl) rfl rfl (Nat.le_of_ble_eq_true rfl) ho (h.mono fun o25 A22 b23 c24 h => aftI h fun i26 h => ?_)
    exact G_iret (ty := .int) rfl rfl (dk_at dk_X5_count 41 rfl) h
  by_cases c9 : v1 = 9
  · replace h := h.2.2.2.2.2.2.2.2.2.1 c9
    refine G_tcase (tgt := 148) (dk_at dk_X5_count 1 rfl) (by rw [c9]; decide) (by rw [c9]; decide) (off := 147) (by rw [c9]; rfl) (by decide) ?_
    refine G_aload_n 0 (dk_at dk_X5_count 42 rfl) rfl ?_
    refine K_gR gf_X5_50 (dk_at dk_X5_count 43 rfl) h (fun r27 h => ?_)
    refine K_gR gf_X5_125 (dk_at dk_X5_count 44 rfl) h (fun r28 h => ?_)
    refine K_gI gf_X5_129 (dk_at dk_X5_count 45 rfl) h (fun i29 h => ?_)
    exact G_iret (ty := .int) rfl rfl (dk_at dk_X5_count 46 rfl) h
  by_cases c10 : v1 = 10
  · replace h := h.2.2.2.2.2.2.2.2.2.2.1 c10
    refine G_tcase (tgt := 159) (dk_at dk_X5_count 1 rfl) (by rw [c10]; decide) (by rw [c10]; decide) (off := 158) (by rw [c10]; rfl) (by decide) ?_
    refine G_aload_n 0 (dk_at dk_X5_count 47 rfl) rfl ?_
    refine K_gR gf_X5_50 (dk_at dk_X5_count 48 rfl) h (fun r30 h => ?_)
    refine K_gI gf_X5_134 (dk_at dk_X5_count 49 rfl) h (fun i31 h => ?_)
    exact G_iret (ty := .int) rfl rfl (dk_at dk_X5_count 50 rfl) h
  by_cases c11 : v1 = 11
  · replace h := h.2.2.2.2.2.2.2.2.2.2.2.1 c11
    refine G_tcase (tgt := 167) (dk_at dk_X5_count 1 rfl) (by rw [c11]; decide) (by rw [c11]; decide) (off := 166) (by rw [c11]; rfl) (by decide) ?_
    refine G_aload_n 0 (dk_at dk_X5_count 51 rfl) rfl ?_
    refine K_gR gf_X5_50 (dk_at dk_X5_count 52 rfl) h (fun r32 h => ?_)
    refine K_gR gf_X5_90 (dk_at dk_X5_count 53 rfl) h (fun r33 h => ?_)
    refine K_gI gf_X5_137 (dk_at dk_X5_count 54 rfl) h (fun i34 h => ?_)
    exact G_iret (ty := .int) rfl rfl (dk_at dk_X5_count 55 rfl) h
  replace h := h.2.2.2.2.2.2.2.2.2.2.2.2 c0 c1 c2 c3 c4 c5 c6 c7 c8 c9 c10 c11
  refine G_tout (tgt := 178) (dk_at dk_X5_count 1 rfl) (tsw_out (n := 11) (fun k hk => ?_)) (by decide) ?_
  · have hk2 : k = 0 ∨ k = 1 ∨ k = 2 ∨ k = 3 ∨ k = 4 ∨ k = 5 ∨ k = 6 ∨ k = 7 ∨ k = 8 ∨ k = 9 ∨ k = 10 ∨ k = 11 := by omega
    rcases hk2 with rfl | rfl | rfl | rfl | rfl | rfl | rfl | rfl | rfl | rfl | rfl | rfl
    · exact c0
    · exact c1
    · exact c2
    · exact c3
    · exact c4
    · exact c5
    · exact c6
    · exact c7
    · exact c8
    · exact c9
    · exact c10
    · exact c11
  · exact G_throw to_X5_140_142 rfl (dk_at dk_X5_count 56 rfl) (dk_at dk_X5_count 57 rfl) (dk_at dk_X5_count 58 rfl) (dk_at dk_X5_count 59 rfl) (dk_at dk_X5_count 60 rfl) (Nat.le_of_ble_eq_true rfl) h.1 h.2.1 h.2.2
theorem k_X5_source_0 {l : Launch} {X : XT} {d : Nat} {Q : Ot → AH → Prop} {A : AH} {bc bs : Nat} {v0 : Nat} {v1 : Int32} {v2 : Int32} (h : Cal l X d bc bs M_X5_needIndex [.int v1, .int 2] A fun o4 A1 b2 c3 => rV o4 (fun E => Q (.inr E) A1) <| (v2 = 0 → gR A1 v0 6 5 fun r5 => isO A1 r5 2 ∧ Cal l X d b2 c3 M_X1_isConnected [.ref r5, .int v1] A1 fun o9 A6 b7 c8 => rI o9 (fun E => Q (.inr E) A6) fun i10 => (i10 = 0 → Q (Ri 0) A6) ∧ (¬ i10 = 0 → Q (Ri 1) A6)) ∧ (v2 = 1 → (¬ v1 = 1 → Q (Ri 0) A1) ∧ (v1 = 1 → gR A1 v0 6 5 fun r11 => gI A1 r11 2 14 fun i12 => (i12 = 0 → Q (Ri 0) A1) ∧ (¬ i12 = 0 → Q (Ri 1) A1))) ∧ (v2 = 2 → gR A1 v0 6 5 fun r13 => gR A1 r13 2 12 fun r14 => Cal l X d b2 c3 M_X5_at [.ref r14, .int v1] A1 fun o18 A15 b16 c17 => rI o18 (fun E => Q (.inr E) A15) fun i19 => Q (Ri i19) A15) ∧ (v2 = 3 → gR A1 v0 6 5 fun r20 => gR A1 r20 2 13 fun r21 => Cal l X d b2 c3 M_X5_at [.ref r21, .int v1] A1 fun o25 A22 b23 c24 => rI o25 (fun E => Q (.inr E) A22) fun i26 => Q (Ri i26) A22) ∧ (v2 = 4 → gR A1 v0 6 5 fun r27 => isO A1 r27 2 ∧ Cal l X d b2 c3 M_X1_partsFrom [.ref r27, .int v1] A1 fun o31 A28 b29 c30 => rI o31 (fun E => Q (.inr E) A28) fun i32 => Q (Ri i32) A28) ∧ (¬ v2 = 0 → ¬ v2 = 1 → ¬ v2 = 2 → ¬ v2 = 3 → ¬ v2 = 4 → thr A1 b2 c3 fun A33 => Q (Th "java/lang/IllegalArgumentException") A33)) : G l X M_X5_source d Q 0 [(0, .ref v0), (1, .int v1), (2, .int v2)] [] A bc bs := by
  refine G_iload_n 1 (dk_at dk_X5_source 0 rfl) rfl ?_
  refine G_iconst (v := 2) (dk_at dk_X5_source 1 rfl) (by decide) ?_
  refine G_callS (As := [.int v1, .int 2]) (rest := []) lk_X5_147 rfl (dk_at dk_X5_source 2 rfl) rfl rfl (Nat.le_of_ble_eq_true rfl) (h.mono fun o4 A1 b2 c3 h => aftV h fun h => ?_)
  refine G_iload_n 2 (dk_at dk_X5_source 3 rfl) rfl ?_
  by_cases c0 : v2 = 0
  · replace h := h.1 c0
    refine G_tcase (tgt := 40) (dk_at dk_X5_source 4 rfl) (by rw [c0]; decide) (by rw [c0]; decide) (off := 34) (by rw [c0]; rfl) (by decide) ?_
    refine G_aload_n 0 (dk_at dk_X5_source 5 rfl) rfl ?_
    refine K_gR gf_X5_50 (dk_at dk_X5_source 6 rfl) h (fun r5 h => ?_)
    refine G_iload_n 1 (dk_at dk_X5_source 7 rfl) rfl ?_
    obtain ⟨⟨_, ho⟩, h⟩ := h
    refine G_callV (As := [.int v1]) (rest := []) lk_X5_151 rfl (dk_at dk_X5_source 8 rfl) rfl rfl (Nat.le_of_ble_eq_true rfl) ho (h.mono fun o9 A6 b7 c8 h => aftI h fun i10 h => ?_)
    refine G_if_eq (tgt := 55) (dk_at dk_X5_source 9 rfl) (by decide) (fun c => ?_) (fun c => ?_)
    · replace h := h.1 c
      refine G_iconst (v := 0) (dk_at dk_X5_source 12 rfl) (by decide) ?_
      exact G_iret (ty := .int) rfl rfl (dk_at dk_X5_source 13 rfl) h
    · replace h := h.2 c
      refine G_iconst (v := 1) (dk_at dk_X5_source 10 rfl) (by decide) ?_
      refine G_goto (tgt := 56) (dk_at dk_X5_source 11 rfl) (by decide) ?_
      exact G_iret (ty := .int) rfl rfl (dk_at dk_X5_source 13 rfl) h
  by_cases c1 : v2 = 1
  · replace h := h.2.1 c1
    refine G_tcase (tgt := 57) (dk_at dk_X5_source 4 rfl) (by rw [c1]; decide) (by rw [c1]; decide) (off := 51) (by rw [c1]; rfl) (by decide) ?_
    refine G_iload_n 1 (dk_at dk_X5_source 14 rfl) rfl ?_
    refine G_iconst (v := 1) (dk_at dk_X5_source 15 rfl) (by decide) ?_
    refine G_icmp_ne (tgt := 76) (dk_at dk_X5_source 16 rfl) (by decide) (fun c => ?_) (fun c => ?_)
    · replace h := h.1 c
      refine G_iconst (v := 0) (dk_at dk_X5_source 23 rfl) (by decide) ?_
      exact G_iret (ty := .int) rfl rfl (dk_at dk_X5_source 24 rfl) h
    · replace h := h.2 c
      refine G_aload_n 0 (dk_at dk_X5_source 17 rfl) rfl ?_
      refine K_gR gf_X5_50 (dk_at dk_X5_source 18 rfl) h (fun r11 h => ?_)
      refine K_gI gf_X5_155 (dk_at dk_X5_source 19 rfl) h (fun i12 h => ?_)
      refine G_if_eq (tgt := 76) (dk_at dk_X5_source 20 rfl) (by decide) (fun c => ?_) (fun c => ?_)
      · replace h := h.1 c
        refine G_iconst (v := 0) (dk_at dk_X5_source 23 rfl) (by decide) ?_
        exact G_iret (ty := .int) rfl rfl (dk_at dk_X5_source 24 rfl) h
      · replace h := h.2 c
        refine G_iconst (v := 1) (dk_at dk_X5_source 21 rfl) (by decide) ?_
        refine G_goto (tgt := 77) (dk_at dk_X5_source 22 rfl) (by decide) ?_
        exact G_iret (ty := .int) rfl rfl (dk_at dk_X5_source 24 rfl) h
  by_cases c2 : v2 = 2
  · replace h := h.2.2.1 c2
    refine G_tcase (tgt := 78) (dk_at dk_X5_source 4 rfl) (by rw [c2]; decide) (by rw [c2]; decide) (off := 72) (by rw [c2]; rfl) (by decide) ?_
    refine G_aload_n 0 (dk_at dk_X5_source 25 rfl) rfl ?_
    refine K_gR gf_X5_50 (dk_at dk_X5_source 26 rfl) h (fun r13 h => ?_)
    refine K_gR gf_X5_159 (dk_at dk_X5_source 27 rfl) h (fun r14 h => ?_)
    refine G_iload_n 1 (dk_at dk_X5_source 28 rfl) rfl ?_
    refine G_callS (As := [.ref r14, .int v1]) (rest := []) lk_X5_162 rfl (dk_at dk_X5_source 29 rfl) rfl rfl (Nat.le_of_ble_eq_true rfl) (h.mono fun o18 A15 b16 c17 h => aftI h fun i19 h => ?_)
    exact G_iret (ty := .int) rfl rfl (dk_at dk_X5_source 30 rfl) h
  by_cases c3 : v2 = 3
  · replace h := h.2.2.2.1 c3
    refine G_tcase (tgt := 90) (dk_at dk_X5_source 4 rfl) (by rw [c3]; decide) (by rw [c3]; decide) (off := 84) (by rw [c3]; rfl) (by decide) ?_
    refine G_aload_n 0 (dk_at dk_X5_source 31 rfl) rfl ?_
    refine K_gR gf_X5_50 (dk_at dk_X5_source 32 rfl) h (fun r20 h => ?_)
    refine K_gR gf_X5_166 (dk_at dk_X5_source 33 rfl) h (fun r21 h => ?_)
    refine G_iload_n 1 (dk_at dk_X5_source 34 rfl) rfl ?_
    refine G_callS (As := [.ref r21, .int v1]) (rest := []) lk_X5_162 rfl (dk_at dk_X5_source 35 rfl) rfl rfl (Nat.le_of_ble_eq_true rfl) (h.mono fun o25 A22 b23 c24 h => aftI h fun i26 h => ?_)
    exact G_iret (ty := .int) rfl rfl (dk_at dk_X5_source 36 rfl) h
  by_cases c4 : v2 = 4
  · replace h := h.2.2.2.2.1 c4
    refine G_tcase (tgt := 102) (dk_at dk_X5_source 4 rfl) (by rw [c4]; decide) (by rw [c4]; decide) (off := 96) (by rw [c4]; rfl) (by decide) ?_
    refine G_aload_n 0 (dk_at dk_X5_source 37 rfl) rfl ?_
    refine K_gR gf_X5_50 (dk_at dk_X5_source 38 rfl) h (fun r27 h => ?_)
    refine G_iload_n 1 (dk_at dk_X5_source 39 rfl) rfl ?_
    obtain ⟨⟨_, ho⟩, h⟩ := h
    refine G_callV (As := [.int v1]) (rest := []) lk_X5_169 rfl (dk_at dk_X5_source 40 rfl) rfl rfl (Nat.le_of_ble_eq_true rfl) ho (h.mono fun o31 A28 b29 c30 h => aftI h fun i32 h => ?_)
    exact G_iret (ty := .int) rfl rfl (dk_at dk_X5_source 41 rfl) h
  replace h := h.2.2.2.2.2 c0 c1 c2 c3 c4
  refine G_tout (tgt := 111) (dk_at dk_X5_source 4 rfl) (tsw_out (n := 4) (fun k hk => ?_)) (by decide) ?_
  · have hk2 : k = 0 ∨ k = 1 ∨ k = 2 ∨ k = 3 ∨ k = 4 := by omega
    rcases hk2 with rfl | rfl | rfl | rfl | rfl
    · exact c0
    · exact c1
    · exact c2
    · exact c3
    · exact c4
  · exact G_throw to_X5_140_173 rfl (dk_at dk_X5_source 42 rfl) (dk_at dk_X5_source 43 rfl) (dk_at dk_X5_source 44 rfl) (dk_at dk_X5_source 45 rfl) (dk_at dk_X5_source 46 rfl) (Nat.le_of_ble_eq_true rfl) h.1 h.2.1 h.2.2
theorem k_X5_sent_0 {l : Launch} {X : XT} {d : Nat} {Q : Ot → AH → Prop} {A : AH} {bc bs : Nat} {v0 : Nat} {v1 : Int32} {v2 : Int32} (h : Cal l X d bc bs M_X5_needIndex [.int v1, .int 2] A fun o4 A1 b2 c3 => rV o4 (fun E => Q (.inr E) A1) <| gR A1 v0 6 5 fun r5 => gR A1 r5 2 0 fun r6 => gI A1 r6 4 0 fun i7 => Cal l X d b2 c3 M_X5_needIndex [.int v2, .int i7] A1 fun o11 A8 b9 c10 => rV o11 (fun E => Q (.inr E) A8) <| gR A8 v0 6 5 fun r12 => gR A8 r12 2 0 fun r13 => isO A8 r13 4 ∧ Cal l X d b9 c10 M_X3_bytesOf [.ref r13, .int v1] A8 fun o17 A14 b15 c16 => rR o17 (fun E => Q (.inr E) A14) fun r18 => Cal l X d b15 c16 M_X5_at [.ref r18, .int v2] A14 fun o22 A19 b20 c21 => rI o22 (fun E => Q (.inr E) A19) fun i23 => Q (Ri i23) A19) : G l X M_X5_sent d Q 0 [(0, .ref v0), (1, .int v1), (2, .int v2)] [] A bc bs := by
  refine G_iload_n 1 (dk_at dk_X5_sent 0 rfl) rfl ?_
  refine G_iconst (v := 2) (dk_at dk_X5_sent 1 rfl) (by decide) ?_
  refine G_callS (As := [.int v1, .int 2]) (rest := []) lk_X5_147 rfl (dk_at dk_X5_sent 2 rfl) rfl rfl (Nat.le_of_ble_eq_true rfl) (h.mono fun o4 A1 b2 c3 h => aftV h fun h => ?_)
  refine G_iload_n 2 (dk_at dk_X5_sent 3 rfl) rfl ?_
  refine G_aload_n 0 (dk_at dk_X5_sent 4 rfl) rfl ?_
  refine K_gR gf_X5_50 (dk_at dk_X5_sent 5 rfl) h (fun r5 h => ?_)
  refine K_gR gf_X5_90 (dk_at dk_X5_sent 6 rfl) h (fun r6 h => ?_)
  refine K_gI gf_X5_94 (dk_at dk_X5_sent 7 rfl) h (fun i7 h => ?_)
  refine G_callS (As := [.int v2, .int i7]) (rest := []) lk_X5_147 rfl (dk_at dk_X5_sent 8 rfl) rfl rfl (Nat.le_of_ble_eq_true rfl) (h.mono fun o11 A8 b9 c10 h => aftV h fun h => ?_)
  refine G_aload_n 0 (dk_at dk_X5_sent 9 rfl) rfl ?_
  refine K_gR gf_X5_50 (dk_at dk_X5_sent 10 rfl) h (fun r12 h => ?_)
  refine K_gR gf_X5_90 (dk_at dk_X5_sent 11 rfl) h (fun r13 h => ?_)
  refine G_iload_n 1 (dk_at dk_X5_sent 12 rfl) rfl ?_
  obtain ⟨⟨_, ho⟩, h⟩ := h
  refine G_callV (As := [.int v1]) (rest := []) lk_X5_175 rfl (dk_at dk_X5_sent 13 rfl) rfl rfl (Nat.le_of_ble_eq_true rfl) ho (h.mono fun o17 A14 b15 c16 h => aftR h fun r18 h => ?_)
  refine G_iload_n 2 (dk_at dk_X5_sent 14 rfl) rfl ?_
  refine G_callS (As := [.ref r18, .int v2]) (rest := []) lk_X5_162 rfl (dk_at dk_X5_sent 15 rfl) rfl rfl (Nat.le_of_ble_eq_true rfl) (h.mono fun o22 A19 b20 c21 h => aftI h fun i23 h => ?_)
  exact G_iret (ty := .int) rfl rfl (dk_at dk_X5_sent 16 rfl) h
theorem k_X5_got_0 {l : Launch} {X : XT} {d : Nat} {Q : Ot → AH → Prop} {A : AH} {bc bs : Nat} {v0 : Nat} {v1 : Int32} (h : gR A v0 6 5 fun r1 => gR A r1 2 0 fun r2 => gI A r2 4 0 fun i3 => Cal l X d bc bs M_X5_needIndex [.int v1, .int i3] A fun o7 A4 b5 c6 => rV o7 (fun E => Q (.inr E) A4) <| gR A4 v0 6 5 fun r8 => gR A4 v0 6 5 fun r9 => gR A4 r9 2 0 fun r10 => gR A4 r10 4 11 fun r11 => Cal l X d b5 c6 M_X5_at [.ref r11, .int v1] A4 fun o15 A12 b13 c14 => rI o15 (fun E => Q (.inr E) A12) fun i16 => isO A12 r8 2 ∧ Cal l X d b13 c14 M_X1_isMissing [.ref r8, .int i16] A12 fun o20 A17 b18 c19 => rI o20 (fun E => Q (.inr E) A17) fun i21 => (i21 = 0 → gR A17 v0 6 5 fun r22 => gR A17 r22 2 1 fun r23 => Cal l X d b18 c19 M_X5_at [.ref r23, .int v1] A17 fun o27 A24 b25 c26 => rI o27 (fun E => Q (.inr E) A24) fun i28 => Q (Ri i28) A24) ∧ (¬ i21 = 0 → Q (Ri ((-1))) A17)) : G l X M_X5_got d Q 0 [(0, .ref v0), (1, .int v1)] [] A bc bs := by
  refine G_iload_n 1 (dk_at dk_X5_got 0 rfl) rfl ?_
  refine G_aload_n 0 (dk_at dk_X5_got 1 rfl) rfl ?_
  refine K_gR gf_X5_50 (dk_at dk_X5_got 2 rfl) h (fun r1 h => ?_)
  refine K_gR gf_X5_90 (dk_at dk_X5_got 3 rfl) h (fun r2 h => ?_)
  refine K_gI gf_X5_94 (dk_at dk_X5_got 4 rfl) h (fun i3 h => ?_)
  refine G_callS (As := [.int v1, .int i3]) (rest := []) lk_X5_147 rfl (dk_at dk_X5_got 5 rfl) rfl rfl (Nat.le_of_ble_eq_true rfl) (h.mono fun o7 A4 b5 c6 h => aftV h fun h => ?_)
  refine G_aload_n 0 (dk_at dk_X5_got 6 rfl) rfl ?_
  refine K_gR gf_X5_50 (dk_at dk_X5_got 7 rfl) h (fun r8 h => ?_)
  refine G_aload_n 0 (dk_at dk_X5_got 8 rfl) rfl ?_
  refine K_gR gf_X5_50 (dk_at dk_X5_got 9 rfl) h (fun r9 h => ?_)
  refine K_gR gf_X5_90 (dk_at dk_X5_got 10 rfl) h (fun r10 h => ?_)
  refine K_gR gf_X5_179 (dk_at dk_X5_got 11 rfl) h (fun r11 h => ?_)
  refine G_iload_n 1 (dk_at dk_X5_got 12 rfl) rfl ?_
  refine G_callS (As := [.ref r11, .int v1]) (rest := [.ref r8]) lk_X5_162 rfl (dk_at dk_X5_got 13 rfl) rfl rfl (Nat.le_of_ble_eq_true rfl) (h.mono fun o15 A12 b13 c14 h => aftI h fun i16 h => ?_)
  obtain ⟨⟨_, ho⟩, h⟩ := h
  refine G_callV (As := [.int i16]) (rest := []) lk_X5_182 rfl (dk_at dk_X5_got 14 rfl) rfl rfl (Nat.le_of_ble_eq_true rfl) ho (h.mono fun o20 A17 b18 c19 h => aftI h fun i21 h => ?_)
  refine G_if_eq (tgt := 42) (dk_at dk_X5_got 15 rfl) (by decide) (fun c => ?_) (fun c => ?_)
  · replace h := h.1 c
    refine G_aload_n 0 (dk_at dk_X5_got 18 rfl) rfl ?_
    refine K_gR gf_X5_50 (dk_at dk_X5_got 19 rfl) h (fun r22 h => ?_)
    refine K_gR gf_X5_185 (dk_at dk_X5_got 20 rfl) h (fun r23 h => ?_)
    refine G_iload_n 1 (dk_at dk_X5_got 21 rfl) rfl ?_
    refine G_callS (As := [.ref r23, .int v1]) (rest := []) lk_X5_162 rfl (dk_at dk_X5_got 22 rfl) rfl rfl (Nat.le_of_ble_eq_true rfl) (h.mono fun o27 A24 b25 c26 h => aftI h fun i28 h => ?_)
    exact G_iret (ty := .int) rfl rfl (dk_at dk_X5_got 23 rfl) h
  · replace h := h.2 c
    refine G_iconst (v := (-1)) (dk_at dk_X5_got 16 rfl) (by decide) ?_
    refine G_goto (tgt := 53) (dk_at dk_X5_got 17 rfl) (by decide) ?_
    exact G_iret (ty := .int) rfl rfl (dk_at dk_X5_got 23 rfl) h
theorem k_X5_piece_0 {l : Launch} {X : XT} {d : Nat} {Q : Ot → AH → Prop} {A : AH} {bc bs : Nat} {v0 : Nat} {v1 : Int32} {v2 : Int32} (h : gR A v0 6 5 fun r1 => gR A r1 2 0 fun r2 => gI A r2 4 2 fun i3 => Cal l X d bc bs M_X5_needIndex [.int v1, .int i3] A fun o7 A4 b5 c6 => rV o7 (fun E => Q (.inr E) A4) <| (v2 = 0 → isO A4 r2 4 ∧ Cal l X d b5 c6 M_X3_pieceStart [.ref r2, .int v1] A4 fun o11 A8 b9 c10 => rI o11 (fun E => Q (.inr E) A8) fun i12 => Q (Ri i12) A8) ∧ (v2 = 1 → isO A4 r2 4 ∧ Cal l X d b5 c6 M_X3_pieceLength [.ref r2, .int v1] A4 fun o16 A13 b14 c15 => rI o16 (fun E => Q (.inr E) A13) fun i17 => Q (Ri i17) A13) ∧ (v2 = 2 → isO A4 r2 4 ∧ Cal l X d b5 c6 M_X3_firstPart [.ref r2, .int v1] A4 fun o21 A18 b19 c20 => rI o21 (fun E => Q (.inr E) A18) fun i22 => Q (Ri i22) A18) ∧ (v2 = 3 → isO A4 r2 4 ∧ Cal l X d b5 c6 M_X3_partsOf [.ref r2, .int v1] A4 fun o26 A23 b24 c25 => rI o26 (fun E => Q (.inr E) A23) fun i27 => Q (Ri i27) A23) ∧ (v2 = 4 → gR A4 v0 6 5 fun r28 => gR A4 r28 2 3 fun r29 => Cal l X d b5 c6 M_X5_at [.ref r29, .int v1] A4 fun o33 A30 b31 c32 => rI o33 (fun E => Q (.inr E) A30) fun i34 => Q (Ri i34) A30) ∧ (v2 = 5 → gR A4 r2 4 6 fun r35 => Cal l X d b5 c6 M_X5_at [.ref r35, .int v1] A4 fun o39 A36 b37 c38 => rI o39 (fun E => Q (.inr E) A36) fun i40 => Q (Ri i40) A36) ∧ (v2 = 6 → gR A4 v0 6 5 fun r41 => gR A4 r41 2 4 fun r42 => Cal l X d b5 c6 M_X5_at [.ref r42, .int v1] A4 fun o46 A43 b44 c45 => rI o46 (fun E => Q (.inr E) A43) fun i47 => Q (Ri i47) A43) ∧ (¬ v2 = 0 → ¬ v2 = 1 → ¬ v2 = 2 → ¬ v2 = 3 → ¬ v2 = 4 → ¬ v2 = 5 → ¬ v2 = 6 → thr A4 b5 c6 fun A48 => Q (Th "java/lang/IllegalArgumentException") A48)) : G l X M_X5_piece d Q 0 [(0, .ref v0), (1, .int v1), (2, .int v2)] [] A bc bs := by
  refine G_aload_n 0 (dk_at dk_X5_piece 0 rfl) rfl ?_
  refine K_gR gf_X5_50 (dk_at dk_X5_piece 1 rfl) h (fun r1 h => ?_)
  refine K_gR gf_X5_90 (dk_at dk_X5_piece 2 rfl) h (fun r2 h => ?_)
  refine G_astore_n (lv' := [(3, .ref r2), (0, .ref v0), (1, .int v1), (2, .int v2)]) (dk_at dk_X5_piece 3 rfl) (by decide) rfl ?_
  refine G_iload_n 2 (dk_at dk_X5_piece 4 rfl) rfl ?_
  refine G_aload_n 0 (dk_at dk_X5_piece 5 rfl) rfl ?_
  refine K_gI gf_X5_97 (dk_at dk_X5_piece 6 rfl) h (fun i3 h => ?_)
  refine G_callS (As := [.int v1, .int i3]) (rest := []) lk_X5_147 rfl (dk_at dk_X5_piece 7 rfl) rfl rfl (Nat.le_of_ble_eq_true rfl) (h.mono fun o7 A4 b5 c6 h => aftV h fun h => ?_)
  refine G_iload_n 3 (dk_at dk_X5_piece 8 rfl) rfl ?_
  by_cases c0 : v2 = 0
  · replace h := h.1 c0
    refine G_tcase (tgt := 60) (dk_at dk_X5_piece 9 rfl) (by rw [c0]; decide) (by rw [c0]; decide) (off := 43) (by rw [c0]; rfl) (by decide) ?_
    refine G_aload_n 0 (dk_at dk_X5_piece 10 rfl) rfl ?_
    refine G_iload_n 2 (dk_at dk_X5_piece 11 rfl) rfl ?_
    obtain ⟨⟨_, ho⟩, h⟩ := h
    refine G_callV (As := [.int v1]) (rest := []) lk_X5_188 rfl (dk_at dk_X5_piece 12 rfl) rfl rfl (Nat.le_of_ble_eq_true rfl) ho (h.mono fun o11 A8 b9 c10 h => aftI h fun i12 h => ?_)
    exact G_iret (ty := .int) rfl rfl (dk_at dk_X5_piece 13 rfl) h
  by_cases c1 : v2 = 1
  · replace h := h.2.1 c1
    refine G_tcase (tgt := 66) (dk_at dk_X5_piece 9 rfl) (by rw [c1]; decide) (by rw [c1]; decide) (off := 49) (by rw [c1]; rfl) (by decide) ?_
    refine G_aload_n 0 (dk_at dk_X5_piece 14 rfl) rfl ?_
    refine G_iload_n 2 (dk_at dk_X5_piece 15 rfl) rfl ?_
    obtain ⟨⟨_, ho⟩, h⟩ := h
    refine G_callV (As := [.int v1]) (rest := []) lk_X5_191 rfl (dk_at dk_X5_piece 16 rfl) rfl rfl (Nat.le_of_ble_eq_true rfl) ho (h.mono fun o16 A13 b14 c15 h => aftI h fun i17 h => ?_)
    exact G_iret (ty := .int) rfl rfl (dk_at dk_X5_piece 17 rfl) h
  by_cases c2 : v2 = 2
  · replace h := h.2.2.1 c2
    refine G_tcase (tgt := 72) (dk_at dk_X5_piece 9 rfl) (by rw [c2]; decide) (by rw [c2]; decide) (off := 55) (by rw [c2]; rfl) (by decide) ?_
    refine G_aload_n 0 (dk_at dk_X5_piece 18 rfl) rfl ?_
    refine G_iload_n 2 (dk_at dk_X5_piece 19 rfl) rfl ?_
    obtain ⟨⟨_, ho⟩, h⟩ := h
    refine G_callV (As := [.int v1]) (rest := []) lk_X5_194 rfl (dk_at dk_X5_piece 20 rfl) rfl rfl (Nat.le_of_ble_eq_true rfl) ho (h.mono fun o21 A18 b19 c20 h => aftI h fun i22 h => ?_)
    exact G_iret (ty := .int) rfl rfl (dk_at dk_X5_piece 21 rfl) h
  by_cases c3 : v2 = 3
  · replace h := h.2.2.2.1 c3
    refine G_tcase (tgt := 78) (dk_at dk_X5_piece 9 rfl) (by rw [c3]; decide) (by rw [c3]; decide) (off := 61) (by rw [c3]; rfl) (by decide) ?_
    refine G_aload_n 0 (dk_at dk_X5_piece 22 rfl) rfl ?_
    refine G_iload_n 2 (dk_at dk_X5_piece 23 rfl) rfl ?_
    obtain ⟨⟨_, ho⟩, h⟩ := h
    refine G_callV (As := [.int v1]) (rest := []) lk_X5_197 rfl (dk_at dk_X5_piece 24 rfl) rfl rfl (Nat.le_of_ble_eq_true rfl) ho (h.mono fun o26 A23 b24 c25 h => aftI h fun i27 h => ?_)
    exact G_iret (ty := .int) rfl rfl (dk_at dk_X5_piece 25 rfl) h
  by_cases c4 : v2 = 4
  · replace h := h.2.2.2.2.1 c4
    refine G_tcase (tgt := 84) (dk_at dk_X5_piece 9 rfl) (by rw [c4]; decide) (by rw [c4]; decide) (off := 67) (by rw [c4]; rfl) (by decide) ?_
    refine G_aload_n 1 (dk_at dk_X5_piece 26 rfl) rfl ?_
    refine K_gR gf_X5_50 (dk_at dk_X5_piece 27 rfl) h (fun r28 h => ?_)
    refine K_gR gf_X5_200 (dk_at dk_X5_piece 28 rfl) h (fun r29 h => ?_)
    refine G_iload_n 2 (dk_at dk_X5_piece 29 rfl) rfl ?_
    refine G_callS (As := [.ref r29, .int v1]) (rest := []) lk_X5_162 rfl (dk_at dk_X5_piece 30 rfl) rfl rfl (Nat.le_of_ble_eq_true rfl) (h.mono fun o33 A30 b31 c32 h => aftI h fun i34 h => ?_)
    exact G_iret (ty := .int) rfl rfl (dk_at dk_X5_piece 31 rfl) h
  by_cases c5 : v2 = 5
  · replace h := h.2.2.2.2.2.1 c5
    refine G_tcase (tgt := 96) (dk_at dk_X5_piece 9 rfl) (by rw [c5]; decide) (by rw [c5]; decide) (off := 79) (by rw [c5]; rfl) (by decide) ?_
    refine G_aload_n 0 (dk_at dk_X5_piece 32 rfl) rfl ?_
    refine K_gR gf_X5_203 (dk_at dk_X5_piece 33 rfl) h (fun r35 h => ?_)
    refine G_iload_n 2 (dk_at dk_X5_piece 34 rfl) rfl ?_
    refine G_callS (As := [.ref r35, .int v1]) (rest := []) lk_X5_162 rfl (dk_at dk_X5_piece 35 rfl) rfl rfl (Nat.le_of_ble_eq_true rfl) (h.mono fun o39 A36 b37 c38 h => aftI h fun i40 h => ?_)
    exact G_iret (ty := .int) rfl rfl (dk_at dk_X5_piece 36 rfl) h
  by_cases c6 : v2 = 6
  · replace h := h.2.2.2.2.2.2.1 c6
    refine G_tcase (tgt := 105) (dk_at dk_X5_piece 9 rfl) (by rw [c6]; decide) (by rw [c6]; decide) (off := 88) (by rw [c6]; rfl) (by decide) ?_
    refine G_aload_n 1 (dk_at dk_X5_piece 37 rfl) rfl ?_
    refine K_gR gf_X5_50 (dk_at dk_X5_piece 38 rfl) h (fun r41 h => ?_)
    refine K_gR gf_X5_206 (dk_at dk_X5_piece 39 rfl) h (fun r42 h => ?_)
    refine G_iload_n 2 (dk_at dk_X5_piece 40 rfl) rfl ?_
    refine G_callS (As := [.ref r42, .int v1]) (rest := []) lk_X5_162 rfl (dk_at dk_X5_piece 41 rfl) rfl rfl (Nat.le_of_ble_eq_true rfl) (h.mono fun o46 A43 b44 c45 h => aftI h fun i47 h => ?_)
    exact G_iret (ty := .int) rfl rfl (dk_at dk_X5_piece 42 rfl) h
  replace h := h.2.2.2.2.2.2.2 c0 c1 c2 c3 c4 c5 c6
  refine G_tout (tgt := 117) (dk_at dk_X5_piece 9 rfl) (tsw_out (n := 6) (fun k hk => ?_)) (by decide) ?_
  · have hk2 : k = 0 ∨ k = 1 ∨ k = 2 ∨ k = 3 ∨ k = 4 ∨ k = 5 ∨ k = 6 := by omega
    rcases hk2 with rfl | rfl | rfl | rfl | rfl | rfl | rfl
    · exact c0
    · exact c1
    · exact c2
    · exact c3
    · exact c4
    · exact c5
    · exact c6
  · exact G_throw to_X5_140_209 rfl (dk_at dk_X5_piece 43 rfl) (dk_at dk_X5_piece 44 rfl) (dk_at dk_X5_piece 45 rfl) (dk_at dk_X5_piece 46 rfl) (dk_at dk_X5_piece 47 rfl) (Nat.le_of_ble_eq_true rfl) h.1 h.2.1 h.2.2
theorem k_X5_part_0 {l : Launch} {X : XT} {d : Nat} {Q : Ot → AH → Prop} {A : AH} {bc bs : Nat} {v0 : Nat} {v1 : Int32} {v2 : Int32} (h : gR A v0 6 5 fun r1 => gR A r1 2 0 fun r2 => gI A r2 4 3 fun i3 => Cal l X d bc bs M_X5_needIndex [.int v1, .int i3] A fun o7 A4 b5 c6 => rV o7 (fun E => Q (.inr E) A4) <| (v2 = 0 → isO A4 r2 4 ∧ Cal l X d b5 c6 M_X3_partStart [.ref r2, .int v1] A4 fun o11 A8 b9 c10 => rI o11 (fun E => Q (.inr E) A8) fun i12 => Q (Ri i12) A8) ∧ (v2 = 1 → isO A4 r2 4 ∧ Cal l X d b5 c6 M_X3_partLength [.ref r2, .int v1] A4 fun o16 A13 b14 c15 => rI o16 (fun E => Q (.inr E) A13) fun i17 => Q (Ri i17) A13) ∧ (v2 = 2 → gR A4 r2 4 10 fun r18 => Cal l X d b5 c6 M_X5_at [.ref r18, .int v1] A4 fun o22 A19 b20 c21 => rI o22 (fun E => Q (.inr E) A19) fun i23 => Q (Ri i23) A19) ∧ (v2 = 3 → gR A4 v0 6 5 fun r24 => gR A4 r24 2 2 fun r25 => Cal l X d b5 c6 M_X5_at [.ref r25, .int v1] A4 fun o29 A26 b27 c28 => rI o29 (fun E => Q (.inr E) A26) fun i30 => Q (Ri i30) A26) ∧ (v2 = 4 → gR A4 v0 6 5 fun r31 => isO A4 r31 2 ∧ Cal l X d b5 c6 M_X1_wrongBytesOf [.ref r31, .int v1] A4 fun o35 A32 b33 c34 => rI o35 (fun E => Q (.inr E) A32) fun i36 => Q (Ri i36) A32) ∧ (¬ v2 = 0 → ¬ v2 = 1 → ¬ v2 = 2 → ¬ v2 = 3 → ¬ v2 = 4 → thr A4 b5 c6 fun A37 => Q (Th "java/lang/IllegalArgumentException") A37)) : G l X M_X5_part d Q 0 [(0, .ref v0), (1, .int v1), (2, .int v2)] [] A bc bs := by
  refine G_aload_n 0 (dk_at dk_X5_part 0 rfl) rfl ?_
  refine K_gR gf_X5_50 (dk_at dk_X5_part 1 rfl) h (fun r1 h => ?_)
  refine K_gR gf_X5_90 (dk_at dk_X5_part 2 rfl) h (fun r2 h => ?_)
  refine G_astore_n (lv' := [(3, .ref r2), (0, .ref v0), (1, .int v1), (2, .int v2)]) (dk_at dk_X5_part 3 rfl) (by decide) rfl ?_
  refine G_iload_n 2 (dk_at dk_X5_part 4 rfl) rfl ?_
  refine G_aload_n 0 (dk_at dk_X5_part 5 rfl) rfl ?_
  refine K_gI gf_X5_87 (dk_at dk_X5_part 6 rfl) h (fun i3 h => ?_)
  refine G_callS (As := [.int v1, .int i3]) (rest := []) lk_X5_147 rfl (dk_at dk_X5_part 7 rfl) rfl rfl (Nat.le_of_ble_eq_true rfl) (h.mono fun o7 A4 b5 c6 h => aftV h fun h => ?_)
  refine G_iload_n 3 (dk_at dk_X5_part 8 rfl) rfl ?_
  by_cases c0 : v2 = 0
  · replace h := h.1 c0
    refine G_tcase (tgt := 52) (dk_at dk_X5_part 9 rfl) (by rw [c0]; decide) (by rw [c0]; decide) (off := 35) (by rw [c0]; rfl) (by decide) ?_
    refine G_aload_n 0 (dk_at dk_X5_part 10 rfl) rfl ?_
    refine G_iload_n 2 (dk_at dk_X5_part 11 rfl) rfl ?_
    obtain ⟨⟨_, ho⟩, h⟩ := h
    refine G_callV (As := [.int v1]) (rest := []) lk_X5_211 rfl (dk_at dk_X5_part 12 rfl) rfl rfl (Nat.le_of_ble_eq_true rfl) ho (h.mono fun o11 A8 b9 c10 h => aftI h fun i12 h => ?_)
    exact G_iret (ty := .int) rfl rfl (dk_at dk_X5_part 13 rfl) h
  by_cases c1 : v2 = 1
  · replace h := h.2.1 c1
    refine G_tcase (tgt := 58) (dk_at dk_X5_part 9 rfl) (by rw [c1]; decide) (by rw [c1]; decide) (off := 41) (by rw [c1]; rfl) (by decide) ?_
    refine G_aload_n 0 (dk_at dk_X5_part 14 rfl) rfl ?_
    refine G_iload_n 2 (dk_at dk_X5_part 15 rfl) rfl ?_
    obtain ⟨⟨_, ho⟩, h⟩ := h
    refine G_callV (As := [.int v1]) (rest := []) lk_X5_214 rfl (dk_at dk_X5_part 16 rfl) rfl rfl (Nat.le_of_ble_eq_true rfl) ho (h.mono fun o16 A13 b14 c15 h => aftI h fun i17 h => ?_)
    exact G_iret (ty := .int) rfl rfl (dk_at dk_X5_part 17 rfl) h
  by_cases c2 : v2 = 2
  · replace h := h.2.2.1 c2
    refine G_tcase (tgt := 64) (dk_at dk_X5_part 9 rfl) (by rw [c2]; decide) (by rw [c2]; decide) (off := 47) (by rw [c2]; rfl) (by decide) ?_
    refine G_aload_n 0 (dk_at dk_X5_part 18 rfl) rfl ?_
    refine K_gR gf_X5_217 (dk_at dk_X5_part 19 rfl) h (fun r18 h => ?_)
    refine G_iload_n 2 (dk_at dk_X5_part 20 rfl) rfl ?_
    refine G_callS (As := [.ref r18, .int v1]) (rest := []) lk_X5_162 rfl (dk_at dk_X5_part 21 rfl) rfl rfl (Nat.le_of_ble_eq_true rfl) (h.mono fun o22 A19 b20 c21 h => aftI h fun i23 h => ?_)
    exact G_iret (ty := .int) rfl rfl (dk_at dk_X5_part 22 rfl) h
  by_cases c3 : v2 = 3
  · replace h := h.2.2.2.1 c3
    refine G_tcase (tgt := 73) (dk_at dk_X5_part 9 rfl) (by rw [c3]; decide) (by rw [c3]; decide) (off := 56) (by rw [c3]; rfl) (by decide) ?_
    refine G_aload_n 1 (dk_at dk_X5_part 23 rfl) rfl ?_
    refine K_gR gf_X5_50 (dk_at dk_X5_part 24 rfl) h (fun r24 h => ?_)
    refine K_gR gf_X5_220 (dk_at dk_X5_part 25 rfl) h (fun r25 h => ?_)
    refine G_iload_n 2 (dk_at dk_X5_part 26 rfl) rfl ?_
    refine G_callS (As := [.ref r25, .int v1]) (rest := []) lk_X5_162 rfl (dk_at dk_X5_part 27 rfl) rfl rfl (Nat.le_of_ble_eq_true rfl) (h.mono fun o29 A26 b27 c28 h => aftI h fun i30 h => ?_)
    exact G_iret (ty := .int) rfl rfl (dk_at dk_X5_part 28 rfl) h
  by_cases c4 : v2 = 4
  · replace h := h.2.2.2.2.1 c4
    refine G_tcase (tgt := 85) (dk_at dk_X5_part 9 rfl) (by rw [c4]; decide) (by rw [c4]; decide) (off := 68) (by rw [c4]; rfl) (by decide) ?_
    refine G_aload_n 1 (dk_at dk_X5_part 29 rfl) rfl ?_
    refine K_gR gf_X5_50 (dk_at dk_X5_part 30 rfl) h (fun r31 h => ?_)
    refine G_iload_n 2 (dk_at dk_X5_part 31 rfl) rfl ?_
    obtain ⟨⟨_, ho⟩, h⟩ := h
    refine G_callV (As := [.int v1]) (rest := []) lk_X5_223 rfl (dk_at dk_X5_part 32 rfl) rfl rfl (Nat.le_of_ble_eq_true rfl) ho (h.mono fun o35 A32 b33 c34 h => aftI h fun i36 h => ?_)
    exact G_iret (ty := .int) rfl rfl (dk_at dk_X5_part 33 rfl) h
  replace h := h.2.2.2.2.2 c0 c1 c2 c3 c4
  refine G_tout (tgt := 94) (dk_at dk_X5_part 9 rfl) (tsw_out (n := 4) (fun k hk => ?_)) (by decide) ?_
  · have hk2 : k = 0 ∨ k = 1 ∨ k = 2 ∨ k = 3 ∨ k = 4 := by omega
    rcases hk2 with rfl | rfl | rfl | rfl | rfl
    · exact c0
    · exact c1
    · exact c2
    · exact c3
    · exact c4
  · exact G_throw to_X5_140_173 rfl (dk_at dk_X5_part 34 rfl) (dk_at dk_X5_part 35 rfl) (dk_at dk_X5_part 36 rfl) (dk_at dk_X5_part 37 rfl) (dk_at dk_X5_part 38 rfl) (Nat.le_of_ble_eq_true rfl) h.1 h.2.1 h.2.2
theorem k_X5_checksum_0 {l : Launch} {X : XT} {d : Nat} {Q : Ot → AH → Prop} {A : AH} {bc bs : Nat} {v0 : Nat} {v1 : Int32} {v2 : Int32} {v3 : Int32} (h : Cal l X d bc bs M_X5_needIndex [.int v1, .int 2] A fun o4 A1 b2 c3 => rV o4 (fun E => Q (.inr E) A1) <| gR A1 v0 6 5 fun r5 => gR A1 r5 2 0 fun r6 => gI A1 r6 4 0 fun i7 => Cal l X d b2 c3 M_X5_needIndex [.int v2, .int i7] A1 fun o11 A8 b9 c10 => rV o11 (fun E => Q (.inr E) A8) <| (v3 < 1 → G l X M_X5_checksum d Q 45 [(0, .ref v0), (1, .int v1), (2, .int v2), (3, .int v3)] [.int 0] A8 b9 c10) ∧ (¬ v3 < 1 → gR A8 v0 6 5 fun r12 => gR A8 r12 2 0 fun r13 => gI A8 r13 4 0 fun i14 => ((i14 - v2) < v3 → G l X M_X5_checksum d Q 45 [(0, .ref v0), (1, .int v1), (2, .int v2), (3, .int v3)] [.int 0] A8 b9 c10) ∧ (¬ (i14 - v2) < v3 → G l X M_X5_checksum d Q 45 [(0, .ref v0), (1, .int v1), (2, .int v2), (3, .int v3)] [.int 1] A8 b9 c10))) : G l X M_X5_checksum d Q 0 [(0, .ref v0), (1, .int v1), (2, .int v2), (3, .int v3)] [] A bc bs := by
  refine G_iload_n 1 (dk_at dk_X5_checksum 0 rfl) rfl ?_
  refine G_iconst (v := 2) (dk_at dk_X5_checksum 1 rfl) (by decide) ?_
  refine G_callS (As := [.int v1, .int 2]) (rest := []) lk_X5_147 rfl (dk_at dk_X5_checksum 2 rfl) rfl rfl (Nat.le_of_ble_eq_true rfl) (h.mono fun o4 A1 b2 c3 h => aftV h fun h => ?_)
  refine G_iload_n 2 (dk_at dk_X5_checksum 3 rfl) rfl ?_
  refine G_aload_n 0 (dk_at dk_X5_checksum 4 rfl) rfl ?_
  refine K_gR gf_X5_50 (dk_at dk_X5_checksum 5 rfl) h (fun r5 h => ?_)
  refine K_gR gf_X5_90 (dk_at dk_X5_checksum 6 rfl) h (fun r6 h => ?_)
  refine K_gI gf_X5_94 (dk_at dk_X5_checksum 7 rfl) h (fun i7 h => ?_)
  refine G_callS (As := [.int v2, .int i7]) (rest := []) lk_X5_147 rfl (dk_at dk_X5_checksum 8 rfl) rfl rfl (Nat.le_of_ble_eq_true rfl) (h.mono fun o11 A8 b9 c10 h => aftV h fun h => ?_)
  refine G_iload_n 3 (dk_at dk_X5_checksum 9 rfl) rfl ?_
  refine G_iconst (v := 1) (dk_at dk_X5_checksum 10 rfl) (by decide) ?_
  refine G_icmp_lt (tgt := 44) (dk_at dk_X5_checksum 11 rfl) (by decide) (fun c => ?_) (fun c => ?_)
  · replace h := h.1 c
    refine G_iconst (v := 0) (dk_at dk_X5_checksum 22 rfl) (by decide) ?_
    exact h
  · replace h := h.2 c
    refine G_iload_n 3 (dk_at dk_X5_checksum 12 rfl) rfl ?_
    refine G_aload_n 0 (dk_at dk_X5_checksum 13 rfl) rfl ?_
    refine K_gR gf_X5_50 (dk_at dk_X5_checksum 14 rfl) h (fun r12 h => ?_)
    refine K_gR gf_X5_90 (dk_at dk_X5_checksum 15 rfl) h (fun r13 h => ?_)
    refine K_gI gf_X5_94 (dk_at dk_X5_checksum 16 rfl) h (fun i14 h => ?_)
    refine G_iload_n 2 (dk_at dk_X5_checksum 17 rfl) rfl ?_
    refine G_isub (dk_at dk_X5_checksum 18 rfl) ?_
    refine G_icmp_gt (tgt := 44) (dk_at dk_X5_checksum 19 rfl) (by decide) (fun c => ?_) (fun c => ?_)
    · replace h := h.1 c
      refine G_iconst (v := 0) (dk_at dk_X5_checksum 22 rfl) (by decide) ?_
      exact h
    · replace h := h.2 c
      refine G_iconst (v := 1) (dk_at dk_X5_checksum 20 rfl) (by decide) ?_
      refine G_goto (tgt := 45) (dk_at dk_X5_checksum 21 rfl) (by decide) ?_
      exact h
theorem k_X5_checksum_45 {l : Launch} {X : XT} {d : Nat} {Q : Ot → AH → Prop} {A : AH} {bc bs : Nat} {v0 : Nat} {v1 : Int32} {v2 : Int32} {v3 : Int32} {s0 : Int32} (h : Cal l X d bc bs M_X5_needArgument [.int s0] A fun o4 A1 b2 c3 => rV o4 (fun E => Q (.inr E) A1) <| gR A1 v0 6 5 fun r5 => gR A1 r5 2 0 fun r6 => isO A1 r6 4 ∧ Cal l X d b2 c3 M_X3_bytesOf [.ref r6, .int v1] A1 fun o10 A7 b8 c9 => rR o10 (fun E => Q (.inr E) A7) fun r11 => Cal l X d b8 c9 M_X5_sumOf [.ref r11, .int v2, .int v3] A7 fun o15 A12 b13 c14 => rI o15 (fun E => Q (.inr E) A12) fun i16 => Q (Ri i16) A12) : G l X M_X5_checksum d Q 45 [(0, .ref v0), (1, .int v1), (2, .int v2), (3, .int v3)] [.int s0] A bc bs := by
  refine G_callS (As := [.int s0]) (rest := []) lk_X5_68 rfl (dk_at dk_X5_checksum 23 rfl) rfl rfl (Nat.le_of_ble_eq_true rfl) (h.mono fun o4 A1 b2 c3 h => aftV h fun h => ?_)
  refine G_aload_n 0 (dk_at dk_X5_checksum 24 rfl) rfl ?_
  refine K_gR gf_X5_50 (dk_at dk_X5_checksum 25 rfl) h (fun r5 h => ?_)
  refine K_gR gf_X5_90 (dk_at dk_X5_checksum 26 rfl) h (fun r6 h => ?_)
  refine G_iload_n 1 (dk_at dk_X5_checksum 27 rfl) rfl ?_
  obtain ⟨⟨_, ho⟩, h⟩ := h
  refine G_callV (As := [.int v1]) (rest := []) lk_X5_175 rfl (dk_at dk_X5_checksum 28 rfl) rfl rfl (Nat.le_of_ble_eq_true rfl) ho (h.mono fun o10 A7 b8 c9 h => aftR h fun r11 h => ?_)
  refine G_iload_n 2 (dk_at dk_X5_checksum 29 rfl) rfl ?_
  refine G_iload_n 3 (dk_at dk_X5_checksum 30 rfl) rfl ?_
  refine G_callS (As := [.ref r11, .int v2, .int v3]) (rest := []) lk_X5_226 rfl (dk_at dk_X5_checksum 31 rfl) rfl rfl (Nat.le_of_ble_eq_true rfl) (h.mono fun o15 A12 b13 c14 h => aftI h fun i16 h => ?_)
  exact G_iret (ty := .int) rfl rfl (dk_at dk_X5_checksum 32 rfl) h
theorem k_X5_connect_0 {l : Launch} {X : XT} {d : Nat} {Q : Ot → AH → Prop} {A : AH} {bc bs : Nat} {v0 : Nat} {v1 : Int32} {v2 : Int32} (h : Cal l X d bc bs M_X5_needIndex [.int v1, .int 2] A fun o4 A1 b2 c3 => rV o4 (fun E => Q (.inr E) A1) <| (v2 = 0 → G l X M_X5_connect d Q 29 [(0, .ref v0), (1, .int v1), (2, .int v2)] [.int 1] A1 b2 c3) ∧ (¬ v2 = 0 → (¬ v1 = 1 → G l X M_X5_connect d Q 29 [(0, .ref v0), (1, .int v1), (2, .int v2)] [.int 1] A1 b2 c3) ∧ (v1 = 1 → gR A1 v0 6 5 fun r5 => gI A1 r5 2 14 fun i6 => (¬ i6 = 0 → G l X M_X5_connect d Q 29 [(0, .ref v0), (1, .int v1), (2, .int v2)] [.int 0] A1 b2 c3) ∧ (i6 = 0 → G l X M_X5_connect d Q 29 [(0, .ref v0), (1, .int v1), (2, .int v2)] [.int 1] A1 b2 c3)))) : G l X M_X5_connect d Q 0 [(0, .ref v0), (1, .int v1), (2, .int v2)] [] A bc bs := by
  refine G_iload_n 1 (dk_at dk_X5_connect 0 rfl) rfl ?_
  refine G_iconst (v := 2) (dk_at dk_X5_connect 1 rfl) (by decide) ?_
  refine G_callS (As := [.int v1, .int 2]) (rest := []) lk_X5_147 rfl (dk_at dk_X5_connect 2 rfl) rfl rfl (Nat.le_of_ble_eq_true rfl) (h.mono fun o4 A1 b2 c3 h => aftV h fun h => ?_)
  refine G_iload_n 2 (dk_at dk_X5_connect 3 rfl) rfl ?_
  refine G_if_eq (tgt := 24) (dk_at dk_X5_connect 4 rfl) (by decide) (fun c => ?_) (fun c => ?_)
  · replace h := h.1 c
    refine G_iconst (v := 1) (dk_at dk_X5_connect 12 rfl) (by decide) ?_
    refine G_goto (tgt := 29) (dk_at dk_X5_connect 13 rfl) (by decide) ?_
    exact h
  · replace h := h.2 c
    refine G_iload_n 1 (dk_at dk_X5_connect 5 rfl) rfl ?_
    refine G_iconst (v := 1) (dk_at dk_X5_connect 6 rfl) (by decide) ?_
    refine G_icmp_ne (tgt := 24) (dk_at dk_X5_connect 7 rfl) (by decide) (fun c => ?_) (fun c => ?_)
    · replace h := h.1 c
      refine G_iconst (v := 1) (dk_at dk_X5_connect 12 rfl) (by decide) ?_
      refine G_goto (tgt := 29) (dk_at dk_X5_connect 13 rfl) (by decide) ?_
      exact h
    · replace h := h.2 c
      refine G_aload_n 0 (dk_at dk_X5_connect 8 rfl) rfl ?_
      refine K_gR gf_X5_50 (dk_at dk_X5_connect 9 rfl) h (fun r5 h => ?_)
      refine K_gI gf_X5_155 (dk_at dk_X5_connect 10 rfl) h (fun i6 h => ?_)
      refine G_if_ne (tgt := 28) (dk_at dk_X5_connect 11 rfl) (by decide) (fun c => ?_) (fun c => ?_)
      · replace h := h.1 c
        refine G_iconst (v := 0) (dk_at dk_X5_connect 14 rfl) (by decide) ?_
        exact h
      · replace h := h.2 c
        refine G_iconst (v := 1) (dk_at dk_X5_connect 12 rfl) (by decide) ?_
        refine G_goto (tgt := 29) (dk_at dk_X5_connect 13 rfl) (by decide) ?_
        exact h
theorem k_X5_connect_29 {l : Launch} {X : XT} {d : Nat} {Q : Ot → AH → Prop} {A : AH} {bc bs : Nat} {v0 : Nat} {v1 : Int32} {v2 : Int32} {s0 : Int32} (h : Cal l X d bc bs M_X5_needState [.int s0] A fun o4 A1 b2 c3 => rV o4 (fun E => Q (.inr E) A1) <| isO A1 v0 6 ∧ Cal l X d b2 c3 M_X5_remember [.ref v0] A1 fun o8 A5 b6 c7 => rV o8 (fun E => Q (.inr E) A5) <| gR A5 v0 6 5 fun r9 => isO A5 r9 2 ∧ Cal l X d b6 c7 M_X1_isConnected [.ref r9, .int v1] A5 fun o13 A10 b11 c12 => rI o13 (fun E => Q (.inr E) A10) fun i14 => gR A10 v0 6 5 fun r15 => gR A10 r15 2 11 fun r16 => (v2 = 0 → G l X M_X5_connect d Q 62 [(3, .int i14)] [.int 0, .int v1, .ref r16] A10 b11 c12) ∧ (¬ v2 = 0 → G l X M_X5_connect d Q 62 [(3, .int i14)] [.int 1, .int v1, .ref r16] A10 b11 c12)) : G l X M_X5_connect d Q 29 [(0, .ref v0), (1, .int v1), (2, .int v2)] [.int s0] A bc bs := by
  refine G_callS (As := [.int s0]) (rest := []) lk_X5_56 rfl (dk_at dk_X5_connect 15 rfl) rfl rfl (Nat.le_of_ble_eq_true rfl) (h.mono fun o4 A1 b2 c3 h => aftV h fun h => ?_)
  refine G_aload_n 0 (dk_at dk_X5_connect 16 rfl) rfl ?_
  obtain ⟨⟨_, ho⟩, h⟩ := h
  refine G_callV (As := []) (rest := []) lk_X5_84 rfl (dk_at dk_X5_connect 17 rfl) rfl rfl (Nat.le_of_ble_eq_true rfl) ho (h.mono fun o8 A5 b6 c7 h => aftV h fun h => ?_)
  refine G_aload_n 0 (dk_at dk_X5_connect 18 rfl) rfl ?_
  refine K_gR gf_X5_50 (dk_at dk_X5_connect 19 rfl) h (fun r9 h => ?_)
  refine G_iload_n 1 (dk_at dk_X5_connect 20 rfl) rfl ?_
  obtain ⟨⟨_, ho⟩, h⟩ := h
  refine G_callV (As := [.int v1]) (rest := []) lk_X5_151 rfl (dk_at dk_X5_connect 21 rfl) rfl rfl (Nat.le_of_ble_eq_true rfl) ho (h.mono fun o13 A10 b11 c12 h => aftI h fun i14 h => ?_)
  refine G_istore_n (lv' := [(3, .int i14), (0, .ref v0), (1, .int v1), (2, .int v2)]) (dk_at dk_X5_connect 22 rfl) (by decide) rfl ?_
  refine G_aload_n 1 (dk_at dk_X5_connect 23 rfl) rfl ?_
  refine K_gR gf_X5_50 (dk_at dk_X5_connect 24 rfl) h (fun r15 h => ?_)
  refine K_gR gf_X5_230 (dk_at dk_X5_connect 25 rfl) h (fun r16 h => ?_)
  refine G_iload_n 2 (dk_at dk_X5_connect 26 rfl) rfl ?_
  refine G_iload_n 3 (dk_at dk_X5_connect 27 rfl) rfl ?_
  refine G_if_eq (tgt := 61) (dk_at dk_X5_connect 28 rfl) (by decide) (fun c => ?_) (fun c => ?_)
  · replace h := h.1 c
    refine G_iconst (v := 0) (dk_at dk_X5_connect 31 rfl) (by decide) ?_
    refine G_sub [0] rfl ?_
    exact h
  · replace h := h.2 c
    refine G_iconst (v := 1) (dk_at dk_X5_connect 29 rfl) (by decide) ?_
    refine G_goto (tgt := 62) (dk_at dk_X5_connect 30 rfl) (by decide) ?_
    refine G_sub [0] rfl ?_
    exact h
theorem k_X5_connect_62 {l : Launch} {X : XT} {d : Nat} {Q : Ot → AH → Prop} {A : AH} {bc bs : Nat} {v3 : Int32} {s0 : Int32} {s1 : Int32} {s2 : Nat} (h : Cal l X d bc bs M_X5_put [.ref s2, .int s1, .int s0] A fun o4 A1 b2 c3 => rV o4 (fun E => Q (.inr E) A1) <| ((v3 : Int32) = 0 ∨ (v3 : Int32) = 1) ∧ Q (Ri v3) A1) : G l X M_X5_connect d Q 62 [(3, .int v3)] [.int s0, .int s1, .ref s2] A bc bs := by
  refine G_callS (As := [.ref s2, .int s1, .int s0]) (rest := []) lk_X5_64 rfl (dk_at dk_X5_connect 32 rfl) rfl rfl (Nat.le_of_ble_eq_true rfl) (h.mono fun o4 A1 b2 c3 h => aftV h fun h => ?_)
  refine G_iload_n 0 (dk_at dk_X5_connect 33 rfl) rfl ?_
  refine G_iret (ty := .boolean) rfl (by rcases h.1 with e | e <;> (rw [e]; rfl)) (dk_at dk_X5_connect 34 rfl) h.2
theorem k_X5_fetch_0 {l : Launch} {X : XT} {d : Nat} {Q : Ot → AH → Prop} {A : AH} {bc bs : Nat} {v0 : Nat} {v1 : Int32} {v2 : Int32} (h : Cal l X d bc bs M_X5_needIndex [.int v1, .int 2] A fun o4 A1 b2 c3 => rV o4 (fun E => Q (.inr E) A1) <| gR A1 v0 6 5 fun r5 => gR A1 r5 2 0 fun r6 => gI A1 r6 4 2 fun i7 => Cal l X d b2 c3 M_X5_needIndex [.int v2, .int i7] A1 fun o11 A8 b9 c10 => rV o11 (fun E => Q (.inr E) A8) <| gR A8 v0 6 5 fun r12 => isO A8 r12 2 ∧ Cal l X d b9 c10 M_X1_isConnected [.ref r12, .int v1] A8 fun o16 A13 b14 c15 => rI o16 (fun E => Q (.inr E) A13) fun i17 => (i17 = 0 → G l X M_X5_fetch d Q 49 [(0, .ref v0), (1, .int v1), (2, .int v2)] [.int 0] A13 b14 c15) ∧ (¬ i17 = 0 → gR A13 v0 6 5 fun r18 => gR A13 r18 2 3 fun r19 => Cal l X d b14 c15 M_X5_at [.ref r19, .int v2] A13 fun o23 A20 b21 c22 => rI o23 (fun E => Q (.inr E) A20) fun i24 => (i24 ≤ 0 → G l X M_X5_fetch d Q 49 [(0, .ref v0), (1, .int v1), (2, .int v2)] [.int 0] A20 b21 c22) ∧ (¬ i24 ≤ 0 → G l X M_X5_fetch d Q 49 [(0, .ref v0), (1, .int v1), (2, .int v2)] [.int 1] A20 b21 c22))) : G l X M_X5_fetch d Q 0 [(0, .ref v0), (1, .int v1), (2, .int v2)] [] A bc bs := by
  refine G_iload_n 1 (dk_at dk_X5_fetch 0 rfl) rfl ?_
  refine G_iconst (v := 2) (dk_at dk_X5_fetch 1 rfl) (by decide) ?_
  refine G_callS (As := [.int v1, .int 2]) (rest := []) lk_X5_147 rfl (dk_at dk_X5_fetch 2 rfl) rfl rfl (Nat.le_of_ble_eq_true rfl) (h.mono fun o4 A1 b2 c3 h => aftV h fun h => ?_)
  refine G_iload_n 2 (dk_at dk_X5_fetch 3 rfl) rfl ?_
  refine G_aload_n 0 (dk_at dk_X5_fetch 4 rfl) rfl ?_
  refine K_gR gf_X5_50 (dk_at dk_X5_fetch 5 rfl) h (fun r5 h => ?_)
  refine K_gR gf_X5_90 (dk_at dk_X5_fetch 6 rfl) h (fun r6 h => ?_)
  refine K_gI gf_X5_97 (dk_at dk_X5_fetch 7 rfl) h (fun i7 h => ?_)
  refine G_callS (As := [.int v2, .int i7]) (rest := []) lk_X5_147 rfl (dk_at dk_X5_fetch 8 rfl) rfl rfl (Nat.le_of_ble_eq_true rfl) (h.mono fun o11 A8 b9 c10 h => aftV h fun h => ?_)
  refine G_aload_n 0 (dk_at dk_X5_fetch 9 rfl) rfl ?_
  refine K_gR gf_X5_50 (dk_at dk_X5_fetch 10 rfl) h (fun r12 h => ?_)
  refine G_iload_n 1 (dk_at dk_X5_fetch 11 rfl) rfl ?_
  obtain ⟨⟨_, ho⟩, h⟩ := h
  refine G_callV (As := [.int v1]) (rest := []) lk_X5_151 rfl (dk_at dk_X5_fetch 12 rfl) rfl rfl (Nat.le_of_ble_eq_true rfl) ho (h.mono fun o16 A13 b14 c15 h => aftI h fun i17 h => ?_)
  refine G_if_eq (tgt := 48) (dk_at dk_X5_fetch 13 rfl) (by decide) (fun c => ?_) (fun c => ?_)
  · replace h := h.1 c
    refine G_iconst (v := 0) (dk_at dk_X5_fetch 22 rfl) (by decide) ?_
    exact h
  · replace h := h.2 c
    refine G_aload_n 0 (dk_at dk_X5_fetch 14 rfl) rfl ?_
    refine K_gR gf_X5_50 (dk_at dk_X5_fetch 15 rfl) h (fun r18 h => ?_)
    refine K_gR gf_X5_200 (dk_at dk_X5_fetch 16 rfl) h (fun r19 h => ?_)
    refine G_iload_n 2 (dk_at dk_X5_fetch 17 rfl) rfl ?_
    refine G_callS (As := [.ref r19, .int v2]) (rest := []) lk_X5_162 rfl (dk_at dk_X5_fetch 18 rfl) rfl rfl (Nat.le_of_ble_eq_true rfl) (h.mono fun o23 A20 b21 c22 h => aftI h fun i24 h => ?_)
    refine G_if_le (tgt := 48) (dk_at dk_X5_fetch 19 rfl) (by decide) (fun c => ?_) (fun c => ?_)
    · replace h := h.1 c
      refine G_iconst (v := 0) (dk_at dk_X5_fetch 22 rfl) (by decide) ?_
      exact h
    · replace h := h.2 c
      refine G_iconst (v := 1) (dk_at dk_X5_fetch 20 rfl) (by decide) ?_
      refine G_goto (tgt := 49) (dk_at dk_X5_fetch 21 rfl) (by decide) ?_
      exact h
theorem k_X5_fetch_49 {l : Launch} {X : XT} {d : Nat} {Q : Ot → AH → Prop} {A : AH} {bc bs : Nat} {v0 : Nat} {v1 : Int32} {v2 : Int32} {s0 : Int32} (h : Cal l X d bc bs M_X5_needState [.int s0] A fun o4 A1 b2 c3 => rV o4 (fun E => Q (.inr E) A1) <| isO A1 v0 6 ∧ Cal l X d b2 c3 M_X5_remember [.ref v0] A1 fun o8 A5 b6 c7 => rV o8 (fun E => Q (.inr E) A5) <| gR A5 v0 6 5 fun r9 => isO A5 r9 2 ∧ Cal l X d b6 c7 M_X1_receiveMissing [.ref r9, .int v2, .int v1] A5 fun o13 A10 b11 c12 => rI o13 (fun E => Q (.inr E) A10) fun i14 => Q (Ri i14) A10) : G l X M_X5_fetch d Q 49 [(0, .ref v0), (1, .int v1), (2, .int v2)] [.int s0] A bc bs := by
  refine G_callS (As := [.int s0]) (rest := []) lk_X5_56 rfl (dk_at dk_X5_fetch 23 rfl) rfl rfl (Nat.le_of_ble_eq_true rfl) (h.mono fun o4 A1 b2 c3 h => aftV h fun h => ?_)
  refine G_aload_n 0 (dk_at dk_X5_fetch 24 rfl) rfl ?_
  obtain ⟨⟨_, ho⟩, h⟩ := h
  refine G_callV (As := []) (rest := []) lk_X5_84 rfl (dk_at dk_X5_fetch 25 rfl) rfl rfl (Nat.le_of_ble_eq_true rfl) ho (h.mono fun o8 A5 b6 c7 h => aftV h fun h => ?_)
  refine G_aload_n 0 (dk_at dk_X5_fetch 26 rfl) rfl ?_
  refine K_gR gf_X5_50 (dk_at dk_X5_fetch 27 rfl) h (fun r9 h => ?_)
  refine G_iload_n 2 (dk_at dk_X5_fetch 28 rfl) rfl ?_
  refine G_iload_n 1 (dk_at dk_X5_fetch 29 rfl) rfl ?_
  obtain ⟨⟨_, ho⟩, h⟩ := h
  refine G_callV (As := [.int v2, .int v1]) (rest := []) lk_X5_233 rfl (dk_at dk_X5_fetch 30 rfl) rfl rfl (Nat.le_of_ble_eq_true rfl) ho (h.mono fun o13 A10 b11 c12 h => aftI h fun i14 h => ?_)
  exact G_iret (ty := .int) rfl rfl (dk_at dk_X5_fetch 31 rfl) h
theorem k_X5_search_0 {l : Launch} {X : XT} {d : Nat} {Q : Ot → AH → Prop} {A : AH} {bc bs : Nat} {v0 : Nat} {v1 : Int32} (h : gR A v0 6 5 fun r1 => gR A r1 2 0 fun r2 => gI A r2 4 2 fun i3 => Cal l X d bc bs M_X5_needIndex [.int v1, .int i3] A fun o7 A4 b5 c6 => rV o7 (fun E => Q (.inr E) A4) <| gR A4 v0 6 5 fun r8 => isO A4 r8 2 ∧ Cal l X d b5 c6 M_X1_isSuspect [.ref r8, .int v1] A4 fun o12 A9 b10 c11 => rI o12 (fun E => Q (.inr E) A9) fun i13 => (i13 = 0 → G l X M_X5_search d Q 41 [(0, .ref v0), (1, .int v1)] [.int 0] A9 b10 c11) ∧ (¬ i13 = 0 → gR A9 v0 6 5 fun r14 => isO A9 r14 2 ∧ Cal l X d b10 c11 M_X1_isConnected [.ref r14, .int 0] A9 fun o18 A15 b16 c17 => rI o18 (fun E => Q (.inr E) A15) fun i19 => (i19 = 0 → G l X M_X5_search d Q 41 [(0, .ref v0), (1, .int v1)] [.int 0] A15 b16 c17) ∧ (¬ i19 = 0 → G l X M_X5_search d Q 41 [(0, .ref v0), (1, .int v1)] [.int 1] A15 b16 c17))) : G l X M_X5_search d Q 0 [(0, .ref v0), (1, .int v1)] [] A bc bs := by
  refine G_iload_n 1 (dk_at dk_X5_search 0 rfl) rfl ?_
  refine G_aload_n 0 (dk_at dk_X5_search 1 rfl) rfl ?_
  refine K_gR gf_X5_50 (dk_at dk_X5_search 2 rfl) h (fun r1 h => ?_)
  refine K_gR gf_X5_90 (dk_at dk_X5_search 3 rfl) h (fun r2 h => ?_)
  refine K_gI gf_X5_97 (dk_at dk_X5_search 4 rfl) h (fun i3 h => ?_)
  refine G_callS (As := [.int v1, .int i3]) (rest := []) lk_X5_147 rfl (dk_at dk_X5_search 5 rfl) rfl rfl (Nat.le_of_ble_eq_true rfl) (h.mono fun o7 A4 b5 c6 h => aftV h fun h => ?_)
  refine G_aload_n 0 (dk_at dk_X5_search 6 rfl) rfl ?_
  refine K_gR gf_X5_50 (dk_at dk_X5_search 7 rfl) h (fun r8 h => ?_)
  refine G_iload_n 1 (dk_at dk_X5_search 8 rfl) rfl ?_
  obtain ⟨⟨_, ho⟩, h⟩ := h
  refine G_callV (As := [.int v1]) (rest := []) lk_X5_237 rfl (dk_at dk_X5_search 9 rfl) rfl rfl (Nat.le_of_ble_eq_true rfl) ho (h.mono fun o12 A9 b10 c11 h => aftI h fun i13 h => ?_)
  refine G_if_eq (tgt := 40) (dk_at dk_X5_search 10 rfl) (by decide) (fun c => ?_) (fun c => ?_)
  · replace h := h.1 c
    refine G_iconst (v := 0) (dk_at dk_X5_search 18 rfl) (by decide) ?_
    exact h
  · replace h := h.2 c
    refine G_aload_n 0 (dk_at dk_X5_search 11 rfl) rfl ?_
    refine K_gR gf_X5_50 (dk_at dk_X5_search 12 rfl) h (fun r14 h => ?_)
    refine G_iconst (v := 0) (dk_at dk_X5_search 13 rfl) (by decide) ?_
    obtain ⟨⟨_, ho⟩, h⟩ := h
    refine G_callV (As := [.int 0]) (rest := []) lk_X5_151 rfl (dk_at dk_X5_search 14 rfl) rfl rfl (Nat.le_of_ble_eq_true rfl) ho (h.mono fun o18 A15 b16 c17 h => aftI h fun i19 h => ?_)
    refine G_if_eq (tgt := 40) (dk_at dk_X5_search 15 rfl) (by decide) (fun c => ?_) (fun c => ?_)
    · replace h := h.1 c
      refine G_iconst (v := 0) (dk_at dk_X5_search 18 rfl) (by decide) ?_
      exact h
    · replace h := h.2 c
      refine G_iconst (v := 1) (dk_at dk_X5_search 16 rfl) (by decide) ?_
      refine G_goto (tgt := 41) (dk_at dk_X5_search 17 rfl) (by decide) ?_
      exact h
theorem k_X5_search_41 {l : Launch} {X : XT} {d : Nat} {Q : Ot → AH → Prop} {A : AH} {bc bs : Nat} {v0 : Nat} {v1 : Int32} {s0 : Int32} (h : Cal l X d bc bs M_X5_needState [.int s0] A fun o4 A1 b2 c3 => rV o4 (fun E => Q (.inr E) A1) <| isO A1 v0 6 ∧ Cal l X d b2 c3 M_X5_remember [.ref v0] A1 fun o8 A5 b6 c7 => rV o8 (fun E => Q (.inr E) A5) <| gR A5 v0 6 5 fun r9 => isO A5 r9 2 ∧ Cal l X d b6 c7 M_X1_searchPiece [.ref r9, .int v1] A5 fun o13 A10 b11 c12 => rI o13 (fun E => Q (.inr E) A10) fun i14 => Q (Ri i14) A10) : G l X M_X5_search d Q 41 [(0, .ref v0), (1, .int v1)] [.int s0] A bc bs := by
  refine G_callS (As := [.int s0]) (rest := []) lk_X5_56 rfl (dk_at dk_X5_search 19 rfl) rfl rfl (Nat.le_of_ble_eq_true rfl) (h.mono fun o4 A1 b2 c3 h => aftV h fun h => ?_)
  refine G_aload_n 0 (dk_at dk_X5_search 20 rfl) rfl ?_
  obtain ⟨⟨_, ho⟩, h⟩ := h
  refine G_callV (As := []) (rest := []) lk_X5_84 rfl (dk_at dk_X5_search 21 rfl) rfl rfl (Nat.le_of_ble_eq_true rfl) ho (h.mono fun o8 A5 b6 c7 h => aftV h fun h => ?_)
  refine G_aload_n 0 (dk_at dk_X5_search 22 rfl) rfl ?_
  refine K_gR gf_X5_50 (dk_at dk_X5_search 23 rfl) h (fun r9 h => ?_)
  refine G_iload_n 1 (dk_at dk_X5_search 24 rfl) rfl ?_
  obtain ⟨⟨_, ho⟩, h⟩ := h
  refine G_callV (As := [.int v1]) (rest := []) lk_X5_240 rfl (dk_at dk_X5_search 25 rfl) rfl rfl (Nat.le_of_ble_eq_true rfl) ho (h.mono fun o13 A10 b11 c12 h => aftI h fun i14 h => ?_)
  exact G_iret (ty := .int) rfl rfl (dk_at dk_X5_search 26 rfl) h
theorem k_X5_queriesFor_0 {l : Launch} {X : XT} {d : Nat} {Q : Ot → AH → Prop} {A : AH} {bc bs : Nat} {v0 : Nat} {v1 : Int32} (h : gR A v0 6 5 fun r1 => gR A r1 2 0 fun r2 => gI A r2 4 2 fun i3 => Cal l X d bc bs M_X5_needIndex [.int v1, .int i3] A fun o7 A4 b5 c6 => rV o7 (fun E => Q (.inr E) A4) <| gR A4 v0 6 5 fun r8 => isO A4 r8 2 ∧ Cal l X d b5 c6 M_X1_isSuspect [.ref r8, .int v1] A4 fun o12 A9 b10 c11 => rI o12 (fun E => Q (.inr E) A9) fun i13 => Cal l X d b10 c11 M_X5_needElement [.int i13] A9 fun o17 A14 b15 c16 => rV o17 (fun E => Q (.inr E) A14) <| gR A14 v0 6 5 fun r18 => isO A14 r18 2 ∧ Cal l X d b15 c16 M_X1_queriesNeeded [.ref r18, .int v1] A14 fun o22 A19 b20 c21 => rI o22 (fun E => Q (.inr E) A19) fun i23 => Q (Ri i23) A19) : G l X M_X5_queriesFor d Q 0 [(0, .ref v0), (1, .int v1)] [] A bc bs := by
  refine G_iload_n 1 (dk_at dk_X5_queriesFor 0 rfl) rfl ?_
  refine G_aload_n 0 (dk_at dk_X5_queriesFor 1 rfl) rfl ?_
  refine K_gR gf_X5_50 (dk_at dk_X5_queriesFor 2 rfl) h (fun r1 h => ?_)
  refine K_gR gf_X5_90 (dk_at dk_X5_queriesFor 3 rfl) h (fun r2 h => ?_)
  refine K_gI gf_X5_97 (dk_at dk_X5_queriesFor 4 rfl) h (fun i3 h => ?_)
  refine G_callS (As := [.int v1, .int i3]) (rest := []) lk_X5_147 rfl (dk_at dk_X5_queriesFor 5 rfl) rfl rfl (Nat.le_of_ble_eq_true rfl) (h.mono fun o7 A4 b5 c6 h => aftV h fun h => ?_)
  refine G_aload_n 0 (dk_at dk_X5_queriesFor 6 rfl) rfl ?_
  refine K_gR gf_X5_50 (dk_at dk_X5_queriesFor 7 rfl) h (fun r8 h => ?_)
  refine G_iload_n 1 (dk_at dk_X5_queriesFor 8 rfl) rfl ?_
  obtain ⟨⟨_, ho⟩, h⟩ := h
  refine G_callV (As := [.int v1]) (rest := []) lk_X5_237 rfl (dk_at dk_X5_queriesFor 9 rfl) rfl rfl (Nat.le_of_ble_eq_true rfl) ho (h.mono fun o12 A9 b10 c11 h => aftI h fun i13 h => ?_)
  refine G_callS (As := [.int i13]) (rest := []) lk_X5_243 rfl (dk_at dk_X5_queriesFor 10 rfl) rfl rfl (Nat.le_of_ble_eq_true rfl) (h.mono fun o17 A14 b15 c16 h => aftV h fun h => ?_)
  refine G_aload_n 0 (dk_at dk_X5_queriesFor 11 rfl) rfl ?_
  refine K_gR gf_X5_50 (dk_at dk_X5_queriesFor 12 rfl) h (fun r18 h => ?_)
  refine G_iload_n 1 (dk_at dk_X5_queriesFor 13 rfl) rfl ?_
  obtain ⟨⟨_, ho⟩, h⟩ := h
  refine G_callV (As := [.int v1]) (rest := []) lk_X5_246 rfl (dk_at dk_X5_queriesFor 14 rfl) rfl rfl (Nat.le_of_ble_eq_true rfl) ho (h.mono fun o22 A19 b20 c21 h => aftI h fun i23 h => ?_)
  exact G_iret (ty := .int) rfl rfl (dk_at dk_X5_queriesFor 15 rfl) h
theorem k_X5_drop_0 {l : Launch} {X : XT} {d : Nat} {Q : Ot → AH → Prop} {A : AH} {bc bs : Nat} {v0 : Nat} {v1 : Int32} (h : gR A v0 6 5 fun r1 => gR A r1 2 0 fun r2 => gI A r2 4 3 fun i3 => Cal l X d bc bs M_X5_needIndex [.int v1, .int i3] A fun o7 A4 b5 c6 => rV o7 (fun E => Q (.inr E) A4) <| gR A4 v0 6 5 fun r8 => isO A4 r8 2 ∧ Cal l X d b5 c6 M_X1_isMissing [.ref r8, .int v1] A4 fun o12 A9 b10 c11 => rI o12 (fun E => Q (.inr E) A9) fun i13 => (¬ i13 = 0 → G l X M_X5_drop d Q 30 [(0, .ref v0), (1, .int v1)] [.int 0] A9 b10 c11) ∧ (i13 = 0 → G l X M_X5_drop d Q 30 [(0, .ref v0), (1, .int v1)] [.int 1] A9 b10 c11)) : G l X M_X5_drop d Q 0 [(0, .ref v0), (1, .int v1)] [] A bc bs := by
  refine G_iload_n 1 (dk_at dk_X5_drop 0 rfl) rfl ?_
  refine G_aload_n 0 (dk_at dk_X5_drop 1 rfl) rfl ?_
  refine K_gR gf_X5_50 (dk_at dk_X5_drop 2 rfl) h (fun r1 h => ?_)
  refine K_gR gf_X5_90 (dk_at dk_X5_drop 3 rfl) h (fun r2 h => ?_)
  refine K_gI gf_X5_87 (dk_at dk_X5_drop 4 rfl) h (fun i3 h => ?_)
  refine G_callS (As := [.int v1, .int i3]) (rest := []) lk_X5_147 rfl (dk_at dk_X5_drop 5 rfl) rfl rfl (Nat.le_of_ble_eq_true rfl) (h.mono fun o7 A4 b5 c6 h => aftV h fun h => ?_)
  refine G_aload_n 0 (dk_at dk_X5_drop 6 rfl) rfl ?_
  refine K_gR gf_X5_50 (dk_at dk_X5_drop 7 rfl) h (fun r8 h => ?_)
  refine G_iload_n 1 (dk_at dk_X5_drop 8 rfl) rfl ?_
  obtain ⟨⟨_, ho⟩, h⟩ := h
  refine G_callV (As := [.int v1]) (rest := []) lk_X5_182 rfl (dk_at dk_X5_drop 9 rfl) rfl rfl (Nat.le_of_ble_eq_true rfl) ho (h.mono fun o12 A9 b10 c11 h => aftI h fun i13 h => ?_)
  refine G_if_ne (tgt := 29) (dk_at dk_X5_drop 10 rfl) (by decide) (fun c => ?_) (fun c => ?_)
  · replace h := h.1 c
    refine G_iconst (v := 0) (dk_at dk_X5_drop 13 rfl) (by decide) ?_
    exact h
  · replace h := h.2 c
    refine G_iconst (v := 1) (dk_at dk_X5_drop 11 rfl) (by decide) ?_
    refine G_goto (tgt := 30) (dk_at dk_X5_drop 12 rfl) (by decide) ?_
    exact h
theorem k_X5_drop_30 {l : Launch} {X : XT} {d : Nat} {Q : Ot → AH → Prop} {A : AH} {bc bs : Nat} {v0 : Nat} {v1 : Int32} {s0 : Int32} (h : Cal l X d bc bs M_X5_needState [.int s0] A fun o4 A1 b2 c3 => rV o4 (fun E => Q (.inr E) A1) <| isO A1 v0 6 ∧ Cal l X d b2 c3 M_X5_remember [.ref v0] A1 fun o8 A5 b6 c7 => rV o8 (fun E => Q (.inr E) A5) <| gR A5 v0 6 5 fun r9 => gR A5 r9 2 2 fun r10 => Cal l X d b6 c7 M_X5_at [.ref r10, .int v1] A5 fun o14 A11 b12 c13 => rI o14 (fun E => Q (.inr E) A11) fun i15 => gR A11 v0 6 5 fun r16 => isO A11 r16 2 ∧ Cal l X d b12 c13 M_X1_lose [.ref r16, .int v1] A11 fun o20 A17 b18 c19 => rV o20 (fun E => Q (.inr E) A17) <| Q (Ri i15) A17) : G l X M_X5_drop d Q 30 [(0, .ref v0), (1, .int v1)] [.int s0] A bc bs := by
  refine G_callS (As := [.int s0]) (rest := []) lk_X5_56 rfl (dk_at dk_X5_drop 14 rfl) rfl rfl (Nat.le_of_ble_eq_true rfl) (h.mono fun o4 A1 b2 c3 h => aftV h fun h => ?_)
  refine G_aload_n 0 (dk_at dk_X5_drop 15 rfl) rfl ?_
  obtain ⟨⟨_, ho⟩, h⟩ := h
  refine G_callV (As := []) (rest := []) lk_X5_84 rfl (dk_at dk_X5_drop 16 rfl) rfl rfl (Nat.le_of_ble_eq_true rfl) ho (h.mono fun o8 A5 b6 c7 h => aftV h fun h => ?_)
  refine G_aload_n 0 (dk_at dk_X5_drop 17 rfl) rfl ?_
  refine K_gR gf_X5_50 (dk_at dk_X5_drop 18 rfl) h (fun r9 h => ?_)
  refine K_gR gf_X5_220 (dk_at dk_X5_drop 19 rfl) h (fun r10 h => ?_)
  refine G_iload_n 1 (dk_at dk_X5_drop 20 rfl) rfl ?_
  refine G_callS (As := [.ref r10, .int v1]) (rest := []) lk_X5_162 rfl (dk_at dk_X5_drop 21 rfl) rfl rfl (Nat.le_of_ble_eq_true rfl) (h.mono fun o14 A11 b12 c13 h => aftI h fun i15 h => ?_)
  refine G_istore_n (lv' := [(2, .int i15), (0, .ref v0), (1, .int v1)]) (dk_at dk_X5_drop 22 rfl) (by decide) rfl ?_
  refine G_aload_n 1 (dk_at dk_X5_drop 23 rfl) rfl ?_
  refine K_gR gf_X5_50 (dk_at dk_X5_drop 24 rfl) h (fun r16 h => ?_)
  refine G_iload_n 2 (dk_at dk_X5_drop 25 rfl) rfl ?_
  obtain ⟨⟨_, ho⟩, h⟩ := h
  refine G_callV (As := [.int v1]) (rest := []) lk_X5_249 rfl (dk_at dk_X5_drop 26 rfl) rfl rfl (Nat.le_of_ble_eq_true rfl) ho (h.mono fun o20 A17 b18 c19 h => aftV h fun h => ?_)
  refine G_iload_n 0 (dk_at dk_X5_drop 27 rfl) rfl ?_
  exact G_iret (ty := .int) rfl rfl (dk_at dk_X5_drop 28 rfl) h
theorem k_X5_run_0 {l : Launch} {X : XT} {d : Nat} {Q : Ot → AH → Prop} {A : AH} {bc bs : Nat} {v0 : Nat} {v1 : Int32} (h : (v1 < 1 → G l X M_X5_run d Q 17 [(0, .ref v0), (1, .int v1)] [.int 0] A bc bs) ∧ (¬ v1 < 1 → (300 < v1 → G l X M_X5_run d Q 17 [(0, .ref v0), (1, .int v1)] [.int 0] A bc bs) ∧ (¬ 300 < v1 → G l X M_X5_run d Q 17 [(0, .ref v0), (1, .int v1)] [.int 1] A bc bs))) : G l X M_X5_run d Q 0 [(0, .ref v0), (1, .int v1)] [] A bc bs := by
  refine G_iload_n 1 (dk_at dk_X5_run 0 rfl) rfl ?_
  refine G_iconst (v := 1) (dk_at dk_X5_run 1 rfl) (by decide) ?_
  refine G_icmp_lt (tgt := 16) (dk_at dk_X5_run 2 rfl) (by decide) (fun c => ?_) (fun c => ?_)
  · replace h := h.1 c
    refine G_iconst (v := 0) (dk_at dk_X5_run 8 rfl) (by decide) ?_
    exact h
  · replace h := h.2 c
    refine G_iload_n 1 (dk_at dk_X5_run 3 rfl) rfl ?_
    refine G_sipush (v := 300) (dk_at dk_X5_run 4 rfl) (by decide) ?_
    refine G_icmp_gt (tgt := 16) (dk_at dk_X5_run 5 rfl) (by decide) (fun c => ?_) (fun c => ?_)
    · replace h := h.1 c
      refine G_iconst (v := 0) (dk_at dk_X5_run 8 rfl) (by decide) ?_
      exact h
    · replace h := h.2 c
      refine G_iconst (v := 1) (dk_at dk_X5_run 6 rfl) (by decide) ?_
      refine G_goto (tgt := 17) (dk_at dk_X5_run 7 rfl) (by decide) ?_
      exact h
theorem k_X5_run_17 {l : Launch} {X : XT} {d : Nat} {Q : Ot → AH → Prop} {A : AH} {bc bs : Nat} {v0 : Nat} {v1 : Int32} {s0 : Int32} (h : Cal l X d bc bs M_X5_needArgument [.int s0] A fun o4 A1 b2 c3 => rV o4 (fun E => Q (.inr E) A1) <| isO A1 v0 6 ∧ Cal l X d b2 c3 M_X5_remember [.ref v0] A1 fun o8 A5 b6 c7 => rV o8 (fun E => Q (.inr E) A5) <| gR A5 v0 6 5 fun r9 => isO A5 r9 2 ∧ Cal l X d b6 c7 M_X1_makeTicks [.ref r9, .int v1] A5 fun o13 A10 b11 c12 => rI o13 (fun E => Q (.inr E) A10) fun i14 => Q (Ri i14) A10) : G l X M_X5_run d Q 17 [(0, .ref v0), (1, .int v1)] [.int s0] A bc bs := by
  refine G_callS (As := [.int s0]) (rest := []) lk_X5_68 rfl (dk_at dk_X5_run 9 rfl) rfl rfl (Nat.le_of_ble_eq_true rfl) (h.mono fun o4 A1 b2 c3 h => aftV h fun h => ?_)
  refine G_aload_n 0 (dk_at dk_X5_run 10 rfl) rfl ?_
  obtain ⟨⟨_, ho⟩, h⟩ := h
  refine G_callV (As := []) (rest := []) lk_X5_84 rfl (dk_at dk_X5_run 11 rfl) rfl rfl (Nat.le_of_ble_eq_true rfl) ho (h.mono fun o8 A5 b6 c7 h => aftV h fun h => ?_)
  refine G_aload_n 0 (dk_at dk_X5_run 12 rfl) rfl ?_
  refine K_gR gf_X5_50 (dk_at dk_X5_run 13 rfl) h (fun r9 h => ?_)
  refine G_iload_n 1 (dk_at dk_X5_run 14 rfl) rfl ?_
  obtain ⟨⟨_, ho⟩, h⟩ := h
  refine G_callV (As := [.int v1]) (rest := []) lk_X5_252 rfl (dk_at dk_X5_run 15 rfl) rfl rfl (Nat.le_of_ble_eq_true rfl) ho (h.mono fun o13 A10 b11 c12 h => aftI h fun i14 h => ?_)
  exact G_iret (ty := .int) rfl rfl (dk_at dk_X5_run 16 rfl) h
theorem k_X5_ticksLeft_0 {l : Launch} {X : XT} {d : Nat} {Q : Ot → AH → Prop} {A : AH} {bc bs : Nat} {v0 : Nat} (h : gQ A v0 6 9 fun o1 => (∀ a2, o1 = some a2 → G l X M_X5_ticksLeft d Q 25 [(0, .ref v0)] [] A bc bs) ∧ (o1 = none → mk A (ob 2 df_2) 17 bc bs fun r3 A4 b5 c6 => gR A4 v0 6 5 fun r7 => gR A4 r7 2 0 fun r8 => Cal l X d b5 c6 M_X1_init [.ref r3, .ref r8] A4 fun o12 A9 b10 c11 => zV o12 <| pV A9 v0 6 9 (.ref r3) fun A13 => G l X M_X5_ticksLeft d Q 25 [(0, .ref v0)] [] A13 b10 c11)) : G l X M_X5_ticksLeft d Q 0 [(0, .ref v0)] [] A bc bs := by
  refine G_aload_n 0 (dk_at dk_X5_ticksLeft 0 rfl) rfl ?_
  refine K_gQ gf_X5_38 (dk_at dk_X5_ticksLeft 1 rfl) h (fun o1 h => ?_)
  refine G_ifnonnull (tgt := 25) (dk_at dk_X5_ticksLeft 2 rfl) (by decide) (fun a2 e => ?_) (fun e => ?_)
  · subst e
    replace h := h.1 a2 rfl
    exact h
  · subst e
    replace h := h.2 rfl
    refine G_aload_n 0 (dk_at dk_X5_ticksLeft 3 rfl) rfl ?_
    refine K_new no_X5_26 (dk_at dk_X5_ticksLeft 4 rfl) h (fun r3 A4 b5 c6 h => ?_)
    refine G_dup (dk_at dk_X5_ticksLeft 5 rfl) rfl ?_
    refine G_aload_n 0 (dk_at dk_X5_ticksLeft 6 rfl) rfl ?_
    refine K_gR gf_X5_50 (dk_at dk_X5_ticksLeft 7 rfl) h (fun r7 h => ?_)
    refine K_gR gf_X5_90 (dk_at dk_X5_ticksLeft 8 rfl) h (fun r8 h => ?_)
    refine G_callI (As := [.ref r8]) (rest := [.ref r3, .ref v0]) lk_X5_47 (dk_at dk_X5_ticksLeft 9 rfl) rfl rfl (Nat.le_of_ble_eq_true rfl) (h.mono fun o12 A9 b10 c11 h => atfV h fun h => ?_)
    refine K_pR pf_X5_38 rfl rfl (dk_at dk_X5_ticksLeft 10 rfl) h (fun A13 h => ?_)
    exact h
theorem k_X5_ticksLeft_25 {l : Launch} {X : XT} {d : Nat} {Q : Ot → AH → Prop} {A : AH} {bc bs : Nat} {v0 : Nat} (h : gR A v0 6 9 fun r1 => gR A v0 6 5 fun r2 => isO A r1 2 ∧ Cal l X d bc bs M_X1_copyFrom [.ref r1, .ref r2] A fun o6 A3 b4 c5 => rV o6 (fun E => Q (.inr E) A3) <| gR A3 v0 6 9 fun r7 => isO A3 r7 2 ∧ Cal l X d b4 c5 M_X1_makeTicks [.ref r7, .int 600] A3 fun o11 A8 b9 c10 => rI o11 (fun E => Q (.inr E) A8) fun i12 => gR A8 v0 6 9 fun r13 => isO A8 r13 2 ∧ Cal l X d b9 c10 M_X1_isFinished [.ref r13] A8 fun o17 A14 b15 c16 => rI o17 (fun E => Q (.inr E) A14) fun i18 => (i18 = 0 → Q (Ri ((-1))) A14) ∧ (¬ i18 = 0 → Q (Ri i12) A14)) : G l X M_X5_ticksLeft d Q 25 [(0, .ref v0)] [] A bc bs := by
  refine G_aload_n 0 (dk_at dk_X5_ticksLeft 11 rfl) rfl ?_
  refine K_gR gf_X5_38 (dk_at dk_X5_ticksLeft 12 rfl) h (fun r1 h => ?_)
  refine G_aload_n 0 (dk_at dk_X5_ticksLeft 13 rfl) rfl ?_
  refine K_gR gf_X5_50 (dk_at dk_X5_ticksLeft 14 rfl) h (fun r2 h => ?_)
  obtain ⟨⟨_, ho⟩, h⟩ := h
  refine G_callV (As := [.ref r2]) (rest := []) lk_X5_255 rfl (dk_at dk_X5_ticksLeft 15 rfl) rfl rfl (Nat.le_of_ble_eq_true rfl) ho (h.mono fun o6 A3 b4 c5 h => aftV h fun h => ?_)
  refine G_aload_n 0 (dk_at dk_X5_ticksLeft 16 rfl) rfl ?_
  refine K_gR gf_X5_38 (dk_at dk_X5_ticksLeft 17 rfl) h (fun r7 h => ?_)
  refine G_sipush (v := 600) (dk_at dk_X5_ticksLeft 18 rfl) (by decide) ?_
  obtain ⟨⟨_, ho⟩, h⟩ := h
  refine G_callV (As := [.int 600]) (rest := []) lk_X5_252 rfl (dk_at dk_X5_ticksLeft 19 rfl) rfl rfl (Nat.le_of_ble_eq_true rfl) ho (h.mono fun o11 A8 b9 c10 h => aftI h fun i12 h => ?_)
  refine G_istore_n (lv' := [(1, .int i12), (0, .ref v0)]) (dk_at dk_X5_ticksLeft 20 rfl) (by decide) rfl ?_
  refine G_aload_n 1 (dk_at dk_X5_ticksLeft 21 rfl) rfl ?_
  refine K_gR gf_X5_38 (dk_at dk_X5_ticksLeft 22 rfl) h (fun r13 h => ?_)
  obtain ⟨⟨_, ho⟩, h⟩ := h
  refine G_callV (As := []) (rest := []) lk_X5_259 rfl (dk_at dk_X5_ticksLeft 23 rfl) rfl rfl (Nat.le_of_ble_eq_true rfl) ho (h.mono fun o17 A14 b15 c16 h => aftI h fun i18 h => ?_)
  refine G_if_eq (tgt := 61) (dk_at dk_X5_ticksLeft 24 rfl) (by decide) (fun c => ?_) (fun c => ?_)
  · replace h := h.1 c
    refine G_iconst (v := (-1)) (dk_at dk_X5_ticksLeft 27 rfl) (by decide) ?_
    exact G_iret (ty := .int) rfl rfl (dk_at dk_X5_ticksLeft 28 rfl) h
  · replace h := h.2 c
    refine G_iload_n 0 (dk_at dk_X5_ticksLeft 25 rfl) rfl ?_
    refine G_goto (tgt := 62) (dk_at dk_X5_ticksLeft 26 rfl) (by decide) ?_
    exact G_iret (ty := .int) rfl rfl (dk_at dk_X5_ticksLeft 28 rfl) h
theorem k_X5_keep_0 {l : Launch} {X : XT} {d : Nat} {Q : Ot → AH → Prop} {A : AH} {bc bs : Nat} {v0 : Nat} {v1 : Int32} (h : Cal l X d bc bs M_X5_isName [.int v1] A fun o4 A1 b2 c3 => rI o4 (fun E => Q (.inr E) A1) fun i5 => Cal l X d b2 c3 M_X5_needArgument [.int i5] A1 fun o9 A6 b7 c8 => rV o9 (fun E => Q (.inr E) A6) <| gR A6 v0 6 5 fun r10 => isO A6 r10 2 ∧ Cal l X d b7 c8 M_X1_isMissing [.ref r10, .int 0] A6 fun o14 A11 b12 c13 => rI o14 (fun E => Q (.inr E) A11) fun i15 => (¬ i15 = 0 → G l X M_X5_keep d Q 37 [(0, .ref v0), (1, .int v1)] [.int 0] A11 b12 c13) ∧ (i15 = 0 → gR A11 v0 6 5 fun r16 => gR A11 r16 2 15 fun r17 => isO A11 r17 0 ∧ Cal l X d b12 c13 M_Jx4a65c_size_8abf5 [.ref r17] A11 fun o21 A18 b19 c20 => rI o21 (fun E => Q (.inr E) A18) fun i22 => (4 ≤ i22 → G l X M_X5_keep d Q 37 [(0, .ref v0), (1, .int v1)] [.int 0] A18 b19 c20) ∧ (¬ 4 ≤ i22 → G l X M_X5_keep d Q 37 [(0, .ref v0), (1, .int v1)] [.int 1] A18 b19 c20))) : G l X M_X5_keep d Q 0 [(0, .ref v0), (1, .int v1)] [] A bc bs := by
  refine G_iload_n 1 (dk_at dk_X5_keep 0 rfl) rfl ?_
  refine G_callS (As := [.int v1]) (rest := []) lk_X5_263 rfl (dk_at dk_X5_keep 1 rfl) rfl rfl (Nat.le_of_ble_eq_true rfl) (h.mono fun o4 A1 b2 c3 h => aftI h fun i5 h => ?_)
  refine G_callS (As := [.int i5]) (rest := []) lk_X5_68 rfl (dk_at dk_X5_keep 2 rfl) rfl rfl (Nat.le_of_ble_eq_true rfl) (h.mono fun o9 A6 b7 c8 h => aftV h fun h => ?_)
  refine G_aload_n 0 (dk_at dk_X5_keep 3 rfl) rfl ?_
  refine K_gR gf_X5_50 (dk_at dk_X5_keep 4 rfl) h (fun r10 h => ?_)
  refine G_iconst (v := 0) (dk_at dk_X5_keep 5 rfl) (by decide) ?_
  obtain ⟨⟨_, ho⟩, h⟩ := h
  refine G_callV (As := [.int 0]) (rest := []) lk_X5_182 rfl (dk_at dk_X5_keep 6 rfl) rfl rfl (Nat.le_of_ble_eq_true rfl) ho (h.mono fun o14 A11 b12 c13 h => aftI h fun i15 h => ?_)
  refine G_if_ne (tgt := 36) (dk_at dk_X5_keep 7 rfl) (by decide) (fun c => ?_) (fun c => ?_)
  · replace h := h.1 c
    refine G_iconst (v := 0) (dk_at dk_X5_keep 16 rfl) (by decide) ?_
    exact h
  · replace h := h.2 c
    refine G_aload_n 0 (dk_at dk_X5_keep 8 rfl) rfl ?_
    refine K_gR gf_X5_50 (dk_at dk_X5_keep 9 rfl) h (fun r16 h => ?_)
    refine K_gR gf_X5_115 (dk_at dk_X5_keep 10 rfl) h (fun r17 h => ?_)
    obtain ⟨⟨_, ho⟩, h⟩ := h
    refine G_callV (As := []) (rest := []) lk_X5_119 rfl (dk_at dk_X5_keep 11 rfl) rfl rfl (Nat.le_of_ble_eq_true rfl) ho (h.mono fun o21 A18 b19 c20 h => aftI h fun i22 h => ?_)
    refine G_iconst (v := 4) (dk_at dk_X5_keep 12 rfl) (by decide) ?_
    refine G_icmp_ge (tgt := 36) (dk_at dk_X5_keep 13 rfl) (by decide) (fun c => ?_) (fun c => ?_)
    · replace h := h.1 c
      refine G_iconst (v := 0) (dk_at dk_X5_keep 16 rfl) (by decide) ?_
      exact h
    · replace h := h.2 c
      refine G_iconst (v := 1) (dk_at dk_X5_keep 14 rfl) (by decide) ?_
      refine G_goto (tgt := 37) (dk_at dk_X5_keep 15 rfl) (by decide) ?_
      exact h
theorem k_X5_keep_37 {l : Launch} {X : XT} {d : Nat} {Q : Ot → AH → Prop} {A : AH} {bc bs : Nat} {v0 : Nat} {v1 : Int32} {s0 : Int32} (h : Cal l X d bc bs M_X5_needState [.int s0] A fun o4 A1 b2 c3 => rV o4 (fun E => Q (.inr E) A1) <| isO A1 v0 6 ∧ Cal l X d b2 c3 M_X5_remember [.ref v0] A1 fun o8 A5 b6 c7 => rV o8 (fun E => Q (.inr E) A5) <| gR A5 v0 6 5 fun r9 => isO A5 r9 2 ∧ Cal l X d b6 c7 M_X1_keepArrived [.ref r9, .int v1] A5 fun o13 A10 b11 c12 => rI o13 (fun E => Q (.inr E) A10) fun i14 => Q (Ri i14) A10) : G l X M_X5_keep d Q 37 [(0, .ref v0), (1, .int v1)] [.int s0] A bc bs := by
  refine G_callS (As := [.int s0]) (rest := []) lk_X5_56 rfl (dk_at dk_X5_keep 17 rfl) rfl rfl (Nat.le_of_ble_eq_true rfl) (h.mono fun o4 A1 b2 c3 h => aftV h fun h => ?_)
  refine G_aload_n 0 (dk_at dk_X5_keep 18 rfl) rfl ?_
  obtain ⟨⟨_, ho⟩, h⟩ := h
  refine G_callV (As := []) (rest := []) lk_X5_84 rfl (dk_at dk_X5_keep 19 rfl) rfl rfl (Nat.le_of_ble_eq_true rfl) ho (h.mono fun o8 A5 b6 c7 h => aftV h fun h => ?_)
  refine G_aload_n 0 (dk_at dk_X5_keep 20 rfl) rfl ?_
  refine K_gR gf_X5_50 (dk_at dk_X5_keep 21 rfl) h (fun r9 h => ?_)
  refine G_iload_n 1 (dk_at dk_X5_keep 22 rfl) rfl ?_
  obtain ⟨⟨_, ho⟩, h⟩ := h
  refine G_callV (As := [.int v1]) (rest := []) lk_X5_266 rfl (dk_at dk_X5_keep 23 rfl) rfl rfl (Nat.le_of_ble_eq_true rfl) ho (h.mono fun o13 A10 b11 c12 h => aftI h fun i14 h => ?_)
  exact G_iret (ty := .int) rfl rfl (dk_at dk_X5_keep 24 rfl) h
theorem k_X5_resume_0 {l : Launch} {X : XT} {d : Nat} {Q : Ot → AH → Prop} {A : AH} {bc bs : Nat} {v0 : Nat} {v1 : Int32} (h : gR A v0 6 5 fun r1 => gR A r1 2 15 fun r2 => isO A r2 0 ∧ Cal l X d bc bs M_Jx4a65c_size_8abf5 [.ref r2] A fun o6 A3 b4 c5 => rI o6 (fun E => Q (.inr E) A3) fun i7 => Cal l X d b4 c5 M_X5_needIndex [.int v1, .int i7] A3 fun o11 A8 b9 c10 => rV o11 (fun E => Q (.inr E) A8) <| gR A8 v0 6 5 fun r12 => gI A8 r12 2 5 fun i13 => gR A8 v0 6 5 fun r14 => gR A8 r14 2 0 fun r15 => gI A8 r15 4 3 fun i16 => (¬ i13 = i16 → G l X M_X5_resume d Q 39 [(0, .ref v0), (1, .int v1)] [.int 0] A8 b9 c10) ∧ (i13 = i16 → G l X M_X5_resume d Q 39 [(0, .ref v0), (1, .int v1)] [.int 1] A8 b9 c10)) : G l X M_X5_resume d Q 0 [(0, .ref v0), (1, .int v1)] [] A bc bs := by
  refine G_iload_n 1 (dk_at dk_X5_resume 0 rfl) rfl ?_
  refine G_aload_n 0 (dk_at dk_X5_resume 1 rfl) rfl ?_
  refine K_gR gf_X5_50 (dk_at dk_X5_resume 2 rfl) h (fun r1 h => ?_)
  refine K_gR gf_X5_115 (dk_at dk_X5_resume 3 rfl) h (fun r2 h => ?_)
  obtain ⟨⟨_, ho⟩, h⟩ := h
  refine G_callV (As := []) (rest := [.int v1]) lk_X5_119 rfl (dk_at dk_X5_resume 4 rfl) rfl rfl (Nat.le_of_ble_eq_true rfl) ho (h.mono fun o6 A3 b4 c5 h => aftI h fun i7 h => ?_)
  refine G_callS (As := [.int v1, .int i7]) (rest := []) lk_X5_147 rfl (dk_at dk_X5_resume 5 rfl) rfl rfl (Nat.le_of_ble_eq_true rfl) (h.mono fun o11 A8 b9 c10 h => aftV h fun h => ?_)
  refine G_aload_n 0 (dk_at dk_X5_resume 6 rfl) rfl ?_
  refine K_gR gf_X5_50 (dk_at dk_X5_resume 7 rfl) h (fun r12 h => ?_)
  refine K_gI gf_X5_112 (dk_at dk_X5_resume 8 rfl) h (fun i13 h => ?_)
  refine G_aload_n 0 (dk_at dk_X5_resume 9 rfl) rfl ?_
  refine K_gR gf_X5_50 (dk_at dk_X5_resume 10 rfl) h (fun r14 h => ?_)
  refine K_gR gf_X5_90 (dk_at dk_X5_resume 11 rfl) h (fun r15 h => ?_)
  refine K_gI gf_X5_87 (dk_at dk_X5_resume 12 rfl) h (fun i16 h => ?_)
  refine G_icmp_ne (tgt := 38) (dk_at dk_X5_resume 13 rfl) (by decide) (fun c => ?_) (fun c => ?_)
  · replace h := h.1 c
    refine G_iconst (v := 0) (dk_at dk_X5_resume 16 rfl) (by decide) ?_
    exact h
  · replace h := h.2 c
    refine G_iconst (v := 1) (dk_at dk_X5_resume 14 rfl) (by decide) ?_
    refine G_goto (tgt := 39) (dk_at dk_X5_resume 15 rfl) (by decide) ?_
    exact h
theorem k_X5_resume_39 {l : Launch} {X : XT} {d : Nat} {Q : Ot → AH → Prop} {A : AH} {bc bs : Nat} {v0 : Nat} {v1 : Int32} {s0 : Int32} (h : Cal l X d bc bs M_X5_needState [.int s0] A fun o4 A1 b2 c3 => rV o4 (fun E => Q (.inr E) A1) <| isO A1 v0 6 ∧ Cal l X d b2 c3 M_X5_remember [.ref v0] A1 fun o8 A5 b6 c7 => rV o8 (fun E => Q (.inr E) A5) <| gR A5 v0 6 5 fun r9 => gR A5 v0 6 5 fun r10 => gR A5 r10 2 15 fun r11 => isO A5 r11 0 ∧ Cal l X d b6 c7 M_Jx4a65c_remove_915e3 [.ref r11, .int v1] A5 fun o15 A12 b13 c14 => rQ o15 (fun E => Q (.inr E) A12) fun o16 => ∃ a17, o16 = some a17 ∧ isO A12 a17 3 ∧ isO A12 r9 2 ∧ Cal l X d b13 c14 M_X1_takeUp [.ref r9, .ref a17] A12 fun o21 A18 b19 c20 => rV o21 (fun E => Q (.inr E) A18) <| gR A18 v0 6 5 fun r22 => gI A18 r22 2 6 fun i23 => Q (Ri i23) A18) : G l X M_X5_resume d Q 39 [(0, .ref v0), (1, .int v1)] [.int s0] A bc bs := by
  refine G_callS (As := [.int s0]) (rest := []) lk_X5_56 rfl (dk_at dk_X5_resume 17 rfl) rfl rfl (Nat.le_of_ble_eq_true rfl) (h.mono fun o4 A1 b2 c3 h => aftV h fun h => ?_)
  refine G_aload_n 0 (dk_at dk_X5_resume 18 rfl) rfl ?_
  obtain ⟨⟨_, ho⟩, h⟩ := h
  refine G_callV (As := []) (rest := []) lk_X5_84 rfl (dk_at dk_X5_resume 19 rfl) rfl rfl (Nat.le_of_ble_eq_true rfl) ho (h.mono fun o8 A5 b6 c7 h => aftV h fun h => ?_)
  refine G_aload_n 0 (dk_at dk_X5_resume 20 rfl) rfl ?_
  refine K_gR gf_X5_50 (dk_at dk_X5_resume 21 rfl) h (fun r9 h => ?_)
  refine G_aload_n 0 (dk_at dk_X5_resume 22 rfl) rfl ?_
  refine K_gR gf_X5_50 (dk_at dk_X5_resume 23 rfl) h (fun r10 h => ?_)
  refine K_gR gf_X5_115 (dk_at dk_X5_resume 24 rfl) h (fun r11 h => ?_)
  refine G_iload_n 1 (dk_at dk_X5_resume 25 rfl) rfl ?_
  obtain ⟨⟨_, ho⟩, h⟩ := h
  refine G_callV (As := [.int v1]) (rest := [.ref r9]) lk_X5_269 rfl (dk_at dk_X5_resume 26 rfl) rfl rfl (Nat.le_of_ble_eq_true rfl) ho (h.mono fun o15 A12 b13 c14 h => aftQ h fun o16 h => ?_)
  refine K_castP wd_19 (dk_at dk_X5_resume 27 rfl) h (fun a17 h => ?_)
  obtain ⟨⟨_, ho⟩, h⟩ := h
  refine G_callV (As := [.ref a17]) (rest := []) lk_X5_275 rfl (dk_at dk_X5_resume 28 rfl) rfl rfl (Nat.le_of_ble_eq_true rfl) ho (h.mono fun o21 A18 b19 c20 h => aftV h fun h => ?_)
  refine G_aload_n 0 (dk_at dk_X5_resume 29 rfl) rfl ?_
  refine K_gR gf_X5_50 (dk_at dk_X5_resume 30 rfl) h (fun r22 h => ?_)
  refine K_gI gf_X5_106 (dk_at dk_X5_resume 31 rfl) h (fun i23 h => ?_)
  exact G_iret (ty := .int) rfl rfl (dk_at dk_X5_resume 32 rfl) h
theorem k_X5_named_0 {l : Launch} {X : XT} {d : Nat} {Q : Ot → AH → Prop} {A : AH} {bc bs : Nat} {v0 : Nat} {v1 : Int32} (h : G l X M_X5_named d Q 4 [(0, .ref v0), (1, .int v1), (2, .int ((-1))), (3, .int 0)] [] A bc bs) : G l X M_X5_named d Q 0 [(0, .ref v0), (1, .int v1)] [] A bc bs := by
  refine G_iconst (v := (-1)) (dk_at dk_X5_named 0 rfl) (by decide) ?_
  refine G_istore_n (lv' := [(2, .int ((-1))), (0, .ref v0), (1, .int v1)]) (dk_at dk_X5_named 1 rfl) (by decide) rfl ?_
  refine G_iconst (v := 0) (dk_at dk_X5_named 2 rfl) (by decide) ?_
  refine G_istore_n (lv' := [(3, .int 0), (2, .int ((-1))), (0, .ref v0), (1, .int v1)]) (dk_at dk_X5_named 3 rfl) (by decide) rfl ?_
  refine G_sub [2, 3, 1, 0] rfl ?_
  exact h
theorem k_X5_named_4 {l : Launch} {X : XT} {d : Nat} {Q : Ot → AH → Prop} {A : AH} {bc bs : Nat} {v0 : Nat} {v1 : Int32} {v2 : Int32} {v3 : Int32} (h : gR A v0 6 5 fun r1 => gR A r1 2 15 fun r2 => isO A r2 0 ∧ Cal l X d bc bs M_Jx4a65c_size_8abf5 [.ref r2] A fun o6 A3 b4 c5 => rI o6 (fun E => Q (.inr E) A3) fun i7 => (i7 ≤ v3 → (v2 = ((-1)) → G l X M_X5_named d Q 57 [(2, .int v2)] [.int 0] A3 b4 c5) ∧ (¬ v2 = ((-1)) → G l X M_X5_named d Q 57 [(2, .int v2)] [.int 1] A3 b4 c5)) ∧ (¬ i7 ≤ v3 → gR A3 v0 6 5 fun r8 => gR A3 r8 2 15 fun r9 => isO A3 r9 0 ∧ Cal l X d b4 c5 M_Jx4a65c_get_915e3 [.ref r9, .int v3] A3 fun o13 A10 b11 c12 => rQ o13 (fun E => Q (.inr E) A10) fun o14 => ∃ a15, o14 = some a15 ∧ isO A10 a15 3 ∧ gI A10 a15 3 0 fun i16 => (¬ i16 = v1 → G l X M_X5_named d Q 4 [(0, .ref v0), (1, .int v1), (2, .int v2), (3, .int (v3 + 1))] [] A10 b11 c12) ∧ (i16 = v1 → G l X M_X5_named d Q 4 [(0, .ref v0), (1, .int v1), (2, .int v3), (3, .int (v3 + 1))] [] A10 b11 c12))) : G l X M_X5_named d Q 4 [(0, .ref v0), (1, .int v1), (2, .int v2), (3, .int v3)] [] A bc bs := by
  refine G_iload_n 3 (dk_at dk_X5_named 4 rfl) rfl ?_
  refine G_aload_n 0 (dk_at dk_X5_named 5 rfl) rfl ?_
  refine K_gR gf_X5_50 (dk_at dk_X5_named 6 rfl) h (fun r1 h => ?_)
  refine K_gR gf_X5_115 (dk_at dk_X5_named 7 rfl) h (fun r2 h => ?_)
  obtain ⟨⟨_, ho⟩, h⟩ := h
  refine G_callV (As := []) (rest := [.int v3]) lk_X5_119 rfl (dk_at dk_X5_named 8 rfl) rfl rfl (Nat.le_of_ble_eq_true rfl) ho (h.mono fun o6 A3 b4 c5 h => aftI h fun i7 h => ?_)
  refine G_icmp_ge (tgt := 47) (dk_at dk_X5_named 9 rfl) (by decide) (fun c => ?_) (fun c => ?_)
  · replace h := h.1 c
    refine G_iload_n 2 (dk_at dk_X5_named 23 rfl) rfl ?_
    refine G_iconst (v := (-1)) (dk_at dk_X5_named 24 rfl) (by decide) ?_
    refine G_icmp_eq (tgt := 56) (dk_at dk_X5_named 25 rfl) (by decide) (fun c => ?_) (fun c => ?_)
    · replace h := h.1 c
      refine G_iconst (v := 0) (dk_at dk_X5_named 28 rfl) (by decide) ?_
      refine G_sub [2] rfl ?_
      exact h
    · replace h := h.2 c
      refine G_iconst (v := 1) (dk_at dk_X5_named 26 rfl) (by decide) ?_
      refine G_goto (tgt := 57) (dk_at dk_X5_named 27 rfl) (by decide) ?_
      refine G_sub [2] rfl ?_
      exact h
  · replace h := h.2 c
    refine G_aload_n 0 (dk_at dk_X5_named 10 rfl) rfl ?_
    refine K_gR gf_X5_50 (dk_at dk_X5_named 11 rfl) h (fun r8 h => ?_)
    refine K_gR gf_X5_115 (dk_at dk_X5_named 12 rfl) h (fun r9 h => ?_)
    refine G_iload_n 3 (dk_at dk_X5_named 13 rfl) rfl ?_
    obtain ⟨⟨_, ho⟩, h⟩ := h
    refine G_callV (As := [.int v3]) (rest := []) lk_X5_279 rfl (dk_at dk_X5_named 14 rfl) rfl rfl (Nat.le_of_ble_eq_true rfl) ho (h.mono fun o13 A10 b11 c12 h => aftQ h fun o14 h => ?_)
    refine K_castP wd_19 (dk_at dk_X5_named 15 rfl) h (fun a15 h => ?_)
    refine K_gI gf_X5_282 (dk_at dk_X5_named 16 rfl) h (fun i16 h => ?_)
    refine G_iload_n 1 (dk_at dk_X5_named 17 rfl) rfl ?_
    refine G_icmp_ne (tgt := 41) (dk_at dk_X5_named 18 rfl) (by decide) (fun c => ?_) (fun c => ?_)
    · replace h := h.1 c
      refine G_iinc (v := v3 + 1) (lv' := [(3, .int (v3 + 1)), (0, .ref v0), (1, .int v1), (2, .int v2)]) 3 (dk_at dk_X5_named 21 rfl) rfl rfl (by decide) rfl ?_
      refine G_goto (tgt := 4) (dk_at dk_X5_named 22 rfl) (by decide) ?_
      refine G_sub [1, 2, 3, 0] rfl ?_
      exact h
    · replace h := h.2 c
      refine G_iload_n 3 (dk_at dk_X5_named 19 rfl) rfl ?_
      refine G_istore_n (lv' := [(2, .int v3), (0, .ref v0), (1, .int v1), (3, .int v3)]) (dk_at dk_X5_named 20 rfl) (by decide) rfl ?_
      refine G_iinc (v := v3 + 1) (lv' := [(3, .int (v3 + 1)), (2, .int v3), (0, .ref v0), (1, .int v1)]) 3 (dk_at dk_X5_named 21 rfl) rfl rfl (by decide) rfl ?_
      refine G_goto (tgt := 4) (dk_at dk_X5_named 22 rfl) (by decide) ?_
      refine G_sub [2, 3, 1, 0] rfl ?_
      exact h
theorem k_X5_named_57 {l : Launch} {X : XT} {d : Nat} {Q : Ot → AH → Prop} {A : AH} {bc bs : Nat} {v2 : Int32} {s0 : Int32} (h : Cal l X d bc bs M_X5_needElement [.int s0] A fun o4 A1 b2 c3 => rV o4 (fun E => Q (.inr E) A1) <| Q (Ri v2) A1) : G l X M_X5_named d Q 57 [(2, .int v2)] [.int s0] A bc bs := by
  refine G_callS (As := [.int s0]) (rest := []) lk_X5_243 rfl (dk_at dk_X5_named 29 rfl) rfl rfl (Nat.le_of_ble_eq_true rfl) (h.mono fun o4 A1 b2 c3 h => aftV h fun h => ?_)
  refine G_iload_n 0 (dk_at dk_X5_named 30 rfl) rfl ?_
  exact G_iret (ty := .int) rfl rfl (dk_at dk_X5_named 31 rfl) h
theorem k_X5_sized_0 {l : Launch} {X : XT} {d : Nat} {Q : Ot → AH → Prop} {A : AH} {bc bs : Nat} {v0 : Nat} {v1 : Int32} (h : gR A v0 6 5 fun r1 => gR A r1 2 15 fun r2 => isO A r2 0 ∧ Cal l X d bc bs M_Jx4a65c_size_8abf5 [.ref r2] A fun o6 A3 b4 c5 => rI o6 (fun E => Q (.inr E) A3) fun i7 => G l X M_X5_sized d Q 15 [(0, .ref v0), (1, .int v1), (2, .int ((-1))), (3, .int (i7 - 1))] [] A3 b4 c5) : G l X M_X5_sized d Q 0 [(0, .ref v0), (1, .int v1)] [] A bc bs := by
  refine G_iconst (v := (-1)) (dk_at dk_X5_sized 0 rfl) (by decide) ?_
  refine G_istore_n (lv' := [(2, .int ((-1))), (0, .ref v0), (1, .int v1)]) (dk_at dk_X5_sized 1 rfl) (by decide) rfl ?_
  refine G_aload_n 1 (dk_at dk_X5_sized 2 rfl) rfl ?_
  refine K_gR gf_X5_50 (dk_at dk_X5_sized 3 rfl) h (fun r1 h => ?_)
  refine K_gR gf_X5_115 (dk_at dk_X5_sized 4 rfl) h (fun r2 h => ?_)
  obtain ⟨⟨_, ho⟩, h⟩ := h
  refine G_callV (As := []) (rest := []) lk_X5_119 rfl (dk_at dk_X5_sized 5 rfl) rfl rfl (Nat.le_of_ble_eq_true rfl) ho (h.mono fun o6 A3 b4 c5 h => aftI h fun i7 h => ?_)
  refine G_iconst (v := 1) (dk_at dk_X5_sized 6 rfl) (by decide) ?_
  refine G_isub (dk_at dk_X5_sized 7 rfl) ?_
  refine G_istore_n (lv' := [(3, .int (i7 - 1)), (2, .int ((-1))), (0, .ref v0), (1, .int v1)]) (dk_at dk_X5_sized 8 rfl) (by decide) rfl ?_
  refine G_sub [2, 3, 1, 0] rfl ?_
  exact h
theorem k_X5_sized_15 {l : Launch} {X : XT} {d : Nat} {Q : Ot → AH → Prop} {A : AH} {bc bs : Nat} {v0 : Nat} {v1 : Int32} {v2 : Int32} {v3 : Int32} (h : (v3 < 0 → (v2 = ((-1)) → G l X M_X5_sized d Q 59 [(2, .int v2)] [.int 0] A bc bs) ∧ (¬ v2 = ((-1)) → G l X M_X5_sized d Q 59 [(2, .int v2)] [.int 1] A bc bs)) ∧ (¬ v3 < 0 → gR A v0 6 5 fun r1 => gR A r1 2 15 fun r2 => isO A r2 0 ∧ Cal l X d bc bs M_Jx4a65c_get_915e3 [.ref r2, .int v3] A fun o6 A3 b4 c5 => rQ o6 (fun E => Q (.inr E) A3) fun o7 => ∃ a8, o7 = some a8 ∧ isO A3 a8 3 ∧ gR A3 a8 3 1 fun r9 => nI_ X A3 r9 fun i10 => (¬ i10 = v1 → G l X M_X5_sized d Q 15 [(0, .ref v0), (1, .int v1), (2, .int v2), (3, .int (v3 + (-1)))] [] A3 b4 c5) ∧ (i10 = v1 → G l X M_X5_sized d Q 15 [(0, .ref v0), (1, .int v1), (2, .int v3), (3, .int (v3 + (-1)))] [] A3 b4 c5))) : G l X M_X5_sized d Q 15 [(0, .ref v0), (1, .int v1), (2, .int v2), (3, .int v3)] [] A bc bs := by
  refine G_iload_n 3 (dk_at dk_X5_sized 9 rfl) rfl ?_
  refine G_if_lt (tgt := 49) (dk_at dk_X5_sized 10 rfl) (by decide) (fun c => ?_) (fun c => ?_)
  · replace h := h.1 c
    refine G_iload_n 2 (dk_at dk_X5_sized 25 rfl) rfl ?_
    refine G_iconst (v := (-1)) (dk_at dk_X5_sized 26 rfl) (by decide) ?_
    refine G_icmp_eq (tgt := 58) (dk_at dk_X5_sized 27 rfl) (by decide) (fun c => ?_) (fun c => ?_)
    · replace h := h.1 c
      refine G_iconst (v := 0) (dk_at dk_X5_sized 30 rfl) (by decide) ?_
      refine G_sub [2] rfl ?_
      exact h
    · replace h := h.2 c
      refine G_iconst (v := 1) (dk_at dk_X5_sized 28 rfl) (by decide) ?_
      refine G_goto (tgt := 59) (dk_at dk_X5_sized 29 rfl) (by decide) ?_
      refine G_sub [2] rfl ?_
      exact h
  · replace h := h.2 c
    refine G_aload_n 0 (dk_at dk_X5_sized 11 rfl) rfl ?_
    refine K_gR gf_X5_50 (dk_at dk_X5_sized 12 rfl) h (fun r1 h => ?_)
    refine K_gR gf_X5_115 (dk_at dk_X5_sized 13 rfl) h (fun r2 h => ?_)
    refine G_iload_n 3 (dk_at dk_X5_sized 14 rfl) rfl ?_
    obtain ⟨⟨_, ho⟩, h⟩ := h
    refine G_callV (As := [.int v3]) (rest := []) lk_X5_279 rfl (dk_at dk_X5_sized 15 rfl) rfl rfl (Nat.le_of_ble_eq_true rfl) ho (h.mono fun o6 A3 b4 c5 h => aftQ h fun o7 h => ?_)
    refine K_castP wd_19 (dk_at dk_X5_sized 16 rfl) h (fun a8 h => ?_)
    refine K_gR gf_X5_285 (dk_at dk_X5_sized 17 rfl) h (fun r9 h => ?_)
    refine K_nI (dk_at dk_X5_sized 18 rfl) h (fun i10 h => ?_)
    refine G_iload_n 1 (dk_at dk_X5_sized 19 rfl) rfl ?_
    refine G_icmp_ne (tgt := 43) (dk_at dk_X5_sized 20 rfl) (by decide) (fun c => ?_) (fun c => ?_)
    · replace h := h.1 c
      refine G_iinc (v := v3 + (-1)) (lv' := [(3, .int (v3 + (-1))), (0, .ref v0), (1, .int v1), (2, .int v2)]) 3 (dk_at dk_X5_sized 23 rfl) rfl rfl (by decide) rfl ?_
      refine G_goto (tgt := 15) (dk_at dk_X5_sized 24 rfl) (by decide) ?_
      refine G_sub [1, 2, 3, 0] rfl ?_
      exact h
    · replace h := h.2 c
      refine G_iload_n 3 (dk_at dk_X5_sized 21 rfl) rfl ?_
      refine G_istore_n (lv' := [(2, .int v3), (0, .ref v0), (1, .int v1), (3, .int v3)]) (dk_at dk_X5_sized 22 rfl) (by decide) rfl ?_
      refine G_iinc (v := v3 + (-1)) (lv' := [(3, .int (v3 + (-1))), (2, .int v3), (0, .ref v0), (1, .int v1)]) 3 (dk_at dk_X5_sized 23 rfl) rfl rfl (by decide) rfl ?_
      refine G_goto (tgt := 15) (dk_at dk_X5_sized 24 rfl) (by decide) ?_
      refine G_sub [2, 3, 1, 0] rfl ?_
      exact h
theorem k_X5_sized_59 {l : Launch} {X : XT} {d : Nat} {Q : Ot → AH → Prop} {A : AH} {bc bs : Nat} {v2 : Int32} {s0 : Int32} (h : Cal l X d bc bs M_X5_needElement [.int s0] A fun o4 A1 b2 c3 => rV o4 (fun E => Q (.inr E) A1) <| Q (Ri v2) A1) : G l X M_X5_sized d Q 59 [(2, .int v2)] [.int s0] A bc bs := by
  refine G_callS (As := [.int s0]) (rest := []) lk_X5_243 rfl (dk_at dk_X5_sized 31 rfl) rfl rfl (Nat.le_of_ble_eq_true rfl) (h.mono fun o4 A1 b2 c3 h => aftV h fun h => ?_)
  refine G_iload_n 0 (dk_at dk_X5_sized 32 rfl) rfl ?_
  exact G_iret (ty := .int) rfl rfl (dk_at dk_X5_sized 33 rfl) h
theorem k_X5_rename_0 {l : Launch} {X : XT} {d : Nat} {Q : Ot → AH → Prop} {A : AH} {bc bs : Nat} {v0 : Nat} {v1 : Int32} {v2 : Int32} (h : gR A v0 6 5 fun r1 => gR A r1 2 15 fun r2 => isO A r2 0 ∧ Cal l X d bc bs M_Jx4a65c_size_8abf5 [.ref r2] A fun o6 A3 b4 c5 => rI o6 (fun E => Q (.inr E) A3) fun i7 => Cal l X d b4 c5 M_X5_needIndex [.int v1, .int i7] A3 fun o11 A8 b9 c10 => rV o11 (fun E => Q (.inr E) A8) <| Cal l X d b9 c10 M_X5_isName [.int v2] A8 fun o15 A12 b13 c14 => rI o15 (fun E => Q (.inr E) A12) fun i16 => Cal l X d b13 c14 M_X5_needArgument [.int i16] A12 fun o20 A17 b18 c19 => rV o20 (fun E => Q (.inr E) A17) <| isO A17 v0 6 ∧ Cal l X d b18 c19 M_X5_remember [.ref v0] A17 fun o24 A21 b22 c23 => rV o24 (fun E => Q (.inr E) A21) <| gR A21 v0 6 5 fun r25 => gR A21 r25 2 15 fun r26 => isO A21 r26 0 ∧ Cal l X d b22 c23 M_Jx4a65c_get_915e3 [.ref r26, .int v1] A21 fun o30 A27 b28 c29 => rQ o30 (fun E => Q (.inr E) A27) fun o31 => ∃ a32, o31 = some a32 ∧ isO A27 a32 3 ∧ gR A27 v0 6 5 fun r33 => gR A27 r33 2 15 fun r34 => mk A27 (ob 3 df_3) 2 b28 c29 fun r35 A36 b37 c38 => gR A36 a32 3 1 fun r39 => Cal l X d b37 c38 M_X2_init [.ref r35, .int v2, .ref r39] A36 fun o43 A40 b41 c42 => zV o43 <| isO A40 r34 0 ∧ Cal l X d b41 c42 M_Jx4a65c_set_bcc79 [.ref r34, .int v1, .ref r35] A40 fun o47 A44 b45 c46 => rQ o47 (fun E => Q (.inr E) A44) fun o48 => gI A44 a32 3 0 fun i49 => Q (Ri i49) A44) : G l X M_X5_rename d Q 0 [(0, .ref v0), (1, .int v1), (2, .int v2)] [] A bc bs := by
  refine G_iload_n 1 (dk_at dk_X5_rename 0 rfl) rfl ?_
  refine G_aload_n 0 (dk_at dk_X5_rename 1 rfl) rfl ?_
  refine K_gR gf_X5_50 (dk_at dk_X5_rename 2 rfl) h (fun r1 h => ?_)
  refine K_gR gf_X5_115 (dk_at dk_X5_rename 3 rfl) h (fun r2 h => ?_)
  obtain ⟨⟨_, ho⟩, h⟩ := h
  refine G_callV (As := []) (rest := [.int v1]) lk_X5_119 rfl (dk_at dk_X5_rename 4 rfl) rfl rfl (Nat.le_of_ble_eq_true rfl) ho (h.mono fun o6 A3 b4 c5 h => aftI h fun i7 h => ?_)
  refine G_callS (As := [.int v1, .int i7]) (rest := []) lk_X5_147 rfl (dk_at dk_X5_rename 5 rfl) rfl rfl (Nat.le_of_ble_eq_true rfl) (h.mono fun o11 A8 b9 c10 h => aftV h fun h => ?_)
  refine G_iload_n 2 (dk_at dk_X5_rename 6 rfl) rfl ?_
  refine G_callS (As := [.int v2]) (rest := []) lk_X5_263 rfl (dk_at dk_X5_rename 7 rfl) rfl rfl (Nat.le_of_ble_eq_true rfl) (h.mono fun o15 A12 b13 c14 h => aftI h fun i16 h => ?_)
  refine G_callS (As := [.int i16]) (rest := []) lk_X5_68 rfl (dk_at dk_X5_rename 8 rfl) rfl rfl (Nat.le_of_ble_eq_true rfl) (h.mono fun o20 A17 b18 c19 h => aftV h fun h => ?_)
  refine G_aload_n 0 (dk_at dk_X5_rename 9 rfl) rfl ?_
  obtain ⟨⟨_, ho⟩, h⟩ := h
  refine G_callV (As := []) (rest := []) lk_X5_84 rfl (dk_at dk_X5_rename 10 rfl) rfl rfl (Nat.le_of_ble_eq_true rfl) ho (h.mono fun o24 A21 b22 c23 h => aftV h fun h => ?_)
  refine G_aload_n 0 (dk_at dk_X5_rename 11 rfl) rfl ?_
  refine K_gR gf_X5_50 (dk_at dk_X5_rename 12 rfl) h (fun r25 h => ?_)
  refine K_gR gf_X5_115 (dk_at dk_X5_rename 13 rfl) h (fun r26 h => ?_)
  refine G_iload_n 1 (dk_at dk_X5_rename 14 rfl) rfl ?_
  obtain ⟨⟨_, ho⟩, h⟩ := h
  refine G_callV (As := [.int v1]) (rest := []) lk_X5_279 rfl (dk_at dk_X5_rename 15 rfl) rfl rfl (Nat.le_of_ble_eq_true rfl) ho (h.mono fun o30 A27 b28 c29 h => aftQ h fun o31 h => ?_)
  refine K_castP wd_19 (dk_at dk_X5_rename 16 rfl) h (fun a32 h => ?_)
  refine G_astore_n (lv' := [(3, .ref a32), (0, .ref v0), (1, .int v1), (2, .int v2)]) (dk_at dk_X5_rename 17 rfl) (by decide) rfl ?_
  refine G_aload_n 1 (dk_at dk_X5_rename 18 rfl) rfl ?_
  refine K_gR gf_X5_50 (dk_at dk_X5_rename 19 rfl) h (fun r33 h => ?_)
  refine K_gR gf_X5_115 (dk_at dk_X5_rename 20 rfl) h (fun r34 h => ?_)
  refine G_iload_n 2 (dk_at dk_X5_rename 21 rfl) rfl ?_
  refine K_new no_X5_273 (dk_at dk_X5_rename 22 rfl) h (fun r35 A36 b37 c38 h => ?_)
  refine G_dup (dk_at dk_X5_rename 23 rfl) rfl ?_
  refine G_iload_n 3 (dk_at dk_X5_rename 24 rfl) rfl ?_
  refine G_aload_n 0 (dk_at dk_X5_rename 25 rfl) rfl ?_
  refine K_gR gf_X5_285 (dk_at dk_X5_rename 26 rfl) h (fun r39 h => ?_)
  refine G_callI (As := [.int v2, .ref r39]) (rest := [.ref r35, .int v1, .ref r34]) lk_X5_286 (dk_at dk_X5_rename 27 rfl) rfl rfl (Nat.le_of_ble_eq_true rfl) (h.mono fun o43 A40 b41 c42 h => atfV h fun h => ?_)
  obtain ⟨⟨_, ho⟩, h⟩ := h
  refine G_callV (As := [.int v1, .ref r35]) (rest := []) lk_X5_289 rfl (dk_at dk_X5_rename 28 rfl) rfl rfl (Nat.le_of_ble_eq_true rfl) ho (h.mono fun o47 A44 b45 c46 h => aftQ h fun o48 h => ?_)
  refine G_pop (dk_at dk_X5_rename 29 rfl) (rf_cat _) ?_
  refine G_aload_n 0 (dk_at dk_X5_rename 30 rfl) rfl ?_
  refine K_gI gf_X5_282 (dk_at dk_X5_rename 31 rfl) h (fun i49 h => ?_)
  exact G_iret (ty := .int) rfl rfl (dk_at dk_X5_rename 32 rfl) h
theorem k_X5_spoil_0 {l : Launch} {X : XT} {d : Nat} {Q : Ot → AH → Prop} {A : AH} {bc bs : Nat} {v0 : Nat} {v1 : Int32} {v2 : Int32} {v3 : Int32} (h : gR A v0 6 5 fun r1 => gR A r1 2 15 fun r2 => isO A r2 0 ∧ Cal l X d bc bs M_Jx4a65c_size_8abf5 [.ref r2] A fun o6 A3 b4 c5 => rI o6 (fun E => Q (.inr E) A3) fun i7 => Cal l X d b4 c5 M_X5_needIndex [.int v1, .int i7] A3 fun o11 A8 b9 c10 => rV o11 (fun E => Q (.inr E) A8) <| gR A8 v0 6 5 fun r12 => gR A8 r12 2 15 fun r13 => isO A8 r13 0 ∧ Cal l X d b9 c10 M_Jx4a65c_get_915e3 [.ref r13, .int v1] A8 fun o17 A14 b15 c16 => rQ o17 (fun E => Q (.inr E) A14) fun o18 => ∃ a19, o18 = some a19 ∧ isO A14 a19 3 ∧ gR A14 a19 3 1 fun r20 => nI_ X A14 r20 fun i21 => Cal l X d b15 c16 M_X5_needIndex [.int v2, .int i21] A14 fun o25 A22 b23 c24 => rV o25 (fun E => Q (.inr E) A22) <| (v3 < 1 → G l X M_X5_spoil d Q 57 [(0, .ref v0), (1, .int v1), (2, .int v2), (3, .int v3), (4, .ref a19)] [.int 0] A22 b23 c24) ∧ (¬ v3 < 1 → (255 < v3 → G l X M_X5_spoil d Q 57 [(0, .ref v0), (1, .int v1), (2, .int v2), (3, .int v3), (4, .ref a19)] [.int 0] A22 b23 c24) ∧ (¬ 255 < v3 → G l X M_X5_spoil d Q 57 [(0, .ref v0), (1, .int v1), (2, .int v2), (3, .int v3), (4, .ref a19)] [.int 1] A22 b23 c24))) : G l X M_X5_spoil d Q 0 [(0, .ref v0), (1, .int v1), (2, .int v2), (3, .int v3)] [] A bc bs := by
  refine G_iload_n 1 (dk_at dk_X5_spoil 0 rfl) rfl ?_
  refine G_aload_n 0 (dk_at dk_X5_spoil 1 rfl) rfl ?_
  refine K_gR gf_X5_50 (dk_at dk_X5_spoil 2 rfl) h (fun r1 h => ?_)
  refine K_gR gf_X5_115 (dk_at dk_X5_spoil 3 rfl) h (fun r2 h => ?_)
  obtain ⟨⟨_, ho⟩, h⟩ := h
  refine G_callV (As := []) (rest := [.int v1]) lk_X5_119 rfl (dk_at dk_X5_spoil 4 rfl) rfl rfl (Nat.le_of_ble_eq_true rfl) ho (h.mono fun o6 A3 b4 c5 h => aftI h fun i7 h => ?_)
  refine G_callS (As := [.int v1, .int i7]) (rest := []) lk_X5_147 rfl (dk_at dk_X5_spoil 5 rfl) rfl rfl (Nat.le_of_ble_eq_true rfl) (h.mono fun o11 A8 b9 c10 h => aftV h fun h => ?_)
  refine G_aload_n 0 (dk_at dk_X5_spoil 6 rfl) rfl ?_
  refine K_gR gf_X5_50 (dk_at dk_X5_spoil 7 rfl) h (fun r12 h => ?_)
  refine K_gR gf_X5_115 (dk_at dk_X5_spoil 8 rfl) h (fun r13 h => ?_)
  refine G_iload_n 1 (dk_at dk_X5_spoil 9 rfl) rfl ?_
  obtain ⟨⟨_, ho⟩, h⟩ := h
  refine G_callV (As := [.int v1]) (rest := []) lk_X5_279 rfl (dk_at dk_X5_spoil 10 rfl) rfl rfl (Nat.le_of_ble_eq_true rfl) ho (h.mono fun o17 A14 b15 c16 h => aftQ h fun o18 h => ?_)
  refine K_castP wd_19 (dk_at dk_X5_spoil 11 rfl) h (fun a19 h => ?_)
  refine G_astore (lv' := [(4, .ref a19), (0, .ref v0), (1, .int v1), (2, .int v2), (3, .int v3)]) (dk_at dk_X5_spoil 12 rfl) (by decide) rfl ?_
  refine G_iload_n 3 (dk_at dk_X5_spoil 13 rfl) rfl ?_
  refine G_aload 0 (dk_at dk_X5_spoil 14 rfl) rfl ?_
  refine K_gR gf_X5_285 (dk_at dk_X5_spoil 15 rfl) h (fun r20 h => ?_)
  refine K_nI (dk_at dk_X5_spoil 16 rfl) h (fun i21 h => ?_)
  refine G_callS (As := [.int v2, .int i21]) (rest := []) lk_X5_147 rfl (dk_at dk_X5_spoil 17 rfl) rfl rfl (Nat.le_of_ble_eq_true rfl) (h.mono fun o25 A22 b23 c24 h => aftV h fun h => ?_)
  refine G_iload_n 4 (dk_at dk_X5_spoil 18 rfl) rfl ?_
  refine G_iconst (v := 1) (dk_at dk_X5_spoil 19 rfl) (by decide) ?_
  refine G_icmp_lt (tgt := 56) (dk_at dk_X5_spoil 20 rfl) (by decide) (fun c => ?_) (fun c => ?_)
  · replace h := h.1 c
    refine G_iconst (v := 0) (dk_at dk_X5_spoil 26 rfl) (by decide) ?_
    refine G_sub [1, 2, 3, 4, 0] rfl ?_
    exact h
  · replace h := h.2 c
    refine G_iload_n 4 (dk_at dk_X5_spoil 21 rfl) rfl ?_
    refine G_sipush (v := 255) (dk_at dk_X5_spoil 22 rfl) (by decide) ?_
    refine G_icmp_gt (tgt := 56) (dk_at dk_X5_spoil 23 rfl) (by decide) (fun c => ?_) (fun c => ?_)
    · replace h := h.1 c
      refine G_iconst (v := 0) (dk_at dk_X5_spoil 26 rfl) (by decide) ?_
      refine G_sub [1, 2, 3, 4, 0] rfl ?_
      exact h
    · replace h := h.2 c
      refine G_iconst (v := 1) (dk_at dk_X5_spoil 24 rfl) (by decide) ?_
      refine G_goto (tgt := 57) (dk_at dk_X5_spoil 25 rfl) (by decide) ?_
      refine G_sub [1, 2, 3, 4, 0] rfl ?_
      exact h
theorem k_X5_spoil_57 {l : Launch} {X : XT} {d : Nat} {Q : Ot → AH → Prop} {A : AH} {bc bs : Nat} {v0 : Nat} {v1 : Int32} {v2 : Int32} {v3 : Int32} {v4 : Nat} {s0 : Int32} (h : Cal l X d bc bs M_X5_needArgument [.int s0] A fun o4 A1 b2 c3 => rV o4 (fun E => Q (.inr E) A1) <| isO A1 v0 6 ∧ Cal l X d b2 c3 M_X5_remember [.ref v0] A1 fun o8 A5 b6 c7 => rV o8 (fun E => Q (.inr E) A5) <| gR A5 v4 3 1 fun r9 => cln X A5 r9 b6 c7 fun r10 A11 b12 c13 => (∃ (n : Nat) (f : Nat → Int32), A11.2 r10 = some (ia X n f)) ∧ Cal l X d b12 c13 M_X5_addTo [.ref r10, .int v2, .int v3] A11 fun o17 A14 b15 c16 => rV o17 (fun E => Q (.inr E) A14) <| gR A14 v0 6 5 fun r18 => gR A14 r18 2 15 fun r19 => mk A14 (ob 3 df_3) 2 b15 c16 fun r20 A21 b22 c23 => gI A21 v4 3 0 fun i24 => Cal l X d b22 c23 M_X2_init [.ref r20, .int i24, .ref r10] A21 fun o28 A25 b26 c27 => zV o28 <| isO A25 r19 0 ∧ Cal l X d b26 c27 M_Jx4a65c_set_bcc79 [.ref r19, .int v1, .ref r20] A25 fun o32 A29 b30 c31 => rQ o32 (fun E => Q (.inr E) A29) fun o33 => Cal l X d b30 c31 M_X5_at [.ref r10, .int v2] A29 fun o37 A34 b35 c36 => rI o37 (fun E => Q (.inr E) A34) fun i38 => Q (Ri i38) A34) : G l X M_X5_spoil d Q 57 [(0, .ref v0), (1, .int v1), (2, .int v2), (3, .int v3), (4, .ref v4)] [.int s0] A bc bs := by
  refine G_callS (As := [.int s0]) (rest := []) lk_X5_68 rfl (dk_at dk_X5_spoil 27 rfl) rfl rfl (Nat.le_of_ble_eq_true rfl) (h.mono fun o4 A1 b2 c3 h => aftV h fun h => ?_)
  refine G_aload_n 0 (dk_at dk_X5_spoil 28 rfl) rfl ?_
  obtain ⟨⟨_, ho⟩, h⟩ := h
  refine G_callV (As := []) (rest := []) lk_X5_84 rfl (dk_at dk_X5_spoil 29 rfl) rfl rfl (Nat.le_of_ble_eq_true rfl) ho (h.mono fun o8 A5 b6 c7 h => aftV h fun h => ?_)
  refine G_aload 4 (dk_at dk_X5_spoil 30 rfl) rfl ?_
  refine K_gR gf_X5_285 (dk_at dk_X5_spoil 31 rfl) h (fun r9 h => ?_)
  refine K_cln lcl_X5_293 (dk_at dk_X5_spoil 32 rfl) (Nat.le_of_ble_eq_true rfl) h (fun r10 A11 b12 c13 h => ?_)
  refine K_castA wd_20 (dk_at dk_X5_spoil 33 rfl) h (fun h => ?_)
  refine G_astore (lv' := [(5, .ref r10), (0, .ref v0), (1, .int v1), (2, .int v2), (3, .int v3), (4, .ref v4)]) (dk_at dk_X5_spoil 34 rfl) (by decide) rfl ?_
  refine G_aload 0 (dk_at dk_X5_spoil 35 rfl) rfl ?_
  refine G_iload_n 3 (dk_at dk_X5_spoil 36 rfl) rfl ?_
  refine G_iload_n 4 (dk_at dk_X5_spoil 37 rfl) rfl ?_
  refine G_callS (As := [.ref r10, .int v2, .int v3]) (rest := []) lk_X5_298 rfl (dk_at dk_X5_spoil 38 rfl) rfl rfl (Nat.le_of_ble_eq_true rfl) (h.mono fun o17 A14 b15 c16 h => aftV h fun h => ?_)
  refine G_aload_n 1 (dk_at dk_X5_spoil 39 rfl) rfl ?_
  refine K_gR gf_X5_50 (dk_at dk_X5_spoil 40 rfl) h (fun r18 h => ?_)
  refine K_gR gf_X5_115 (dk_at dk_X5_spoil 41 rfl) h (fun r19 h => ?_)
  refine G_iload_n 2 (dk_at dk_X5_spoil 42 rfl) rfl ?_
  refine K_new no_X5_273 (dk_at dk_X5_spoil 43 rfl) h (fun r20 A21 b22 c23 h => ?_)
  refine G_dup (dk_at dk_X5_spoil 44 rfl) rfl ?_
  refine G_aload 5 (dk_at dk_X5_spoil 45 rfl) rfl ?_
  refine K_gI gf_X5_282 (dk_at dk_X5_spoil 46 rfl) h (fun i24 h => ?_)
  refine G_aload 0 (dk_at dk_X5_spoil 47 rfl) rfl ?_
  refine G_callI (As := [.int i24, .ref r10]) (rest := [.ref r20, .int v1, .ref r19]) lk_X5_286 (dk_at dk_X5_spoil 48 rfl) rfl rfl (Nat.le_of_ble_eq_true rfl) (h.mono fun o28 A25 b26 c27 h => atfV h fun h => ?_)
  obtain ⟨⟨_, ho⟩, h⟩ := h
  refine G_callV (As := [.int v1, .ref r20]) (rest := []) lk_X5_289 rfl (dk_at dk_X5_spoil 49 rfl) rfl rfl (Nat.le_of_ble_eq_true rfl) ho (h.mono fun o32 A29 b30 c31 h => aftQ h fun o33 h => ?_)
  refine G_pop (dk_at dk_X5_spoil 50 rfl) (rf_cat _) ?_
  refine G_aload 0 (dk_at dk_X5_spoil 51 rfl) rfl ?_
  refine G_iload_n 3 (dk_at dk_X5_spoil 52 rfl) rfl ?_
  refine G_callS (As := [.ref r10, .int v2]) (rest := []) lk_X5_162 rfl (dk_at dk_X5_spoil 53 rfl) rfl rfl (Nat.le_of_ble_eq_true rfl) (h.mono fun o37 A34 b35 c36 h => aftI h fun i38 h => ?_)
  exact G_iret (ty := .int) rfl rfl (dk_at dk_X5_spoil 54 rfl) h
theorem k_X5_discard_0 {l : Launch} {X : XT} {d : Nat} {Q : Ot → AH → Prop} {A : AH} {bc bs : Nat} {v0 : Nat} {v1 : Int32} (h : gR A v0 6 5 fun r1 => gR A r1 2 15 fun r2 => isO A r2 0 ∧ Cal l X d bc bs M_Jx4a65c_size_8abf5 [.ref r2] A fun o6 A3 b4 c5 => rI o6 (fun E => Q (.inr E) A3) fun i7 => Cal l X d b4 c5 M_X5_needIndex [.int v1, .int i7] A3 fun o11 A8 b9 c10 => rV o11 (fun E => Q (.inr E) A8) <| isO A8 v0 6 ∧ Cal l X d b9 c10 M_X5_remember [.ref v0] A8 fun o15 A12 b13 c14 => rV o15 (fun E => Q (.inr E) A12) <| gR A12 v0 6 5 fun r16 => gR A12 r16 2 15 fun r17 => isO A12 r17 0 ∧ Cal l X d b13 c14 M_Jx4a65c_remove_915e3 [.ref r17, .int v1] A12 fun o21 A18 b19 c20 => rQ o21 (fun E => Q (.inr E) A18) fun o22 => gR A18 v0 6 5 fun r23 => gR A18 r23 2 15 fun r24 => isO A18 r24 0 ∧ Cal l X d b19 c20 M_Jx4a65c_size_8abf5 [.ref r24] A18 fun o28 A25 b26 c27 => rI o28 (fun E => Q (.inr E) A25) fun i29 => Q (Ri i29) A25) : G l X M_X5_discard d Q 0 [(0, .ref v0), (1, .int v1)] [] A bc bs := by
  refine G_iload_n 1 (dk_at dk_X5_discard 0 rfl) rfl ?_
  refine G_aload_n 0 (dk_at dk_X5_discard 1 rfl) rfl ?_
  refine K_gR gf_X5_50 (dk_at dk_X5_discard 2 rfl) h (fun r1 h => ?_)
  refine K_gR gf_X5_115 (dk_at dk_X5_discard 3 rfl) h (fun r2 h => ?_)
  obtain ⟨⟨_, ho⟩, h⟩ := h
  refine G_callV (As := []) (rest := [.int v1]) lk_X5_119 rfl (dk_at dk_X5_discard 4 rfl) rfl rfl (Nat.le_of_ble_eq_true rfl) ho (h.mono fun o6 A3 b4 c5 h => aftI h fun i7 h => ?_)
  refine G_callS (As := [.int v1, .int i7]) (rest := []) lk_X5_147 rfl (dk_at dk_X5_discard 5 rfl) rfl rfl (Nat.le_of_ble_eq_true rfl) (h.mono fun o11 A8 b9 c10 h => aftV h fun h => ?_)
  refine G_aload_n 0 (dk_at dk_X5_discard 6 rfl) rfl ?_
  obtain ⟨⟨_, ho⟩, h⟩ := h
  refine G_callV (As := []) (rest := []) lk_X5_84 rfl (dk_at dk_X5_discard 7 rfl) rfl rfl (Nat.le_of_ble_eq_true rfl) ho (h.mono fun o15 A12 b13 c14 h => aftV h fun h => ?_)
  refine G_aload_n 0 (dk_at dk_X5_discard 8 rfl) rfl ?_
  refine K_gR gf_X5_50 (dk_at dk_X5_discard 9 rfl) h (fun r16 h => ?_)
  refine K_gR gf_X5_115 (dk_at dk_X5_discard 10 rfl) h (fun r17 h => ?_)
  refine G_iload_n 1 (dk_at dk_X5_discard 11 rfl) rfl ?_
  obtain ⟨⟨_, ho⟩, h⟩ := h
  refine G_callV (As := [.int v1]) (rest := []) lk_X5_269 rfl (dk_at dk_X5_discard 12 rfl) rfl rfl (Nat.le_of_ble_eq_true rfl) ho (h.mono fun o21 A18 b19 c20 h => aftQ h fun o22 h => ?_)
  refine G_pop (dk_at dk_X5_discard 13 rfl) (rf_cat _) ?_
  refine G_aload_n 0 (dk_at dk_X5_discard 14 rfl) rfl ?_
  refine K_gR gf_X5_50 (dk_at dk_X5_discard 15 rfl) h (fun r23 h => ?_)
  refine K_gR gf_X5_115 (dk_at dk_X5_discard 16 rfl) h (fun r24 h => ?_)
  obtain ⟨⟨_, ho⟩, h⟩ := h
  refine G_callV (As := []) (rest := []) lk_X5_119 rfl (dk_at dk_X5_discard 17 rfl) rfl rfl (Nat.le_of_ble_eq_true rfl) ho (h.mono fun o28 A25 b26 c27 h => aftI h fun i29 h => ?_)
  exact G_iret (ty := .int) rfl rfl (dk_at dk_X5_discard 18 rfl) h
theorem k_X5_partial_0 {l : Launch} {X : XT} {d : Nat} {Q : Ot → AH → Prop} {A : AH} {bc bs : Nat} {v0 : Nat} {v1 : Int32} {v2 : Int32} (h : gR A v0 6 5 fun r1 => gR A r1 2 15 fun r2 => isO A r2 0 ∧ Cal l X d bc bs M_Jx4a65c_size_8abf5 [.ref r2] A fun o6 A3 b4 c5 => rI o6 (fun E => Q (.inr E) A3) fun i7 => Cal l X d b4 c5 M_X5_needIndex [.int v1, .int i7] A3 fun o11 A8 b9 c10 => rV o11 (fun E => Q (.inr E) A8) <| gR A8 v0 6 5 fun r12 => gR A8 r12 2 15 fun r13 => isO A8 r13 0 ∧ Cal l X d b9 c10 M_Jx4a65c_get_915e3 [.ref r13, .int v1] A8 fun o17 A14 b15 c16 => rQ o17 (fun E => Q (.inr E) A14) fun o18 => ∃ a19, o18 = some a19 ∧ isO A14 a19 3 ∧ (v2 = 0 → gI A14 a19 3 0 fun i20 => Q (Ri i20) A14) ∧ (v2 = 1 → gR A14 a19 3 1 fun r21 => nI_ X A14 r21 fun i22 => Q (Ri i22) A14) ∧ (v2 = 2 → gR A14 a19 3 1 fun r23 => gR A14 a19 3 1 fun r24 => nI_ X A14 r24 fun i25 => Cal l X d b15 c16 M_X5_sumOf [.ref r23, .int 0, .int i25] A14 fun o29 A26 b27 c28 => rI o29 (fun E => Q (.inr E) A26) fun i30 => Q (Ri i30) A26) ∧ (v2 = 3 → gR A14 a19 3 1 fun r31 => gR A14 v0 6 5 fun r32 => gR A14 r32 2 0 fun r33 => gR A14 r33 4 4 fun r34 => gR A14 a19 3 1 fun r35 => nI_ X A14 r35 fun i36 => Cal l X d b15 c16 M_X5_differences [.ref r31, .ref r34, .int 0, .int i36] A14 fun o40 A37 b38 c39 => rI o40 (fun E => Q (.inr E) A37) fun i41 => Q (Ri i41) A37) ∧ (v2 = 4 → gR A14 v0 6 5 fun r42 => gR A14 r42 2 0 fun r43 => gR A14 a19 3 1 fun r44 => isO A14 r43 4 ∧ Cal l X d b15 c16 M_X3_leadingGoodPieces [.ref r43, .ref r44] A14 fun o48 A45 b46 c47 => rI o48 (fun E => Q (.inr E) A45) fun i49 => Q (Ri i49) A45) ∧ (¬ v2 = 0 → ¬ v2 = 1 → ¬ v2 = 2 → ¬ v2 = 3 → ¬ v2 = 4 → thr A14 b15 c16 fun A50 => Q (Th "java/lang/IllegalArgumentException") A50)) : G l X M_X5_partial d Q 0 [(0, .ref v0), (1, .int v1), (2, .int v2)] [] A bc bs := by
  refine G_iload_n 1 (dk_at dk_X5_partial 0 rfl) rfl ?_
  refine G_aload_n 0 (dk_at dk_X5_partial 1 rfl) rfl ?_
  refine K_gR gf_X5_50 (dk_at dk_X5_partial 2 rfl) h (fun r1 h => ?_)
  refine K_gR gf_X5_115 (dk_at dk_X5_partial 3 rfl) h (fun r2 h => ?_)
  obtain ⟨⟨_, ho⟩, h⟩ := h
  refine G_callV (As := []) (rest := [.int v1]) lk_X5_119 rfl (dk_at dk_X5_partial 4 rfl) rfl rfl (Nat.le_of_ble_eq_true rfl) ho (h.mono fun o6 A3 b4 c5 h => aftI h fun i7 h => ?_)
  refine G_callS (As := [.int v1, .int i7]) (rest := []) lk_X5_147 rfl (dk_at dk_X5_partial 5 rfl) rfl rfl (Nat.le_of_ble_eq_true rfl) (h.mono fun o11 A8 b9 c10 h => aftV h fun h => ?_)
  refine G_aload_n 0 (dk_at dk_X5_partial 6 rfl) rfl ?_
  refine K_gR gf_X5_50 (dk_at dk_X5_partial 7 rfl) h (fun r12 h => ?_)
  refine K_gR gf_X5_115 (dk_at dk_X5_partial 8 rfl) h (fun r13 h => ?_)
  refine G_iload_n 1 (dk_at dk_X5_partial 9 rfl) rfl ?_
  obtain ⟨⟨_, ho⟩, h⟩ := h
  refine G_callV (As := [.int v1]) (rest := []) lk_X5_279 rfl (dk_at dk_X5_partial 10 rfl) rfl rfl (Nat.le_of_ble_eq_true rfl) ho (h.mono fun o17 A14 b15 c16 h => aftQ h fun o18 h => ?_)
  refine K_castP wd_19 (dk_at dk_X5_partial 11 rfl) h (fun a19 h => ?_)
  refine G_astore_n (lv' := [(3, .ref a19), (0, .ref v0), (1, .int v1), (2, .int v2)]) (dk_at dk_X5_partial 12 rfl) (by decide) rfl ?_
  refine G_iload_n 3 (dk_at dk_X5_partial 13 rfl) rfl ?_
  by_cases c0 : v2 = 0
  · replace h := h.1 c0
    refine G_tcase (tgt := 64) (dk_at dk_X5_partial 14 rfl) (by rw [c0]; decide) (by rw [c0]; decide) (off := 34) (by rw [c0]; rfl) (by decide) ?_
    refine G_aload_n 0 (dk_at dk_X5_partial 15 rfl) rfl ?_
    refine K_gI gf_X5_282 (dk_at dk_X5_partial 16 rfl) h (fun i20 h => ?_)
    exact G_iret (ty := .int) rfl rfl (dk_at dk_X5_partial 17 rfl) h
  by_cases c1 : v2 = 1
  · replace h := h.2.1 c1
    refine G_tcase (tgt := 69) (dk_at dk_X5_partial 14 rfl) (by rw [c1]; decide) (by rw [c1]; decide) (off := 39) (by rw [c1]; rfl) (by decide) ?_
    refine G_aload_n 0 (dk_at dk_X5_partial 18 rfl) rfl ?_
    refine K_gR gf_X5_285 (dk_at dk_X5_partial 19 rfl) h (fun r21 h => ?_)
    refine K_nI (dk_at dk_X5_partial 20 rfl) h (fun i22 h => ?_)
    exact G_iret (ty := .int) rfl rfl (dk_at dk_X5_partial 21 rfl) h
  by_cases c2 : v2 = 2
  · replace h := h.2.2.1 c2
    refine G_tcase (tgt := 75) (dk_at dk_X5_partial 14 rfl) (by rw [c2]; decide) (by rw [c2]; decide) (off := 45) (by rw [c2]; rfl) (by decide) ?_
    refine G_aload_n 0 (dk_at dk_X5_partial 22 rfl) rfl ?_
    refine K_gR gf_X5_285 (dk_at dk_X5_partial 23 rfl) h (fun r23 h => ?_)
    refine G_iconst (v := 0) (dk_at dk_X5_partial 24 rfl) (by decide) ?_
    refine G_aload_n 0 (dk_at dk_X5_partial 25 rfl) rfl ?_
    refine K_gR gf_X5_285 (dk_at dk_X5_partial 26 rfl) h (fun r24 h => ?_)
    refine K_nI (dk_at dk_X5_partial 27 rfl) h (fun i25 h => ?_)
    refine G_callS (As := [.ref r23, .int 0, .int i25]) (rest := []) lk_X5_226 rfl (dk_at dk_X5_partial 28 rfl) rfl rfl (Nat.le_of_ble_eq_true rfl) (h.mono fun o29 A26 b27 c28 h => aftI h fun i30 h => ?_)
    exact G_iret (ty := .int) rfl rfl (dk_at dk_X5_partial 29 rfl) h
  by_cases c3 : v2 = 3
  · replace h := h.2.2.2.1 c3
    refine G_tcase (tgt := 89) (dk_at dk_X5_partial 14 rfl) (by rw [c3]; decide) (by rw [c3]; decide) (off := 59) (by rw [c3]; rfl) (by decide) ?_
    refine G_aload_n 0 (dk_at dk_X5_partial 30 rfl) rfl ?_
    refine K_gR gf_X5_285 (dk_at dk_X5_partial 31 rfl) h (fun r31 h => ?_)
    refine G_aload_n 1 (dk_at dk_X5_partial 32 rfl) rfl ?_
    refine K_gR gf_X5_50 (dk_at dk_X5_partial 33 rfl) h (fun r32 h => ?_)
    refine K_gR gf_X5_90 (dk_at dk_X5_partial 34 rfl) h (fun r33 h => ?_)
    refine K_gR gf_X5_301 (dk_at dk_X5_partial 35 rfl) h (fun r34 h => ?_)
    refine G_iconst (v := 0) (dk_at dk_X5_partial 36 rfl) (by decide) ?_
    refine G_aload_n 0 (dk_at dk_X5_partial 37 rfl) rfl ?_
    refine K_gR gf_X5_285 (dk_at dk_X5_partial 38 rfl) h (fun r35 h => ?_)
    refine K_nI (dk_at dk_X5_partial 39 rfl) h (fun i36 h => ?_)
    refine G_callS (As := [.ref r31, .ref r34, .int 0, .int i36]) (rest := []) lk_X5_304 rfl (dk_at dk_X5_partial 40 rfl) rfl rfl (Nat.le_of_ble_eq_true rfl) (h.mono fun o40 A37 b38 c39 h => aftI h fun i41 h => ?_)
    exact G_iret (ty := .int) rfl rfl (dk_at dk_X5_partial 41 rfl) h
  by_cases c4 : v2 = 4
  · replace h := h.2.2.2.2.1 c4
    refine G_tcase (tgt := 113) (dk_at dk_X5_partial 14 rfl) (by rw [c4]; decide) (by rw [c4]; decide) (off := 83) (by rw [c4]; rfl) (by decide) ?_
    refine G_aload_n 1 (dk_at dk_X5_partial 42 rfl) rfl ?_
    refine K_gR gf_X5_50 (dk_at dk_X5_partial 43 rfl) h (fun r42 h => ?_)
    refine K_gR gf_X5_90 (dk_at dk_X5_partial 44 rfl) h (fun r43 h => ?_)
    refine G_aload_n 0 (dk_at dk_X5_partial 45 rfl) rfl ?_
    refine K_gR gf_X5_285 (dk_at dk_X5_partial 46 rfl) h (fun r44 h => ?_)
    obtain ⟨⟨_, ho⟩, h⟩ := h
    refine G_callV (As := [.ref r44]) (rest := []) lk_X5_308 rfl (dk_at dk_X5_partial 47 rfl) rfl rfl (Nat.le_of_ble_eq_true rfl) ho (h.mono fun o48 A45 b46 c47 h => aftI h fun i49 h => ?_)
    exact G_iret (ty := .int) rfl rfl (dk_at dk_X5_partial 48 rfl) h
  replace h := h.2.2.2.2.2 c0 c1 c2 c3 c4
  refine G_tout (tgt := 128) (dk_at dk_X5_partial 14 rfl) (tsw_out (n := 4) (fun k hk => ?_)) (by decide) ?_
  · have hk2 : k = 0 ∨ k = 1 ∨ k = 2 ∨ k = 3 ∨ k = 4 := by omega
    rcases hk2 with rfl | rfl | rfl | rfl | rfl
    · exact c0
    · exact c1
    · exact c2
    · exact c3
    · exact c4
  · exact G_throw to_X5_140_173 rfl (dk_at dk_X5_partial 49 rfl) (dk_at dk_X5_partial 50 rfl) (dk_at dk_X5_partial 51 rfl) (dk_at dk_X5_partial 52 rfl) (dk_at dk_X5_partial 53 rfl) (Nat.le_of_ble_eq_true rfl) h.1 h.2.1 h.2.2
theorem k_X5_wrongBytes_0 {l : Launch} {X : XT} {d : Nat} {Q : Ot → AH → Prop} {A : AH} {bc bs : Nat} {v0 : Nat} (h : G l X M_X5_wrongBytes d Q 4 [(0, .ref v0), (1, .int 0), (2, .int 0)] [] A bc bs) : G l X M_X5_wrongBytes d Q 0 [(0, .ref v0)] [] A bc bs := by
  refine G_iconst (v := 0) (dk_at dk_X5_wrongBytes 0 rfl) (by decide) ?_
  refine G_istore_n (lv' := [(1, .int 0), (0, .ref v0)]) (dk_at dk_X5_wrongBytes 1 rfl) (by decide) rfl ?_
  refine G_iconst (v := 0) (dk_at dk_X5_wrongBytes 2 rfl) (by decide) ?_
  refine G_istore_n (lv' := [(2, .int 0), (1, .int 0), (0, .ref v0)]) (dk_at dk_X5_wrongBytes 3 rfl) (by decide) rfl ?_
  refine G_sub [2, 1, 0] rfl ?_
  exact h
theorem k_X5_wrongBytes_4 {l : Launch} {X : XT} {d : Nat} {Q : Ot → AH → Prop} {A : AH} {bc bs : Nat} {v0 : Nat} {v1 : Int32} {v2 : Int32} (h : gR A v0 6 5 fun r1 => gR A r1 2 0 fun r2 => gI A r2 4 3 fun i3 => (i3 ≤ v2 → Q (Ri v1) A) ∧ (¬ i3 ≤ v2 → gR A v0 6 5 fun r4 => isO A r4 2 ∧ Cal l X d bc bs M_X1_wrongBytesOf [.ref r4, .int v2] A fun o8 A5 b6 c7 => rI o8 (fun E => Q (.inr E) A5) fun i9 => G l X M_X5_wrongBytes d Q 4 [(0, .ref v0), (1, .int (v1 + i9)), (2, .int (v2 + 1))] [] A5 b6 c7)) : G l X M_X5_wrongBytes d Q 4 [(0, .ref v0), (1, .int v1), (2, .int v2)] [] A bc bs := by
  refine G_iload_n 2 (dk_at dk_X5_wrongBytes 4 rfl) rfl ?_
  refine G_aload_n 0 (dk_at dk_X5_wrongBytes 5 rfl) rfl ?_
  refine K_gR gf_X5_50 (dk_at dk_X5_wrongBytes 6 rfl) h (fun r1 h => ?_)
  refine K_gR gf_X5_90 (dk_at dk_X5_wrongBytes 7 rfl) h (fun r2 h => ?_)
  refine K_gI gf_X5_87 (dk_at dk_X5_wrongBytes 8 rfl) h (fun i3 h => ?_)
  refine G_icmp_ge (tgt := 35) (dk_at dk_X5_wrongBytes 9 rfl) (by decide) (fun c => ?_) (fun c => ?_)
  · replace h := h.1 c
    refine G_iload_n 1 (dk_at dk_X5_wrongBytes 19 rfl) rfl ?_
    exact G_iret (ty := .int) rfl rfl (dk_at dk_X5_wrongBytes 20 rfl) h
  · replace h := h.2 c
    refine G_iload_n 1 (dk_at dk_X5_wrongBytes 10 rfl) rfl ?_
    refine G_aload_n 0 (dk_at dk_X5_wrongBytes 11 rfl) rfl ?_
    refine K_gR gf_X5_50 (dk_at dk_X5_wrongBytes 12 rfl) h (fun r4 h => ?_)
    refine G_iload_n 2 (dk_at dk_X5_wrongBytes 13 rfl) rfl ?_
    obtain ⟨⟨_, ho⟩, h⟩ := h
    refine G_callV (As := [.int v2]) (rest := [.int v1]) lk_X5_223 rfl (dk_at dk_X5_wrongBytes 14 rfl) rfl rfl (Nat.le_of_ble_eq_true rfl) ho (h.mono fun o8 A5 b6 c7 h => aftI h fun i9 h => ?_)
    refine G_iadd (dk_at dk_X5_wrongBytes 15 rfl) ?_
    refine G_istore_n (lv' := [(1, .int (v1 + i9)), (0, .ref v0), (2, .int v2)]) (dk_at dk_X5_wrongBytes 16 rfl) (by decide) rfl ?_
    refine G_iinc (v := v2 + 1) (lv' := [(2, .int (v2 + 1)), (1, .int (v1 + i9)), (0, .ref v0)]) 2 (dk_at dk_X5_wrongBytes 17 rfl) rfl rfl (by decide) rfl ?_
    refine G_goto (tgt := 4) (dk_at dk_X5_wrongBytes 18 rfl) (by decide) ?_
    refine G_sub [2, 1, 0] rfl ?_
    exact h
theorem k_X5_differingParts_0 {l : Launch} {X : XT} {d : Nat} {Q : Ot → AH → Prop} {A : AH} {bc bs : Nat} {v0 : Nat} (h : gR A v0 6 5 fun r1 => gR A r1 2 0 fun r2 => G l X M_X5_differingParts d Q 12 [(1, .ref r2), (2, .int 0), (3, .int 0)] [] A bc bs) : G l X M_X5_differingParts d Q 0 [(0, .ref v0)] [] A bc bs := by
  refine G_aload_n 0 (dk_at dk_X5_differingParts 0 rfl) rfl ?_
  refine K_gR gf_X5_50 (dk_at dk_X5_differingParts 1 rfl) h (fun r1 h => ?_)
  refine K_gR gf_X5_90 (dk_at dk_X5_differingParts 2 rfl) h (fun r2 h => ?_)
  refine G_astore_n (lv' := [(1, .ref r2), (0, .ref v0)]) (dk_at dk_X5_differingParts 3 rfl) (by decide) rfl ?_
  refine G_iconst (v := 0) (dk_at dk_X5_differingParts 4 rfl) (by decide) ?_
  refine G_istore_n (lv' := [(2, .int 0), (1, .ref r2), (0, .ref v0)]) (dk_at dk_X5_differingParts 5 rfl) (by decide) rfl ?_
  refine G_iconst (v := 0) (dk_at dk_X5_differingParts 6 rfl) (by decide) ?_
  refine G_istore_n (lv' := [(3, .int 0), (2, .int 0), (1, .ref r2), (0, .ref v0)]) (dk_at dk_X5_differingParts 7 rfl) (by decide) rfl ?_
  refine G_sub [2, 1, 0] rfl ?_
  exact h
theorem k_X5_differingParts_12 {l : Launch} {X : XT} {d : Nat} {Q : Ot → AH → Prop} {A : AH} {bc bs : Nat} {v1 : Nat} {v2 : Int32} {v3 : Int32} (h : gI A v1 4 3 fun i1 => (i1 ≤ v3 → Q (Ri v2) A) ∧ (¬ i1 ≤ v3 → isO A v1 4 ∧ Cal l X d bc bs M_X3_partStart [.ref v1, .int v3] A fun o5 A2 b3 c4 => rI o5 (fun E => Q (.inr E) A2) fun i6 => gR A2 v1 4 4 fun r7 => gR A2 v1 4 5 fun r8 => isO A2 v1 4 ∧ Cal l X d b3 c4 M_X3_partLength [.ref v1, .int v3] A2 fun o12 A9 b10 c11 => rI o12 (fun E => Q (.inr E) A9) fun i13 => Cal l X d b10 c11 M_X5_differences [.ref r7, .ref r8, .int i6, .int i13] A9 fun o17 A14 b15 c16 => rI o17 (fun E => Q (.inr E) A14) fun i18 => (i18 ≤ 0 → G l X M_X5_differingParts d Q 12 [(1, .ref v1), (2, .int v2), (3, .int (v3 + 1))] [] A14 b15 c16) ∧ (¬ i18 ≤ 0 → G l X M_X5_differingParts d Q 12 [(1, .ref v1), (2, .int (v2 + 1)), (3, .int (v3 + 1))] [] A14 b15 c16))) : G l X M_X5_differingParts d Q 12 [(1, .ref v1), (2, .int v2), (3, .int v3)] [] A bc bs := by
  refine G_iload_n 2 (dk_at dk_X5_differingParts 8 rfl) rfl ?_
  refine G_aload_n 0 (dk_at dk_X5_differingParts 9 rfl) rfl ?_
  refine K_gI gf_X5_87 (dk_at dk_X5_differingParts 10 rfl) h (fun i1 h => ?_)
  refine G_icmp_ge (tgt := 57) (dk_at dk_X5_differingParts 11 rfl) (by decide) (fun c => ?_) (fun c => ?_)
  · replace h := h.1 c
    refine G_iload_n 1 (dk_at dk_X5_differingParts 29 rfl) rfl ?_
    exact G_iret (ty := .int) rfl rfl (dk_at dk_X5_differingParts 30 rfl) h
  · replace h := h.2 c
    refine G_aload_n 0 (dk_at dk_X5_differingParts 12 rfl) rfl ?_
    refine G_iload_n 2 (dk_at dk_X5_differingParts 13 rfl) rfl ?_
    obtain ⟨⟨_, ho⟩, h⟩ := h
    refine G_callV (As := [.int v3]) (rest := []) lk_X5_211 rfl (dk_at dk_X5_differingParts 14 rfl) rfl rfl (Nat.le_of_ble_eq_true rfl) ho (h.mono fun o5 A2 b3 c4 h => aftI h fun i6 h => ?_)
    refine G_istore (lv' := [(4, .int i6), (1, .ref v1), (2, .int v2), (3, .int v3)]) (dk_at dk_X5_differingParts 15 rfl) (by decide) rfl ?_
    refine G_aload_n 1 (dk_at dk_X5_differingParts 16 rfl) rfl ?_
    refine K_gR gf_X5_301 (dk_at dk_X5_differingParts 17 rfl) h (fun r7 h => ?_)
    refine G_aload_n 1 (dk_at dk_X5_differingParts 18 rfl) rfl ?_
    refine K_gR gf_X5_312 (dk_at dk_X5_differingParts 19 rfl) h (fun r8 h => ?_)
    refine G_iload 0 (dk_at dk_X5_differingParts 20 rfl) rfl ?_
    refine G_aload_n 1 (dk_at dk_X5_differingParts 21 rfl) rfl ?_
    refine G_iload_n 3 (dk_at dk_X5_differingParts 22 rfl) rfl ?_
    obtain ⟨⟨_, ho⟩, h⟩ := h
    refine G_callV (As := [.int v3]) (rest := [.int i6, .ref r8, .ref r7]) lk_X5_214 rfl (dk_at dk_X5_differingParts 23 rfl) rfl rfl (Nat.le_of_ble_eq_true rfl) ho (h.mono fun o12 A9 b10 c11 h => aftI h fun i13 h => ?_)
    refine G_callS (As := [.ref r7, .ref r8, .int i6, .int i13]) (rest := []) lk_X5_304 rfl (dk_at dk_X5_differingParts 24 rfl) rfl rfl (Nat.le_of_ble_eq_true rfl) (h.mono fun o17 A14 b15 c16 h => aftI h fun i18 h => ?_)
    refine G_if_le (tgt := 51) (dk_at dk_X5_differingParts 25 rfl) (by decide) (fun c => ?_) (fun c => ?_)
    · replace h := h.1 c
      refine G_iinc (v := v3 + 1) (lv' := [(3, .int (v3 + 1)), (4, .int i6), (1, .ref v1), (2, .int v2)]) 3 (dk_at dk_X5_differingParts 27 rfl) rfl rfl (by decide) rfl ?_
      refine G_goto (tgt := 12) (dk_at dk_X5_differingParts 28 rfl) (by decide) ?_
      refine G_sub [2, 3, 0] rfl ?_
      exact h
    · replace h := h.2 c
      refine G_iinc (v := v2 + 1) (lv' := [(2, .int (v2 + 1)), (4, .int i6), (1, .ref v1), (3, .int v3)]) 2 (dk_at dk_X5_differingParts 26 rfl) rfl rfl (by decide) rfl ?_
      refine G_iinc (v := v3 + 1) (lv' := [(3, .int (v3 + 1)), (2, .int (v2 + 1)), (4, .int i6), (1, .ref v1)]) 3 (dk_at dk_X5_differingParts 27 rfl) rfl rfl (by decide) rfl ?_
      refine G_goto (tgt := 12) (dk_at dk_X5_differingParts 28 rfl) (by decide) ?_
      refine G_sub [3, 1, 0] rfl ?_
      exact h
theorem k_X5_progress_0 {l : Launch} {X : XT} {d : Nat} {Q : Ot → AH → Prop} {A : AH} {bc bs : Nat} {v0 : Nat} (h : gR A v0 6 5 fun r1 => gR A r1 2 0 fun r2 => G l X M_X5_progress d Q 12 [(0, .ref v0), (1, .ref r2), (2, .int 0), (3, .int 0)] [] A bc bs) : G l X M_X5_progress d Q 0 [(0, .ref v0)] [] A bc bs := by
  refine G_aload_n 0 (dk_at dk_X5_progress 0 rfl) rfl ?_
  refine K_gR gf_X5_50 (dk_at dk_X5_progress 1 rfl) h (fun r1 h => ?_)
  refine K_gR gf_X5_90 (dk_at dk_X5_progress 2 rfl) h (fun r2 h => ?_)
  refine G_astore_n (lv' := [(1, .ref r2), (0, .ref v0)]) (dk_at dk_X5_progress 3 rfl) (by decide) rfl ?_
  refine G_iconst (v := 0) (dk_at dk_X5_progress 4 rfl) (by decide) ?_
  refine G_istore_n (lv' := [(2, .int 0), (1, .ref r2), (0, .ref v0)]) (dk_at dk_X5_progress 5 rfl) (by decide) rfl ?_
  refine G_iconst (v := 0) (dk_at dk_X5_progress 6 rfl) (by decide) ?_
  refine G_istore_n (lv' := [(3, .int 0), (2, .int 0), (1, .ref r2), (0, .ref v0)]) (dk_at dk_X5_progress 7 rfl) (by decide) rfl ?_
  refine G_sub [3, 2, 1, 0] rfl ?_
  exact h
theorem k_X5_progress_12 {l : Launch} {X : XT} {d : Nat} {Q : Ot → AH → Prop} {A : AH} {bc bs : Nat} {v0 : Nat} {v1 : Nat} {v2 : Int32} {v3 : Int32} (h : gI A v1 4 2 fun i1 => (i1 ≤ v3 → gI A v1 4 0 fun i2 => (i2 ≤ 0 → Q (Rf 0) A) ∧ (¬ i2 ≤ 0 → gI A v1 4 0 fun i3 => vf_n32 (FP.fdiv (FP.i2f v2) (FP.i2f i3)) ∧ Q (Rf (FP.fdiv (FP.i2f v2) (FP.i2f i3))) A)) ∧ (¬ i1 ≤ v3 → gR A v0 6 5 fun r4 => gR A r4 2 4 fun r5 => Cal l X d bc bs M_X5_at [.ref r5, .int v3] A fun o9 A6 b7 c8 => rI o9 (fun E => Q (.inr E) A6) fun i10 => (¬ i10 = 1 → G l X M_X5_progress d Q 12 [(0, .ref v0), (1, .ref v1), (2, .int v2), (3, .int (v3 + 1))] [] A6 b7 c8) ∧ (i10 = 1 → isO A6 v1 4 ∧ Cal l X d b7 c8 M_X3_pieceLength [.ref v1, .int v3] A6 fun o14 A11 b12 c13 => rI o14 (fun E => Q (.inr E) A11) fun i15 => G l X M_X5_progress d Q 12 [(0, .ref v0), (1, .ref v1), (2, .int (v2 + i15)), (3, .int (v3 + 1))] [] A11 b12 c13))) : G l X M_X5_progress d Q 12 [(0, .ref v0), (1, .ref v1), (2, .int v2), (3, .int v3)] [] A bc bs := by
  refine G_iload_n 3 (dk_at dk_X5_progress 8 rfl) rfl ?_
  refine G_aload_n 1 (dk_at dk_X5_progress 9 rfl) rfl ?_
  refine K_gI gf_X5_97 (dk_at dk_X5_progress 10 rfl) h (fun i1 h => ?_)
  refine G_icmp_ge (tgt := 49) (dk_at dk_X5_progress 11 rfl) (by decide) (fun c => ?_) (fun c => ?_)
  · replace h := h.1 c
    refine G_aload_n 1 (dk_at dk_X5_progress 27 rfl) rfl ?_
    refine K_gI gf_X5_94 (dk_at dk_X5_progress 28 rfl) h (fun i2 h => ?_)
    refine G_if_le (tgt := 67) (dk_at dk_X5_progress 29 rfl) (by decide) (fun c => ?_) (fun c => ?_)
    · replace h := h.1 c
      refine G_fconst0 (dk_at dk_X5_progress 37 rfl) ?_
      exact G_fret rfl (dk_at dk_X5_progress 38 rfl) h
    · replace h := h.2 c
      refine G_iload_n 2 (dk_at dk_X5_progress 30 rfl) rfl ?_
      refine G_i2f (dk_at dk_X5_progress 31 rfl) ?_
      refine G_aload_n 1 (dk_at dk_X5_progress 32 rfl) rfl ?_
      refine K_gI gf_X5_94 (dk_at dk_X5_progress 33 rfl) h (fun i3 h => ?_)
      refine G_i2f (dk_at dk_X5_progress 34 rfl) ?_
      obtain ⟨h0, h⟩ := h
      refine G_fdiv (dk_at dk_X5_progress 35 rfl) h0 ?_
      refine G_goto (tgt := 68) (dk_at dk_X5_progress 36 rfl) (by decide) ?_
      exact G_fret rfl (dk_at dk_X5_progress 38 rfl) h
  · replace h := h.2 c
    refine G_aload_n 0 (dk_at dk_X5_progress 12 rfl) rfl ?_
    refine K_gR gf_X5_50 (dk_at dk_X5_progress 13 rfl) h (fun r4 h => ?_)
    refine K_gR gf_X5_206 (dk_at dk_X5_progress 14 rfl) h (fun r5 h => ?_)
    refine G_iload_n 3 (dk_at dk_X5_progress 15 rfl) rfl ?_
    refine G_callS (As := [.ref r5, .int v3]) (rest := []) lk_X5_162 rfl (dk_at dk_X5_progress 16 rfl) rfl rfl (Nat.le_of_ble_eq_true rfl) (h.mono fun o9 A6 b7 c8 h => aftI h fun i10 h => ?_)
    refine G_iconst (v := 1) (dk_at dk_X5_progress 17 rfl) (by decide) ?_
    refine G_icmp_ne (tgt := 43) (dk_at dk_X5_progress 18 rfl) (by decide) (fun c => ?_) (fun c => ?_)
    · replace h := h.1 c
      refine G_iinc (v := v3 + 1) (lv' := [(3, .int (v3 + 1)), (0, .ref v0), (1, .ref v1), (2, .int v2)]) 3 (dk_at dk_X5_progress 25 rfl) rfl rfl (by decide) rfl ?_
      refine G_goto (tgt := 12) (dk_at dk_X5_progress 26 rfl) (by decide) ?_
      refine G_sub [1, 2, 3, 0] rfl ?_
      exact h
    · replace h := h.2 c
      refine G_iload_n 2 (dk_at dk_X5_progress 19 rfl) rfl ?_
      refine G_aload_n 1 (dk_at dk_X5_progress 20 rfl) rfl ?_
      refine G_iload_n 3 (dk_at dk_X5_progress 21 rfl) rfl ?_
      obtain ⟨⟨_, ho⟩, h⟩ := h
      refine G_callV (As := [.int v3]) (rest := [.int v2]) lk_X5_191 rfl (dk_at dk_X5_progress 22 rfl) rfl rfl (Nat.le_of_ble_eq_true rfl) ho (h.mono fun o14 A11 b12 c13 h => aftI h fun i15 h => ?_)
      refine G_iadd (dk_at dk_X5_progress 23 rfl) ?_
      refine G_istore_n (lv' := [(2, .int (v2 + i15)), (0, .ref v0), (1, .ref v1), (3, .int v3)]) (dk_at dk_X5_progress 24 rfl) (by decide) rfl ?_
      refine G_iinc (v := v3 + 1) (lv' := [(3, .int (v3 + 1)), (2, .int (v2 + i15)), (0, .ref v0), (1, .ref v1)]) 3 (dk_at dk_X5_progress 25 rfl) rfl rfl (by decide) rfl ?_
      refine G_goto (tgt := 12) (dk_at dk_X5_progress 26 rfl) (by decide) ?_
      refine G_sub [2, 3, 1, 0] rfl ?_
      exact h
theorem k_X5_event_0 {l : Launch} {X : XT} {d : Nat} {Q : Ot → AH → Prop} {A : AH} {bc bs : Nat} {v0 : Nat} {v1 : Int32} {v2 : Int32} (h : gR A v0 6 5 fun r1 => gR A r1 2 16 fun r2 => isO A r2 1 ∧ Cal l X d bc bs M_X0_size [.ref r2] A fun o6 A3 b4 c5 => rI o6 (fun E => Q (.inr E) A3) fun i7 => Cal l X d b4 c5 M_X5_needIndex [.int v1, .int i7] A3 fun o11 A8 b9 c10 => rV o11 (fun E => Q (.inr E) A8) <| gR A8 v0 6 5 fun r12 => gR A8 r12 2 16 fun r13 => isO A8 r13 1 ∧ Cal l X d b9 c10 M_X0_slot [.ref r13, .int v1] A8 fun o17 A14 b15 c16 => rI o17 (fun E => Q (.inr E) A14) fun i18 => (v2 = 0 → gR A14 v0 6 5 fun r19 => gR A14 r19 2 16 fun r20 => gR A14 r20 1 0 fun r21 => Cal l X d b15 c16 M_X5_at [.ref r21, .int i18] A14 fun o25 A22 b23 c24 => rI o25 (fun E => Q (.inr E) A22) fun i26 => Q (Ri i26) A22) ∧ (v2 = 1 → gR A14 v0 6 5 fun r27 => gR A14 r27 2 16 fun r28 => gR A14 r28 1 1 fun r29 => Cal l X d b15 c16 M_X5_at [.ref r29, .int i18] A14 fun o33 A30 b31 c32 => rI o33 (fun E => Q (.inr E) A30) fun i34 => Q (Ri i34) A30) ∧ (v2 = 2 → gR A14 v0 6 5 fun r35 => gR A14 r35 2 16 fun r36 => gR A14 r36 1 2 fun r37 => Cal l X d b15 c16 M_X5_at [.ref r37, .int i18] A14 fun o41 A38 b39 c40 => rI o41 (fun E => Q (.inr E) A38) fun i42 => Q (Ri i42) A38) ∧ (¬ v2 = 0 → ¬ v2 = 1 → ¬ v2 = 2 → thr A14 b15 c16 fun A43 => Q (Th "java/lang/IllegalArgumentException") A43)) : G l X M_X5_event d Q 0 [(0, .ref v0), (1, .int v1), (2, .int v2)] [] A bc bs := by
  refine G_iload_n 1 (dk_at dk_X5_event 0 rfl) rfl ?_
  refine G_aload_n 0 (dk_at dk_X5_event 1 rfl) rfl ?_
  refine K_gR gf_X5_50 (dk_at dk_X5_event 2 rfl) h (fun r1 h => ?_)
  refine K_gR gf_X5_125 (dk_at dk_X5_event 3 rfl) h (fun r2 h => ?_)
  obtain ⟨⟨_, ho⟩, h⟩ := h
  refine G_callV (As := []) (rest := [.int v1]) lk_X5_315 rfl (dk_at dk_X5_event 4 rfl) rfl rfl (Nat.le_of_ble_eq_true rfl) ho (h.mono fun o6 A3 b4 c5 h => aftI h fun i7 h => ?_)
  refine G_callS (As := [.int v1, .int i7]) (rest := []) lk_X5_147 rfl (dk_at dk_X5_event 5 rfl) rfl rfl (Nat.le_of_ble_eq_true rfl) (h.mono fun o11 A8 b9 c10 h => aftV h fun h => ?_)
  refine G_aload_n 0 (dk_at dk_X5_event 6 rfl) rfl ?_
  refine K_gR gf_X5_50 (dk_at dk_X5_event 7 rfl) h (fun r12 h => ?_)
  refine K_gR gf_X5_125 (dk_at dk_X5_event 8 rfl) h (fun r13 h => ?_)
  refine G_iload_n 1 (dk_at dk_X5_event 9 rfl) rfl ?_
  obtain ⟨⟨_, ho⟩, h⟩ := h
  refine G_callV (As := [.int v1]) (rest := []) lk_X5_316 rfl (dk_at dk_X5_event 10 rfl) rfl rfl (Nat.le_of_ble_eq_true rfl) ho (h.mono fun o17 A14 b15 c16 h => aftI h fun i18 h => ?_)
  refine G_istore_n (lv' := [(3, .int i18), (0, .ref v0), (1, .int v1), (2, .int v2)]) (dk_at dk_X5_event 11 rfl) (by decide) rfl ?_
  refine G_iload_n 3 (dk_at dk_X5_event 12 rfl) rfl ?_
  by_cases c0 : v2 = 0
  · replace h := h.1 c0
    refine G_tcase (tgt := 52) (dk_at dk_X5_event 13 rfl) (by rw [c0]; decide) (by rw [c0]; decide) (off := 25) (by rw [c0]; rfl) (by decide) ?_
    refine G_aload_n 1 (dk_at dk_X5_event 14 rfl) rfl ?_
    refine K_gR gf_X5_50 (dk_at dk_X5_event 15 rfl) h (fun r19 h => ?_)
    refine K_gR gf_X5_125 (dk_at dk_X5_event 16 rfl) h (fun r20 h => ?_)
    refine K_gR gf_X5_319 (dk_at dk_X5_event 17 rfl) h (fun r21 h => ?_)
    refine G_iload_n 0 (dk_at dk_X5_event 18 rfl) rfl ?_
    refine G_callS (As := [.ref r21, .int i18]) (rest := []) lk_X5_162 rfl (dk_at dk_X5_event 19 rfl) rfl rfl (Nat.le_of_ble_eq_true rfl) (h.mono fun o25 A22 b23 c24 h => aftI h fun i26 h => ?_)
    exact G_iret (ty := .int) rfl rfl (dk_at dk_X5_event 20 rfl) h
  by_cases c1 : v2 = 1
  · replace h := h.2.1 c1
    refine G_tcase (tgt := 67) (dk_at dk_X5_event 13 rfl) (by rw [c1]; decide) (by rw [c1]; decide) (off := 40) (by rw [c1]; rfl) (by decide) ?_
    refine G_aload_n 1 (dk_at dk_X5_event 21 rfl) rfl ?_
    refine K_gR gf_X5_50 (dk_at dk_X5_event 22 rfl) h (fun r27 h => ?_)
    refine K_gR gf_X5_125 (dk_at dk_X5_event 23 rfl) h (fun r28 h => ?_)
    refine K_gR gf_X5_322 (dk_at dk_X5_event 24 rfl) h (fun r29 h => ?_)
    refine G_iload_n 0 (dk_at dk_X5_event 25 rfl) rfl ?_
    refine G_callS (As := [.ref r29, .int i18]) (rest := []) lk_X5_162 rfl (dk_at dk_X5_event 26 rfl) rfl rfl (Nat.le_of_ble_eq_true rfl) (h.mono fun o33 A30 b31 c32 h => aftI h fun i34 h => ?_)
    exact G_iret (ty := .int) rfl rfl (dk_at dk_X5_event 27 rfl) h
  by_cases c2 : v2 = 2
  · replace h := h.2.2.1 c2
    refine G_tcase (tgt := 82) (dk_at dk_X5_event 13 rfl) (by rw [c2]; decide) (by rw [c2]; decide) (off := 55) (by rw [c2]; rfl) (by decide) ?_
    refine G_aload_n 1 (dk_at dk_X5_event 28 rfl) rfl ?_
    refine K_gR gf_X5_50 (dk_at dk_X5_event 29 rfl) h (fun r35 h => ?_)
    refine K_gR gf_X5_125 (dk_at dk_X5_event 30 rfl) h (fun r36 h => ?_)
    refine K_gR gf_X5_325 (dk_at dk_X5_event 31 rfl) h (fun r37 h => ?_)
    refine G_iload_n 0 (dk_at dk_X5_event 32 rfl) rfl ?_
    refine G_callS (As := [.ref r37, .int i18]) (rest := []) lk_X5_162 rfl (dk_at dk_X5_event 33 rfl) rfl rfl (Nat.le_of_ble_eq_true rfl) (h.mono fun o41 A38 b39 c40 h => aftI h fun i42 h => ?_)
    exact G_iret (ty := .int) rfl rfl (dk_at dk_X5_event 34 rfl) h
  replace h := h.2.2.2 c0 c1 c2
  refine G_tout (tgt := 97) (dk_at dk_X5_event 13 rfl) (tsw_out (n := 2) (fun k hk => ?_)) (by decide) ?_
  · have hk2 : k = 0 ∨ k = 1 ∨ k = 2 := by omega
    rcases hk2 with rfl | rfl | rfl
    · exact c0
    · exact c1
    · exact c2
  · exact G_throwW to_X5_140_328 rfl (dk_at dk_X5_event 35 rfl) (dk_at dk_X5_event 36 rfl) (dk_at dk_X5_event 37 rfl) (dk_at dk_X5_event 38 rfl) (dk_at dk_X5_event 39 rfl) (Nat.le_of_ble_eq_true rfl) h.1 h.2.1 h.2.2
theorem k_X5_events_0 {l : Launch} {X : XT} {d : Nat} {Q : Ot → AH → Prop} {A : AH} {bc bs : Nat} {v0 : Nat} {v1 : Int32} (h : (v1 < 0 → G l X M_X5_events d Q 15 [(0, .ref v0), (1, .int v1)] [.int 0] A bc bs) ∧ (¬ v1 < 0 → (9 ≤ v1 → G l X M_X5_events d Q 15 [(0, .ref v0), (1, .int v1)] [.int 0] A bc bs) ∧ (¬ 9 ≤ v1 → G l X M_X5_events d Q 15 [(0, .ref v0), (1, .int v1)] [.int 1] A bc bs))) : G l X M_X5_events d Q 0 [(0, .ref v0), (1, .int v1)] [] A bc bs := by
  refine G_iload_n 1 (dk_at dk_X5_events 0 rfl) rfl ?_
  refine G_if_lt (tgt := 14) (dk_at dk_X5_events 1 rfl) (by decide) (fun c => ?_) (fun c => ?_)
  · replace h := h.1 c
    refine G_iconst (v := 0) (dk_at dk_X5_events 7 rfl) (by decide) ?_
    exact h
  · replace h := h.2 c
    refine G_iload_n 1 (dk_at dk_X5_events 2 rfl) rfl ?_
    refine G_bipush (v := 9) (dk_at dk_X5_events 3 rfl) (by decide) ?_
    refine G_icmp_ge (tgt := 14) (dk_at dk_X5_events 4 rfl) (by decide) (fun c => ?_) (fun c => ?_)
    · replace h := h.1 c
      refine G_iconst (v := 0) (dk_at dk_X5_events 7 rfl) (by decide) ?_
      exact h
    · replace h := h.2 c
      refine G_iconst (v := 1) (dk_at dk_X5_events 5 rfl) (by decide) ?_
      refine G_goto (tgt := 15) (dk_at dk_X5_events 6 rfl) (by decide) ?_
      exact h
theorem k_X5_events_15 {l : Launch} {X : XT} {d : Nat} {Q : Ot → AH → Prop} {A : AH} {bc bs : Nat} {v0 : Nat} {v1 : Int32} {s0 : Int32} (h : Cal l X d bc bs M_X5_needArgument [.int s0] A fun o4 A1 b2 c3 => rV o4 (fun E => Q (.inr E) A1) <| G l X M_X5_events d Q 22 [(0, .ref v0), (1, .int v1), (2, .int 0), (3, .int 0)] [] A1 b2 c3) : G l X M_X5_events d Q 15 [(0, .ref v0), (1, .int v1)] [.int s0] A bc bs := by
  refine G_callS (As := [.int s0]) (rest := []) lk_X5_68 rfl (dk_at dk_X5_events 8 rfl) rfl rfl (Nat.le_of_ble_eq_true rfl) (h.mono fun o4 A1 b2 c3 h => aftV h fun h => ?_)
  refine G_iconst (v := 0) (dk_at dk_X5_events 9 rfl) (by decide) ?_
  refine G_istore_n (lv' := [(2, .int 0), (0, .ref v0), (1, .int v1)]) (dk_at dk_X5_events 10 rfl) (by decide) rfl ?_
  refine G_iconst (v := 0) (dk_at dk_X5_events 11 rfl) (by decide) ?_
  refine G_istore_n (lv' := [(3, .int 0), (2, .int 0), (0, .ref v0), (1, .int v1)]) (dk_at dk_X5_events 12 rfl) (by decide) rfl ?_
  refine G_sub [2, 3, 1, 0] rfl ?_
  exact h
theorem k_X5_events_22 {l : Launch} {X : XT} {d : Nat} {Q : Ot → AH → Prop} {A : AH} {bc bs : Nat} {v0 : Nat} {v1 : Int32} {v2 : Int32} {v3 : Int32} (h : gR A v0 6 5 fun r1 => gR A r1 2 16 fun r2 => isO A r2 1 ∧ Cal l X d bc bs M_X0_size [.ref r2] A fun o6 A3 b4 c5 => rI o6 (fun E => Q (.inr E) A3) fun i7 => (i7 ≤ v3 → Q (Ri v2) A3) ∧ (¬ i7 ≤ v3 → gR A3 v0 6 5 fun r8 => gR A3 r8 2 16 fun r9 => gR A3 r9 1 0 fun r10 => gR A3 v0 6 5 fun r11 => gR A3 r11 2 16 fun r12 => isO A3 r12 1 ∧ Cal l X d b4 c5 M_X0_slot [.ref r12, .int v3] A3 fun o16 A13 b14 c15 => rI o16 (fun E => Q (.inr E) A13) fun i17 => Cal l X d b14 c15 M_X5_at [.ref r10, .int i17] A13 fun o21 A18 b19 c20 => rI o21 (fun E => Q (.inr E) A18) fun i22 => (¬ i22 = v1 → G l X M_X5_events d Q 22 [(0, .ref v0), (1, .int v1), (2, .int v2), (3, .int (v3 + 1))] [] A18 b19 c20) ∧ (i22 = v1 → G l X M_X5_events d Q 22 [(0, .ref v0), (1, .int v1), (2, .int (v2 + 1)), (3, .int (v3 + 1))] [] A18 b19 c20))) : G l X M_X5_events d Q 22 [(0, .ref v0), (1, .int v1), (2, .int v2), (3, .int v3)] [] A bc bs := by
  refine G_iload_n 3 (dk_at dk_X5_events 13 rfl) rfl ?_
  refine G_aload_n 0 (dk_at dk_X5_events 14 rfl) rfl ?_
  refine K_gR gf_X5_50 (dk_at dk_X5_events 15 rfl) h (fun r1 h => ?_)
  refine K_gR gf_X5_125 (dk_at dk_X5_events 16 rfl) h (fun r2 h => ?_)
  obtain ⟨⟨_, ho⟩, h⟩ := h
  refine G_callV (As := []) (rest := [.int v3]) lk_X5_315 rfl (dk_at dk_X5_events 17 rfl) rfl rfl (Nat.le_of_ble_eq_true rfl) ho (h.mono fun o6 A3 b4 c5 h => aftI h fun i7 h => ?_)
  refine G_icmp_ge (tgt := 73) (dk_at dk_X5_events 18 rfl) (by decide) (fun c => ?_) (fun c => ?_)
  · replace h := h.1 c
    refine G_iload_n 2 (dk_at dk_X5_events 34 rfl) rfl ?_
    exact G_iret (ty := .int) rfl rfl (dk_at dk_X5_events 35 rfl) h
  · replace h := h.2 c
    refine G_aload_n 0 (dk_at dk_X5_events 19 rfl) rfl ?_
    refine K_gR gf_X5_50 (dk_at dk_X5_events 20 rfl) h (fun r8 h => ?_)
    refine K_gR gf_X5_125 (dk_at dk_X5_events 21 rfl) h (fun r9 h => ?_)
    refine K_gR gf_X5_319 (dk_at dk_X5_events 22 rfl) h (fun r10 h => ?_)
    refine G_aload_n 0 (dk_at dk_X5_events 23 rfl) rfl ?_
    refine K_gR gf_X5_50 (dk_at dk_X5_events 24 rfl) h (fun r11 h => ?_)
    refine K_gR gf_X5_125 (dk_at dk_X5_events 25 rfl) h (fun r12 h => ?_)
    refine G_iload_n 3 (dk_at dk_X5_events 26 rfl) rfl ?_
    obtain ⟨⟨_, ho⟩, h⟩ := h
    refine G_callV (As := [.int v3]) (rest := [.ref r10]) lk_X5_316 rfl (dk_at dk_X5_events 27 rfl) rfl rfl (Nat.le_of_ble_eq_true rfl) ho (h.mono fun o16 A13 b14 c15 h => aftI h fun i17 h => ?_)
    refine G_callS (As := [.ref r10, .int i17]) (rest := []) lk_X5_162 rfl (dk_at dk_X5_events 28 rfl) rfl rfl (Nat.le_of_ble_eq_true rfl) (h.mono fun o21 A18 b19 c20 h => aftI h fun i22 h => ?_)
    refine G_iload_n 1 (dk_at dk_X5_events 29 rfl) rfl ?_
    refine G_icmp_ne (tgt := 67) (dk_at dk_X5_events 30 rfl) (by decide) (fun c => ?_) (fun c => ?_)
    · replace h := h.1 c
      refine G_iinc (v := v3 + 1) (lv' := [(3, .int (v3 + 1)), (0, .ref v0), (1, .int v1), (2, .int v2)]) 3 (dk_at dk_X5_events 32 rfl) rfl rfl (by decide) rfl ?_
      refine G_goto (tgt := 22) (dk_at dk_X5_events 33 rfl) (by decide) ?_
      refine G_sub [1, 2, 3, 0] rfl ?_
      exact h
    · replace h := h.2 c
      refine G_iinc (v := v2 + 1) (lv' := [(2, .int (v2 + 1)), (0, .ref v0), (1, .int v1), (3, .int v3)]) 2 (dk_at dk_X5_events 31 rfl) rfl rfl (by decide) rfl ?_
      refine G_iinc (v := v3 + 1) (lv' := [(3, .int (v3 + 1)), (2, .int (v2 + 1)), (0, .ref v0), (1, .int v1)]) 3 (dk_at dk_X5_events 32 rfl) rfl rfl (by decide) rfl ?_
      refine G_goto (tgt := 22) (dk_at dk_X5_events 33 rfl) (by decide) ?_
      refine G_sub [2, 3, 1, 0] rfl ?_
      exact h
theorem k_X5_writeMap_0 {l : Launch} {X : XT} {d : Nat} {Q : Ot → AH → Prop} {A : AH} {bc bs : Nat} {v0 : Nat} (h : G l X M_X5_writeMap d Q 2 [(0, .ref v0), (1, .int 0)] [] A bc bs) : G l X M_X5_writeMap d Q 0 [(0, .ref v0)] [] A bc bs := by
  refine G_iconst (v := 0) (dk_at dk_X5_writeMap 0 rfl) (by decide) ?_
  refine G_istore_n (lv' := [(1, .int 0), (0, .ref v0)]) (dk_at dk_X5_writeMap 1 rfl) (by decide) rfl ?_
  refine G_sub [1, 0] rfl ?_
  exact h
theorem k_X5_writeMap_2 {l : Launch} {X : XT} {d : Nat} {Q : Ot → AH → Prop} {A : AH} {bc bs : Nat} {v0 : Nat} {v1 : Int32} (h : gR A v0 6 5 fun r1 => gR A r1 2 0 fun r2 => gI A r2 4 2 fun i3 => (i3 ≤ v1 → gR A v0 6 5 fun r4 => gR A r4 2 0 fun r5 => gI A r5 4 2 fun i6 => pV A v0 6 4 (.int i6) fun A7 => gI A7 v0 6 4 fun i8 => Q (Ri i8) A7) ∧ (¬ i3 ≤ v1 → gR A v0 6 3 fun r9 => isO A v0 6 ∧ Cal l X d bc bs M_X5_signOf [.ref v0, .int v1] A fun o13 A10 b11 c12 => rI o13 (fun E => Q (.inr E) A10) fun i14 => Cal l X d b11 c12 M_X5_put [.ref r9, .int v1, .int i14] A10 fun o18 A15 b16 c17 => rV o18 (fun E => Q (.inr E) A15) <| G l X M_X5_writeMap d Q 2 [(0, .ref v0), (1, .int (v1 + 1))] [] A15 b16 c17)) : G l X M_X5_writeMap d Q 2 [(0, .ref v0), (1, .int v1)] [] A bc bs := by
  refine G_iload_n 1 (dk_at dk_X5_writeMap 2 rfl) rfl ?_
  refine G_aload_n 0 (dk_at dk_X5_writeMap 3 rfl) rfl ?_
  refine K_gR gf_X5_50 (dk_at dk_X5_writeMap 4 rfl) h (fun r1 h => ?_)
  refine K_gR gf_X5_90 (dk_at dk_X5_writeMap 5 rfl) h (fun r2 h => ?_)
  refine K_gI gf_X5_97 (dk_at dk_X5_writeMap 6 rfl) h (fun i3 h => ?_)
  refine G_icmp_ge (tgt := 35) (dk_at dk_X5_writeMap 7 rfl) (by decide) (fun c => ?_) (fun c => ?_)
  · replace h := h.1 c
    refine G_aload_n 0 (dk_at dk_X5_writeMap 17 rfl) rfl ?_
    refine G_aload_n 0 (dk_at dk_X5_writeMap 18 rfl) rfl ?_
    refine K_gR gf_X5_50 (dk_at dk_X5_writeMap 19 rfl) h (fun r4 h => ?_)
    refine K_gR gf_X5_90 (dk_at dk_X5_writeMap 20 rfl) h (fun r5 h => ?_)
    refine K_gI gf_X5_97 (dk_at dk_X5_writeMap 21 rfl) h (fun i6 h => ?_)
    refine K_pI pf_X5_23 (dk_at dk_X5_writeMap 22 rfl) h (fun A7 h => ?_)
    refine G_aload_n 0 (dk_at dk_X5_writeMap 23 rfl) rfl ?_
    refine K_gI gf_X5_23 (dk_at dk_X5_writeMap 24 rfl) h (fun i8 h => ?_)
    exact G_iret (ty := .int) rfl rfl (dk_at dk_X5_writeMap 25 rfl) h
  · replace h := h.2 c
    refine G_aload_n 0 (dk_at dk_X5_writeMap 8 rfl) rfl ?_
    refine K_gR gf_X5_20 (dk_at dk_X5_writeMap 9 rfl) h (fun r9 h => ?_)
    refine G_iload_n 1 (dk_at dk_X5_writeMap 10 rfl) rfl ?_
    refine G_aload_n 0 (dk_at dk_X5_writeMap 11 rfl) rfl ?_
    refine G_iload_n 1 (dk_at dk_X5_writeMap 12 rfl) rfl ?_
    obtain ⟨⟨_, ho⟩, h⟩ := h
    refine G_callV (As := [.int v1]) (rest := [.int v1, .ref r9]) lk_X5_330 rfl (dk_at dk_X5_writeMap 13 rfl) rfl rfl (Nat.le_of_ble_eq_true rfl) ho (h.mono fun o13 A10 b11 c12 h => aftI h fun i14 h => ?_)
    refine G_callS (As := [.ref r9, .int v1, .int i14]) (rest := []) lk_X5_64 rfl (dk_at dk_X5_writeMap 14 rfl) rfl rfl (Nat.le_of_ble_eq_true rfl) (h.mono fun o18 A15 b16 c17 h => aftV h fun h => ?_)
    refine G_iinc (v := v1 + 1) (lv' := [(1, .int (v1 + 1)), (0, .ref v0)]) 1 (dk_at dk_X5_writeMap 15 rfl) rfl rfl (by decide) rfl ?_
    refine G_goto (tgt := 2) (dk_at dk_X5_writeMap 16 rfl) (by decide) ?_
    refine G_sub [1, 0] rfl ?_
    exact h
theorem k_X5_signOf_0 {l : Launch} {X : XT} {d : Nat} {Q : Ot → AH → Prop} {A : AH} {bc bs : Nat} {v0 : Nat} {v1 : Int32} (h : gR A v0 6 5 fun r1 => gR A r1 2 3 fun r2 => Cal l X d bc bs M_X5_at [.ref r2, .int v1] A fun o6 A3 b4 c5 => rI o6 (fun E => Q (.inr E) A3) fun i7 => (¬ i7 = 0 → gR A3 v0 6 5 fun r8 => gR A3 r8 2 0 fun r9 => isO A3 r9 4 ∧ Cal l X d b4 c5 M_X3_partsOf [.ref r9, .int v1] A3 fun o13 A10 b11 c12 => rI o13 (fun E => Q (.inr E) A10) fun i14 => (¬ i7 = i14 → narrow .char (.int ((Int32.toUInt32 (48 + (i7 - i7 / 10 * 10)) % 65536).toInt32)) = .int ((Int32.toUInt32 (48 + (i7 - i7 / 10 * 10)) % 65536).toInt32) ∧ Q (Ri ((Int32.toUInt32 (48 + (i7 - i7 / 10 * 10)) % 65536).toInt32)) A10) ∧ (i7 = i14 → narrow .char (.int 46) = .int 46 ∧ Q (Ri 46) A10)) ∧ (i7 = 0 → gR A3 v0 6 5 fun r15 => isO A3 r15 2 ∧ Cal l X d b4 c5 M_X1_isSuspect [.ref r15, .int v1] A3 fun o19 A16 b17 c18 => rI o19 (fun E => Q (.inr E) A16) fun i20 => (i20 = 0 → narrow .char (.int 71) = .int 71 ∧ Q (Ri 71) A16) ∧ (¬ i20 = 0 → narrow .char (.int 83) = .int 83 ∧ Q (Ri 83) A16))) : G l X M_X5_signOf d Q 0 [(0, .ref v0), (1, .int v1)] [] A bc bs := by
  refine G_aload_n 0 (dk_at dk_X5_signOf 0 rfl) rfl ?_
  refine K_gR gf_X5_50 (dk_at dk_X5_signOf 1 rfl) h (fun r1 h => ?_)
  refine K_gR gf_X5_200 (dk_at dk_X5_signOf 2 rfl) h (fun r2 h => ?_)
  refine G_iload_n 1 (dk_at dk_X5_signOf 3 rfl) rfl ?_
  refine G_callS (As := [.ref r2, .int v1]) (rest := []) lk_X5_162 rfl (dk_at dk_X5_signOf 4 rfl) rfl rfl (Nat.le_of_ble_eq_true rfl) (h.mono fun o6 A3 b4 c5 h => aftI h fun i7 h => ?_)
  refine G_istore_n (lv' := [(2, .int i7), (0, .ref v0), (1, .int v1)]) (dk_at dk_X5_signOf 5 rfl) (by decide) rfl ?_
  refine G_iload_n 0 (dk_at dk_X5_signOf 6 rfl) rfl ?_
  refine G_if_ne (tgt := 35) (dk_at dk_X5_signOf 7 rfl) (by decide) (fun c => ?_) (fun c => ?_)
  · replace h := h.1 c
    refine G_iload_n 0 (dk_at dk_X5_signOf 17 rfl) rfl ?_
    refine G_aload_n 1 (dk_at dk_X5_signOf 18 rfl) rfl ?_
    refine K_gR gf_X5_50 (dk_at dk_X5_signOf 19 rfl) h (fun r8 h => ?_)
    refine K_gR gf_X5_90 (dk_at dk_X5_signOf 20 rfl) h (fun r9 h => ?_)
    refine G_iload_n 2 (dk_at dk_X5_signOf 21 rfl) rfl ?_
    obtain ⟨⟨_, ho⟩, h⟩ := h
    refine G_callV (As := [.int v1]) (rest := [.int i7]) lk_X5_197 rfl (dk_at dk_X5_signOf 22 rfl) rfl rfl (Nat.le_of_ble_eq_true rfl) ho (h.mono fun o13 A10 b11 c12 h => aftI h fun i14 h => ?_)
    refine G_icmp_ne (tgt := 55) (dk_at dk_X5_signOf 23 rfl) (by decide) (fun c => ?_) (fun c => ?_)
    · replace h := h.1 c
      refine G_bipush (v := 48) (dk_at dk_X5_signOf 26 rfl) (by decide) ?_
      refine G_iload_n 0 (dk_at dk_X5_signOf 27 rfl) rfl ?_
      refine G_bipush (v := 10) (dk_at dk_X5_signOf 28 rfl) (by decide) ?_
      refine G_irem (dk_at dk_X5_signOf 29 rfl) (by decide) ?_
      refine G_iadd (dk_at dk_X5_signOf 30 rfl) ?_
      refine G_i2c (dk_at dk_X5_signOf 31 rfl) rfl ?_
      exact G_iret (ty := .char) rfl h.1 (dk_at dk_X5_signOf 32 rfl) h.2
    · replace h := h.2 c
      refine G_bipush (v := 46) (dk_at dk_X5_signOf 24 rfl) (by decide) ?_
      refine G_goto (tgt := 63) (dk_at dk_X5_signOf 25 rfl) (by decide) ?_
      exact G_iret (ty := .char) rfl h.1 (dk_at dk_X5_signOf 32 rfl) h.2
  · replace h := h.2 c
    refine G_aload_n 1 (dk_at dk_X5_signOf 8 rfl) rfl ?_
    refine K_gR gf_X5_50 (dk_at dk_X5_signOf 9 rfl) h (fun r15 h => ?_)
    refine G_iload_n 2 (dk_at dk_X5_signOf 10 rfl) rfl ?_
    obtain ⟨⟨_, ho⟩, h⟩ := h
    refine G_callV (As := [.int v1]) (rest := []) lk_X5_237 rfl (dk_at dk_X5_signOf 11 rfl) rfl rfl (Nat.le_of_ble_eq_true rfl) ho (h.mono fun o19 A16 b17 c18 h => aftI h fun i20 h => ?_)
    refine G_if_eq (tgt := 32) (dk_at dk_X5_signOf 12 rfl) (by decide) (fun c => ?_) (fun c => ?_)
    · replace h := h.1 c
      refine G_bipush (v := 71) (dk_at dk_X5_signOf 15 rfl) (by decide) ?_
      exact G_iret (ty := .char) rfl h.1 (dk_at dk_X5_signOf 16 rfl) h.2
    · replace h := h.2 c
      refine G_bipush (v := 83) (dk_at dk_X5_signOf 13 rfl) (by decide) ?_
      refine G_goto (tgt := 34) (dk_at dk_X5_signOf 14 rfl) (by decide) ?_
      exact G_iret (ty := .char) rfl h.1 (dk_at dk_X5_signOf 16 rfl) h.2
theorem k_X5_writtenByte_0 {l : Launch} {X : XT} {d : Nat} {Q : Ot → AH → Prop} {A : AH} {bc bs : Nat} {v0 : Nat} {v1 : Int32} (h : gI A v0 6 4 fun i1 => Cal l X d bc bs M_X5_needIndex [.int v1, .int i1] A fun o5 A2 b3 c4 => rV o5 (fun E => Q (.inr E) A2) <| gR A2 v0 6 3 fun r6 => Cal l X d b3 c4 M_X5_at [.ref r6, .int v1] A2 fun o10 A7 b8 c9 => rI o10 (fun E => Q (.inr E) A7) fun i11 => Q (Ri i11) A7) : G l X M_X5_writtenByte d Q 0 [(0, .ref v0), (1, .int v1)] [] A bc bs := by
  refine G_iload_n 1 (dk_at dk_X5_writtenByte 0 rfl) rfl ?_
  refine G_aload_n 0 (dk_at dk_X5_writtenByte 1 rfl) rfl ?_
  refine K_gI gf_X5_23 (dk_at dk_X5_writtenByte 2 rfl) h (fun i1 h => ?_)
  refine G_callS (As := [.int v1, .int i1]) (rest := []) lk_X5_147 rfl (dk_at dk_X5_writtenByte 3 rfl) rfl rfl (Nat.le_of_ble_eq_true rfl) (h.mono fun o5 A2 b3 c4 h => aftV h fun h => ?_)
  refine G_aload_n 0 (dk_at dk_X5_writtenByte 4 rfl) rfl ?_
  refine K_gR gf_X5_20 (dk_at dk_X5_writtenByte 5 rfl) h (fun r6 h => ?_)
  refine G_iload_n 1 (dk_at dk_X5_writtenByte 6 rfl) rfl ?_
  refine G_callS (As := [.ref r6, .int v1]) (rest := []) lk_X5_162 rfl (dk_at dk_X5_writtenByte 7 rfl) rfl rfl (Nat.le_of_ble_eq_true rfl) (h.mono fun o10 A7 b8 c9 h => aftI h fun i11 h => ?_)
  exact G_iret (ty := .int) rfl rfl (dk_at dk_X5_writtenByte 8 rfl) h
theorem k_X5_undo_0 {l : Launch} {X : XT} {d : Nat} {Q : Ot → AH → Prop} {A : AH} {bc bs : Nat} {v0 : Nat} (h : gI A v0 6 7 fun i1 => isO A v0 6 ∧ Cal l X d bc bs M_X5_pastAt [.ref v0, .int (((i1 + 8) - 1) - ((i1 + 8) - 1) / 8 * 8)] A fun o5 A2 b3 c4 => rQ o5 (fun E => Q (.inr E) A2) fun o6 => gI A2 v0 6 8 fun i7 => (i7 ≤ 0 → G l X M_X5_undo d Q 30 [] [] A2 b3 c4) ∧ (¬ i7 ≤ 0 → (∀ a8, o6 = some a8 → gR A2 v0 6 5 fun r9 => isO A2 v0 6 ∧ Cal l X d b3 c4 M_X5_putPast [.ref v0, .int (((i1 + 8) - 1) - ((i1 + 8) - 1) / 8 * 8), .ref r9] A2 fun o13 A10 b11 c12 => rV o13 (fun E => Q (.inr E) A10) <| pV A10 v0 6 5 (.ref a8) fun A14 => pV A14 v0 6 7 (.int (((i1 + 8) - 1) - ((i1 + 8) - 1) / 8 * 8)) fun A15 => gI A15 v0 6 8 fun i16 => pV A15 v0 6 8 (.int (i16 - 1)) fun A17 => gI A17 v0 6 8 fun i18 => Q (Ri i18) A17) ∧ (o6 = none → G l X M_X5_undo d Q 30 [] [] A2 b3 c4))) : G l X M_X5_undo d Q 0 [(0, .ref v0)] [] A bc bs := by
  refine G_aload_n 0 (dk_at dk_X5_undo 0 rfl) rfl ?_
  refine K_gI gf_X5_32 (dk_at dk_X5_undo 1 rfl) h (fun i1 h => ?_)
  refine G_bipush (v := 8) (dk_at dk_X5_undo 2 rfl) (by decide) ?_
  refine G_iadd (dk_at dk_X5_undo 3 rfl) ?_
  refine G_iconst (v := 1) (dk_at dk_X5_undo 4 rfl) (by decide) ?_
  refine G_isub (dk_at dk_X5_undo 5 rfl) ?_
  refine G_bipush (v := 8) (dk_at dk_X5_undo 6 rfl) (by decide) ?_
  refine G_irem (dk_at dk_X5_undo 7 rfl) (by decide) ?_
  refine G_istore_n (lv' := [(1, .int (((i1 + 8) - 1) - ((i1 + 8) - 1) / 8 * 8)), (0, .ref v0)]) (dk_at dk_X5_undo 8 rfl) (by decide) rfl ?_
  refine G_aload_n 1 (dk_at dk_X5_undo 9 rfl) rfl ?_
  refine G_iload_n 0 (dk_at dk_X5_undo 10 rfl) rfl ?_
  obtain ⟨⟨_, ho⟩, h⟩ := h
  refine G_callV (As := [.int (((i1 + 8) - 1) - ((i1 + 8) - 1) / 8 * 8)]) (rest := []) lk_X5_334 rfl (dk_at dk_X5_undo 11 rfl) rfl rfl (Nat.le_of_ble_eq_true rfl) ho (h.mono fun o5 A2 b3 c4 h => aftQ h fun o6 h => ?_)
  refine G_astore_nQ (lv' := [(2, va_rf o6), (1, .int (((i1 + 8) - 1) - ((i1 + 8) - 1) / 8 * 8)), (0, .ref v0)]) (dk_at dk_X5_undo 12 rfl) (by decide) (by first | (simp [rf_cat, Value.category]; done) | (simp [rf_cat, Value.category]; decide)) ?_
  refine G_aload_n 2 (dk_at dk_X5_undo 13 rfl) rfl ?_
  refine K_gI gf_X5_35 (dk_at dk_X5_undo 14 rfl) h (fun i7 h => ?_)
  refine G_if_le (tgt := 30) (dk_at dk_X5_undo 15 rfl) (by decide) (fun c => ?_) (fun c => ?_)
  · replace h := h.1 c
    refine G_sub [] rfl ?_
    exact h
  · replace h := h.2 c
    refine G_aload_nQ 0 (dk_at dk_X5_undo 16 rfl) rfl ?_
    refine G_ifnonnull (tgt := 41) (dk_at dk_X5_undo 17 rfl) (by decide) (fun a8 e => ?_) (fun e => ?_)
    · subst e
      replace h := h.1 a8 rfl
      refine G_aload_n 2 (dk_at dk_X5_undo 23 rfl) rfl ?_
      refine G_iload_n 1 (dk_at dk_X5_undo 24 rfl) rfl ?_
      refine G_aload_n 2 (dk_at dk_X5_undo 25 rfl) rfl ?_
      refine K_gR gf_X5_50 (dk_at dk_X5_undo 26 rfl) h (fun r9 h => ?_)
      obtain ⟨⟨_, ho⟩, h⟩ := h
      refine G_callV (As := [.int (((i1 + 8) - 1) - ((i1 + 8) - 1) / 8 * 8), .ref r9]) (rest := []) lk_X5_343 rfl (dk_at dk_X5_undo 27 rfl) rfl rfl (Nat.le_of_ble_eq_true rfl) ho (h.mono fun o13 A10 b11 c12 h => aftV h fun h => ?_)
      refine G_aload_n 2 (dk_at dk_X5_undo 28 rfl) rfl ?_
      refine G_aload_n 0 (dk_at dk_X5_undo 29 rfl) rfl ?_
      refine K_pR pf_X5_50 rfl rfl (dk_at dk_X5_undo 30 rfl) h (fun A14 h => ?_)
      refine G_aload_n 2 (dk_at dk_X5_undo 31 rfl) rfl ?_
      refine G_iload_n 1 (dk_at dk_X5_undo 32 rfl) rfl ?_
      refine K_pI pf_X5_32 (dk_at dk_X5_undo 33 rfl) h (fun A15 h => ?_)
      refine G_aload_n 2 (dk_at dk_X5_undo 34 rfl) rfl ?_
      refine G_dup (dk_at dk_X5_undo 35 rfl) rfl ?_
      refine K_gI gf_X5_35 (dk_at dk_X5_undo 36 rfl) h (fun i16 h => ?_)
      refine G_iconst (v := 1) (dk_at dk_X5_undo 37 rfl) (by decide) ?_
      refine G_isub (dk_at dk_X5_undo 38 rfl) ?_
      refine K_pI pf_X5_35 (dk_at dk_X5_undo 39 rfl) h (fun A17 h => ?_)
      refine G_aload_n 2 (dk_at dk_X5_undo 40 rfl) rfl ?_
      refine K_gI gf_X5_35 (dk_at dk_X5_undo 41 rfl) h (fun i18 h => ?_)
      exact G_iret (ty := .int) rfl rfl (dk_at dk_X5_undo 42 rfl) h
    · subst e
      replace h := h.2 rfl
      refine G_sub [] rfl ?_
      exact h
theorem k_X5_undo_30 {l : Launch} {X : XT} {d : Nat} {Q : Ot → AH → Prop} {A : AH} {bc bs : Nat}  (h : thr A bc bs fun A1 => Q (Th "java/lang/IllegalStateException") A1) : G l X M_X5_undo d Q 30 [] [] A bc bs := by
  exact G_throwW to_X5_338_340 rfl (dk_at dk_X5_undo 18 rfl) (dk_at dk_X5_undo 19 rfl) (dk_at dk_X5_undo 20 rfl) (dk_at dk_X5_undo 21 rfl) (dk_at dk_X5_undo 22 rfl) (Nat.le_of_ble_eq_true rfl) h.1 h.2.1 h.2.2
theorem k_X5_remember_0 {l : Launch} {X : XT} {d : Nat} {Q : Ot → AH → Prop} {A : AH} {bc bs : Nat} {v0 : Nat} (h : gI A v0 6 7 fun i1 => isO A v0 6 ∧ Cal l X d bc bs M_X5_pastAt [.ref v0, .int i1] A fun o5 A2 b3 c4 => rQ o5 (fun E => Q (.inr E) A2) fun o6 => (∀ a7, o6 = some a7 → G l X M_X5_remember d Q 37 [(0, .ref v0), (1, .ref a7)] [] A2 b3 c4) ∧ (o6 = none → mk A2 (ob 2 df_2) 17 b3 c4 fun r8 A9 b10 c11 => gR A9 v0 6 5 fun r12 => gR A9 r12 2 0 fun r13 => Cal l X d b10 c11 M_X1_init [.ref r8, .ref r13] A9 fun o17 A14 b15 c16 => zV o17 <| gI A14 v0 6 7 fun i18 => isO A14 v0 6 ∧ Cal l X d b15 c16 M_X5_putPast [.ref v0, .int i18, .ref r8] A14 fun o22 A19 b20 c21 => rV o22 (fun E => Q (.inr E) A19) <| G l X M_X5_remember d Q 37 [(0, .ref v0), (1, .ref r8)] [] A19 b20 c21)) : G l X M_X5_remember d Q 0 [(0, .ref v0)] [] A bc bs := by
  refine G_aload_n 0 (dk_at dk_X5_remember 0 rfl) rfl ?_
  refine G_aload_n 0 (dk_at dk_X5_remember 1 rfl) rfl ?_
  refine K_gI gf_X5_32 (dk_at dk_X5_remember 2 rfl) h (fun i1 h => ?_)
  obtain ⟨⟨_, ho⟩, h⟩ := h
  refine G_callV (As := [.int i1]) (rest := []) lk_X5_334 rfl (dk_at dk_X5_remember 3 rfl) rfl rfl (Nat.le_of_ble_eq_true rfl) ho (h.mono fun o5 A2 b3 c4 h => aftQ h fun o6 h => ?_)
  refine G_astore_nQ (lv' := [(1, va_rf o6), (0, .ref v0)]) (dk_at dk_X5_remember 4 rfl) (by decide) (by first | (simp [rf_cat, Value.category]; done) | (simp [rf_cat, Value.category]; decide)) ?_
  refine G_aload_nQ 0 (dk_at dk_X5_remember 5 rfl) rfl ?_
  refine G_ifnonnull (tgt := 37) (dk_at dk_X5_remember 6 rfl) (by decide) (fun a7 e => ?_) (fun e => ?_)
  · subst e
    replace h := h.1 a7 rfl
    refine G_sub [1, 0] rfl ?_
    exact h
  · subst e
    replace h := h.2 rfl
    refine K_new no_X5_26 (dk_at dk_X5_remember 7 rfl) h (fun r8 A9 b10 c11 h => ?_)
    refine G_dup (dk_at dk_X5_remember 8 rfl) rfl ?_
    refine G_aload_n 1 (dk_at dk_X5_remember 9 rfl) rfl ?_
    refine K_gR gf_X5_50 (dk_at dk_X5_remember 10 rfl) h (fun r12 h => ?_)
    refine K_gR gf_X5_90 (dk_at dk_X5_remember 11 rfl) h (fun r13 h => ?_)
    refine G_callI (As := [.ref r13]) (rest := [.ref r8]) lk_X5_47 (dk_at dk_X5_remember 12 rfl) rfl rfl (Nat.le_of_ble_eq_true rfl) (h.mono fun o17 A14 b15 c16 h => atfV h fun h => ?_)
    refine G_astore_n (lv' := [(1, .ref r8), (0, .ref v0)]) (dk_at dk_X5_remember 13 rfl) (by decide) rfl ?_
    refine G_aload_n 1 (dk_at dk_X5_remember 14 rfl) rfl ?_
    refine G_aload_n 1 (dk_at dk_X5_remember 15 rfl) rfl ?_
    refine K_gI gf_X5_32 (dk_at dk_X5_remember 16 rfl) h (fun i18 h => ?_)
    refine G_aload_n 0 (dk_at dk_X5_remember 17 rfl) rfl ?_
    obtain ⟨⟨_, ho⟩, h⟩ := h
    refine G_callV (As := [.int i18, .ref r8]) (rest := []) lk_X5_343 rfl (dk_at dk_X5_remember 18 rfl) rfl rfl (Nat.le_of_ble_eq_true rfl) ho (h.mono fun o22 A19 b20 c21 h => aftV h fun h => ?_)
    refine G_sub [1, 0] rfl ?_
    exact h
theorem k_X5_remember_37 {l : Launch} {X : XT} {d : Nat} {Q : Ot → AH → Prop} {A : AH} {bc bs : Nat} {v0 : Nat} {v1 : Nat} (h : gR A v0 6 5 fun r1 => isO A v1 2 ∧ Cal l X d bc bs M_X1_copyFrom [.ref v1, .ref r1] A fun o5 A2 b3 c4 => rV o5 (fun E => Q (.inr E) A2) <| gI A2 v0 6 7 fun i6 => pV A2 v0 6 7 (.int ((i6 + 1) - (i6 + 1) / 8 * 8)) fun A7 => gI A7 v0 6 8 fun i8 => pV A7 v0 6 8 (.int (if 8 < (i8 + 1) then 8 else (i8 + 1))) fun A9 => Q Rv A9) : G l X M_X5_remember d Q 37 [(0, .ref v0), (1, .ref v1)] [] A bc bs := by
  refine G_aload_n 1 (dk_at dk_X5_remember 19 rfl) rfl ?_
  refine G_aload_n 0 (dk_at dk_X5_remember 20 rfl) rfl ?_
  refine K_gR gf_X5_50 (dk_at dk_X5_remember 21 rfl) h (fun r1 h => ?_)
  obtain ⟨⟨_, ho⟩, h⟩ := h
  refine G_callV (As := [.ref r1]) (rest := []) lk_X5_255 rfl (dk_at dk_X5_remember 22 rfl) rfl rfl (Nat.le_of_ble_eq_true rfl) ho (h.mono fun o5 A2 b3 c4 h => aftV h fun h => ?_)
  refine G_aload_n 0 (dk_at dk_X5_remember 23 rfl) rfl ?_
  refine G_aload_n 0 (dk_at dk_X5_remember 24 rfl) rfl ?_
  refine K_gI gf_X5_32 (dk_at dk_X5_remember 25 rfl) h (fun i6 h => ?_)
  refine G_iconst (v := 1) (dk_at dk_X5_remember 26 rfl) (by decide) ?_
  refine G_iadd (dk_at dk_X5_remember 27 rfl) ?_
  refine G_bipush (v := 8) (dk_at dk_X5_remember 28 rfl) (by decide) ?_
  refine G_irem (dk_at dk_X5_remember 29 rfl) (by decide) ?_
  refine K_pI pf_X5_32 (dk_at dk_X5_remember 30 rfl) h (fun A7 h => ?_)
  refine G_aload_n 0 (dk_at dk_X5_remember 31 rfl) rfl ?_
  refine G_aload_n 0 (dk_at dk_X5_remember 32 rfl) rfl ?_
  refine K_gI gf_X5_35 (dk_at dk_X5_remember 33 rfl) h (fun i8 h => ?_)
  refine G_iconst (v := 1) (dk_at dk_X5_remember 34 rfl) (by decide) ?_
  refine G_iadd (dk_at dk_X5_remember 35 rfl) ?_
  refine G_bipush (v := 8) (dk_at dk_X5_remember 36 rfl) (by decide) ?_
  refine G_min wd_21 wm_min1 wm_2 wm_min3 (dk_at dk_X5_remember 37 rfl) (Nat.le_of_ble_eq_true rfl) ?_
  refine K_pI pf_X5_35 (dk_at dk_X5_remember 38 rfl) h (fun A9 h => ?_)
  exact G_vret rfl (dk_at dk_X5_remember 39 rfl) h
theorem k_X5_pastAt_0 {l : Launch} {X : XT} {d : Nat} {Q : Ot → AH → Prop} {A : AH} {bc bs : Nat} {v0 : Nat} {v1 : Int32} (h : (v1 < 0 → G l X M_X5_pastAt d Q 22 [] [] A bc bs) ∧ (¬ v1 < 0 → gR A v0 6 6 fun r1 => nQ_ X 3 A r1 fun i2 => (i2 ≤ v1 → G l X M_X5_pastAt d Q 22 [] [] A bc bs) ∧ (¬ i2 ≤ v1 → gR A v0 6 6 fun r3 => aQ X 3 A r3 v1 fun o4 => Q (Rq o4) A))) : G l X M_X5_pastAt d Q 0 [(0, .ref v0), (1, .int v1)] [] A bc bs := by
  refine G_iload_n 1 (dk_at dk_X5_pastAt 0 rfl) rfl ?_
  refine G_if_lt (tgt := 22) (dk_at dk_X5_pastAt 1 rfl) (by decide) (fun c => ?_) (fun c => ?_)
  · replace h := h.1 c
    refine G_sub [] rfl ?_
    exact h
  · replace h := h.2 c
    refine G_iload_n 1 (dk_at dk_X5_pastAt 2 rfl) rfl ?_
    refine G_aload_n 0 (dk_at dk_X5_pastAt 3 rfl) rfl ?_
    refine K_gR gf_X5_28 (dk_at dk_X5_pastAt 4 rfl) h (fun r1 h => ?_)
    refine K_nQ3 (dk_at dk_X5_pastAt 5 rfl) h (fun i2 h => ?_)
    refine G_icmp_ge (tgt := 22) (dk_at dk_X5_pastAt 6 rfl) (by decide) (fun c => ?_) (fun c => ?_)
    · replace h := h.1 c
      refine G_sub [] rfl ?_
      exact h
    · replace h := h.2 c
      refine G_aload_n 0 (dk_at dk_X5_pastAt 7 rfl) rfl ?_
      refine K_gR gf_X5_28 (dk_at dk_X5_pastAt 8 rfl) h (fun r3 h => ?_)
      refine G_iload_n 1 (dk_at dk_X5_pastAt 9 rfl) rfl ?_
      refine K_aQ3 (dk_at dk_X5_pastAt 10 rfl) h (fun o4 h => ?_)
      refine G_goto (tgt := 23) (dk_at dk_X5_pastAt 11 rfl) (by decide) ?_
      exact G_aretQ (r := o4) rfl (Or.inl ⟨_, rfl⟩) (dk_at dk_X5_pastAt 13 rfl) h
theorem k_X5_pastAt_22 {l : Launch} {X : XT} {d : Nat} {Q : Ot → AH → Prop} {A : AH} {bc bs : Nat}  (h : Q (Rq none) A) : G l X M_X5_pastAt d Q 22 [] [] A bc bs := by
  refine G_null (dk_at dk_X5_pastAt 12 rfl) ?_
  exact G_aretQ (r := none) rfl (Or.inl ⟨_, rfl⟩) (dk_at dk_X5_pastAt 13 rfl) h
theorem k_X5_putPast_0 {l : Launch} {X : XT} {d : Nat} {Q : Ot → AH → Prop} {A : AH} {bc bs : Nat} {v0 : Nat} {v1 : Int32} {v2 : Nat} (h : (v1 < 0 → Q Rv A) ∧ (¬ v1 < 0 → gR A v0 6 6 fun r1 => nQ_ X 3 A r1 fun i2 => (i2 ≤ v1 → Q Rv A) ∧ (¬ i2 ≤ v1 → gR A v0 6 6 fun r3 => sD X A r3 v1 v2 fun A4 => Q Rv A4))) : G l X M_X5_putPast d Q 0 [(0, .ref v0), (1, .int v1), (2, .ref v2)] [] A bc bs := by
  refine G_iload_n 1 (dk_at dk_X5_putPast 0 rfl) rfl ?_
  refine G_if_lt (tgt := 20) (dk_at dk_X5_putPast 1 rfl) (by decide) (fun c => ?_) (fun c => ?_)
  · replace h := h.1 c
    exact G_vret rfl (dk_at dk_X5_putPast 12 rfl) h
  · replace h := h.2 c
    refine G_iload_n 1 (dk_at dk_X5_putPast 2 rfl) rfl ?_
    refine G_aload_n 0 (dk_at dk_X5_putPast 3 rfl) rfl ?_
    refine K_gR gf_X5_28 (dk_at dk_X5_putPast 4 rfl) h (fun r1 h => ?_)
    refine K_nQ3 (dk_at dk_X5_putPast 5 rfl) h (fun i2 h => ?_)
    refine G_icmp_ge (tgt := 20) (dk_at dk_X5_putPast 6 rfl) (by decide) (fun c => ?_) (fun c => ?_)
    · replace h := h.1 c
      exact G_vret rfl (dk_at dk_X5_putPast 12 rfl) h
    · replace h := h.2 c
      refine G_aload_n 0 (dk_at dk_X5_putPast 7 rfl) rfl ?_
      refine K_gR gf_X5_28 (dk_at dk_X5_putPast 8 rfl) h (fun r3 h => ?_)
      refine G_iload_n 1 (dk_at dk_X5_putPast 9 rfl) rfl ?_
      refine G_aload_n 2 (dk_at dk_X5_putPast 10 rfl) rfl ?_
      refine K_sD (dk_at dk_X5_putPast 11 rfl) h (fun A4 h => ?_)
      exact G_vret rfl (dk_at dk_X5_putPast 12 rfl) h
theorem k_X5_needIndex_0 {l : Launch} {X : XT} {d : Nat} {Q : Ot → AH → Prop} {A : AH} {bc bs : Nat} {v0 : Int32} {v1 : Int32} (h : (v0 < 0 → G l X M_X5_needIndex d Q 9 [] [] A bc bs) ∧ (¬ v0 < 0 → (v0 < v1 → Q Rv A) ∧ (¬ v0 < v1 → G l X M_X5_needIndex d Q 9 [] [] A bc bs))) : G l X M_X5_needIndex d Q 0 [(0, .int v0), (1, .int v1)] [] A bc bs := by
  refine G_iload_n 0 (dk_at dk_X5_needIndex 0 rfl) rfl ?_
  refine G_if_lt (tgt := 9) (dk_at dk_X5_needIndex 1 rfl) (by decide) (fun c => ?_) (fun c => ?_)
  · replace h := h.1 c
    refine G_sub [] rfl ?_
    exact h
  · replace h := h.2 c
    refine G_iload_n 0 (dk_at dk_X5_needIndex 2 rfl) rfl ?_
    refine G_iload_n 1 (dk_at dk_X5_needIndex 3 rfl) rfl ?_
    refine G_icmp_lt (tgt := 20) (dk_at dk_X5_needIndex 4 rfl) (by decide) (fun c => ?_) (fun c => ?_)
    · replace h := h.1 c
      exact G_vret rfl (dk_at dk_X5_needIndex 10 rfl) h
    · replace h := h.2 c
      refine G_sub [] rfl ?_
      exact h
theorem k_X5_needIndex_9 {l : Launch} {X : XT} {d : Nat} {Q : Ot → AH → Prop} {A : AH} {bc bs : Nat}  (h : thr A bc bs fun A1 => Q (Th "java/lang/IndexOutOfBoundsException") A1) : G l X M_X5_needIndex d Q 9 [] [] A bc bs := by
  exact G_throwW to_X5_352_354 rfl (dk_at dk_X5_needIndex 5 rfl) (dk_at dk_X5_needIndex 6 rfl) (dk_at dk_X5_needIndex 7 rfl) (dk_at dk_X5_needIndex 8 rfl) (dk_at dk_X5_needIndex 9 rfl) (Nat.le_of_ble_eq_true rfl) h.1 h.2.1 h.2.2
theorem k_X5_needArgument_0 {l : Launch} {X : XT} {d : Nat} {Q : Ot → AH → Prop} {A : AH} {bc bs : Nat} {v0 : Int32} (h : (¬ v0 = 0 → Q Rv A) ∧ (v0 = 0 → thr A bc bs fun A1 => Q (Th "java/lang/IllegalArgumentException") A1)) : G l X M_X5_needArgument d Q 0 [(0, .int v0)] [] A bc bs := by
  refine G_iload_n 0 (dk_at dk_X5_needArgument 0 rfl) rfl ?_
  refine G_if_ne (tgt := 15) (dk_at dk_X5_needArgument 1 rfl) (by decide) (fun c => ?_) (fun c => ?_)
  · replace h := h.1 c
    exact G_vret rfl (dk_at dk_X5_needArgument 7 rfl) h
  · replace h := h.2 c
    exact G_throwW to_X5_140_357 rfl (dk_at dk_X5_needArgument 2 rfl) (dk_at dk_X5_needArgument 3 rfl) (dk_at dk_X5_needArgument 4 rfl) (dk_at dk_X5_needArgument 5 rfl) (dk_at dk_X5_needArgument 6 rfl) (Nat.le_of_ble_eq_true rfl) h.1 h.2.1 h.2.2
theorem k_X5_needState_0 {l : Launch} {X : XT} {d : Nat} {Q : Ot → AH → Prop} {A : AH} {bc bs : Nat} {v0 : Int32} (h : (¬ v0 = 0 → Q Rv A) ∧ (v0 = 0 → thr A bc bs fun A1 => Q (Th "java/lang/IllegalStateException") A1)) : G l X M_X5_needState d Q 0 [(0, .int v0)] [] A bc bs := by
  refine G_iload_n 0 (dk_at dk_X5_needState 0 rfl) rfl ?_
  refine G_if_ne (tgt := 15) (dk_at dk_X5_needState 1 rfl) (by decide) (fun c => ?_) (fun c => ?_)
  · replace h := h.1 c
    exact G_vret rfl (dk_at dk_X5_needState 7 rfl) h
  · replace h := h.2 c
    exact G_throwW to_X5_338_359 rfl (dk_at dk_X5_needState 2 rfl) (dk_at dk_X5_needState 3 rfl) (dk_at dk_X5_needState 4 rfl) (dk_at dk_X5_needState 5 rfl) (dk_at dk_X5_needState 6 rfl) (Nat.le_of_ble_eq_true rfl) h.1 h.2.1 h.2.2
theorem k_X5_needElement_0 {l : Launch} {X : XT} {d : Nat} {Q : Ot → AH → Prop} {A : AH} {bc bs : Nat} {v0 : Int32} (h : (¬ v0 = 0 → Q Rv A) ∧ (v0 = 0 → thr A bc bs fun A1 => Q (Th "java/util/NoSuchElementException") A1)) : G l X M_X5_needElement d Q 0 [(0, .int v0)] [] A bc bs := by
  refine G_iload_n 0 (dk_at dk_X5_needElement 0 rfl) rfl ?_
  refine G_if_ne (tgt := 15) (dk_at dk_X5_needElement 1 rfl) (by decide) (fun c => ?_) (fun c => ?_)
  · replace h := h.1 c
    exact G_vret rfl (dk_at dk_X5_needElement 7 rfl) h
  · replace h := h.2 c
    exact G_throwW to_X5_361_363 rfl (dk_at dk_X5_needElement 2 rfl) (dk_at dk_X5_needElement 3 rfl) (dk_at dk_X5_needElement 4 rfl) (dk_at dk_X5_needElement 5 rfl) (dk_at dk_X5_needElement 6 rfl) (Nat.le_of_ble_eq_true rfl) h.1 h.2.1 h.2.2
theorem k_X5_isName_0 {l : Launch} {X : XT} {d : Nat} {Q : Ot → AH → Prop} {A : AH} {bc bs : Nat} {v0 : Int32} (h : (v0 < 0 → Q (Ri 0) A) ∧ (¬ v0 < 0 → (999 < v0 → Q (Ri 0) A) ∧ (¬ 999 < v0 → Q (Ri 1) A))) : G l X M_X5_isName d Q 0 [(0, .int v0)] [] A bc bs := by
  refine G_iload_n 0 (dk_at dk_X5_isName 0 rfl) rfl ?_
  refine G_if_lt (tgt := 15) (dk_at dk_X5_isName 1 rfl) (by decide) (fun c => ?_) (fun c => ?_)
  · replace h := h.1 c
    refine G_iconst (v := 0) (dk_at dk_X5_isName 7 rfl) (by decide) ?_
    exact G_iret (ty := .boolean) rfl rfl (dk_at dk_X5_isName 8 rfl) h
  · replace h := h.2 c
    refine G_iload_n 0 (dk_at dk_X5_isName 2 rfl) rfl ?_
    refine G_sipush (v := 999) (dk_at dk_X5_isName 3 rfl) (by decide) ?_
    refine G_icmp_gt (tgt := 15) (dk_at dk_X5_isName 4 rfl) (by decide) (fun c => ?_) (fun c => ?_)
    · replace h := h.1 c
      refine G_iconst (v := 0) (dk_at dk_X5_isName 7 rfl) (by decide) ?_
      exact G_iret (ty := .boolean) rfl rfl (dk_at dk_X5_isName 8 rfl) h
    · replace h := h.2 c
      refine G_iconst (v := 1) (dk_at dk_X5_isName 5 rfl) (by decide) ?_
      refine G_goto (tgt := 16) (dk_at dk_X5_isName 6 rfl) (by decide) ?_
      exact G_iret (ty := .boolean) rfl rfl (dk_at dk_X5_isName 8 rfl) h
theorem k_X5_at_0 {l : Launch} {X : XT} {d : Nat} {Q : Ot → AH → Prop} {A : AH} {bc bs : Nat} {v0 : Nat} {v1 : Int32} (h : (v1 < 0 → Q (Ri 0) A) ∧ (¬ v1 < 0 → nI_ X A v0 fun i1 => (i1 ≤ v1 → Q (Ri 0) A) ∧ (¬ i1 ≤ v1 → aI X A v0 v1 fun i2 => Q (Ri i2) A))) : G l X M_X5_at d Q 0 [(0, .ref v0), (1, .int v1)] [] A bc bs := by
  refine G_iload_n 1 (dk_at dk_X5_at 0 rfl) rfl ?_
  refine G_if_lt (tgt := 16) (dk_at dk_X5_at 1 rfl) (by decide) (fun c => ?_) (fun c => ?_)
  · replace h := h.1 c
    refine G_iconst (v := 0) (dk_at dk_X5_at 10 rfl) (by decide) ?_
    exact G_iret (ty := .int) rfl rfl (dk_at dk_X5_at 11 rfl) h
  · replace h := h.2 c
    refine G_iload_n 1 (dk_at dk_X5_at 2 rfl) rfl ?_
    refine G_aload_n 0 (dk_at dk_X5_at 3 rfl) rfl ?_
    refine K_nI (dk_at dk_X5_at 4 rfl) h (fun i1 h => ?_)
    refine G_icmp_ge (tgt := 16) (dk_at dk_X5_at 5 rfl) (by decide) (fun c => ?_) (fun c => ?_)
    · replace h := h.1 c
      refine G_iconst (v := 0) (dk_at dk_X5_at 10 rfl) (by decide) ?_
      exact G_iret (ty := .int) rfl rfl (dk_at dk_X5_at 11 rfl) h
    · replace h := h.2 c
      refine G_aload_n 0 (dk_at dk_X5_at 6 rfl) rfl ?_
      refine G_iload_n 1 (dk_at dk_X5_at 7 rfl) rfl ?_
      refine K_aI (dk_at dk_X5_at 8 rfl) h (fun i2 h => ?_)
      refine G_goto (tgt := 17) (dk_at dk_X5_at 9 rfl) (by decide) ?_
      exact G_iret (ty := .int) rfl rfl (dk_at dk_X5_at 11 rfl) h
theorem k_X5_put_0 {l : Launch} {X : XT} {d : Nat} {Q : Ot → AH → Prop} {A : AH} {bc bs : Nat} {v0 : Nat} {v1 : Int32} {v2 : Int32} (h : (v1 < 0 → Q Rv A) ∧ (¬ v1 < 0 → nI_ X A v0 fun i1 => (i1 ≤ v1 → Q Rv A) ∧ (¬ i1 ≤ v1 → sI X A v0 v1 v2 fun A2 => Q Rv A2))) : G l X M_X5_put d Q 0 [(0, .ref v0), (1, .int v1), (2, .int v2)] [] A bc bs := by
  refine G_iload_n 1 (dk_at dk_X5_put 0 rfl) rfl ?_
  refine G_if_lt (tgt := 14) (dk_at dk_X5_put 1 rfl) (by decide) (fun c => ?_) (fun c => ?_)
  · replace h := h.1 c
    exact G_vret rfl (dk_at dk_X5_put 10 rfl) h
  · replace h := h.2 c
    refine G_iload_n 1 (dk_at dk_X5_put 2 rfl) rfl ?_
    refine G_aload_n 0 (dk_at dk_X5_put 3 rfl) rfl ?_
    refine K_nI (dk_at dk_X5_put 4 rfl) h (fun i1 h => ?_)
    refine G_icmp_ge (tgt := 14) (dk_at dk_X5_put 5 rfl) (by decide) (fun c => ?_) (fun c => ?_)
    · replace h := h.1 c
      exact G_vret rfl (dk_at dk_X5_put 10 rfl) h
    · replace h := h.2 c
      refine G_aload_n 0 (dk_at dk_X5_put 6 rfl) rfl ?_
      refine G_iload_n 1 (dk_at dk_X5_put 7 rfl) rfl ?_
      refine G_iload_n 2 (dk_at dk_X5_put 8 rfl) rfl ?_
      refine K_sI (dk_at dk_X5_put 9 rfl) h (fun A2 h => ?_)
      exact G_vret rfl (dk_at dk_X5_put 10 rfl) h
theorem k_X5_addTo_0 {l : Launch} {X : XT} {d : Nat} {Q : Ot → AH → Prop} {A : AH} {bc bs : Nat} {v0 : Nat} {v1 : Int32} {v2 : Int32} (h : Cal l X d bc bs M_X5_at [.ref v0, .int v1] A fun o4 A1 b2 c3 => rI o4 (fun E => Q (.inr E) A1) fun i5 => Cal l X d b2 c3 M_X5_put [.ref v0, .int v1, .int ((i5 + v2) &&& 255)] A1 fun o9 A6 b7 c8 => rV o9 (fun E => Q (.inr E) A6) <| Q Rv A6) : G l X M_X5_addTo d Q 0 [(0, .ref v0), (1, .int v1), (2, .int v2)] [] A bc bs := by
  refine G_aload_n 0 (dk_at dk_X5_addTo 0 rfl) rfl ?_
  refine G_iload_n 1 (dk_at dk_X5_addTo 1 rfl) rfl ?_
  refine G_aload_n 0 (dk_at dk_X5_addTo 2 rfl) rfl ?_
  refine G_iload_n 1 (dk_at dk_X5_addTo 3 rfl) rfl ?_
  refine G_callS (As := [.ref v0, .int v1]) (rest := [.int v1, .ref v0]) lk_X5_162 rfl (dk_at dk_X5_addTo 4 rfl) rfl rfl (Nat.le_of_ble_eq_true rfl) (h.mono fun o4 A1 b2 c3 h => aftI h fun i5 h => ?_)
  refine G_iload_n 2 (dk_at dk_X5_addTo 5 rfl) rfl ?_
  refine G_iadd (dk_at dk_X5_addTo 6 rfl) ?_
  refine G_sipush (v := 255) (dk_at dk_X5_addTo 7 rfl) (by decide) ?_
  refine G_iand (dk_at dk_X5_addTo 8 rfl) ?_
  refine G_callS (As := [.ref v0, .int v1, .int ((i5 + v2) &&& 255)]) (rest := []) lk_X5_64 rfl (dk_at dk_X5_addTo 9 rfl) rfl rfl (Nat.le_of_ble_eq_true rfl) (h.mono fun o9 A6 b7 c8 h => aftV h fun h => ?_)
  exact G_vret rfl (dk_at dk_X5_addTo 10 rfl) h
theorem k_X5_copyRow_0 {l : Launch} {X : XT} {d : Nat} {Q : Ot → AH → Prop} {A : AH} {bc bs : Nat} {v0 : Nat} {v1 : Nat} (h : nI_ X A v0 fun i1 => nI_ X A v1 fun i2 => cpI X A v0 0 v1 0 (if i2 < i1 then i2 else i1) fun A3 => Q Rv A3) : G l X M_X5_copyRow d Q 0 [(0, .ref v0), (1, .ref v1)] [] A bc bs := by
  refine G_aload_n 0 (dk_at dk_X5_copyRow 0 rfl) rfl ?_
  refine G_iconst (v := 0) (dk_at dk_X5_copyRow 1 rfl) (by decide) ?_
  refine G_aload_n 1 (dk_at dk_X5_copyRow 2 rfl) rfl ?_
  refine G_iconst (v := 0) (dk_at dk_X5_copyRow 3 rfl) (by decide) ?_
  refine G_aload_n 0 (dk_at dk_X5_copyRow 4 rfl) rfl ?_
  refine K_nI (dk_at dk_X5_copyRow 5 rfl) h (fun i1 h => ?_)
  refine G_aload_n 1 (dk_at dk_X5_copyRow 6 rfl) rfl ?_
  refine K_nI (dk_at dk_X5_copyRow 7 rfl) h (fun i2 h => ?_)
  refine G_min wd_21 wm_min1 wm_2 wm_min3 (dk_at dk_X5_copyRow 8 rfl) (Nat.le_of_ble_eq_true rfl) ?_
  refine K_cpI lc_X5_366 (dk_at dk_X5_copyRow 9 rfl) (Nat.le_of_ble_eq_true rfl) h (fun A3 h => ?_)
  exact G_vret rfl (dk_at dk_X5_copyRow 10 rfl) h
theorem k_X5_sumOf_0 {l : Launch} {X : XT} {d : Nat} {Q : Ot → AH → Prop} {A : AH} {bc bs : Nat} {v0 : Nat} {v1 : Int32} {v2 : Int32} (h : G l X M_X5_sumOf d Q 5 [(0, .ref v0), (1, .int v1), (2, .int v2), (3, .int 0), (4, .int 0)] [] A bc bs) : G l X M_X5_sumOf d Q 0 [(0, .ref v0), (1, .int v1), (2, .int v2)] [] A bc bs := by
  refine G_iconst (v := 0) (dk_at dk_X5_sumOf 0 rfl) (by decide) ?_
  refine G_istore_n (lv' := [(3, .int 0), (0, .ref v0), (1, .int v1), (2, .int v2)]) (dk_at dk_X5_sumOf 1 rfl) (by decide) rfl ?_
  refine G_iconst (v := 0) (dk_at dk_X5_sumOf 2 rfl) (by decide) ?_
  refine G_istore (lv' := [(4, .int 0), (3, .int 0), (0, .ref v0), (1, .int v1), (2, .int v2)]) (dk_at dk_X5_sumOf 3 rfl) (by decide) rfl ?_
  refine G_sub [2, 3, 4, 1, 0] rfl ?_
  exact h
theorem k_X5_sumOf_5 {l : Launch} {X : XT} {d : Nat} {Q : Ot → AH → Prop} {A : AH} {bc bs : Nat} {v0 : Nat} {v1 : Int32} {v2 : Int32} {v3 : Int32} {v4 : Int32} (h : (v2 ≤ v4 → Q (Ri (v3 - v3 / 9973 * 9973)) A) ∧ (¬ v2 ≤ v4 → Cal l X d bc bs M_X5_at [.ref v0, .int (v1 + v4)] A fun o4 A1 b2 c3 => rI o4 (fun E => Q (.inr E) A1) fun i5 => G l X M_X5_sumOf d Q 5 [(0, .ref v0), (1, .int v1), (2, .int v2), (3, .int (v3 + ((v4 + 1) * i5))), (4, .int (v4 + 1))] [] A1 b2 c3)) : G l X M_X5_sumOf d Q 5 [(0, .ref v0), (1, .int v1), (2, .int v2), (3, .int v3), (4, .int v4)] [] A bc bs := by
  refine G_iload 4 (dk_at dk_X5_sumOf 4 rfl) rfl ?_
  refine G_iload_n 2 (dk_at dk_X5_sumOf 5 rfl) rfl ?_
  refine G_icmp_ge (tgt := 33) (dk_at dk_X5_sumOf 6 rfl) (by decide) (fun c => ?_) (fun c => ?_)
  · replace h := h.1 c
    refine G_iload_n 3 (dk_at dk_X5_sumOf 21 rfl) rfl ?_
    refine G_sipush (v := 9973) (dk_at dk_X5_sumOf 22 rfl) (by decide) ?_
    refine G_irem (dk_at dk_X5_sumOf 23 rfl) (by decide) ?_
    exact G_iret (ty := .int) rfl rfl (dk_at dk_X5_sumOf 24 rfl) h
  · replace h := h.2 c
    refine G_iload_n 3 (dk_at dk_X5_sumOf 7 rfl) rfl ?_
    refine G_iload 4 (dk_at dk_X5_sumOf 8 rfl) rfl ?_
    refine G_iconst (v := 1) (dk_at dk_X5_sumOf 9 rfl) (by decide) ?_
    refine G_iadd (dk_at dk_X5_sumOf 10 rfl) ?_
    refine G_aload_n 0 (dk_at dk_X5_sumOf 11 rfl) rfl ?_
    refine G_iload_n 1 (dk_at dk_X5_sumOf 12 rfl) rfl ?_
    refine G_iload 4 (dk_at dk_X5_sumOf 13 rfl) rfl ?_
    refine G_iadd (dk_at dk_X5_sumOf 14 rfl) ?_
    refine G_callS (As := [.ref v0, .int (v1 + v4)]) (rest := [.int (v4 + 1), .int v3]) lk_X5_162 rfl (dk_at dk_X5_sumOf 15 rfl) rfl rfl (Nat.le_of_ble_eq_true rfl) (h.mono fun o4 A1 b2 c3 h => aftI h fun i5 h => ?_)
    refine G_imul (dk_at dk_X5_sumOf 16 rfl) ?_
    refine G_iadd (dk_at dk_X5_sumOf 17 rfl) ?_
    refine G_istore_n (lv' := [(3, .int (v3 + ((v4 + 1) * i5))), (0, .ref v0), (1, .int v1), (2, .int v2), (4, .int v4)]) (dk_at dk_X5_sumOf 18 rfl) (by decide) rfl ?_
    refine G_iinc (v := v4 + 1) (lv' := [(4, .int (v4 + 1)), (3, .int (v3 + ((v4 + 1) * i5))), (0, .ref v0), (1, .int v1), (2, .int v2)]) 4 (dk_at dk_X5_sumOf 19 rfl) rfl rfl (by decide) rfl ?_
    refine G_goto (tgt := 5) (dk_at dk_X5_sumOf 20 rfl) (by decide) ?_
    refine G_sub [2, 3, 4, 1, 0] rfl ?_
    exact h
theorem k_X5_differences_0 {l : Launch} {X : XT} {d : Nat} {Q : Ot → AH → Prop} {A : AH} {bc bs : Nat} {v0 : Nat} {v1 : Nat} {v2 : Int32} {v3 : Int32} (h : G l X M_X5_differences d Q 6 [(0, .ref v0), (1, .ref v1), (2, .int v2), (3, .int v3), (4, .int 0), (5, .int v2)] [] A bc bs) : G l X M_X5_differences d Q 0 [(0, .ref v0), (1, .ref v1), (2, .int v2), (3, .int v3)] [] A bc bs := by
  refine G_iconst (v := 0) (dk_at dk_X5_differences 0 rfl) (by decide) ?_
  refine G_istore (lv' := [(4, .int 0), (0, .ref v0), (1, .ref v1), (2, .int v2), (3, .int v3)]) (dk_at dk_X5_differences 1 rfl) (by decide) rfl ?_
  refine G_iload_n 3 (dk_at dk_X5_differences 2 rfl) rfl ?_
  refine G_istore (lv' := [(5, .int v2), (4, .int 0), (0, .ref v0), (1, .ref v1), (2, .int v2), (3, .int v3)]) (dk_at dk_X5_differences 3 rfl) (by decide) rfl ?_
  refine G_sub [2, 3, 4, 5, 1, 0] rfl ?_
  exact h
theorem k_X5_differences_6 {l : Launch} {X : XT} {d : Nat} {Q : Ot → AH → Prop} {A : AH} {bc bs : Nat} {v0 : Nat} {v1 : Nat} {v2 : Int32} {v3 : Int32} {v4 : Int32} {v5 : Int32} (h : ((v2 + v3) ≤ v5 → Q (Ri v4) A) ∧ (¬ (v2 + v3) ≤ v5 → Cal l X d bc bs M_X5_at [.ref v0, .int v5] A fun o4 A1 b2 c3 => rI o4 (fun E => Q (.inr E) A1) fun i5 => Cal l X d b2 c3 M_X5_at [.ref v1, .int v5] A1 fun o9 A6 b7 c8 => rI o9 (fun E => Q (.inr E) A6) fun i10 => (i5 = i10 → G l X M_X5_differences d Q 6 [(0, .ref v0), (1, .ref v1), (2, .int v2), (3, .int v3), (4, .int v4), (5, .int (v5 + 1))] [] A6 b7 c8) ∧ (¬ i5 = i10 → G l X M_X5_differences d Q 6 [(0, .ref v0), (1, .ref v1), (2, .int v2), (3, .int v3), (4, .int (v4 + 1)), (5, .int (v5 + 1))] [] A6 b7 c8))) : G l X M_X5_differences d Q 6 [(0, .ref v0), (1, .ref v1), (2, .int v2), (3, .int v3), (4, .int v4), (5, .int v5)] [] A bc bs := by
  refine G_iload 5 (dk_at dk_X5_differences 4 rfl) rfl ?_
  refine G_iload_n 2 (dk_at dk_X5_differences 5 rfl) rfl ?_
  refine G_iload_n 3 (dk_at dk_X5_differences 6 rfl) rfl ?_
  refine G_iadd (dk_at dk_X5_differences 7 rfl) ?_
  refine G_icmp_ge (tgt := 38) (dk_at dk_X5_differences 8 rfl) (by decide) (fun c => ?_) (fun c => ?_)
  · replace h := h.1 c
    refine G_iload 4 (dk_at dk_X5_differences 19 rfl) rfl ?_
    exact G_iret (ty := .int) rfl rfl (dk_at dk_X5_differences 20 rfl) h
  · replace h := h.2 c
    refine G_aload_n 0 (dk_at dk_X5_differences 9 rfl) rfl ?_
    refine G_iload 5 (dk_at dk_X5_differences 10 rfl) rfl ?_
    refine G_callS (As := [.ref v0, .int v5]) (rest := []) lk_X5_162 rfl (dk_at dk_X5_differences 11 rfl) rfl rfl (Nat.le_of_ble_eq_true rfl) (h.mono fun o4 A1 b2 c3 h => aftI h fun i5 h => ?_)
    refine G_aload_n 1 (dk_at dk_X5_differences 12 rfl) rfl ?_
    refine G_iload 5 (dk_at dk_X5_differences 13 rfl) rfl ?_
    refine G_callS (As := [.ref v1, .int v5]) (rest := [.int i5]) lk_X5_162 rfl (dk_at dk_X5_differences 14 rfl) rfl rfl (Nat.le_of_ble_eq_true rfl) (h.mono fun o9 A6 b7 c8 h => aftI h fun i10 h => ?_)
    refine G_icmp_eq (tgt := 32) (dk_at dk_X5_differences 15 rfl) (by decide) (fun c => ?_) (fun c => ?_)
    · replace h := h.1 c
      refine G_iinc (v := v5 + 1) (lv' := [(5, .int (v5 + 1)), (0, .ref v0), (1, .ref v1), (2, .int v2), (3, .int v3), (4, .int v4)]) 5 (dk_at dk_X5_differences 17 rfl) rfl rfl (by decide) rfl ?_
      refine G_goto (tgt := 6) (dk_at dk_X5_differences 18 rfl) (by decide) ?_
      refine G_sub [1, 2, 3, 4, 5, 0] rfl ?_
      exact h
    · replace h := h.2 c
      refine G_iinc (v := v4 + 1) (lv' := [(4, .int (v4 + 1)), (0, .ref v0), (1, .ref v1), (2, .int v2), (3, .int v3), (5, .int v5)]) 4 (dk_at dk_X5_differences 16 rfl) rfl rfl (by decide) rfl ?_
      refine G_iinc (v := v5 + 1) (lv' := [(5, .int (v5 + 1)), (4, .int (v4 + 1)), (0, .ref v0), (1, .ref v1), (2, .int v2), (3, .int v3)]) 5 (dk_at dk_X5_differences 17 rfl) rfl rfl (by decide) rfl ?_
      refine G_goto (tgt := 6) (dk_at dk_X5_differences 18 rfl) (by decide) ?_
      refine G_sub [2, 3, 4, 5, 1, 0] rfl ?_
      exact h
