/-! blocks: what a method asks, row by row, as one formula (laid by wip/whole/gen) -/
theorem k_X6_init_0 {l : Launch} {X : XT} {d : Nat} {Q : Ot → AH → Prop} {A : AH} {bc bs : Nat} {v0 : Nat} (h : mkA A 1664 (fun N => ia X N (fun _ => 0)) bc bs fun r1 A2 b3 c4 => pV A2 v0 7 0 (.ref r1) fun A5 => mkA A5 1664 (fun N => ia X N (fun _ => 0)) b3 c4 fun r6 A7 b8 c9 => pV A7 v0 7 1 (.ref r6) fun A10 => mkA A10 1664 (fun N => ia X N (fun _ => 0)) b8 c9 fun r11 A12 b13 c14 => pV A12 v0 7 2 (.ref r11) fun A15 => mkA A15 13312 (fun N => ia X N (fun _ => 0)) b13 c14 fun r16 A17 b18 c19 => pV A17 v0 7 3 (.ref r16) fun A20 => mkA A20 400 (fun N => ia X N (fun _ => 0)) b18 c19 fun r21 A22 b23 c24 => pV A22 v0 7 6 (.ref r21) fun A25 => pV A25 v0 7 15 (.int ((-1))) fun A26 => mkA A26 64 (fun N => ia X N (fun _ => 0)) b23 c24 fun r27 A28 b29 c30 => pV A28 v0 7 16 (.ref r27) fun A31 => mkA A31 64 (fun N => ia X N (fun _ => 0)) b29 c30 fun r32 A33 b34 c35 => pV A33 v0 7 17 (.ref r32) fun A36 => mkA A36 48 (fun N => za X N (fun _ => 0)) b34 c35 fun r37 A38 b39 c40 => pV A38 v0 7 18 (.ref r37) fun A41 => mkA A41 60 (fun N => ia X N (fun _ => 0)) b39 c40 fun r42 A43 b44 c45 => pV A43 v0 7 22 (.ref r42) fun A46 => isO A46 v0 7 ∧ Cal l X d b44 c45 M_X6_begins [.ref v0, .int 1, .int 0] A46 fun o50 A47 b48 c49 => rV o50 (fun E => Q (.inr E) A47) <| gR A47 v0 7 1 fun r51 => sI X A47 r51 2 4 fun A52 => gR A52 v0 7 1 fun r53 => sI X A52 r53 3 4 fun A54 => gR A54 v0 7 1 fun r55 => isO A54 v0 7 ∧ Cal l X d b48 c49 M_X6_becomes [.ref v0, .ref r55, .int 0] A54 fun o59 A56 b57 c58 => rV o59 (fun E => Q (.inr E) A56) <| Q Rv A56) : G l X M_X6_init d Q 0 [(0, .ref v0)] [] A bc bs := by
  refine G_aload_n 0 (dk_at dk_X6_init 0 rfl) rfl ?_
  refine G_objInit wd_22 wo_1 wo_2 (dk_at dk_X6_init 1 rfl) (Nat.le_of_ble_eq_true rfl) ?_
  refine G_aload_n 0 (dk_at dk_X6_init 2 rfl) rfl ?_
  refine G_sipush (v := 1664) (dk_at dk_X6_init 3 rfl) (by decide) ?_
  refine K_newi wa_i (dk_at dk_X6_init 4 rfl) h (fun r1 A2 b3 c4 h => ?_)
  refine K_pR pf_X6_7 rfl rfl (dk_at dk_X6_init 5 rfl) h (fun A5 h => ?_)
  refine G_aload_n 0 (dk_at dk_X6_init 6 rfl) rfl ?_
  refine G_sipush (v := 1664) (dk_at dk_X6_init 7 rfl) (by decide) ?_
  refine K_newi wa_i (dk_at dk_X6_init 8 rfl) h (fun r6 A7 b8 c9 h => ?_)
  refine K_pR pf_X6_13 rfl rfl (dk_at dk_X6_init 9 rfl) h (fun A10 h => ?_)
  refine G_aload_n 0 (dk_at dk_X6_init 10 rfl) rfl ?_
  refine G_sipush (v := 1664) (dk_at dk_X6_init 11 rfl) (by decide) ?_
  refine K_newi wa_i (dk_at dk_X6_init 12 rfl) h (fun r11 A12 b13 c14 h => ?_)
  refine K_pR pf_X6_16 rfl rfl (dk_at dk_X6_init 13 rfl) h (fun A15 h => ?_)
  refine G_aload_n 0 (dk_at dk_X6_init 14 rfl) rfl ?_
  refine G_sipush (v := 13312) (dk_at dk_X6_init 15 rfl) (by decide) ?_
  refine K_newi wa_i (dk_at dk_X6_init 16 rfl) h (fun r16 A17 b18 c19 h => ?_)
  refine K_pR pf_X6_19 rfl rfl (dk_at dk_X6_init 17 rfl) h (fun A20 h => ?_)
  refine G_aload_n 0 (dk_at dk_X6_init 18 rfl) rfl ?_
  refine G_sipush (v := 400) (dk_at dk_X6_init 19 rfl) (by decide) ?_
  refine K_newi wa_i (dk_at dk_X6_init 20 rfl) h (fun r21 A22 b23 c24 h => ?_)
  refine K_pR pf_X6_22 rfl rfl (dk_at dk_X6_init 21 rfl) h (fun A25 h => ?_)
  refine G_aload_n 0 (dk_at dk_X6_init 22 rfl) rfl ?_
  refine G_iconst (v := (-1)) (dk_at dk_X6_init 23 rfl) (by decide) ?_
  refine K_pI pf_X6_25 (dk_at dk_X6_init 24 rfl) h (fun A26 h => ?_)
  refine G_aload_n 0 (dk_at dk_X6_init 25 rfl) rfl ?_
  refine G_bipush (v := 64) (dk_at dk_X6_init 26 rfl) (by decide) ?_
  refine K_newi wa_i (dk_at dk_X6_init 27 rfl) h (fun r27 A28 b29 c30 h => ?_)
  refine K_pR pf_X6_29 rfl rfl (dk_at dk_X6_init 28 rfl) h (fun A31 h => ?_)
  refine G_aload_n 0 (dk_at dk_X6_init 29 rfl) rfl ?_
  refine G_bipush (v := 64) (dk_at dk_X6_init 30 rfl) (by decide) ?_
  refine K_newi wa_i (dk_at dk_X6_init 31 rfl) h (fun r32 A33 b34 c35 h => ?_)
  refine K_pR pf_X6_32 rfl rfl (dk_at dk_X6_init 32 rfl) h (fun A36 h => ?_)
  refine G_aload_n 0 (dk_at dk_X6_init 33 rfl) rfl ?_
  refine G_bipush (v := 48) (dk_at dk_X6_init 34 rfl) (by decide) ?_
  refine K_newz wa_z (dk_at dk_X6_init 35 rfl) h (fun r37 A38 b39 c40 h => ?_)
  refine K_pR pf_X6_35 rfl rfl (dk_at dk_X6_init 36 rfl) h (fun A41 h => ?_)
  refine G_aload_n 0 (dk_at dk_X6_init 37 rfl) rfl ?_
  refine G_bipush (v := 60) (dk_at dk_X6_init 38 rfl) (by decide) ?_
  refine K_newi wa_i (dk_at dk_X6_init 39 rfl) h (fun r42 A43 b44 c45 h => ?_)
  refine K_pR pf_X6_39 rfl rfl (dk_at dk_X6_init 40 rfl) h (fun A46 h => ?_)
  refine G_aload_n 0 (dk_at dk_X6_init 41 rfl) rfl ?_
  refine G_iconst (v := 1) (dk_at dk_X6_init 42 rfl) (by decide) ?_
  refine G_iconst (v := 0) (dk_at dk_X6_init 43 rfl) (by decide) ?_
  obtain ⟨⟨_, ho⟩, h⟩ := h
  refine G_callV (As := [.int 1, .int 0]) (rest := []) lk_X6_42 rfl (dk_at dk_X6_init 44 rfl) rfl rfl (Nat.le_of_ble_eq_true rfl) ho (h.mono fun o50 A47 b48 c49 h => aftV h fun h => ?_)
  refine G_aload_n 0 (dk_at dk_X6_init 45 rfl) rfl ?_
  refine K_gR gf_X6_13 (dk_at dk_X6_init 46 rfl) h (fun r51 h => ?_)
  refine G_iconst (v := 2) (dk_at dk_X6_init 47 rfl) (by decide) ?_
  refine G_iconst (v := 4) (dk_at dk_X6_init 48 rfl) (by decide) ?_
  refine K_sI (dk_at dk_X6_init 49 rfl) h (fun A52 h => ?_)
  refine G_aload_n 0 (dk_at dk_X6_init 50 rfl) rfl ?_
  refine K_gR gf_X6_13 (dk_at dk_X6_init 51 rfl) h (fun r53 h => ?_)
  refine G_iconst (v := 3) (dk_at dk_X6_init 52 rfl) (by decide) ?_
  refine G_iconst (v := 4) (dk_at dk_X6_init 53 rfl) (by decide) ?_
  refine K_sI (dk_at dk_X6_init 54 rfl) h (fun A54 h => ?_)
  refine G_aload_n 0 (dk_at dk_X6_init 55 rfl) rfl ?_
  refine G_aload_n 0 (dk_at dk_X6_init 56 rfl) rfl ?_
  refine K_gR gf_X6_13 (dk_at dk_X6_init 57 rfl) h (fun r55 h => ?_)
  refine G_iconst (v := 0) (dk_at dk_X6_init 58 rfl) (by decide) ?_
  obtain ⟨⟨_, ho⟩, h⟩ := h
  refine G_callV (As := [.ref r55, .int 0]) (rest := []) lk_X6_46 rfl (dk_at dk_X6_init 59 rfl) rfl rfl (Nat.le_of_ble_eq_true rfl) ho (h.mono fun o59 A56 b57 c58 h => aftV h fun h => ?_)
  exact G_vret rfl (dk_at dk_X6_init 60 rfl) h
theorem k_X6_begins_0 {l : Launch} {X : XT} {d : Nat} {Q : Ot → AH → Prop} {A : AH} {bc bs : Nat} {v0 : Nat} {v1 : Int32} {v2 : Int32} (h : G l X M_X6_begins d Q 2 [(0, .ref v0), (1, .int v1), (2, .int v2), (3, .int 0)] [] A bc bs) : G l X M_X6_begins d Q 0 [(0, .ref v0), (1, .int v1), (2, .int v2)] [] A bc bs := by
  refine G_iconst (v := 0) (dk_at dk_X6_begins 0 rfl) (by decide) ?_
  refine G_istore_n (lv' := [(3, .int 0), (0, .ref v0), (1, .int v1), (2, .int v2)]) (dk_at dk_X6_begins 1 rfl) (by decide) rfl ?_
  refine G_sub [1, 2, 3, 0] rfl ?_
  exact h
theorem k_X6_begins_2 {l : Launch} {X : XT} {d : Nat} {Q : Ot → AH → Prop} {A : AH} {bc bs : Nat} {v0 : Nat} {v1 : Int32} {v2 : Int32} {v3 : Int32} (h : (1664 ≤ v3 → gR A v0 7 1 fun r1 => sI X A r1 0 v1 fun A2 => gR A2 v0 7 1 fun r3 => sI X A2 r3 1 v2 fun A4 => gR A4 v0 7 1 fun r5 => sI X A4 r5 4 3 fun A6 => gR A6 v0 7 1 fun r7 => sI X A6 r7 14 1 fun A8 => gR A8 v0 7 1 fun r9 => sI X A8 r9 15 1 fun A10 => Q Rv A10) ∧ (¬ 1664 ≤ v3 → gR A v0 7 1 fun r11 => sI X A r11 v3 0 fun A12 => G l X M_X6_begins d Q 2 [(0, .ref v0), (1, .int v1), (2, .int v2), (3, .int (v3 + 1))] [] A12 bc bs)) : G l X M_X6_begins d Q 2 [(0, .ref v0), (1, .int v1), (2, .int v2), (3, .int v3)] [] A bc bs := by
  refine G_iload_n 3 (dk_at dk_X6_begins 2 rfl) rfl ?_
  refine G_sipush (v := 1664) (dk_at dk_X6_begins 3 rfl) (by decide) ?_
  refine G_icmp_ge (tgt := 22) (dk_at dk_X6_begins 4 rfl) (by decide) (fun c => ?_) (fun c => ?_)
  · replace h := h.1 c
    refine G_aload_n 0 (dk_at dk_X6_begins 12 rfl) rfl ?_
    refine K_gR gf_X6_13 (dk_at dk_X6_begins 13 rfl) h (fun r1 h => ?_)
    refine G_iconst (v := 0) (dk_at dk_X6_begins 14 rfl) (by decide) ?_
    refine G_iload_n 1 (dk_at dk_X6_begins 15 rfl) rfl ?_
    refine K_sI (dk_at dk_X6_begins 16 rfl) h (fun A2 h => ?_)
    refine G_aload_n 0 (dk_at dk_X6_begins 17 rfl) rfl ?_
    refine K_gR gf_X6_13 (dk_at dk_X6_begins 18 rfl) h (fun r3 h => ?_)
    refine G_iconst (v := 1) (dk_at dk_X6_begins 19 rfl) (by decide) ?_
    refine G_iload_n 2 (dk_at dk_X6_begins 20 rfl) rfl ?_
    refine K_sI (dk_at dk_X6_begins 21 rfl) h (fun A4 h => ?_)
    refine G_aload_n 0 (dk_at dk_X6_begins 22 rfl) rfl ?_
    refine K_gR gf_X6_13 (dk_at dk_X6_begins 23 rfl) h (fun r5 h => ?_)
    refine G_iconst (v := 4) (dk_at dk_X6_begins 24 rfl) (by decide) ?_
    refine G_iconst (v := 3) (dk_at dk_X6_begins 25 rfl) (by decide) ?_
    refine K_sI (dk_at dk_X6_begins 26 rfl) h (fun A6 h => ?_)
    refine G_aload_n 0 (dk_at dk_X6_begins 27 rfl) rfl ?_
    refine K_gR gf_X6_13 (dk_at dk_X6_begins 28 rfl) h (fun r7 h => ?_)
    refine G_bipush (v := 14) (dk_at dk_X6_begins 29 rfl) (by decide) ?_
    refine G_iconst (v := 1) (dk_at dk_X6_begins 30 rfl) (by decide) ?_
    refine K_sI (dk_at dk_X6_begins 31 rfl) h (fun A8 h => ?_)
    refine G_aload_n 0 (dk_at dk_X6_begins 32 rfl) rfl ?_
    refine K_gR gf_X6_13 (dk_at dk_X6_begins 33 rfl) h (fun r9 h => ?_)
    refine G_bipush (v := 15) (dk_at dk_X6_begins 34 rfl) (by decide) ?_
    refine G_iconst (v := 1) (dk_at dk_X6_begins 35 rfl) (by decide) ?_
    refine K_sI (dk_at dk_X6_begins 36 rfl) h (fun A10 h => ?_)
    exact G_vret rfl (dk_at dk_X6_begins 37 rfl) h
  · replace h := h.2 c
    refine G_aload_n 0 (dk_at dk_X6_begins 5 rfl) rfl ?_
    refine K_gR gf_X6_13 (dk_at dk_X6_begins 6 rfl) h (fun r11 h => ?_)
    refine G_iload_n 3 (dk_at dk_X6_begins 7 rfl) rfl ?_
    refine G_iconst (v := 0) (dk_at dk_X6_begins 8 rfl) (by decide) ?_
    refine K_sI (dk_at dk_X6_begins 9 rfl) h (fun A12 h => ?_)
    refine G_iinc (v := v3 + 1) (lv' := [(3, .int (v3 + 1)), (0, .ref v0), (1, .int v1), (2, .int v2)]) 3 (dk_at dk_X6_begins 10 rfl) rfl rfl (by decide) rfl ?_
    refine G_goto (tgt := 2) (dk_at dk_X6_begins 11 rfl) (by decide) ?_
    refine G_sub [1, 2, 3, 0] rfl ?_
    exact h
theorem k_X6_becomes_0 {l : Launch} {X : XT} {d : Nat} {Q : Ot → AH → Prop} {A : AH} {bc bs : Nat} {v0 : Nat} {v1 : Nat} {v2 : Int32} (h : G l X M_X6_becomes d Q 2 [(0, .ref v0), (1, .ref v1), (2, .int v2), (3, .int 0)] [] A bc bs) : G l X M_X6_becomes d Q 0 [(0, .ref v0), (1, .ref v1), (2, .int v2)] [] A bc bs := by
  refine G_iconst (v := 0) (dk_at dk_X6_becomes 0 rfl) (by decide) ?_
  refine G_istore_n (lv' := [(3, .int 0), (0, .ref v0), (1, .ref v1), (2, .int v2)]) (dk_at dk_X6_becomes 1 rfl) (by decide) rfl ?_
  refine G_sub [1, 2, 3, 0] rfl ?_
  exact h
theorem k_X6_becomes_2 {l : Launch} {X : XT} {d : Nat} {Q : Ot → AH → Prop} {A : AH} {bc bs : Nat} {v0 : Nat} {v1 : Nat} {v2 : Int32} {v3 : Int32} (h : (1664 ≤ v3 → Q Rv A) ∧ (¬ 1664 ≤ v3 → gR A v0 7 0 fun r1 => aI X A v1 (v2 + v3) fun i2 => sI X A r1 v3 i2 fun A3 => G l X M_X6_becomes d Q 2 [(0, .ref v0), (1, .ref v1), (2, .int v2), (3, .int (v3 + 1))] [] A3 bc bs)) : G l X M_X6_becomes d Q 2 [(0, .ref v0), (1, .ref v1), (2, .int v2), (3, .int v3)] [] A bc bs := by
  refine G_iload_n 3 (dk_at dk_X6_becomes 2 rfl) rfl ?_
  refine G_sipush (v := 1664) (dk_at dk_X6_becomes 3 rfl) (by decide) ?_
  refine G_icmp_ge (tgt := 26) (dk_at dk_X6_becomes 4 rfl) (by decide) (fun c => ?_) (fun c => ?_)
  · replace h := h.1 c
    exact G_vret rfl (dk_at dk_X6_becomes 16 rfl) h
  · replace h := h.2 c
    refine G_aload_n 0 (dk_at dk_X6_becomes 5 rfl) rfl ?_
    refine K_gR gf_X6_7 (dk_at dk_X6_becomes 6 rfl) h (fun r1 h => ?_)
    refine G_iload_n 3 (dk_at dk_X6_becomes 7 rfl) rfl ?_
    refine G_aload_n 1 (dk_at dk_X6_becomes 8 rfl) rfl ?_
    refine G_iload_n 2 (dk_at dk_X6_becomes 9 rfl) rfl ?_
    refine G_iload_n 3 (dk_at dk_X6_becomes 10 rfl) rfl ?_
    refine G_iadd (dk_at dk_X6_becomes 11 rfl) ?_
    refine K_aI (dk_at dk_X6_becomes 12 rfl) h (fun i2 h => ?_)
    refine K_sI (dk_at dk_X6_becomes 13 rfl) h (fun A3 h => ?_)
    refine G_iinc (v := v3 + 1) (lv' := [(3, .int (v3 + 1)), (0, .ref v0), (1, .ref v1), (2, .int v2)]) 3 (dk_at dk_X6_becomes 14 rfl) rfl rfl (by decide) rfl ?_
    refine G_goto (tgt := 2) (dk_at dk_X6_becomes 15 rfl) (by decide) ?_
    refine G_sub [1, 2, 3, 0] rfl ?_
    exact h
theorem k_X6_putsAside_0 {l : Launch} {X : XT} {d : Nat} {Q : Ot → AH → Prop} {A : AH} {bc bs : Nat} {v0 : Nat} (h : G l X M_X6_putsAside d Q 2 [(0, .ref v0), (1, .int 0)] [] A bc bs) : G l X M_X6_putsAside d Q 0 [(0, .ref v0)] [] A bc bs := by
  refine G_iconst (v := 0) (dk_at dk_X6_putsAside 0 rfl) (by decide) ?_
  refine G_istore_n (lv' := [(1, .int 0), (0, .ref v0)]) (dk_at dk_X6_putsAside 1 rfl) (by decide) rfl ?_
  refine G_sub [1, 0] rfl ?_
  exact h
theorem k_X6_putsAside_2 {l : Launch} {X : XT} {d : Nat} {Q : Ot → AH → Prop} {A : AH} {bc bs : Nat} {v0 : Nat} {v1 : Int32} (h : (1664 ≤ v1 → Q Rv A) ∧ (¬ 1664 ≤ v1 → gR A v0 7 2 fun r1 => gR A v0 7 0 fun r2 => aI X A r2 v1 fun i3 => sI X A r1 v1 i3 fun A4 => G l X M_X6_putsAside d Q 2 [(0, .ref v0), (1, .int (v1 + 1))] [] A4 bc bs)) : G l X M_X6_putsAside d Q 2 [(0, .ref v0), (1, .int v1)] [] A bc bs := by
  refine G_iload_n 1 (dk_at dk_X6_putsAside 2 rfl) rfl ?_
  refine G_sipush (v := 1664) (dk_at dk_X6_putsAside 3 rfl) (by decide) ?_
  refine G_icmp_ge (tgt := 27) (dk_at dk_X6_putsAside 4 rfl) (by decide) (fun c => ?_) (fun c => ?_)
  · replace h := h.1 c
    exact G_vret rfl (dk_at dk_X6_putsAside 15 rfl) h
  · replace h := h.2 c
    refine G_aload_n 0 (dk_at dk_X6_putsAside 5 rfl) rfl ?_
    refine K_gR gf_X6_16 (dk_at dk_X6_putsAside 6 rfl) h (fun r1 h => ?_)
    refine G_iload_n 1 (dk_at dk_X6_putsAside 7 rfl) rfl ?_
    refine G_aload_n 0 (dk_at dk_X6_putsAside 8 rfl) rfl ?_
    refine K_gR gf_X6_7 (dk_at dk_X6_putsAside 9 rfl) h (fun r2 h => ?_)
    refine G_iload_n 1 (dk_at dk_X6_putsAside 10 rfl) rfl ?_
    refine K_aI (dk_at dk_X6_putsAside 11 rfl) h (fun i3 h => ?_)
    refine K_sI (dk_at dk_X6_putsAside 12 rfl) h (fun A4 h => ?_)
    refine G_iinc (v := v1 + 1) (lv' := [(1, .int (v1 + 1)), (0, .ref v0)]) 1 (dk_at dk_X6_putsAside 13 rfl) rfl rfl (by decide) rfl ?_
    refine G_goto (tgt := 2) (dk_at dk_X6_putsAside 14 rfl) (by decide) ?_
    refine G_sub [1, 0] rfl ?_
    exact h
theorem k_X6_thrown_0 {l : Launch} {X : XT} {d : Nat} {Q : Ot → AH → Prop} {A : AH} {bc bs : Nat} {v0 : Nat} (h : gI A v0 7 5 fun i1 => Q (Ri i1) A) : G l X M_X6_thrown d Q 0 [(0, .ref v0)] [] A bc bs := by
  refine G_aload_n 0 (dk_at dk_X6_thrown 0 rfl) rfl ?_
  refine K_gI gf_X6_50 (dk_at dk_X6_thrown 1 rfl) h (fun i1 h => ?_)
  exact G_iret (ty := .int) rfl rfl (dk_at dk_X6_thrown 2 rfl) h
theorem k_X6_isIn_0 {l : Launch} {X : XT} {d : Nat} {Q : Ot → AH → Prop} {A : AH} {bc bs : Nat} {v0 : Int32} {v1 : Int32} {v2 : Int32} (h : (v0 < v1 → Q (Ri 0) A) ∧ (¬ v0 < v1 → (v2 < v0 → Q (Ri 0) A) ∧ (¬ v2 < v0 → Q (Ri 1) A))) : G l X M_X6_isIn d Q 0 [(0, .int v0), (1, .int v1), (2, .int v2)] [] A bc bs := by
  refine G_iload_n 0 (dk_at dk_X6_isIn 0 rfl) rfl ?_
  refine G_iload_n 1 (dk_at dk_X6_isIn 1 rfl) rfl ?_
  refine G_icmp_lt (tgt := 14) (dk_at dk_X6_isIn 2 rfl) (by decide) (fun c => ?_) (fun c => ?_)
  · replace h := h.1 c
    refine G_iconst (v := 0) (dk_at dk_X6_isIn 8 rfl) (by decide) ?_
    exact G_iret (ty := .boolean) rfl rfl (dk_at dk_X6_isIn 9 rfl) h
  · replace h := h.2 c
    refine G_iload_n 0 (dk_at dk_X6_isIn 3 rfl) rfl ?_
    refine G_iload_n 2 (dk_at dk_X6_isIn 4 rfl) rfl ?_
    refine G_icmp_gt (tgt := 14) (dk_at dk_X6_isIn 5 rfl) (by decide) (fun c => ?_) (fun c => ?_)
    · replace h := h.1 c
      refine G_iconst (v := 0) (dk_at dk_X6_isIn 8 rfl) (by decide) ?_
      exact G_iret (ty := .boolean) rfl rfl (dk_at dk_X6_isIn 9 rfl) h
    · replace h := h.2 c
      refine G_iconst (v := 1) (dk_at dk_X6_isIn 6 rfl) (by decide) ?_
      refine G_goto (tgt := 15) (dk_at dk_X6_isIn 7 rfl) (by decide) ?_
      exact G_iret (ty := .boolean) rfl rfl (dk_at dk_X6_isIn 9 rfl) h
theorem k_X6_keeps_0 {l : Launch} {X : XT} {d : Nat} {Q : Ot → AH → Prop} {A : AH} {bc bs : Nat} {v0 : Nat} (h : gI A v0 7 4 fun i1 => (¬ i1 = 8 → G l X M_X6_keeps d Q 52 [(0, .ref v0), (1, .int 0)] [] A bc bs) ∧ (i1 = 8 → G l X M_X6_keeps d Q 11 [(0, .ref v0), (1, .int 0)] [] A bc bs)) : G l X M_X6_keeps d Q 0 [(0, .ref v0)] [] A bc bs := by
  refine G_aload_n 0 (dk_at dk_X6_keeps 0 rfl) rfl ?_
  refine K_gI gf_X6_53 (dk_at dk_X6_keeps 1 rfl) h (fun i1 h => ?_)
  refine G_bipush (v := 8) (dk_at dk_X6_keeps 2 rfl) (by decide) ?_
  refine G_icmp_ne (tgt := 50) (dk_at dk_X6_keeps 3 rfl) (by decide) (fun c => ?_) (fun c => ?_)
  · replace h := h.1 c
    refine G_iconst (v := 0) (dk_at dk_X6_keeps 27 rfl) (by decide) ?_
    refine G_istore_n (lv' := [(1, .int 0), (0, .ref v0)]) (dk_at dk_X6_keeps 28 rfl) (by decide) rfl ?_
    refine G_sub [1, 0] rfl ?_
    exact h
  · replace h := h.2 c
    refine G_iconst (v := 0) (dk_at dk_X6_keeps 4 rfl) (by decide) ?_
    refine G_istore_n (lv' := [(1, .int 0), (0, .ref v0)]) (dk_at dk_X6_keeps 5 rfl) (by decide) rfl ?_
    refine G_sub [1, 0] rfl ?_
    exact h
theorem k_X6_keeps_11 {l : Launch} {X : XT} {d : Nat} {Q : Ot → AH → Prop} {A : AH} {bc bs : Nat} {v0 : Nat} {v1 : Int32} (h : (11648 ≤ v1 → gI A v0 7 4 fun i1 => pV A v0 7 4 (.int (i1 - 1)) fun A2 => G l X M_X6_keeps d Q 52 [(0, .ref v0), (1, .int 0)] [] A2 bc bs) ∧ (¬ 11648 ≤ v1 → gR A v0 7 3 fun r3 => gR A v0 7 3 fun r4 => aI X A r4 (v1 + 1664) fun i5 => sI X A r3 v1 i5 fun A6 => G l X M_X6_keeps d Q 11 [(0, .ref v0), (1, .int (v1 + 1))] [] A6 bc bs)) : G l X M_X6_keeps d Q 11 [(0, .ref v0), (1, .int v1)] [] A bc bs := by
  refine G_iload_n 1 (dk_at dk_X6_keeps 6 rfl) rfl ?_
  refine G_sipush (v := 11648) (dk_at dk_X6_keeps 7 rfl) (by decide) ?_
  refine G_icmp_ge (tgt := 40) (dk_at dk_X6_keeps 8 rfl) (by decide) (fun c => ?_) (fun c => ?_)
  · replace h := h.1 c
    refine G_aload_n 0 (dk_at dk_X6_keeps 21 rfl) rfl ?_
    refine G_dup (dk_at dk_X6_keeps 22 rfl) rfl ?_
    refine K_gI gf_X6_53 (dk_at dk_X6_keeps 23 rfl) h (fun i1 h => ?_)
    refine G_iconst (v := 1) (dk_at dk_X6_keeps 24 rfl) (by decide) ?_
    refine G_isub (dk_at dk_X6_keeps 25 rfl) ?_
    refine K_pI pf_X6_53 (dk_at dk_X6_keeps 26 rfl) h (fun A2 h => ?_)
    refine G_iconst (v := 0) (dk_at dk_X6_keeps 27 rfl) (by decide) ?_
    refine G_istore_n (lv' := [(1, .int 0), (0, .ref v0)]) (dk_at dk_X6_keeps 28 rfl) (by decide) rfl ?_
    refine G_sub [1, 0] rfl ?_
    exact h
  · replace h := h.2 c
    refine G_aload_n 0 (dk_at dk_X6_keeps 9 rfl) rfl ?_
    refine K_gR gf_X6_19 (dk_at dk_X6_keeps 10 rfl) h (fun r3 h => ?_)
    refine G_iload_n 1 (dk_at dk_X6_keeps 11 rfl) rfl ?_
    refine G_aload_n 0 (dk_at dk_X6_keeps 12 rfl) rfl ?_
    refine K_gR gf_X6_19 (dk_at dk_X6_keeps 13 rfl) h (fun r4 h => ?_)
    refine G_iload_n 1 (dk_at dk_X6_keeps 14 rfl) rfl ?_
    refine G_sipush (v := 1664) (dk_at dk_X6_keeps 15 rfl) (by decide) ?_
    refine G_iadd (dk_at dk_X6_keeps 16 rfl) ?_
    refine K_aI (dk_at dk_X6_keeps 17 rfl) h (fun i5 h => ?_)
    refine K_sI (dk_at dk_X6_keeps 18 rfl) h (fun A6 h => ?_)
    refine G_iinc (v := v1 + 1) (lv' := [(1, .int (v1 + 1)), (0, .ref v0)]) 1 (dk_at dk_X6_keeps 19 rfl) rfl rfl (by decide) rfl ?_
    refine G_goto (tgt := 11) (dk_at dk_X6_keeps 20 rfl) (by decide) ?_
    refine G_sub [1, 0] rfl ?_
    exact h
theorem k_X6_keeps_52 {l : Launch} {X : XT} {d : Nat} {Q : Ot → AH → Prop} {A : AH} {bc bs : Nat} {v0 : Nat} {v1 : Int32} (h : (1664 ≤ v1 → gI A v0 7 4 fun i1 => pV A v0 7 4 (.int (i1 + 1)) fun A2 => Q Rv A2) ∧ (¬ 1664 ≤ v1 → gR A v0 7 3 fun r3 => gI A v0 7 4 fun i4 => gR A v0 7 0 fun r5 => aI X A r5 v1 fun i6 => sI X A r3 ((1664 * i4) + v1) i6 fun A7 => G l X M_X6_keeps d Q 52 [(0, .ref v0), (1, .int (v1 + 1))] [] A7 bc bs)) : G l X M_X6_keeps d Q 52 [(0, .ref v0), (1, .int v1)] [] A bc bs := by
  refine G_iload_n 1 (dk_at dk_X6_keeps 29 rfl) rfl ?_
  refine G_sipush (v := 1664) (dk_at dk_X6_keeps 30 rfl) (by decide) ?_
  refine G_icmp_ge (tgt := 86) (dk_at dk_X6_keeps 31 rfl) (by decide) (fun c => ?_) (fun c => ?_)
  · replace h := h.1 c
    refine G_aload_n 0 (dk_at dk_X6_keeps 47 rfl) rfl ?_
    refine G_dup (dk_at dk_X6_keeps 48 rfl) rfl ?_
    refine K_gI gf_X6_53 (dk_at dk_X6_keeps 49 rfl) h (fun i1 h => ?_)
    refine G_iconst (v := 1) (dk_at dk_X6_keeps 50 rfl) (by decide) ?_
    refine G_iadd (dk_at dk_X6_keeps 51 rfl) ?_
    refine K_pI pf_X6_53 (dk_at dk_X6_keeps 52 rfl) h (fun A2 h => ?_)
    exact G_vret rfl (dk_at dk_X6_keeps 53 rfl) h
  · replace h := h.2 c
    refine G_aload_n 0 (dk_at dk_X6_keeps 32 rfl) rfl ?_
    refine K_gR gf_X6_19 (dk_at dk_X6_keeps 33 rfl) h (fun r3 h => ?_)
    refine G_sipush (v := 1664) (dk_at dk_X6_keeps 34 rfl) (by decide) ?_
    refine G_aload_n 0 (dk_at dk_X6_keeps 35 rfl) rfl ?_
    refine K_gI gf_X6_53 (dk_at dk_X6_keeps 36 rfl) h (fun i4 h => ?_)
    refine G_imul (dk_at dk_X6_keeps 37 rfl) ?_
    refine G_iload_n 1 (dk_at dk_X6_keeps 38 rfl) rfl ?_
    refine G_iadd (dk_at dk_X6_keeps 39 rfl) ?_
    refine G_aload_n 0 (dk_at dk_X6_keeps 40 rfl) rfl ?_
    refine K_gR gf_X6_7 (dk_at dk_X6_keeps 41 rfl) h (fun r5 h => ?_)
    refine G_iload_n 1 (dk_at dk_X6_keeps 42 rfl) rfl ?_
    refine K_aI (dk_at dk_X6_keeps 43 rfl) h (fun i6 h => ?_)
    refine K_sI (dk_at dk_X6_keeps 44 rfl) h (fun A7 h => ?_)
    refine G_iinc (v := v1 + 1) (lv' := [(1, .int (v1 + 1)), (0, .ref v0)]) 1 (dk_at dk_X6_keeps 45 rfl) rfl rfl (by decide) rfl ?_
    refine G_goto (tgt := 52) (dk_at dk_X6_keeps 46 rfl) (by decide) ?_
    refine G_sub [1, 0] rfl ?_
    exact h
theorem k_X6_undo_0 {l : Launch} {X : XT} {d : Nat} {Q : Ot → AH → Prop} {A : AH} {bc bs : Nat} {v0 : Nat} (h : gI A v0 7 4 fun i1 => (¬ i1 = 0 → G l X M_X6_undo d Q 13 [(0, .ref v0)] [.int 0, .ref v0] A bc bs) ∧ (i1 = 0 → G l X M_X6_undo d Q 13 [(0, .ref v0)] [.int 1, .ref v0] A bc bs)) : G l X M_X6_undo d Q 0 [(0, .ref v0)] [] A bc bs := by
  refine G_aload_n 0 (dk_at dk_X6_undo 0 rfl) rfl ?_
  refine G_aload_n 0 (dk_at dk_X6_undo 1 rfl) rfl ?_
  refine K_gI gf_X6_53 (dk_at dk_X6_undo 2 rfl) h (fun i1 h => ?_)
  refine G_if_ne (tgt := 12) (dk_at dk_X6_undo 3 rfl) (by decide) (fun c => ?_) (fun c => ?_)
  · replace h := h.1 c
    refine G_iconst (v := 0) (dk_at dk_X6_undo 6 rfl) (by decide) ?_
    exact h
  · replace h := h.2 c
    refine G_iconst (v := 1) (dk_at dk_X6_undo 4 rfl) (by decide) ?_
    refine G_goto (tgt := 13) (dk_at dk_X6_undo 5 rfl) (by decide) ?_
    exact h
theorem k_X6_undo_13 {l : Launch} {X : XT} {d : Nat} {Q : Ot → AH → Prop} {A : AH} {bc bs : Nat} {v0 : Nat} {s0 : Int32} {s1 : Nat} (h : pV A s1 7 5 (.int s0) fun A1 => gI A1 v0 7 5 fun i2 => (i2 ≤ 0 → gI A1 v0 7 4 fun i3 => pV A1 v0 7 4 (.int (i3 - 1)) fun A4 => gR A4 v0 7 3 fun r5 => gI A4 v0 7 4 fun i6 => isO A4 v0 7 ∧ Cal l X d bc bs M_X6_becomes [.ref v0, .ref r5, .int (1664 * i6)] A4 fun o10 A7 b8 c9 => rV o10 (fun E => Q (.inr E) A7) <| gI A7 v0 7 4 fun i11 => Q (Ri i11) A7) ∧ (¬ i2 ≤ 0 → Q (Ri 0) A1)) : G l X M_X6_undo d Q 13 [(0, .ref v0)] [.int s0, .ref s1] A bc bs := by
  refine K_pI pf_X6_50 (dk_at dk_X6_undo 7 rfl) h (fun A1 h => ?_)
  refine G_aload_n 0 (dk_at dk_X6_undo 8 rfl) rfl ?_
  refine K_gI gf_X6_50 (dk_at dk_X6_undo 9 rfl) h (fun i2 h => ?_)
  refine G_if_le (tgt := 25) (dk_at dk_X6_undo 10 rfl) (by decide) (fun c => ?_) (fun c => ?_)
  · replace h := h.1 c
    refine G_aload_n 0 (dk_at dk_X6_undo 13 rfl) rfl ?_
    refine G_dup (dk_at dk_X6_undo 14 rfl) rfl ?_
    refine K_gI gf_X6_53 (dk_at dk_X6_undo 15 rfl) h (fun i3 h => ?_)
    refine G_iconst (v := 1) (dk_at dk_X6_undo 16 rfl) (by decide) ?_
    refine G_isub (dk_at dk_X6_undo 17 rfl) ?_
    refine K_pI pf_X6_53 (dk_at dk_X6_undo 18 rfl) h (fun A4 h => ?_)
    refine G_aload_n 0 (dk_at dk_X6_undo 19 rfl) rfl ?_
    refine G_aload_n 0 (dk_at dk_X6_undo 20 rfl) rfl ?_
    refine K_gR gf_X6_19 (dk_at dk_X6_undo 21 rfl) h (fun r5 h => ?_)
    refine G_sipush (v := 1664) (dk_at dk_X6_undo 22 rfl) (by decide) ?_
    refine G_aload_n 0 (dk_at dk_X6_undo 23 rfl) rfl ?_
    refine K_gI gf_X6_53 (dk_at dk_X6_undo 24 rfl) h (fun i6 h => ?_)
    refine G_imul (dk_at dk_X6_undo 25 rfl) ?_
    obtain ⟨⟨_, ho⟩, h⟩ := h
    refine G_callV (As := [.ref r5, .int (1664 * i6)]) (rest := []) lk_X6_46 rfl (dk_at dk_X6_undo 26 rfl) rfl rfl (Nat.le_of_ble_eq_true rfl) ho (h.mono fun o10 A7 b8 c9 h => aftV h fun h => ?_)
    refine G_aload_n 0 (dk_at dk_X6_undo 27 rfl) rfl ?_
    refine K_gI gf_X6_53 (dk_at dk_X6_undo 28 rfl) h (fun i11 h => ?_)
    exact G_iret (ty := .int) rfl rfl (dk_at dk_X6_undo 29 rfl) h
  · replace h := h.2 c
    refine G_iconst (v := 0) (dk_at dk_X6_undo 11 rfl) (by decide) ?_
    exact G_iret (ty := .int) rfl rfl (dk_at dk_X6_undo 12 rfl) h
theorem k_X6_append_0 {l : Launch} {X : XT} {d : Nat} {Q : Ot → AH → Prop} {A : AH} {bc bs : Nat} {v0 : Nat} {v1 : Int32} {v2 : Int32} {v3 : Int32} {v4 : Int32} {v5 : Int32} (h : gI A v0 7 7 fun i1 => ((i1 + 20) ≤ 400 → G l X M_X6_append d Q 19 [(0, .ref v0), (1, .int v1), (2, .int v2), (3, .int v3), (4, .int v4), (5, .int v5)] [.int 0, .ref v0] A bc bs) ∧ (¬ (i1 + 20) ≤ 400 → G l X M_X6_append d Q 19 [(0, .ref v0), (1, .int v1), (2, .int v2), (3, .int v3), (4, .int v4), (5, .int v5)] [.int 1, .ref v0] A bc bs)) : G l X M_X6_append d Q 0 [(0, .ref v0), (1, .int v1), (2, .int v2), (3, .int v3), (4, .int v4), (5, .int v5)] [] A bc bs := by
  refine G_aload_n 0 (dk_at dk_X6_append 0 rfl) rfl ?_
  refine G_aload_n 0 (dk_at dk_X6_append 1 rfl) rfl ?_
  refine K_gI gf_X6_56 (dk_at dk_X6_append 2 rfl) h (fun i1 h => ?_)
  refine G_bipush (v := 20) (dk_at dk_X6_append 3 rfl) (by decide) ?_
  refine G_iadd (dk_at dk_X6_append 4 rfl) ?_
  refine G_sipush (v := 400) (dk_at dk_X6_append 5 rfl) (by decide) ?_
  refine G_icmp_le (tgt := 18) (dk_at dk_X6_append 6 rfl) (by decide) (fun c => ?_) (fun c => ?_)
  · replace h := h.1 c
    refine G_iconst (v := 0) (dk_at dk_X6_append 9 rfl) (by decide) ?_
    exact h
  · replace h := h.2 c
    refine G_iconst (v := 1) (dk_at dk_X6_append 7 rfl) (by decide) ?_
    refine G_goto (tgt := 19) (dk_at dk_X6_append 8 rfl) (by decide) ?_
    exact h
theorem k_X6_append_19 {l : Launch} {X : XT} {d : Nat} {Q : Ot → AH → Prop} {A : AH} {bc bs : Nat} {v0 : Nat} {v1 : Int32} {v2 : Int32} {v3 : Int32} {v4 : Int32} {v5 : Int32} {s0 : Int32} {s1 : Nat} (h : pV A s1 7 5 (.int s0) fun A1 => gI A1 v0 7 5 fun i2 => (i2 ≤ 0 → G l X M_X6_append d Q 34 [(0, .ref v0), (1, .int v1), (2, .int v2), (3, .int v3), (4, .int v4), (5, .int v5), (6, .int 0)] [] A1 bc bs) ∧ (¬ i2 ≤ 0 → Q (Ri 0) A1)) : G l X M_X6_append d Q 19 [(0, .ref v0), (1, .int v1), (2, .int v2), (3, .int v3), (4, .int v4), (5, .int v5)] [.int s0, .ref s1] A bc bs := by
  refine K_pI pf_X6_50 (dk_at dk_X6_append 10 rfl) h (fun A1 h => ?_)
  refine G_aload_n 0 (dk_at dk_X6_append 11 rfl) rfl ?_
  refine K_gI gf_X6_50 (dk_at dk_X6_append 12 rfl) h (fun i2 h => ?_)
  refine G_if_le (tgt := 31) (dk_at dk_X6_append 13 rfl) (by decide) (fun c => ?_) (fun c => ?_)
  · replace h := h.1 c
    refine G_iconst (v := 0) (dk_at dk_X6_append 16 rfl) (by decide) ?_
    refine G_istore (lv' := [(6, .int 0), (0, .ref v0), (1, .int v1), (2, .int v2), (3, .int v3), (4, .int v4), (5, .int v5)]) (dk_at dk_X6_append 17 rfl) (by decide) rfl ?_
    refine G_sub [1, 2, 3, 4, 5, 6, 0] rfl ?_
    exact h
  · replace h := h.2 c
    refine G_iconst (v := 0) (dk_at dk_X6_append 14 rfl) (by decide) ?_
    exact G_iret (ty := .int) rfl rfl (dk_at dk_X6_append 15 rfl) h
theorem k_X6_append_34 {l : Launch} {X : XT} {d : Nat} {Q : Ot → AH → Prop} {A : AH} {bc bs : Nat} {v0 : Nat} {v1 : Int32} {v2 : Int32} {v3 : Int32} {v4 : Int32} {v5 : Int32} {v6 : Int32} (h : (20 ≤ v6 → gI A v0 7 7 fun i1 => Q (Ri i1) A) ∧ (¬ 20 ≤ v6 → (4 ≤ v6 → (8 ≤ v6 → (12 ≤ v6 → (16 ≤ v6 → G l X M_X6_append d Q 87 [(0, .ref v0), (1, .int v1), (2, .int v2), (3, .int v3), (4, .int v4), (5, .int v5), (6, .int v6)] [.int v5] A bc bs) ∧ (¬ 16 ≤ v6 → G l X M_X6_append d Q 87 [(0, .ref v0), (1, .int v1), (2, .int v2), (3, .int v3), (4, .int v4), (5, .int v5), (6, .int v6)] [.int v4] A bc bs)) ∧ (¬ 12 ≤ v6 → G l X M_X6_append d Q 87 [(0, .ref v0), (1, .int v1), (2, .int v2), (3, .int v3), (4, .int v4), (5, .int v5), (6, .int v6)] [.int v3] A bc bs)) ∧ (¬ 8 ≤ v6 → G l X M_X6_append d Q 87 [(0, .ref v0), (1, .int v1), (2, .int v2), (3, .int v3), (4, .int v4), (5, .int v5), (6, .int v6)] [.int v2] A bc bs)) ∧ (¬ 4 ≤ v6 → G l X M_X6_append d Q 87 [(0, .ref v0), (1, .int v1), (2, .int v2), (3, .int v3), (4, .int v4), (5, .int v5), (6, .int v6)] [.int v1] A bc bs))) : G l X M_X6_append d Q 34 [(0, .ref v0), (1, .int v1), (2, .int v2), (3, .int v3), (4, .int v4), (5, .int v5), (6, .int v6)] [] A bc bs := by
  refine G_iload 6 (dk_at dk_X6_append 18 rfl) rfl ?_
  refine G_bipush (v := 20) (dk_at dk_X6_append 19 rfl) (by decide) ?_
  refine G_icmp_ge (tgt := 131) (dk_at dk_X6_append 20 rfl) (by decide) (fun c => ?_) (fun c => ?_)
  · replace h := h.1 c
    refine G_aload_n 0 (dk_at dk_X6_append 67 rfl) rfl ?_
    refine K_gI gf_X6_56 (dk_at dk_X6_append 68 rfl) h (fun i1 h => ?_)
    exact G_iret (ty := .int) rfl rfl (dk_at dk_X6_append 69 rfl) h
  · replace h := h.2 c
    refine G_iload 6 (dk_at dk_X6_append 21 rfl) rfl ?_
    refine G_iconst (v := 4) (dk_at dk_X6_append 22 rfl) (by decide) ?_
    refine G_icmp_ge (tgt := 51) (dk_at dk_X6_append 23 rfl) (by decide) (fun c => ?_) (fun c => ?_)
    · replace h := h.1 c
      refine G_iload 6 (dk_at dk_X6_append 26 rfl) rfl ?_
      refine G_bipush (v := 8) (dk_at dk_X6_append 27 rfl) (by decide) ?_
      refine G_icmp_ge (tgt := 62) (dk_at dk_X6_append 28 rfl) (by decide) (fun c => ?_) (fun c => ?_)
      · replace h := h.1 c
        refine G_iload 6 (dk_at dk_X6_append 31 rfl) rfl ?_
        refine G_bipush (v := 12) (dk_at dk_X6_append 32 rfl) (by decide) ?_
        refine G_icmp_ge (tgt := 73) (dk_at dk_X6_append 33 rfl) (by decide) (fun c => ?_) (fun c => ?_)
        · replace h := h.1 c
          refine G_iload 6 (dk_at dk_X6_append 36 rfl) rfl ?_
          refine G_bipush (v := 16) (dk_at dk_X6_append 37 rfl) (by decide) ?_
          refine G_icmp_ge (tgt := 85) (dk_at dk_X6_append 38 rfl) (by decide) (fun c => ?_) (fun c => ?_)
          · replace h := h.1 c
            refine G_iload 5 (dk_at dk_X6_append 41 rfl) rfl ?_
            exact h
          · replace h := h.2 c
            refine G_iload 4 (dk_at dk_X6_append 39 rfl) rfl ?_
            refine G_goto (tgt := 87) (dk_at dk_X6_append 40 rfl) (by decide) ?_
            exact h
        · replace h := h.2 c
          refine G_iload_n 3 (dk_at dk_X6_append 34 rfl) rfl ?_
          refine G_goto (tgt := 87) (dk_at dk_X6_append 35 rfl) (by decide) ?_
          exact h
      · replace h := h.2 c
        refine G_iload_n 2 (dk_at dk_X6_append 29 rfl) rfl ?_
        refine G_goto (tgt := 87) (dk_at dk_X6_append 30 rfl) (by decide) ?_
        exact h
    · replace h := h.2 c
      refine G_iload_n 1 (dk_at dk_X6_append 24 rfl) rfl ?_
      refine G_goto (tgt := 87) (dk_at dk_X6_append 25 rfl) (by decide) ?_
      exact h
theorem k_X6_append_87 {l : Launch} {X : XT} {d : Nat} {Q : Ot → AH → Prop} {A : AH} {bc bs : Nat} {v0 : Nat} {v1 : Int32} {v2 : Int32} {v3 : Int32} {v4 : Int32} {v5 : Int32} {v6 : Int32} {s0 : Int32} (h : gR A v0 7 6 fun r1 => gI A v0 7 7 fun i2 => sI X A r1 i2 ((s0 >>> ((24 - (8 * (v6 - v6 / 4 * 4))) &&& 31)) &&& 255) fun A3 => gI A3 v0 7 7 fun i4 => pV A3 v0 7 7 (.int (i4 + 1)) fun A5 => G l X M_X6_append d Q 34 [(0, .ref v0), (1, .int v1), (2, .int v2), (3, .int v3), (4, .int v4), (5, .int v5), (6, .int (v6 + 1))] [] A5 bc bs) : G l X M_X6_append d Q 87 [(0, .ref v0), (1, .int v1), (2, .int v2), (3, .int v3), (4, .int v4), (5, .int v5), (6, .int v6)] [.int s0] A bc bs := by
  refine G_istore (lv' := [(7, .int s0), (0, .ref v0), (1, .int v1), (2, .int v2), (3, .int v3), (4, .int v4), (5, .int v5), (6, .int v6)]) (dk_at dk_X6_append 42 rfl) (by decide) rfl ?_
  refine G_aload_n 1 (dk_at dk_X6_append 43 rfl) rfl ?_
  refine K_gR gf_X6_22 (dk_at dk_X6_append 44 rfl) h (fun r1 h => ?_)
  refine G_aload_n 1 (dk_at dk_X6_append 45 rfl) rfl ?_
  refine K_gI gf_X6_56 (dk_at dk_X6_append 46 rfl) h (fun i2 h => ?_)
  refine G_iload 0 (dk_at dk_X6_append 47 rfl) rfl ?_
  refine G_bipush (v := 24) (dk_at dk_X6_append 48 rfl) (by decide) ?_
  refine G_bipush (v := 8) (dk_at dk_X6_append 49 rfl) (by decide) ?_
  refine G_iload 7 (dk_at dk_X6_append 50 rfl) rfl ?_
  refine G_iconst (v := 4) (dk_at dk_X6_append 51 rfl) (by decide) ?_
  refine G_irem (dk_at dk_X6_append 52 rfl) (by decide) ?_
  refine G_imul (dk_at dk_X6_append 53 rfl) ?_
  refine G_isub (dk_at dk_X6_append 54 rfl) ?_
  refine G_ishr (dk_at dk_X6_append 55 rfl) ?_
  refine G_sipush (v := 255) (dk_at dk_X6_append 56 rfl) (by decide) ?_
  refine G_iand (dk_at dk_X6_append 57 rfl) ?_
  refine K_sI (dk_at dk_X6_append 58 rfl) h (fun A3 h => ?_)
  refine G_aload_n 1 (dk_at dk_X6_append 59 rfl) rfl ?_
  refine G_dup (dk_at dk_X6_append 60 rfl) rfl ?_
  refine K_gI gf_X6_56 (dk_at dk_X6_append 61 rfl) h (fun i4 h => ?_)
  refine G_iconst (v := 1) (dk_at dk_X6_append 62 rfl) (by decide) ?_
  refine G_iadd (dk_at dk_X6_append 63 rfl) ?_
  refine K_pI pf_X6_56 (dk_at dk_X6_append 64 rfl) h (fun A5 h => ?_)
  refine G_iinc (v := v6 + 1) (lv' := [(6, .int (v6 + 1)), (7, .int s0), (0, .ref v0), (1, .int v1), (2, .int v2), (3, .int v3), (4, .int v4), (5, .int v5)]) 7 (dk_at dk_X6_append 65 rfl) rfl rfl (by decide) rfl ?_
  refine G_goto (tgt := 34) (dk_at dk_X6_append 66 rfl) (by decide) ?_
  refine G_sub [2, 3, 4, 5, 6, 7, 0] rfl ?_
  exact h
theorem k_X6_see_0 {l : Launch} {X : XT} {d : Nat} {Q : Ot → AH → Prop} {A : AH} {bc bs : Nat} {v0 : Nat} {v1 : Int32} (h : gI A v0 7 8 fun i1 => (i1 ≤ v1 → Q (Ri ((-1))) A) ∧ (¬ i1 ≤ v1 → gR A v0 7 6 fun r2 => aI X A r2 v1 fun i3 => Q (Ri i3) A)) : G l X M_X6_see d Q 0 [(0, .ref v0), (1, .int v1)] [] A bc bs := by
  refine G_iload_n 1 (dk_at dk_X6_see 0 rfl) rfl ?_
  refine G_aload_n 0 (dk_at dk_X6_see 1 rfl) rfl ?_
  refine K_gI gf_X6_59 (dk_at dk_X6_see 2 rfl) h (fun i1 h => ?_)
  refine G_icmp_ge (tgt := 17) (dk_at dk_X6_see 3 rfl) (by decide) (fun c => ?_) (fun c => ?_)
  · replace h := h.1 c
    refine G_iconst (v := (-1)) (dk_at dk_X6_see 9 rfl) (by decide) ?_
    exact G_iret (ty := .int) rfl rfl (dk_at dk_X6_see 10 rfl) h
  · replace h := h.2 c
    refine G_aload_n 0 (dk_at dk_X6_see 4 rfl) rfl ?_
    refine K_gR gf_X6_22 (dk_at dk_X6_see 5 rfl) h (fun r2 h => ?_)
    refine G_iload_n 1 (dk_at dk_X6_see 6 rfl) rfl ?_
    refine K_aI (dk_at dk_X6_see 7 rfl) h (fun i3 h => ?_)
    refine G_goto (tgt := 18) (dk_at dk_X6_see 8 rfl) (by decide) ?_
    exact G_iret (ty := .int) rfl rfl (dk_at dk_X6_see 10 rfl) h
theorem k_X6_isLetter_0 {l : Launch} {X : XT} {d : Nat} {Q : Ot → AH → Prop} {A : AH} {bc bs : Nat} {v0 : Int32} (h : Cal l X d bc bs M_X6_isIn [.int v0, .int 97, .int 122] A fun o4 A1 b2 c3 => rI o4 (fun E => Q (.inr E) A1) fun i5 => ((i5 : Int32) = 0 ∨ (i5 : Int32) = 1) ∧ Q (Ri i5) A1) : G l X M_X6_isLetter d Q 0 [(0, .int v0)] [] A bc bs := by
  refine G_iload_n 0 (dk_at dk_X6_isLetter 0 rfl) rfl ?_
  refine G_bipush (v := 97) (dk_at dk_X6_isLetter 1 rfl) (by decide) ?_
  refine G_bipush (v := 122) (dk_at dk_X6_isLetter 2 rfl) (by decide) ?_
  refine G_callS (As := [.int v0, .int 97, .int 122]) (rest := []) lk_X6_62 rfl (dk_at dk_X6_isLetter 3 rfl) rfl rfl (Nat.le_of_ble_eq_true rfl) (h.mono fun o4 A1 b2 c3 h => aftI h fun i5 h => ?_)
  refine G_iret (ty := .boolean) rfl (by rcases h.1 with e | e <;> (rw [e]; rfl)) (dk_at dk_X6_isLetter 4 rfl) h.2
theorem k_X6_isDigit_0 {l : Launch} {X : XT} {d : Nat} {Q : Ot → AH → Prop} {A : AH} {bc bs : Nat} {v0 : Int32} (h : Cal l X d bc bs M_X6_isIn [.int v0, .int 48, .int 57] A fun o4 A1 b2 c3 => rI o4 (fun E => Q (.inr E) A1) fun i5 => ((i5 : Int32) = 0 ∨ (i5 : Int32) = 1) ∧ Q (Ri i5) A1) : G l X M_X6_isDigit d Q 0 [(0, .int v0)] [] A bc bs := by
  refine G_iload_n 0 (dk_at dk_X6_isDigit 0 rfl) rfl ?_
  refine G_bipush (v := 48) (dk_at dk_X6_isDigit 1 rfl) (by decide) ?_
  refine G_bipush (v := 57) (dk_at dk_X6_isDigit 2 rfl) (by decide) ?_
  refine G_callS (As := [.int v0, .int 48, .int 57]) (rest := []) lk_X6_62 rfl (dk_at dk_X6_isDigit 3 rfl) rfl rfl (Nat.le_of_ble_eq_true rfl) (h.mono fun o4 A1 b2 c3 h => aftI h fun i5 h => ?_)
  refine G_iret (ty := .boolean) rfl (by rcases h.1 with e | e <;> (rw [e]; rfl)) (dk_at dk_X6_isDigit 4 rfl) h.2
theorem k_X6_next_0 {l : Launch} {X : XT} {d : Nat} {Q : Ot → AH → Prop} {A : AH} {bc bs : Nat} {v0 : Nat} (h : gI A v0 7 10 fun i1 => pV A v0 7 9 (.int i1) fun A2 => G l X M_X6_next d Q 8 [(0, .ref v0)] [] A2 bc bs) : G l X M_X6_next d Q 0 [(0, .ref v0)] [] A bc bs := by
  refine G_aload_n 0 (dk_at dk_X6_next_0 0 rfl) rfl ?_
  refine G_aload_n 0 (dk_at dk_X6_next_0 1 rfl) rfl ?_
  refine K_gI gf_X6_66 (dk_at dk_X6_next_0 2 rfl) h (fun i1 h => ?_)
  refine K_pI pf_X6_69 (dk_at dk_X6_next_0 3 rfl) h (fun A2 h => ?_)
  exact h
theorem k_X6_next_8 {l : Launch} {X : XT} {d : Nat} {Q : Ot → AH → Prop} {A : AH} {bc bs : Nat} {v0 : Nat} (h : gI A v0 7 9 fun i1 => isO A v0 7 ∧ Cal l X d bc bs M_X6_see [.ref v0, .int i1] A fun o5 A2 b3 c4 => rI o5 (fun E => Q (.inr E) A2) fun i6 => (¬ i6 = 32 → gI A2 v0 7 9 fun i7 => pV A2 v0 7 10 (.int i7) fun A8 => gI A8 v0 7 9 fun i9 => gI A8 v0 7 8 fun i10 => (i9 < i10 → gI A8 v0 7 9 fun i11 => isO A8 v0 7 ∧ Cal l X d b3 c4 M_X6_see [.ref v0, .int i11] A8 fun o15 A12 b13 c14 => rI o15 (fun E => Q (.inr E) A12) fun i16 => Cal l X d b13 c14 M_X6_isLetter [.int i16] A12 fun o20 A17 b18 c19 => rI o20 (fun E => Q (.inr E) A17) fun i21 => (i21 = 0 → gI A17 v0 7 9 fun i22 => isO A17 v0 7 ∧ Cal l X d b18 c19 M_X6_see [.ref v0, .int i22] A17 fun o26 A23 b24 c25 => rI o26 (fun E => Q (.inr E) A23) fun i27 => Cal l X d b24 c25 M_X6_isDigit [.int i27] A23 fun o31 A28 b29 c30 => rI o31 (fun E => Q (.inr E) A28) fun i32 => (i32 = 0 → gI A28 v0 7 10 fun i33 => pV A28 v0 7 10 (.int (i33 + 1)) fun A34 => pV A34 v0 7 11 (.int 2) fun A35 => Q Rv A35) ∧ (¬ i32 = 0 → pV A28 v0 7 12 (.int 0) fun A36 => G l X M_X6_next d Q 129 [(0, .ref v0)] [] A36 b29 c30)) ∧ (¬ i21 = 0 → G l X M_X6_next d Q 75 [(0, .ref v0)] [] A17 b18 c19)) ∧ (¬ i9 < i10 → pV A8 v0 7 11 (.int 3) fun A37 => Q Rv A37)) ∧ (i6 = 32 → gI A2 v0 7 9 fun i38 => pV A2 v0 7 9 (.int (i38 + 1)) fun A39 => G l X M_X6_next d Q 8 [(0, .ref v0)] [] A39 b3 c4)) : G l X M_X6_next d Q 8 [(0, .ref v0)] [] A bc bs := by
  refine G_aload_n 0 (dk_at dk_X6_next_0 4 rfl) rfl ?_
  refine G_aload_n 0 (dk_at dk_X6_next_0 5 rfl) rfl ?_
  refine K_gI gf_X6_69 (dk_at dk_X6_next_0 6 rfl) h (fun i1 h => ?_)
  obtain ⟨⟨_, ho⟩, h⟩ := h
  refine G_callV (As := [.int i1]) (rest := []) lk_X6_72 rfl (dk_at dk_X6_next_0 7 rfl) rfl rfl (Nat.le_of_ble_eq_true rfl) ho (h.mono fun o5 A2 b3 c4 h => aftI h fun i6 h => ?_)
  refine G_bipush (v := 32) (dk_at dk_X6_next_0 8 rfl) (by decide) ?_
  refine G_icmp_ne (tgt := 34) (dk_at dk_X6_next_0 9 rfl) (by decide) (fun c => ?_) (fun c => ?_)
  · replace h := h.1 c
    refine G_aload_n 0 (dk_at dk_X6_next_0 17 rfl) rfl ?_
    refine G_aload_n 0 (dk_at dk_X6_next_0 18 rfl) rfl ?_
    refine K_gI gf_X6_69 (dk_at dk_X6_next_0 19 rfl) h (fun i7 h => ?_)
    refine K_pI pf_X6_66 (dk_at dk_X6_next_0 20 rfl) h (fun A8 h => ?_)
    refine G_aload_n 0 (dk_at dk_X6_next_0 21 rfl) rfl ?_
    refine K_gI gf_X6_69 (dk_at dk_X6_next_0 22 rfl) h (fun i9 h => ?_)
    refine G_aload_n 0 (dk_at dk_X6_next_0 23 rfl) rfl ?_
    refine K_gI gf_X6_59 (dk_at dk_X6_next_0 24 rfl) h (fun i10 h => ?_)
    refine G_icmp_lt (tgt := 61) (dk_at dk_X6_next_0 25 rfl) (by decide) (fun c => ?_) (fun c => ?_)
    · replace h := h.1 c
      refine G_aload_n 0 (dk_at dk_X6_next_0 30 rfl) rfl ?_
      refine G_aload_n 0 (dk_at dk_X6_next_0 31 rfl) rfl ?_
      refine K_gI gf_X6_69 (dk_at dk_X6_next_0 32 rfl) h (fun i11 h => ?_)
      obtain ⟨⟨_, ho⟩, h⟩ := h
      refine G_callV (As := [.int i11]) (rest := []) lk_X6_72 rfl (dk_at dk_X6_next_0 33 rfl) rfl rfl (Nat.le_of_ble_eq_true rfl) ho (h.mono fun o15 A12 b13 c14 h => aftI h fun i16 h => ?_)
      refine G_callS (As := [.int i16]) (rest := []) lk_X6_79 rfl (dk_at dk_X6_next_0 34 rfl) rfl rfl (Nat.le_of_ble_eq_true rfl) (h.mono fun o20 A17 b18 c19 h => aftI h fun i21 h => ?_)
      refine G_if_eq (tgt := 110) (dk_at dk_X6_next_0 35 rfl) (by decide) (fun c => ?_) (fun c => ?_)
      · replace h := h.1 c
        refine G_aload_n 0 (dk_at dk_X6_next_1 3 rfl) rfl ?_
        refine G_aload_n 0 (dk_at dk_X6_next_1 4 rfl) rfl ?_
        refine K_gI gf_X6_69 (dk_at dk_X6_next_1 5 rfl) h (fun i22 h => ?_)
        obtain ⟨⟨_, ho⟩, h⟩ := h
        refine G_callV (As := [.int i22]) (rest := []) lk_X6_72 rfl (dk_at dk_X6_next_1 6 rfl) rfl rfl (Nat.le_of_ble_eq_true rfl) ho (h.mono fun o26 A23 b24 c25 h => aftI h fun i27 h => ?_)
        refine G_callS (As := [.int i27]) (rest := []) lk_X6_83 rfl (dk_at dk_X6_next_1 7 rfl) rfl rfl (Nat.le_of_ble_eq_true rfl) (h.mono fun o31 A28 b29 c30 h => aftI h fun i32 h => ?_)
        refine G_if_eq (tgt := 197) (dk_at dk_X6_next_1 8 rfl) (by decide) (fun c => ?_) (fun c => ?_)
        · replace h := h.1 c
          refine G_aload_n 0 (dk_at dk_X6_next_1 46 rfl) rfl ?_
          refine G_dup (dk_at dk_X6_next_1 47 rfl) rfl ?_
          refine K_gI gf_X6_66 (dk_at dk_X6_next_1 48 rfl) h (fun i33 h => ?_)
          refine G_iconst (v := 1) (dk_at dk_X6_next_1 49 rfl) (by decide) ?_
          refine G_iadd (dk_at dk_X6_next_2 0 rfl) ?_
          refine K_pI pf_X6_66 (dk_at dk_X6_next_2 1 rfl) h (fun A34 h => ?_)
          refine G_aload_n 0 (dk_at dk_X6_next_2 2 rfl) rfl ?_
          refine G_iconst (v := 2) (dk_at dk_X6_next_2 3 rfl) (by decide) ?_
          refine K_pI pf_X6_76 (dk_at dk_X6_next_2 4 rfl) h (fun A35 h => ?_)
          exact G_vret rfl (dk_at dk_X6_next_2 5 rfl) h
        · replace h := h.2 c
          refine G_aload_n 0 (dk_at dk_X6_next_1 9 rfl) rfl ?_
          refine G_iconst (v := 0) (dk_at dk_X6_next_1 10 rfl) (by decide) ?_
          refine K_pI pf_X6_86 (dk_at dk_X6_next_1 11 rfl) h (fun A36 h => ?_)
          exact h
      · replace h := h.2 c
        exact h
    · replace h := h.2 c
      refine G_aload_n 0 (dk_at dk_X6_next_0 26 rfl) rfl ?_
      refine G_iconst (v := 3) (dk_at dk_X6_next_0 27 rfl) (by decide) ?_
      refine K_pI pf_X6_76 (dk_at dk_X6_next_0 28 rfl) h (fun A37 h => ?_)
      refine G_goto (tgt := 212) (dk_at dk_X6_next_0 29 rfl) (by decide) ?_
      exact G_vret rfl (dk_at dk_X6_next_2 5 rfl) h
  · replace h := h.2 c
    refine G_aload_n 0 (dk_at dk_X6_next_0 10 rfl) rfl ?_
    refine G_dup (dk_at dk_X6_next_0 11 rfl) rfl ?_
    refine K_gI gf_X6_69 (dk_at dk_X6_next_0 12 rfl) h (fun i38 h => ?_)
    refine G_iconst (v := 1) (dk_at dk_X6_next_0 13 rfl) (by decide) ?_
    refine G_iadd (dk_at dk_X6_next_0 14 rfl) ?_
    refine K_pI pf_X6_69 (dk_at dk_X6_next_0 15 rfl) h (fun A39 h => ?_)
    refine G_goto (tgt := 8) (dk_at dk_X6_next_0 16 rfl) (by decide) ?_
    exact h
theorem k_X6_next_75 {l : Launch} {X : XT} {d : Nat} {Q : Ot → AH → Prop} {A : AH} {bc bs : Nat} {v0 : Nat} (h : gI A v0 7 10 fun i1 => isO A v0 7 ∧ Cal l X d bc bs M_X6_see [.ref v0, .int i1] A fun o5 A2 b3 c4 => rI o5 (fun E => Q (.inr E) A2) fun i6 => Cal l X d b3 c4 M_X6_isLetter [.int i6] A2 fun o10 A7 b8 c9 => rI o10 (fun E => Q (.inr E) A7) fun i11 => (i11 = 0 → pV A7 v0 7 11 (.int 0) fun A12 => Q Rv A12) ∧ (¬ i11 = 0 → gI A7 v0 7 10 fun i13 => pV A7 v0 7 10 (.int (i13 + 1)) fun A14 => G l X M_X6_next d Q 75 [(0, .ref v0)] [] A14 b8 c9)) : G l X M_X6_next d Q 75 [(0, .ref v0)] [] A bc bs := by
  refine G_aload_n 0 (dk_at dk_X6_next_0 36 rfl) rfl ?_
  refine G_aload_n 0 (dk_at dk_X6_next_0 37 rfl) rfl ?_
  refine K_gI gf_X6_66 (dk_at dk_X6_next_0 38 rfl) h (fun i1 h => ?_)
  obtain ⟨⟨_, ho⟩, h⟩ := h
  refine G_callV (As := [.int i1]) (rest := []) lk_X6_72 rfl (dk_at dk_X6_next_0 39 rfl) rfl rfl (Nat.le_of_ble_eq_true rfl) ho (h.mono fun o5 A2 b3 c4 h => aftI h fun i6 h => ?_)
  refine G_callS (As := [.int i6]) (rest := []) lk_X6_79 rfl (dk_at dk_X6_next_0 40 rfl) rfl rfl (Nat.le_of_ble_eq_true rfl) (h.mono fun o10 A7 b8 c9 h => aftI h fun i11 h => ?_)
  refine G_if_eq (tgt := 102) (dk_at dk_X6_next_0 41 rfl) (by decide) (fun c => ?_) (fun c => ?_)
  · replace h := h.1 c
    refine G_aload_n 0 (dk_at dk_X6_next_0 49 rfl) rfl ?_
    refine G_iconst (v := 0) (dk_at dk_X6_next_1 0 rfl) (by decide) ?_
    refine K_pI pf_X6_76 (dk_at dk_X6_next_1 1 rfl) h (fun A12 h => ?_)
    refine G_goto (tgt := 212) (dk_at dk_X6_next_1 2 rfl) (by decide) ?_
    exact G_vret rfl (dk_at dk_X6_next_2 5 rfl) h
  · replace h := h.2 c
    refine G_aload_n 0 (dk_at dk_X6_next_0 42 rfl) rfl ?_
    refine G_dup (dk_at dk_X6_next_0 43 rfl) rfl ?_
    refine K_gI gf_X6_66 (dk_at dk_X6_next_0 44 rfl) h (fun i13 h => ?_)
    refine G_iconst (v := 1) (dk_at dk_X6_next_0 45 rfl) (by decide) ?_
    refine G_iadd (dk_at dk_X6_next_0 46 rfl) ?_
    refine K_pI pf_X6_66 (dk_at dk_X6_next_0 47 rfl) h (fun A14 h => ?_)
    refine G_goto (tgt := 75) (dk_at dk_X6_next_0 48 rfl) (by decide) ?_
    exact h
theorem k_X6_next_129 {l : Launch} {X : XT} {d : Nat} {Q : Ot → AH → Prop} {A : AH} {bc bs : Nat} {v0 : Nat} (h : gI A v0 7 10 fun i1 => isO A v0 7 ∧ Cal l X d bc bs M_X6_see [.ref v0, .int i1] A fun o5 A2 b3 c4 => rI o5 (fun E => Q (.inr E) A2) fun i6 => Cal l X d b3 c4 M_X6_isDigit [.int i6] A2 fun o10 A7 b8 c9 => rI o10 (fun E => Q (.inr E) A7) fun i11 => (i11 = 0 → pV A7 v0 7 11 (.int 1) fun A12 => Q Rv A12) ∧ (¬ i11 = 0 → gI A7 v0 7 12 fun i13 => (10000 ≤ i13 → G l X M_X6_next d Q 176 [(0, .ref v0)] [] A7 b8 c9) ∧ (¬ 10000 ≤ i13 → gI A7 v0 7 12 fun i14 => gI A7 v0 7 10 fun i15 => isO A7 v0 7 ∧ Cal l X d b8 c9 M_X6_see [.ref v0, .int i15] A7 fun o19 A16 b17 c18 => rI o19 (fun E => Q (.inr E) A16) fun i20 => pV A16 v0 7 12 (.int (((10 * i14) + i20) - 48)) fun A21 => G l X M_X6_next d Q 176 [(0, .ref v0)] [] A21 b17 c18))) : G l X M_X6_next d Q 129 [(0, .ref v0)] [] A bc bs := by
  refine G_aload_n 0 (dk_at dk_X6_next_1 12 rfl) rfl ?_
  refine G_aload_n 0 (dk_at dk_X6_next_1 13 rfl) rfl ?_
  refine K_gI gf_X6_66 (dk_at dk_X6_next_1 14 rfl) h (fun i1 h => ?_)
  obtain ⟨⟨_, ho⟩, h⟩ := h
  refine G_callV (As := [.int i1]) (rest := []) lk_X6_72 rfl (dk_at dk_X6_next_1 15 rfl) rfl rfl (Nat.le_of_ble_eq_true rfl) ho (h.mono fun o5 A2 b3 c4 h => aftI h fun i6 h => ?_)
  refine G_callS (As := [.int i6]) (rest := []) lk_X6_83 rfl (dk_at dk_X6_next_1 16 rfl) rfl rfl (Nat.le_of_ble_eq_true rfl) (h.mono fun o10 A7 b8 c9 h => aftI h fun i11 h => ?_)
  refine G_if_eq (tgt := 189) (dk_at dk_X6_next_1 17 rfl) (by decide) (fun c => ?_) (fun c => ?_)
  · replace h := h.1 c
    refine G_aload_n 0 (dk_at dk_X6_next_1 42 rfl) rfl ?_
    refine G_iconst (v := 1) (dk_at dk_X6_next_1 43 rfl) (by decide) ?_
    refine K_pI pf_X6_76 (dk_at dk_X6_next_1 44 rfl) h (fun A12 h => ?_)
    refine G_goto (tgt := 212) (dk_at dk_X6_next_1 45 rfl) (by decide) ?_
    exact G_vret rfl (dk_at dk_X6_next_2 5 rfl) h
  · replace h := h.2 c
    refine G_aload_n 0 (dk_at dk_X6_next_1 18 rfl) rfl ?_
    refine K_gI gf_X6_86 (dk_at dk_X6_next_1 19 rfl) h (fun i13 h => ?_)
    refine G_sipush (v := 10000) (dk_at dk_X6_next_1 20 rfl) (by decide) ?_
    refine G_icmp_ge (tgt := 176) (dk_at dk_X6_next_1 21 rfl) (by decide) (fun c => ?_) (fun c => ?_)
    · replace h := h.1 c
      exact h
    · replace h := h.2 c
      refine G_aload_n 0 (dk_at dk_X6_next_1 22 rfl) rfl ?_
      refine G_bipush (v := 10) (dk_at dk_X6_next_1 23 rfl) (by decide) ?_
      refine G_aload_n 0 (dk_at dk_X6_next_1 24 rfl) rfl ?_
      refine K_gI gf_X6_86 (dk_at dk_X6_next_1 25 rfl) h (fun i14 h => ?_)
      refine G_imul (dk_at dk_X6_next_1 26 rfl) ?_
      refine G_aload_n 0 (dk_at dk_X6_next_1 27 rfl) rfl ?_
      refine G_aload_n 0 (dk_at dk_X6_next_1 28 rfl) rfl ?_
      refine K_gI gf_X6_66 (dk_at dk_X6_next_1 29 rfl) h (fun i15 h => ?_)
      obtain ⟨⟨_, ho⟩, h⟩ := h
      refine G_callV (As := [.int i15]) (rest := [.int (10 * i14), .ref v0]) lk_X6_72 rfl (dk_at dk_X6_next_1 30 rfl) rfl rfl (Nat.le_of_ble_eq_true rfl) ho (h.mono fun o19 A16 b17 c18 h => aftI h fun i20 h => ?_)
      refine G_iadd (dk_at dk_X6_next_1 31 rfl) ?_
      refine G_bipush (v := 48) (dk_at dk_X6_next_1 32 rfl) (by decide) ?_
      refine G_isub (dk_at dk_X6_next_1 33 rfl) ?_
      refine K_pI pf_X6_86 (dk_at dk_X6_next_1 34 rfl) h (fun A21 h => ?_)
      exact h
theorem k_X6_next_176 {l : Launch} {X : XT} {d : Nat} {Q : Ot → AH → Prop} {A : AH} {bc bs : Nat} {v0 : Nat} (h : gI A v0 7 10 fun i1 => pV A v0 7 10 (.int (i1 + 1)) fun A2 => G l X M_X6_next d Q 129 [(0, .ref v0)] [] A2 bc bs) : G l X M_X6_next d Q 176 [(0, .ref v0)] [] A bc bs := by
  refine G_aload_n 0 (dk_at dk_X6_next_1 35 rfl) rfl ?_
  refine G_dup (dk_at dk_X6_next_1 36 rfl) rfl ?_
  refine K_gI gf_X6_66 (dk_at dk_X6_next_1 37 rfl) h (fun i1 h => ?_)
  refine G_iconst (v := 1) (dk_at dk_X6_next_1 38 rfl) (by decide) ?_
  refine G_iadd (dk_at dk_X6_next_1 39 rfl) ?_
  refine K_pI pf_X6_66 (dk_at dk_X6_next_1 40 rfl) h (fun A2 h => ?_)
  refine G_goto (tgt := 129) (dk_at dk_X6_next_1 41 rfl) (by decide) ?_
  exact h
theorem k_X6_isWord_0 {l : Launch} {X : XT} {d : Nat} {Q : Ot → AH → Prop} {A : AH} {bc bs : Nat} {v0 : Nat} {v1 : Nat} (h : gI A v0 7 13 fun i1 => (¬ i1 = 0 → Q (Ri 0) A) ∧ (i1 = 0 → gI A v0 7 11 fun i2 => (¬ i2 = 0 → Q (Ri 0) A) ∧ (i2 = 0 → gI A v0 7 10 fun i3 => gI A v0 7 9 fun i4 => ∃ w10, v1 = xK X w10 ∧ w10 < 12 ∧ Cal l X d bc bs M_J0_length_8abf5 [.ref (xK X w10)] A fun o8 A5 b6 c7 => zI o8 fun i9 => ((i3 - i4) = i9 → G l X M_X6_isWord d Q 34 [(0, .ref v0), (1, .ref v1), (2, .int 0)] [] A5 b6 c7) ∧ (¬ (i3 - i4) = i9 → Q (Ri 0) A5)))) : G l X M_X6_isWord d Q 0 [(0, .ref v0), (1, .ref v1)] [] A bc bs := by
  refine G_aload_n 0 (dk_at dk_X6_isWord 0 rfl) rfl ?_
  refine K_gI gf_X6_89 (dk_at dk_X6_isWord 1 rfl) h (fun i1 h => ?_)
  refine G_if_ne (tgt := 30) (dk_at dk_X6_isWord 2 rfl) (by decide) (fun c => ?_) (fun c => ?_)
  · replace h := h.1 c
    refine G_iconst (v := 0) (dk_at dk_X6_isWord 14 rfl) (by decide) ?_
    exact G_iret (ty := .boolean) rfl rfl (dk_at dk_X6_isWord 15 rfl) h
  · replace h := h.2 c
    refine G_aload_n 0 (dk_at dk_X6_isWord 3 rfl) rfl ?_
    refine K_gI gf_X6_76 (dk_at dk_X6_isWord 4 rfl) h (fun i2 h => ?_)
    refine G_if_ne (tgt := 30) (dk_at dk_X6_isWord 5 rfl) (by decide) (fun c => ?_) (fun c => ?_)
    · replace h := h.1 c
      refine G_iconst (v := 0) (dk_at dk_X6_isWord 14 rfl) (by decide) ?_
      exact G_iret (ty := .boolean) rfl rfl (dk_at dk_X6_isWord 15 rfl) h
    · replace h := h.2 c
      refine G_aload_n 0 (dk_at dk_X6_isWord 6 rfl) rfl ?_
      refine K_gI gf_X6_66 (dk_at dk_X6_isWord 7 rfl) h (fun i3 h => ?_)
      refine G_aload_n 0 (dk_at dk_X6_isWord 8 rfl) rfl ?_
      refine K_gI gf_X6_69 (dk_at dk_X6_isWord 9 rfl) h (fun i4 h => ?_)
      refine G_isub (dk_at dk_X6_isWord 10 rfl) ?_
      refine G_aload_n 1 (dk_at dk_X6_isWord 11 rfl) rfl ?_
      obtain ⟨w10, ew10, hw10, h⟩ := h
      refine G_callVs (i := w10) (As := []) (rest := [.int (i3 - i4)]) hw10 lk_X6_92 (dk_at dk_X6_isWord 12 rfl) (by rw [ew10]; rfl) rfl (Nat.le_of_ble_eq_true rfl) (h.mono fun o8 A5 b6 c7 h => atfI h fun i9 h => ?_)
      refine G_icmp_eq (tgt := 32) (dk_at dk_X6_isWord 13 rfl) (by decide) (fun c => ?_) (fun c => ?_)
      · replace h := h.1 c
        refine G_iconst (v := 0) (dk_at dk_X6_isWord 16 rfl) (by decide) ?_
        refine G_istore_n (lv' := [(2, .int 0), (0, .ref v0), (1, .ref v1)]) (dk_at dk_X6_isWord 17 rfl) (by decide) rfl ?_
        refine G_sub [1, 2, 0] rfl ?_
        exact h
      · replace h := h.2 c
        refine G_iconst (v := 0) (dk_at dk_X6_isWord 14 rfl) (by decide) ?_
        exact G_iret (ty := .boolean) rfl rfl (dk_at dk_X6_isWord 15 rfl) h
theorem k_X6_isWord_34 {l : Launch} {X : XT} {d : Nat} {Q : Ot → AH → Prop} {A : AH} {bc bs : Nat} {v0 : Nat} {v1 : Nat} {v2 : Int32} (h : ∃ w6, v1 = xK X w6 ∧ w6 < 12 ∧ Cal l X d bc bs M_J0_length_8abf5 [.ref (xK X w6)] A fun o4 A1 b2 c3 => zI o4 fun i5 => (i5 ≤ v2 → Q (Ri 1) A1) ∧ (¬ i5 ≤ v2 → gR A1 v0 7 6 fun r7 => gI A1 v0 7 9 fun i8 => aI X A1 r7 (i8 + v2) fun i9 => ∃ w15, v1 = xK X w15 ∧ w15 < 12 ∧ Cal l X d b2 c3 M_J0_charAt_5068e [.ref (xK X w15), .int v2] A1 fun o13 A10 b11 c12 => zI o13 fun i14 => (i9 = i14 → G l X M_X6_isWord d Q 34 [(0, .ref v0), (1, .ref v1), (2, .int (v2 + 1))] [] A10 b11 c12) ∧ (¬ i9 = i14 → Q (Ri 0) A10))) : G l X M_X6_isWord d Q 34 [(0, .ref v0), (1, .ref v1), (2, .int v2)] [] A bc bs := by
  refine G_iload_n 2 (dk_at dk_X6_isWord 18 rfl) rfl ?_
  refine G_aload_n 1 (dk_at dk_X6_isWord 19 rfl) rfl ?_
  obtain ⟨w6, ew6, hw6, h⟩ := h
  refine G_callVs (i := w6) (As := []) (rest := [.int v2]) hw6 lk_X6_92 (dk_at dk_X6_isWord 20 rfl) (by rw [ew6]; rfl) rfl (Nat.le_of_ble_eq_true rfl) (h.mono fun o4 A1 b2 c3 h => atfI h fun i5 h => ?_)
  refine G_icmp_ge (tgt := 69) (dk_at dk_X6_isWord 21 rfl) (by decide) (fun c => ?_) (fun c => ?_)
  · replace h := h.1 c
    refine G_iconst (v := 1) (dk_at dk_X6_isWord 37 rfl) (by decide) ?_
    exact G_iret (ty := .boolean) rfl rfl (dk_at dk_X6_isWord 38 rfl) h
  · replace h := h.2 c
    refine G_aload_n 0 (dk_at dk_X6_isWord 22 rfl) rfl ?_
    refine K_gR gf_X6_22 (dk_at dk_X6_isWord 23 rfl) h (fun r7 h => ?_)
    refine G_aload_n 0 (dk_at dk_X6_isWord 24 rfl) rfl ?_
    refine K_gI gf_X6_69 (dk_at dk_X6_isWord 25 rfl) h (fun i8 h => ?_)
    refine G_iload_n 2 (dk_at dk_X6_isWord 26 rfl) rfl ?_
    refine G_iadd (dk_at dk_X6_isWord 27 rfl) ?_
    refine K_aI (dk_at dk_X6_isWord 28 rfl) h (fun i9 h => ?_)
    refine G_aload_n 1 (dk_at dk_X6_isWord 29 rfl) rfl ?_
    refine G_iload_n 2 (dk_at dk_X6_isWord 30 rfl) rfl ?_
    obtain ⟨w15, ew15, hw15, h⟩ := h
    refine G_callVs (i := w15) (As := [.int v2]) (rest := [.int i9]) hw15 lk_X6_98 (dk_at dk_X6_isWord 31 rfl) (by rw [ew15]; rfl) rfl (Nat.le_of_ble_eq_true rfl) (h.mono fun o13 A10 b11 c12 h => atfI h fun i14 h => ?_)
    refine G_icmp_eq (tgt := 63) (dk_at dk_X6_isWord 32 rfl) (by decide) (fun c => ?_) (fun c => ?_)
    · replace h := h.1 c
      refine G_iinc (v := v2 + 1) (lv' := [(2, .int (v2 + 1)), (0, .ref v0), (1, .ref v1)]) 2 (dk_at dk_X6_isWord 35 rfl) rfl rfl (by decide) rfl ?_
      refine G_goto (tgt := 34) (dk_at dk_X6_isWord 36 rfl) (by decide) ?_
      refine G_sub [1, 2, 0] rfl ?_
      exact h
    · replace h := h.2 c
      refine G_iconst (v := 0) (dk_at dk_X6_isWord 33 rfl) (by decide) ?_
      exact G_iret (ty := .boolean) rfl rfl (dk_at dk_X6_isWord 34 rfl) h
theorem k_X6_fails_0 {l : Launch} {X : XT} {d : Nat} {Q : Ot → AH → Prop} {A : AH} {bc bs : Nat} {v0 : Nat} {v1 : Int32} (h : gI A v0 7 13 fun i1 => (i1 = 0 → pV A v0 7 13 (.int v1) fun A2 => gI A2 v0 7 9 fun i3 => pV A2 v0 7 14 (.int i3) fun A4 => Q Rv A4) ∧ (¬ i1 = 0 → Q Rv A)) : G l X M_X6_fails d Q 0 [(0, .ref v0), (1, .int v1)] [] A bc bs := by
  refine G_aload_n 0 (dk_at dk_X6_fails 0 rfl) rfl ?_
  refine K_gI gf_X6_89 (dk_at dk_X6_fails 1 rfl) h (fun i1 h => ?_)
  refine G_if_eq (tgt := 8) (dk_at dk_X6_fails 2 rfl) (by decide) (fun c => ?_) (fun c => ?_)
  · replace h := h.1 c
    refine G_aload_n 0 (dk_at dk_X6_fails 4 rfl) rfl ?_
    refine G_iload_n 1 (dk_at dk_X6_fails 5 rfl) rfl ?_
    refine K_pI pf_X6_89 (dk_at dk_X6_fails 6 rfl) h (fun A2 h => ?_)
    refine G_aload_n 0 (dk_at dk_X6_fails 7 rfl) rfl ?_
    refine G_aload_n 0 (dk_at dk_X6_fails 8 rfl) rfl ?_
    refine K_gI gf_X6_69 (dk_at dk_X6_fails 9 rfl) h (fun i3 h => ?_)
    refine K_pI pf_X6_102 (dk_at dk_X6_fails 10 rfl) h (fun A4 h => ?_)
    exact G_vret rfl (dk_at dk_X6_fails 11 rfl) h
  · replace h := h.2 c
    exact G_vret rfl (dk_at dk_X6_fails 3 rfl) h
theorem k_X6_must_0 {l : Launch} {X : XT} {d : Nat} {Q : Ot → AH → Prop} {A : AH} {bc bs : Nat} {v0 : Nat} {v1 : Int32} (h : (¬ v1 = 0 → G l X M_X6_must d Q 10 [(0, .ref v0)] [] A bc bs) ∧ (v1 = 0 → isO A v0 7 ∧ Cal l X d bc bs M_X6_fails [.ref v0, .int ((-2))] A fun o4 A1 b2 c3 => rV o4 (fun E => Q (.inr E) A1) <| G l X M_X6_must d Q 10 [(0, .ref v0)] [] A1 b2 c3)) : G l X M_X6_must d Q 0 [(0, .ref v0), (1, .int v1)] [] A bc bs := by
  refine G_iload_n 1 (dk_at dk_X6_must 0 rfl) rfl ?_
  refine G_if_ne (tgt := 10) (dk_at dk_X6_must 1 rfl) (by decide) (fun c => ?_) (fun c => ?_)
  · replace h := h.1 c
    refine G_sub [0] rfl ?_
    exact h
  · replace h := h.2 c
    refine G_aload_n 0 (dk_at dk_X6_must 2 rfl) rfl ?_
    refine G_bipush (v := (-2)) (dk_at dk_X6_must 3 rfl) (by decide) ?_
    obtain ⟨⟨_, ho⟩, h⟩ := h
    refine G_callV (As := [.int ((-2))]) (rest := []) lk_X6_105 rfl (dk_at dk_X6_must 4 rfl) rfl rfl (Nat.le_of_ble_eq_true rfl) ho (h.mono fun o4 A1 b2 c3 h => aftV h fun h => ?_)
    refine G_sub [0] rfl ?_
    exact h
theorem k_X6_must_10 {l : Launch} {X : XT} {d : Nat} {Q : Ot → AH → Prop} {A : AH} {bc bs : Nat} {v0 : Nat} (h : gI A v0 7 13 fun i1 => (¬ i1 = 0 → Q Rv A) ∧ (i1 = 0 → isO A v0 7 ∧ Cal l X d bc bs M_X6_next [.ref v0] A fun o5 A2 b3 c4 => rV o5 (fun E => Q (.inr E) A2) <| Q Rv A2)) : G l X M_X6_must d Q 10 [(0, .ref v0)] [] A bc bs := by
  refine G_aload_n 0 (dk_at dk_X6_must 5 rfl) rfl ?_
  refine K_gI gf_X6_89 (dk_at dk_X6_must 6 rfl) h (fun i1 h => ?_)
  refine G_if_ne (tgt := 21) (dk_at dk_X6_must 7 rfl) (by decide) (fun c => ?_) (fun c => ?_)
  · replace h := h.1 c
    exact G_vret rfl (dk_at dk_X6_must 10 rfl) h
  · replace h := h.2 c
    refine G_aload_n 0 (dk_at dk_X6_must 8 rfl) rfl ?_
    obtain ⟨⟨_, ho⟩, h⟩ := h
    refine G_callV (As := []) (rest := []) lk_X6_109 rfl (dk_at dk_X6_must 9 rfl) rfl rfl (Nat.le_of_ble_eq_true rfl) ho (h.mono fun o5 A2 b3 c4 h => aftV h fun h => ?_)
    exact G_vret rfl (dk_at dk_X6_must 10 rfl) h
theorem k_X6_takes_0 {l : Launch} {X : XT} {d : Nat} {Q : Ot → AH → Prop} {A : AH} {bc bs : Nat} {v0 : Nat} {v1 : Int32} {v2 : Int32} (h : gI A v0 7 13 fun i1 => (¬ i1 = 0 → G l X M_X6_takes d Q 24 [(0, .ref v0), (1, .int v1), (2, .int v2)] [] A bc bs) ∧ (i1 = 0 → gI A v0 7 11 fun i2 => (i2 = 1 → G l X M_X6_takes d Q 24 [(0, .ref v0), (1, .int v1), (2, .int v2)] [] A bc bs) ∧ (¬ i2 = 1 → isO A v0 7 ∧ Cal l X d bc bs M_X6_fails [.ref v0, .int ((-2))] A fun o6 A3 b4 c5 => rV o6 (fun E => Q (.inr E) A3) <| G l X M_X6_takes d Q 49 [(0, .ref v0)] [] A3 b4 c5))) : G l X M_X6_takes d Q 0 [(0, .ref v0), (1, .int v1), (2, .int v2)] [] A bc bs := by
  refine G_aload_n 0 (dk_at dk_X6_takes 0 rfl) rfl ?_
  refine K_gI gf_X6_89 (dk_at dk_X6_takes 1 rfl) h (fun i1 h => ?_)
  refine G_if_ne (tgt := 24) (dk_at dk_X6_takes 2 rfl) (by decide) (fun c => ?_) (fun c => ?_)
  · replace h := h.1 c
    exact h
  · replace h := h.2 c
    refine G_aload_n 0 (dk_at dk_X6_takes 3 rfl) rfl ?_
    refine K_gI gf_X6_76 (dk_at dk_X6_takes 4 rfl) h (fun i2 h => ?_)
    refine G_iconst (v := 1) (dk_at dk_X6_takes 5 rfl) (by decide) ?_
    refine G_icmp_eq (tgt := 24) (dk_at dk_X6_takes 6 rfl) (by decide) (fun c => ?_) (fun c => ?_)
    · replace h := h.1 c
      exact h
    · replace h := h.2 c
      refine G_aload_n 0 (dk_at dk_X6_takes 7 rfl) rfl ?_
      refine G_bipush (v := (-2)) (dk_at dk_X6_takes 8 rfl) (by decide) ?_
      obtain ⟨⟨_, ho⟩, h⟩ := h
      refine G_callV (As := [.int ((-2))]) (rest := []) lk_X6_105 rfl (dk_at dk_X6_takes 9 rfl) rfl rfl (Nat.le_of_ble_eq_true rfl) ho (h.mono fun o6 A3 b4 c5 h => aftV h fun h => ?_)
      refine G_goto (tgt := 49) (dk_at dk_X6_takes 10 rfl) (by decide) ?_
      refine G_sub [0] rfl ?_
      exact h
theorem k_X6_takes_24 {l : Launch} {X : XT} {d : Nat} {Q : Ot → AH → Prop} {A : AH} {bc bs : Nat} {v0 : Nat} {v1 : Int32} {v2 : Int32} (h : gI A v0 7 13 fun i1 => (¬ i1 = 0 → G l X M_X6_takes d Q 49 [(0, .ref v0)] [] A bc bs) ∧ (i1 = 0 → gI A v0 7 12 fun i2 => Cal l X d bc bs M_X6_isIn [.int i2, .int v1, .int v2] A fun o6 A3 b4 c5 => rI o6 (fun E => Q (.inr E) A3) fun i7 => (¬ i7 = 0 → G l X M_X6_takes d Q 49 [(0, .ref v0)] [] A3 b4 c5) ∧ (i7 = 0 → isO A3 v0 7 ∧ Cal l X d b4 c5 M_X6_fails [.ref v0, .int ((-3))] A3 fun o11 A8 b9 c10 => rV o11 (fun E => Q (.inr E) A8) <| G l X M_X6_takes d Q 49 [(0, .ref v0)] [] A8 b9 c10))) : G l X M_X6_takes d Q 24 [(0, .ref v0), (1, .int v1), (2, .int v2)] [] A bc bs := by
  refine G_aload_n 0 (dk_at dk_X6_takes 11 rfl) rfl ?_
  refine K_gI gf_X6_89 (dk_at dk_X6_takes 12 rfl) h (fun i1 h => ?_)
  refine G_if_ne (tgt := 49) (dk_at dk_X6_takes 13 rfl) (by decide) (fun c => ?_) (fun c => ?_)
  · replace h := h.1 c
    refine G_sub [0] rfl ?_
    exact h
  · replace h := h.2 c
    refine G_aload_n 0 (dk_at dk_X6_takes 14 rfl) rfl ?_
    refine K_gI gf_X6_86 (dk_at dk_X6_takes 15 rfl) h (fun i2 h => ?_)
    refine G_iload_n 1 (dk_at dk_X6_takes 16 rfl) rfl ?_
    refine G_iload_n 2 (dk_at dk_X6_takes 17 rfl) rfl ?_
    refine G_callS (As := [.int i2, .int v1, .int v2]) (rest := []) lk_X6_62 rfl (dk_at dk_X6_takes 18 rfl) rfl rfl (Nat.le_of_ble_eq_true rfl) (h.mono fun o6 A3 b4 c5 h => aftI h fun i7 h => ?_)
    refine G_if_ne (tgt := 49) (dk_at dk_X6_takes 19 rfl) (by decide) (fun c => ?_) (fun c => ?_)
    · replace h := h.1 c
      refine G_sub [0] rfl ?_
      exact h
    · replace h := h.2 c
      refine G_aload_n 0 (dk_at dk_X6_takes 20 rfl) rfl ?_
      refine G_bipush (v := (-3)) (dk_at dk_X6_takes 21 rfl) (by decide) ?_
      obtain ⟨⟨_, ho⟩, h⟩ := h
      refine G_callV (As := [.int ((-3))]) (rest := []) lk_X6_105 rfl (dk_at dk_X6_takes 22 rfl) rfl rfl (Nat.le_of_ble_eq_true rfl) ho (h.mono fun o11 A8 b9 c10 h => aftV h fun h => ?_)
      refine G_sub [0] rfl ?_
      exact h
theorem k_X6_takes_49 {l : Launch} {X : XT} {d : Nat} {Q : Ot → AH → Prop} {A : AH} {bc bs : Nat} {v0 : Nat} (h : gI A v0 7 13 fun i1 => (¬ i1 = 0 → G l X M_X6_takes d Q 64 [(0, .ref v0)] [.int 0] A bc bs) ∧ (i1 = 0 → gI A v0 7 12 fun i2 => G l X M_X6_takes d Q 64 [(0, .ref v0)] [.int i2] A bc bs)) : G l X M_X6_takes d Q 49 [(0, .ref v0)] [] A bc bs := by
  refine G_aload_n 0 (dk_at dk_X6_takes 23 rfl) rfl ?_
  refine K_gI gf_X6_89 (dk_at dk_X6_takes 24 rfl) h (fun i1 h => ?_)
  refine G_if_ne (tgt := 63) (dk_at dk_X6_takes 25 rfl) (by decide) (fun c => ?_) (fun c => ?_)
  · replace h := h.1 c
    refine G_iconst (v := 0) (dk_at dk_X6_takes 29 rfl) (by decide) ?_
    exact h
  · replace h := h.2 c
    refine G_aload_n 0 (dk_at dk_X6_takes 26 rfl) rfl ?_
    refine K_gI gf_X6_86 (dk_at dk_X6_takes 27 rfl) h (fun i2 h => ?_)
    refine G_goto (tgt := 64) (dk_at dk_X6_takes 28 rfl) (by decide) ?_
    exact h
theorem k_X6_takes_64 {l : Launch} {X : XT} {d : Nat} {Q : Ot → AH → Prop} {A : AH} {bc bs : Nat} {v0 : Nat} {s0 : Int32} (h : gI A v0 7 13 fun i1 => (¬ i1 = 0 → Q (Ri s0) A) ∧ (i1 = 0 → isO A v0 7 ∧ Cal l X d bc bs M_X6_next [.ref v0] A fun o5 A2 b3 c4 => rV o5 (fun E => Q (.inr E) A2) <| Q (Ri s0) A2)) : G l X M_X6_takes d Q 64 [(0, .ref v0)] [.int s0] A bc bs := by
  refine G_istore_n (lv' := [(3, .int s0), (0, .ref v0)]) (dk_at dk_X6_takes 30 rfl) (by decide) rfl ?_
  refine G_aload_n 1 (dk_at dk_X6_takes 31 rfl) rfl ?_
  refine K_gI gf_X6_89 (dk_at dk_X6_takes 32 rfl) h (fun i1 h => ?_)
  refine G_if_ne (tgt := 76) (dk_at dk_X6_takes 33 rfl) (by decide) (fun c => ?_) (fun c => ?_)
  · replace h := h.1 c
    refine G_iload_n 0 (dk_at dk_X6_takes 36 rfl) rfl ?_
    exact G_iret (ty := .int) rfl rfl (dk_at dk_X6_takes 37 rfl) h
  · replace h := h.2 c
    refine G_aload_n 1 (dk_at dk_X6_takes 34 rfl) rfl ?_
    obtain ⟨⟨_, ho⟩, h⟩ := h
    refine G_callV (As := []) (rest := []) lk_X6_109 rfl (dk_at dk_X6_takes 35 rfl) rfl rfl (Nat.le_of_ble_eq_true rfl) ho (h.mono fun o5 A2 b3 c4 h => aftV h fun h => ?_)
    refine G_iload_n 0 (dk_at dk_X6_takes 36 rfl) rfl ?_
    exact G_iret (ty := .int) rfl rfl (dk_at dk_X6_takes 37 rfl) h
theorem k_X6_mustEnd_0 {l : Launch} {X : XT} {d : Nat} {Q : Ot → AH → Prop} {A : AH} {bc bs : Nat} {v0 : Nat} (h : gI A v0 7 11 fun i1 => (¬ i1 = 2 → G l X M_X6_mustEnd d Q 27 [] [.int 0, .ref v0] A bc bs) ∧ (i1 = 2 → gI A v0 7 9 fun i2 => isO A v0 7 ∧ Cal l X d bc bs M_X6_see [.ref v0, .int i2] A fun o6 A3 b4 c5 => rI o6 (fun E => Q (.inr E) A3) fun i7 => (¬ i7 = 59 → G l X M_X6_mustEnd d Q 27 [] [.int 0, .ref v0] A3 b4 c5) ∧ (i7 = 59 → G l X M_X6_mustEnd d Q 27 [] [.int 1, .ref v0] A3 b4 c5))) : G l X M_X6_mustEnd d Q 0 [(0, .ref v0)] [] A bc bs := by
  refine G_aload_n 0 (dk_at dk_X6_mustEnd 0 rfl) rfl ?_
  refine G_aload_n 0 (dk_at dk_X6_mustEnd 1 rfl) rfl ?_
  refine K_gI gf_X6_76 (dk_at dk_X6_mustEnd 2 rfl) h (fun i1 h => ?_)
  refine G_iconst (v := 2) (dk_at dk_X6_mustEnd 3 rfl) (by decide) ?_
  refine G_icmp_ne (tgt := 26) (dk_at dk_X6_mustEnd 4 rfl) (by decide) (fun c => ?_) (fun c => ?_)
  · replace h := h.1 c
    refine G_iconst (v := 0) (dk_at dk_X6_mustEnd 13 rfl) (by decide) ?_
    refine G_sub [] rfl ?_
    exact h
  · replace h := h.2 c
    refine G_aload_n 0 (dk_at dk_X6_mustEnd 5 rfl) rfl ?_
    refine G_aload_n 0 (dk_at dk_X6_mustEnd 6 rfl) rfl ?_
    refine K_gI gf_X6_69 (dk_at dk_X6_mustEnd 7 rfl) h (fun i2 h => ?_)
    obtain ⟨⟨_, ho⟩, h⟩ := h
    refine G_callV (As := [.int i2]) (rest := [.ref v0]) lk_X6_72 rfl (dk_at dk_X6_mustEnd 8 rfl) rfl rfl (Nat.le_of_ble_eq_true rfl) ho (h.mono fun o6 A3 b4 c5 h => aftI h fun i7 h => ?_)
    refine G_bipush (v := 59) (dk_at dk_X6_mustEnd 9 rfl) (by decide) ?_
    refine G_icmp_ne (tgt := 26) (dk_at dk_X6_mustEnd 10 rfl) (by decide) (fun c => ?_) (fun c => ?_)
    · replace h := h.1 c
      refine G_iconst (v := 0) (dk_at dk_X6_mustEnd 13 rfl) (by decide) ?_
      refine G_sub [] rfl ?_
      exact h
    · replace h := h.2 c
      refine G_iconst (v := 1) (dk_at dk_X6_mustEnd 11 rfl) (by decide) ?_
      refine G_goto (tgt := 27) (dk_at dk_X6_mustEnd 12 rfl) (by decide) ?_
      refine G_sub [] rfl ?_
      exact h
theorem k_X6_mustEnd_27 {l : Launch} {X : XT} {d : Nat} {Q : Ot → AH → Prop} {A : AH} {bc bs : Nat} {s0 : Int32} {s1 : Nat} (h : isO A s1 7 ∧ Cal l X d bc bs M_X6_must [.ref s1, .int s0] A fun o4 A1 b2 c3 => rV o4 (fun E => Q (.inr E) A1) <| Q Rv A1) : G l X M_X6_mustEnd d Q 27 [] [.int s0, .ref s1] A bc bs := by
  obtain ⟨⟨_, ho⟩, h⟩ := h
  refine G_callV (As := [.int s0]) (rest := []) lk_X6_112 rfl (dk_at dk_X6_mustEnd 14 rfl) rfl rfl (Nat.le_of_ble_eq_true rfl) ho (h.mono fun o4 A1 b2 c3 h => aftV h fun h => ?_)
  exact G_vret rfl (dk_at dk_X6_mustEnd 15 rfl) h
theorem k_X6_readsHead_0 {l : Launch} {X : XT} {d : Nat} {Q : Ot → AH → Prop} {A : AH} {bc bs : Nat} {v0 : Nat} (h : isO A v0 7 ∧ Cal l X d bc bs M_X6_isWord [.ref v0, .ref (xK X 6)] A fun o4 A1 b2 c3 => rI o4 (fun E => Q (.inr E) A1) fun i5 => isO A1 v0 7 ∧ Cal l X d b2 c3 M_X6_must [.ref v0, .int i5] A1 fun o9 A6 b7 c8 => rV o9 (fun E => Q (.inr E) A6) <| isO A6 v0 7 ∧ Cal l X d b7 c8 M_X6_takes [.ref v0, .int 1, .int 240] A6 fun o13 A10 b11 c12 => rI o13 (fun E => Q (.inr E) A10) fun i14 => isO A10 v0 7 ∧ Cal l X d b11 c12 M_X6_takes [.ref v0, .int 0, .int 999] A10 fun o18 A15 b16 c17 => rI o18 (fun E => Q (.inr E) A15) fun i19 => isO A15 v0 7 ∧ Cal l X d b16 c17 M_X6_isWord [.ref v0, .ref (xK X 7)] A15 fun o23 A20 b21 c22 => rI o23 (fun E => Q (.inr E) A20) fun i24 => isO A20 v0 7 ∧ Cal l X d b21 c22 M_X6_must [.ref v0, .int i24] A20 fun o28 A25 b26 c27 => rV o28 (fun E => Q (.inr E) A25) <| isO A25 v0 7 ∧ Cal l X d b26 c27 M_X6_takes [.ref v0, .int 4, .int 48] A25 fun o32 A29 b30 c31 => rI o32 (fun E => Q (.inr E) A29) fun i33 => isO A29 v0 7 ∧ Cal l X d b30 c31 M_X6_takes [.ref v0, .int 1, .int i33] A29 fun o37 A34 b35 c36 => rI o37 (fun E => Q (.inr E) A34) fun i38 => isO A34 v0 7 ∧ Cal l X d b35 c36 M_X6_mustEnd [.ref v0] A34 fun o42 A39 b40 c41 => rV o42 (fun E => Q (.inr E) A39) <| gI A39 v0 7 13 fun i43 => (i43 = 0 → isO A39 v0 7 ∧ Cal l X d b40 c41 M_X6_begins [.ref v0, .int i14, .int i19] A39 fun o47 A44 b45 c46 => rV o47 (fun E => Q (.inr E) A44) <| gR A44 v0 7 1 fun r48 => sI X A44 r48 2 i33 fun A49 => gR A49 v0 7 1 fun r50 => sI X A49 r50 3 i38 fun A51 => Q Rv A51) ∧ (¬ i43 = 0 → Q Rv A39)) : G l X M_X6_readsHead d Q 0 [(0, .ref v0)] [] A bc bs := by
  refine G_aload_n 0 (dk_at dk_X6_readsHead 0 rfl) rfl ?_
  refine G_aload_n 0 (dk_at dk_X6_readsHead 1 rfl) rfl ?_
  refine G_ldcS (i := 6) (own := "PieceTransferModel") rfl rfl (dk_at dk_X6_readsHead 2 rfl) ?_
  obtain ⟨⟨_, ho⟩, h⟩ := h
  refine G_callV (As := [.ref (xK X 6)]) (rest := [.ref v0]) lk_X6_118 rfl (dk_at dk_X6_readsHead 3 rfl) rfl rfl (Nat.le_of_ble_eq_true rfl) ho (h.mono fun o4 A1 b2 c3 h => aftI h fun i5 h => ?_)
  obtain ⟨⟨_, ho⟩, h⟩ := h
  refine G_callV (As := [.int i5]) (rest := []) lk_X6_112 rfl (dk_at dk_X6_readsHead 4 rfl) rfl rfl (Nat.le_of_ble_eq_true rfl) ho (h.mono fun o9 A6 b7 c8 h => aftV h fun h => ?_)
  refine G_aload_n 0 (dk_at dk_X6_readsHead 5 rfl) rfl ?_
  refine G_iconst (v := 1) (dk_at dk_X6_readsHead 6 rfl) (by decide) ?_
  refine G_sipush (v := 240) (dk_at dk_X6_readsHead 7 rfl) (by decide) ?_
  obtain ⟨⟨_, ho⟩, h⟩ := h
  refine G_callV (As := [.int 1, .int 240]) (rest := []) lk_X6_122 rfl (dk_at dk_X6_readsHead 8 rfl) rfl rfl (Nat.le_of_ble_eq_true rfl) ho (h.mono fun o13 A10 b11 c12 h => aftI h fun i14 h => ?_)
  refine G_istore_n (lv' := [(1, .int i14), (0, .ref v0)]) (dk_at dk_X6_readsHead 9 rfl) (by decide) rfl ?_
  refine G_aload_n 1 (dk_at dk_X6_readsHead 10 rfl) rfl ?_
  refine G_iconst (v := 0) (dk_at dk_X6_readsHead 11 rfl) (by decide) ?_
  refine G_sipush (v := 999) (dk_at dk_X6_readsHead 12 rfl) (by decide) ?_
  obtain ⟨⟨_, ho⟩, h⟩ := h
  refine G_callV (As := [.int 0, .int 999]) (rest := []) lk_X6_122 rfl (dk_at dk_X6_readsHead 13 rfl) rfl rfl (Nat.le_of_ble_eq_true rfl) ho (h.mono fun o18 A15 b16 c17 h => aftI h fun i19 h => ?_)
  refine G_istore_n (lv' := [(2, .int i19), (1, .int i14), (0, .ref v0)]) (dk_at dk_X6_readsHead 14 rfl) (by decide) rfl ?_
  refine G_aload_n 2 (dk_at dk_X6_readsHead 15 rfl) rfl ?_
  refine G_aload_n 2 (dk_at dk_X6_readsHead 16 rfl) rfl ?_
  refine G_ldcS (i := 7) (own := "PieceTransferModel") rfl rfl (dk_at dk_X6_readsHead 17 rfl) ?_
  obtain ⟨⟨_, ho⟩, h⟩ := h
  refine G_callV (As := [.ref (xK X 7)]) (rest := [.ref v0]) lk_X6_118 rfl (dk_at dk_X6_readsHead 18 rfl) rfl rfl (Nat.le_of_ble_eq_true rfl) ho (h.mono fun o23 A20 b21 c22 h => aftI h fun i24 h => ?_)
  obtain ⟨⟨_, ho⟩, h⟩ := h
  refine G_callV (As := [.int i24]) (rest := []) lk_X6_112 rfl (dk_at dk_X6_readsHead 19 rfl) rfl rfl (Nat.le_of_ble_eq_true rfl) ho (h.mono fun o28 A25 b26 c27 h => aftV h fun h => ?_)
  refine G_aload_n 2 (dk_at dk_X6_readsHead 20 rfl) rfl ?_
  refine G_iconst (v := 4) (dk_at dk_X6_readsHead 21 rfl) (by decide) ?_
  refine G_bipush (v := 48) (dk_at dk_X6_readsHead 22 rfl) (by decide) ?_
  obtain ⟨⟨_, ho⟩, h⟩ := h
  refine G_callV (As := [.int 4, .int 48]) (rest := []) lk_X6_122 rfl (dk_at dk_X6_readsHead 23 rfl) rfl rfl (Nat.le_of_ble_eq_true rfl) ho (h.mono fun o32 A29 b30 c31 h => aftI h fun i33 h => ?_)
  refine G_istore_n (lv' := [(3, .int i33), (2, .int i19), (1, .int i14), (0, .ref v0)]) (dk_at dk_X6_readsHead 24 rfl) (by decide) rfl ?_
  refine G_aload_n 3 (dk_at dk_X6_readsHead 25 rfl) rfl ?_
  refine G_iconst (v := 1) (dk_at dk_X6_readsHead 26 rfl) (by decide) ?_
  refine G_iload_n 0 (dk_at dk_X6_readsHead 27 rfl) rfl ?_
  obtain ⟨⟨_, ho⟩, h⟩ := h
  refine G_callV (As := [.int 1, .int i33]) (rest := []) lk_X6_122 rfl (dk_at dk_X6_readsHead 28 rfl) rfl rfl (Nat.le_of_ble_eq_true rfl) ho (h.mono fun o37 A34 b35 c36 h => aftI h fun i38 h => ?_)
  refine G_istore (lv' := [(4, .int i38), (3, .int i33), (2, .int i19), (1, .int i14), (0, .ref v0)]) (dk_at dk_X6_readsHead 29 rfl) (by decide) rfl ?_
  refine G_aload_n 4 (dk_at dk_X6_readsHead 30 rfl) rfl ?_
  obtain ⟨⟨_, ho⟩, h⟩ := h
  refine G_callV (As := []) (rest := []) lk_X6_128 rfl (dk_at dk_X6_readsHead 31 rfl) rfl rfl (Nat.le_of_ble_eq_true rfl) ho (h.mono fun o42 A39 b40 c41 h => aftV h fun h => ?_)
  refine G_aload_n 4 (dk_at dk_X6_readsHead 32 rfl) rfl ?_
  refine K_gI gf_X6_89 (dk_at dk_X6_readsHead 33 rfl) h (fun i43 h => ?_)
  refine G_if_eq (tgt := 66) (dk_at dk_X6_readsHead 34 rfl) (by decide) (fun c => ?_) (fun c => ?_)
  · replace h := h.1 c
    refine G_aload_n 4 (dk_at dk_X6_readsHead 36 rfl) rfl ?_
    refine G_iload_n 3 (dk_at dk_X6_readsHead 37 rfl) rfl ?_
    refine G_iload_n 2 (dk_at dk_X6_readsHead 38 rfl) rfl ?_
    obtain ⟨⟨_, ho⟩, h⟩ := h
    refine G_callV (As := [.int i14, .int i19]) (rest := []) lk_X6_42 rfl (dk_at dk_X6_readsHead 39 rfl) rfl rfl (Nat.le_of_ble_eq_true rfl) ho (h.mono fun o47 A44 b45 c46 h => aftV h fun h => ?_)
    refine G_aload_n 4 (dk_at dk_X6_readsHead 40 rfl) rfl ?_
    refine K_gR gf_X6_13 (dk_at dk_X6_readsHead 41 rfl) h (fun r48 h => ?_)
    refine G_iconst (v := 2) (dk_at dk_X6_readsHead 42 rfl) (by decide) ?_
    refine G_iload_n 1 (dk_at dk_X6_readsHead 43 rfl) rfl ?_
    refine K_sI (dk_at dk_X6_readsHead 44 rfl) h (fun A49 h => ?_)
    refine G_aload_n 4 (dk_at dk_X6_readsHead 45 rfl) rfl ?_
    refine K_gR gf_X6_13 (dk_at dk_X6_readsHead 46 rfl) h (fun r50 h => ?_)
    refine G_iconst (v := 3) (dk_at dk_X6_readsHead 47 rfl) (by decide) ?_
    refine G_iload 0 (dk_at dk_X6_readsHead 48 rfl) rfl ?_
    refine K_sI (dk_at dk_X6_readsHead 49 rfl) h (fun A51 h => ?_)
    exact G_vret rfl (dk_at dk_X6_readsHead 50 rfl) h
  · replace h := h.2 c
    exact G_vret rfl (dk_at dk_X6_readsHead 35 rfl) h
theorem k_X6_begun_0 {l : Launch} {X : XT} {d : Nat} {Q : Ot → AH → Prop} {A : AH} {bc bs : Nat} {v0 : Nat} {v1 : Int32} {v2 : Int32} {v3 : Int32} {v4 : Int32} (h : gR A v0 7 1 fun r1 => aI X A r1 v1 fun i2 => (¬ i2 = v2 → G l X M_X6_begun d Q 16 [(0, .ref v0), (1, .int v1), (3, .int v3), (4, .int v4)] [] A bc bs) ∧ (i2 = v2 → isO A v0 7 ∧ Cal l X d bc bs M_X6_fails [.ref v0, .int ((-4))] A fun o6 A3 b4 c5 => rV o6 (fun E => Q (.inr E) A3) <| G l X M_X6_begun d Q 16 [(0, .ref v0), (1, .int v1), (3, .int v3), (4, .int v4)] [] A3 b4 c5)) : G l X M_X6_begun d Q 0 [(0, .ref v0), (1, .int v1), (2, .int v2), (3, .int v3), (4, .int v4)] [] A bc bs := by
  refine G_aload_n 0 (dk_at dk_X6_begun 0 rfl) rfl ?_
  refine K_gR gf_X6_13 (dk_at dk_X6_begun 1 rfl) h (fun r1 h => ?_)
  refine G_iload_n 1 (dk_at dk_X6_begun 2 rfl) rfl ?_
  refine K_aI (dk_at dk_X6_begun 3 rfl) h (fun i2 h => ?_)
  refine G_iload_n 2 (dk_at dk_X6_begun 4 rfl) rfl ?_
  refine G_icmp_ne (tgt := 16) (dk_at dk_X6_begun 5 rfl) (by decide) (fun c => ?_) (fun c => ?_)
  · replace h := h.1 c
    refine G_sub [0, 1, 3, 4] rfl ?_
    exact h
  · replace h := h.2 c
    refine G_aload_n 0 (dk_at dk_X6_begun 6 rfl) rfl ?_
    refine G_bipush (v := (-4)) (dk_at dk_X6_begun 7 rfl) (by decide) ?_
    obtain ⟨⟨_, ho⟩, h⟩ := h
    refine G_callV (As := [.int ((-4))]) (rest := []) lk_X6_105 rfl (dk_at dk_X6_begun 8 rfl) rfl rfl (Nat.le_of_ble_eq_true rfl) ho (h.mono fun o6 A3 b4 c5 h => aftV h fun h => ?_)
    refine G_sub [0, 1, 3, 4] rfl ?_
    exact h
theorem k_X6_begun_16 {l : Launch} {X : XT} {d : Nat} {Q : Ot → AH → Prop} {A : AH} {bc bs : Nat} {v0 : Nat} {v1 : Int32} {v3 : Int32} {v4 : Int32} (h : isO A v0 7 ∧ Cal l X d bc bs M_X6_must [.ref v0, .int 1] A fun o4 A1 b2 c3 => rV o4 (fun E => Q (.inr E) A1) <| gR A1 v0 7 1 fun r5 => aI X A1 r5 v1 fun i6 => gR A1 v0 7 1 fun r7 => aI X A1 r7 v1 fun i8 => gI A1 v0 7 13 fun i9 => (¬ i9 = 0 → G l X M_X6_begun d Q 53 [(5, .int (v3 + (v4 * i6)))] [.int 0, .int i8, .int v1, .ref r7] A1 b2 c3) ∧ (i9 = 0 → G l X M_X6_begun d Q 53 [(5, .int (v3 + (v4 * i6)))] [.int 1, .int i8, .int v1, .ref r7] A1 b2 c3)) : G l X M_X6_begun d Q 16 [(0, .ref v0), (1, .int v1), (3, .int v3), (4, .int v4)] [] A bc bs := by
  refine G_aload_n 0 (dk_at dk_X6_begun 9 rfl) rfl ?_
  refine G_iconst (v := 1) (dk_at dk_X6_begun 10 rfl) (by decide) ?_
  obtain ⟨⟨_, ho⟩, h⟩ := h
  refine G_callV (As := [.int 1]) (rest := []) lk_X6_112 rfl (dk_at dk_X6_begun 11 rfl) rfl rfl (Nat.le_of_ble_eq_true rfl) ho (h.mono fun o4 A1 b2 c3 h => aftV h fun h => ?_)
  refine G_iload_n 2 (dk_at dk_X6_begun 12 rfl) rfl ?_
  refine G_iload 3 (dk_at dk_X6_begun 13 rfl) rfl ?_
  refine G_aload_n 0 (dk_at dk_X6_begun 14 rfl) rfl ?_
  refine K_gR gf_X6_13 (dk_at dk_X6_begun 15 rfl) h (fun r5 h => ?_)
  refine G_iload_n 1 (dk_at dk_X6_begun 16 rfl) rfl ?_
  refine K_aI (dk_at dk_X6_begun 17 rfl) h (fun i6 h => ?_)
  refine G_imul (dk_at dk_X6_begun 18 rfl) ?_
  refine G_iadd (dk_at dk_X6_begun 19 rfl) ?_
  refine G_istore (lv' := [(5, .int (v3 + (v4 * i6))), (0, .ref v0), (1, .int v1), (3, .int v3), (4, .int v4)]) (dk_at dk_X6_begun 20 rfl) (by decide) rfl ?_
  refine G_aload_n 1 (dk_at dk_X6_begun 21 rfl) rfl ?_
  refine K_gR gf_X6_13 (dk_at dk_X6_begun 22 rfl) h (fun r7 h => ?_)
  refine G_iload_n 2 (dk_at dk_X6_begun 23 rfl) rfl ?_
  refine G_dup2 (dk_at dk_X6_begun 24 rfl) rfl rfl ?_
  refine K_aI (dk_at dk_X6_begun 25 rfl) h (fun i8 h => ?_)
  refine G_aload_n 1 (dk_at dk_X6_begun 26 rfl) rfl ?_
  refine K_gI gf_X6_89 (dk_at dk_X6_begun 27 rfl) h (fun i9 h => ?_)
  refine G_if_ne (tgt := 52) (dk_at dk_X6_begun 28 rfl) (by decide) (fun c => ?_) (fun c => ?_)
  · replace h := h.1 c
    refine G_iconst (v := 0) (dk_at dk_X6_begun 31 rfl) (by decide) ?_
    refine G_sub [0] rfl ?_
    exact h
  · replace h := h.2 c
    refine G_iconst (v := 1) (dk_at dk_X6_begun 29 rfl) (by decide) ?_
    refine G_goto (tgt := 53) (dk_at dk_X6_begun 30 rfl) (by decide) ?_
    refine G_sub [0] rfl ?_
    exact h
theorem k_X6_begun_53 {l : Launch} {X : XT} {d : Nat} {Q : Ot → AH → Prop} {A : AH} {bc bs : Nat} {v5 : Int32} {s0 : Int32} {s1 : Int32} {s2 : Int32} {s3 : Nat} (h : sI X A s3 s2 (s1 + s0) fun A1 => Q (Ri v5) A1) : G l X M_X6_begun d Q 53 [(5, .int v5)] [.int s0, .int s1, .int s2, .ref s3] A bc bs := by
  refine G_iadd (dk_at dk_X6_begun 32 rfl) ?_
  refine K_sI (dk_at dk_X6_begun 33 rfl) h (fun A1 h => ?_)
  refine G_iload 0 (dk_at dk_X6_begun 34 rfl) rfl ?_
  exact G_iret (ty := .int) rfl rfl (dk_at dk_X6_begun 35 rfl) h
theorem k_X6_lays_0 {l : Launch} {X : XT} {d : Nat} {Q : Ot → AH → Prop} {A : AH} {bc bs : Nat} {v0 : Nat} {v1 : Int32} {v2 : Int32} {v3 : Int32} (h : isO A v0 7 ∧ Cal l X d bc bs M_X6_takes [.ref v0, .int v2, .int v3] A fun o4 A1 b2 c3 => rI o4 (fun E => Q (.inr E) A1) fun i5 => gI A1 v0 7 13 fun i6 => (¬ i6 = 0 → Q Rv A1) ∧ (i6 = 0 → gR A1 v0 7 1 fun r7 => sI X A1 r7 v1 i5 fun A8 => Q Rv A8)) : G l X M_X6_lays d Q 0 [(0, .ref v0), (1, .int v1), (2, .int v2), (3, .int v3)] [] A bc bs := by
  refine G_aload_n 0 (dk_at dk_X6_lays 0 rfl) rfl ?_
  refine G_iload_n 2 (dk_at dk_X6_lays 1 rfl) rfl ?_
  refine G_iload_n 3 (dk_at dk_X6_lays 2 rfl) rfl ?_
  obtain ⟨⟨_, ho⟩, h⟩ := h
  refine G_callV (As := [.int v2, .int v3]) (rest := []) lk_X6_122 rfl (dk_at dk_X6_lays 3 rfl) rfl rfl (Nat.le_of_ble_eq_true rfl) ho (h.mono fun o4 A1 b2 c3 h => aftI h fun i5 h => ?_)
  refine G_istore (lv' := [(4, .int i5), (0, .ref v0), (1, .int v1), (2, .int v2), (3, .int v3)]) (dk_at dk_X6_lays 4 rfl) (by decide) rfl ?_
  refine G_aload_n 1 (dk_at dk_X6_lays 5 rfl) rfl ?_
  refine K_gI gf_X6_89 (dk_at dk_X6_lays 6 rfl) h (fun i6 h => ?_)
  refine G_if_ne (tgt := 23) (dk_at dk_X6_lays 7 rfl) (by decide) (fun c => ?_) (fun c => ?_)
  · replace h := h.1 c
    exact G_vret rfl (dk_at dk_X6_lays 13 rfl) h
  · replace h := h.2 c
    refine G_aload_n 1 (dk_at dk_X6_lays 8 rfl) rfl ?_
    refine K_gR gf_X6_13 (dk_at dk_X6_lays 9 rfl) h (fun r7 h => ?_)
    refine G_iload_n 2 (dk_at dk_X6_lays 10 rfl) rfl ?_
    refine G_iload 0 (dk_at dk_X6_lays 11 rfl) rfl ?_
    refine K_sI (dk_at dk_X6_lays 12 rfl) h (fun A8 h => ?_)
    exact G_vret rfl (dk_at dk_X6_lays 13 rfl) h
theorem k_X6_readsStatement_0 {l : Launch} {X : XT} {d : Nat} {Q : Ot → AH → Prop} {A : AH} {bc bs : Nat} {v0 : Nat} (h : isO A v0 7 ∧ Cal l X d bc bs M_X6_isWord [.ref v0, .ref (xK X 8)] A fun o4 A1 b2 c3 => rI o4 (fun E => Q (.inr E) A1) fun i5 => (i5 = 0 → isO A1 v0 7 ∧ Cal l X d b2 c3 M_X6_isWord [.ref v0, .ref (xK X 9)] A1 fun o9 A6 b7 c8 => rI o9 (fun E => Q (.inr E) A6) fun i10 => (i10 = 0 → isO A6 v0 7 ∧ Cal l X d b7 c8 M_X6_isWord [.ref v0, .ref (xK X 10)] A6 fun o14 A11 b12 c13 => rI o14 (fun E => Q (.inr E) A11) fun i15 => (i15 = 0 → isO A11 v0 7 ∧ Cal l X d b12 c13 M_X6_isWord [.ref v0, .ref (xK X 11)] A11 fun o19 A16 b17 c18 => rI o19 (fun E => Q (.inr E) A16) fun i20 => (i20 = 0 → isO A16 v0 7 ∧ Cal l X d b17 c18 M_X6_fails [.ref v0, .int ((-2))] A16 fun o24 A21 b22 c23 => rV o24 (fun E => Q (.inr E) A21) <| G l X M_X6_readsStatement d Q 176 [(0, .ref v0)] [] A21 b22 c23) ∧ (¬ i20 = 0 → isO A16 v0 7 ∧ Cal l X d b17 c18 M_X6_must [.ref v0, .int 1] A16 fun o28 A25 b26 c27 => rV o28 (fun E => Q (.inr E) A25) <| isO A25 v0 7 ∧ Cal l X d b26 c27 M_X6_lays [.ref v0, .int 4, .int 1, .int 99] A25 fun o32 A29 b30 c31 => rV o32 (fun E => Q (.inr E) A29) <| G l X M_X6_readsStatement d Q 176 [(0, .ref v0)] [] A29 b30 c31)) ∧ (¬ i15 = 0 → isO A11 v0 7 ∧ Cal l X d b12 c13 M_X6_begun [.ref v0, .int 12, .int 8, .int 80, .int 2] A11 fun o36 A33 b34 c35 => rI o36 (fun E => Q (.inr E) A33) fun i37 => isO A33 v0 7 ∧ Cal l X d b34 c35 M_X6_lays [.ref v0, .int i37, .int 0, .int 1] A33 fun o41 A38 b39 c40 => rV o41 (fun E => Q (.inr E) A38) <| isO A38 v0 7 ∧ Cal l X d b39 c40 M_X6_lays [.ref v0, .int (i37 + 1), .int 1, .int 999] A38 fun o45 A42 b43 c44 => rV o45 (fun E => Q (.inr E) A42) <| G l X M_X6_readsStatement d Q 176 [(0, .ref v0)] [] A42 b43 c44)) ∧ (¬ i10 = 0 → isO A6 v0 7 ∧ Cal l X d b7 c8 M_X6_begun [.ref v0, .int 11, .int 12, .int 44, .int 3] A6 fun o49 A46 b47 c48 => rI o49 (fun E => Q (.inr E) A46) fun i50 => isO A46 v0 7 ∧ Cal l X d b47 c48 M_X6_lays [.ref v0, .int i50, .int 1, .int 999] A46 fun o54 A51 b52 c53 => rV o54 (fun E => Q (.inr E) A51) <| isO A51 v0 7 ∧ Cal l X d b52 c53 M_X6_lays [.ref v0, .int (i50 + 1), .int 0, .int 47] A51 fun o58 A55 b56 c57 => rV o58 (fun E => Q (.inr E) A55) <| isO A55 v0 7 ∧ Cal l X d b56 c57 M_X6_lays [.ref v0, .int (i50 + 2), .int 1, .int 255] A55 fun o62 A59 b60 c61 => rV o62 (fun E => Q (.inr E) A59) <| G l X M_X6_readsStatement d Q 176 [(0, .ref v0)] [] A59 b60 c61)) ∧ (¬ i5 = 0 → isO A1 v0 7 ∧ Cal l X d b2 c3 M_X6_begun [.ref v0, .int 10, .int 12, .int 20, .int 2] A1 fun o66 A63 b64 c65 => rI o66 (fun E => Q (.inr E) A63) fun i67 => gR A63 v0 7 1 fun r68 => aI X A63 r68 0 fun i69 => isO A63 v0 7 ∧ Cal l X d b64 c65 M_X6_lays [.ref v0, .int i67, .int 0, .int (i69 - 1)] A63 fun o73 A70 b71 c72 => rV o73 (fun E => Q (.inr E) A70) <| isO A70 v0 7 ∧ Cal l X d b71 c72 M_X6_lays [.ref v0, .int (i67 + 1), .int 1, .int 255] A70 fun o77 A74 b75 c76 => rV o77 (fun E => Q (.inr E) A74) <| G l X M_X6_readsStatement d Q 176 [(0, .ref v0)] [] A74 b75 c76)) : G l X M_X6_readsStatement d Q 0 [(0, .ref v0)] [] A bc bs := by
  refine G_aload_n 0 (dk_at dk_X6_readsStatement_0 0 rfl) rfl ?_
  refine G_ldcS (i := 8) (own := "PieceTransferModel") rfl rfl (dk_at dk_X6_readsStatement_0 1 rfl) ?_
  obtain ⟨⟨_, ho⟩, h⟩ := h
  refine G_callV (As := [.ref (xK X 8)]) (rest := []) lk_X6_118 rfl (dk_at dk_X6_readsStatement_0 2 rfl) rfl rfl (Nat.le_of_ble_eq_true rfl) ho (h.mono fun o4 A1 b2 c3 h => aftI h fun i5 h => ?_)
  refine G_if_eq (tgt := 49) (dk_at dk_X6_readsStatement_0 3 rfl) (by decide) (fun c => ?_) (fun c => ?_)
  · replace h := h.1 c
    refine G_aload_n 0 (dk_at dk_X6_readsStatement_0 29 rfl) rfl ?_
    refine G_ldcS (i := 9) (own := "PieceTransferModel") rfl rfl (dk_at dk_X6_readsStatement_0 30 rfl) ?_
    obtain ⟨⟨_, ho⟩, h⟩ := h
    refine G_callV (As := [.ref (xK X 9)]) (rest := []) lk_X6_118 rfl (dk_at dk_X6_readsStatement_0 31 rfl) rfl rfl (Nat.le_of_ble_eq_true rfl) ho (h.mono fun o9 A6 b7 c8 h => aftI h fun i10 h => ?_)
    refine G_if_eq (tgt := 103) (dk_at dk_X6_readsStatement_0 32 rfl) (by decide) (fun c => ?_) (fun c => ?_)
    · replace h := h.1 c
      refine G_aload_n 0 (dk_at dk_X6_readsStatement_1 10 rfl) rfl ?_
      refine G_ldcS (i := 10) (own := "PieceTransferModel") rfl rfl (dk_at dk_X6_readsStatement_1 11 rfl) ?_
      obtain ⟨⟨_, ho⟩, h⟩ := h
      refine G_callV (As := [.ref (xK X 10)]) (rest := []) lk_X6_118 rfl (dk_at dk_X6_readsStatement_1 12 rfl) rfl rfl (Nat.le_of_ble_eq_true rfl) ho (h.mono fun o14 A11 b12 c13 h => aftI h fun i15 h => ?_)
      refine G_if_eq (tgt := 145) (dk_at dk_X6_readsStatement_1 13 rfl) (by decide) (fun c => ?_) (fun c => ?_)
      · replace h := h.1 c
        refine G_aload_n 0 (dk_at dk_X6_readsStatement_1 34 rfl) rfl ?_
        refine G_ldcS (i := 11) (own := "PieceTransferModel") rfl rfl (dk_at dk_X6_readsStatement_1 35 rfl) ?_
        obtain ⟨⟨_, ho⟩, h⟩ := h
        refine G_callV (As := [.ref (xK X 11)]) (rest := []) lk_X6_118 rfl (dk_at dk_X6_readsStatement_1 36 rfl) rfl rfl (Nat.le_of_ble_eq_true rfl) ho (h.mono fun o19 A16 b17 c18 h => aftI h fun i20 h => ?_)
        refine G_if_eq (tgt := 170) (dk_at dk_X6_readsStatement_1 37 rfl) (by decide) (fun c => ?_) (fun c => ?_)
        · replace h := h.1 c
          refine G_aload_n 0 (dk_at dk_X6_readsStatement_1 47 rfl) rfl ?_
          refine G_bipush (v := (-2)) (dk_at dk_X6_readsStatement_1 48 rfl) (by decide) ?_
          obtain ⟨⟨_, ho⟩, h⟩ := h
          refine G_callV (As := [.int ((-2))]) (rest := []) lk_X6_105 rfl (dk_at dk_X6_readsStatement_1 49 rfl) rfl rfl (Nat.le_of_ble_eq_true rfl) ho (h.mono fun o24 A21 b22 c23 h => aftV h fun h => ?_)
          exact h
        · replace h := h.2 c
          refine G_aload_n 0 (dk_at dk_X6_readsStatement_1 38 rfl) rfl ?_
          refine G_iconst (v := 1) (dk_at dk_X6_readsStatement_1 39 rfl) (by decide) ?_
          obtain ⟨⟨_, ho⟩, h⟩ := h
          refine G_callV (As := [.int 1]) (rest := []) lk_X6_112 rfl (dk_at dk_X6_readsStatement_1 40 rfl) rfl rfl (Nat.le_of_ble_eq_true rfl) ho (h.mono fun o28 A25 b26 c27 h => aftV h fun h => ?_)
          refine G_aload_n 0 (dk_at dk_X6_readsStatement_1 41 rfl) rfl ?_
          refine G_iconst (v := 4) (dk_at dk_X6_readsStatement_1 42 rfl) (by decide) ?_
          refine G_iconst (v := 1) (dk_at dk_X6_readsStatement_1 43 rfl) (by decide) ?_
          refine G_bipush (v := 99) (dk_at dk_X6_readsStatement_1 44 rfl) (by decide) ?_
          obtain ⟨⟨_, ho⟩, h⟩ := h
          refine G_callV (As := [.int 4, .int 1, .int 99]) (rest := []) lk_X6_137 rfl (dk_at dk_X6_readsStatement_1 45 rfl) rfl rfl (Nat.le_of_ble_eq_true rfl) ho (h.mono fun o32 A29 b30 c31 h => aftV h fun h => ?_)
          refine G_goto (tgt := 176) (dk_at dk_X6_readsStatement_1 46 rfl) (by decide) ?_
          exact h
      · replace h := h.2 c
        refine G_aload_n 0 (dk_at dk_X6_readsStatement_1 14 rfl) rfl ?_
        refine G_bipush (v := 12) (dk_at dk_X6_readsStatement_1 15 rfl) (by decide) ?_
        refine G_bipush (v := 8) (dk_at dk_X6_readsStatement_1 16 rfl) (by decide) ?_
        refine G_bipush (v := 80) (dk_at dk_X6_readsStatement_1 17 rfl) (by decide) ?_
        refine G_iconst (v := 2) (dk_at dk_X6_readsStatement_1 18 rfl) (by decide) ?_
        obtain ⟨⟨_, ho⟩, h⟩ := h
        refine G_callV (As := [.int 12, .int 8, .int 80, .int 2]) (rest := []) lk_X6_133 rfl (dk_at dk_X6_readsStatement_1 19 rfl) rfl rfl (Nat.le_of_ble_eq_true rfl) ho (h.mono fun o36 A33 b34 c35 h => aftI h fun i37 h => ?_)
        refine G_istore_n (lv' := [(1, .int i37), (0, .ref v0)]) (dk_at dk_X6_readsStatement_1 20 rfl) (by decide) rfl ?_
        refine G_aload_n 1 (dk_at dk_X6_readsStatement_1 21 rfl) rfl ?_
        refine G_iload_n 0 (dk_at dk_X6_readsStatement_1 22 rfl) rfl ?_
        refine G_iconst (v := 0) (dk_at dk_X6_readsStatement_1 23 rfl) (by decide) ?_
        refine G_iconst (v := 1) (dk_at dk_X6_readsStatement_1 24 rfl) (by decide) ?_
        obtain ⟨⟨_, ho⟩, h⟩ := h
        refine G_callV (As := [.int i37, .int 0, .int 1]) (rest := []) lk_X6_137 rfl (dk_at dk_X6_readsStatement_1 25 rfl) rfl rfl (Nat.le_of_ble_eq_true rfl) ho (h.mono fun o41 A38 b39 c40 h => aftV h fun h => ?_)
        refine G_aload_n 1 (dk_at dk_X6_readsStatement_1 26 rfl) rfl ?_
        refine G_iload_n 0 (dk_at dk_X6_readsStatement_1 27 rfl) rfl ?_
        refine G_iconst (v := 1) (dk_at dk_X6_readsStatement_1 28 rfl) (by decide) ?_
        refine G_iadd (dk_at dk_X6_readsStatement_1 29 rfl) ?_
        refine G_iconst (v := 1) (dk_at dk_X6_readsStatement_1 30 rfl) (by decide) ?_
        refine G_sipush (v := 999) (dk_at dk_X6_readsStatement_1 31 rfl) (by decide) ?_
        obtain ⟨⟨_, ho⟩, h⟩ := h
        refine G_callV (As := [.int (i37 + 1), .int 1, .int 999]) (rest := []) lk_X6_137 rfl (dk_at dk_X6_readsStatement_1 32 rfl) rfl rfl (Nat.le_of_ble_eq_true rfl) ho (h.mono fun o45 A42 b43 c44 h => aftV h fun h => ?_)
        refine G_goto (tgt := 176) (dk_at dk_X6_readsStatement_1 33 rfl) (by decide) ?_
        refine G_sub [1] rfl ?_
        exact h
    · replace h := h.2 c
      refine G_aload_n 0 (dk_at dk_X6_readsStatement_0 33 rfl) rfl ?_
      refine G_bipush (v := 11) (dk_at dk_X6_readsStatement_0 34 rfl) (by decide) ?_
      refine G_bipush (v := 12) (dk_at dk_X6_readsStatement_0 35 rfl) (by decide) ?_
      refine G_bipush (v := 44) (dk_at dk_X6_readsStatement_0 36 rfl) (by decide) ?_
      refine G_iconst (v := 3) (dk_at dk_X6_readsStatement_0 37 rfl) (by decide) ?_
      obtain ⟨⟨_, ho⟩, h⟩ := h
      refine G_callV (As := [.int 11, .int 12, .int 44, .int 3]) (rest := []) lk_X6_133 rfl (dk_at dk_X6_readsStatement_0 38 rfl) rfl rfl (Nat.le_of_ble_eq_true rfl) ho (h.mono fun o49 A46 b47 c48 h => aftI h fun i50 h => ?_)
      refine G_istore_n (lv' := [(1, .int i50), (0, .ref v0)]) (dk_at dk_X6_readsStatement_0 39 rfl) (by decide) rfl ?_
      refine G_aload_n 1 (dk_at dk_X6_readsStatement_0 40 rfl) rfl ?_
      refine G_iload_n 0 (dk_at dk_X6_readsStatement_0 41 rfl) rfl ?_
      refine G_iconst (v := 1) (dk_at dk_X6_readsStatement_0 42 rfl) (by decide) ?_
      refine G_sipush (v := 999) (dk_at dk_X6_readsStatement_0 43 rfl) (by decide) ?_
      obtain ⟨⟨_, ho⟩, h⟩ := h
      refine G_callV (As := [.int i50, .int 1, .int 999]) (rest := []) lk_X6_137 rfl (dk_at dk_X6_readsStatement_0 44 rfl) rfl rfl (Nat.le_of_ble_eq_true rfl) ho (h.mono fun o54 A51 b52 c53 h => aftV h fun h => ?_)
      refine G_aload_n 1 (dk_at dk_X6_readsStatement_0 45 rfl) rfl ?_
      refine G_iload_n 0 (dk_at dk_X6_readsStatement_0 46 rfl) rfl ?_
      refine G_iconst (v := 1) (dk_at dk_X6_readsStatement_0 47 rfl) (by decide) ?_
      refine G_iadd (dk_at dk_X6_readsStatement_0 48 rfl) ?_
      refine G_iconst (v := 0) (dk_at dk_X6_readsStatement_0 49 rfl) (by decide) ?_
      refine G_bipush (v := 47) (dk_at dk_X6_readsStatement_1 0 rfl) (by decide) ?_
      obtain ⟨⟨_, ho⟩, h⟩ := h
      refine G_callV (As := [.int (i50 + 1), .int 0, .int 47]) (rest := []) lk_X6_137 rfl (dk_at dk_X6_readsStatement_1 1 rfl) rfl rfl (Nat.le_of_ble_eq_true rfl) ho (h.mono fun o58 A55 b56 c57 h => aftV h fun h => ?_)
      refine G_aload_n 1 (dk_at dk_X6_readsStatement_1 2 rfl) rfl ?_
      refine G_iload_n 0 (dk_at dk_X6_readsStatement_1 3 rfl) rfl ?_
      refine G_iconst (v := 2) (dk_at dk_X6_readsStatement_1 4 rfl) (by decide) ?_
      refine G_iadd (dk_at dk_X6_readsStatement_1 5 rfl) ?_
      refine G_iconst (v := 1) (dk_at dk_X6_readsStatement_1 6 rfl) (by decide) ?_
      refine G_sipush (v := 255) (dk_at dk_X6_readsStatement_1 7 rfl) (by decide) ?_
      obtain ⟨⟨_, ho⟩, h⟩ := h
      refine G_callV (As := [.int (i50 + 2), .int 1, .int 255]) (rest := []) lk_X6_137 rfl (dk_at dk_X6_readsStatement_1 8 rfl) rfl rfl (Nat.le_of_ble_eq_true rfl) ho (h.mono fun o62 A59 b60 c61 h => aftV h fun h => ?_)
      refine G_goto (tgt := 176) (dk_at dk_X6_readsStatement_1 9 rfl) (by decide) ?_
      refine G_sub [1] rfl ?_
      exact h
  · replace h := h.2 c
    refine G_aload_n 0 (dk_at dk_X6_readsStatement_0 4 rfl) rfl ?_
    refine G_bipush (v := 10) (dk_at dk_X6_readsStatement_0 5 rfl) (by decide) ?_
    refine G_bipush (v := 12) (dk_at dk_X6_readsStatement_0 6 rfl) (by decide) ?_
    refine G_bipush (v := 20) (dk_at dk_X6_readsStatement_0 7 rfl) (by decide) ?_
    refine G_iconst (v := 2) (dk_at dk_X6_readsStatement_0 8 rfl) (by decide) ?_
    obtain ⟨⟨_, ho⟩, h⟩ := h
    refine G_callV (As := [.int 10, .int 12, .int 20, .int 2]) (rest := []) lk_X6_133 rfl (dk_at dk_X6_readsStatement_0 9 rfl) rfl rfl (Nat.le_of_ble_eq_true rfl) ho (h.mono fun o66 A63 b64 c65 h => aftI h fun i67 h => ?_)
    refine G_istore_n (lv' := [(1, .int i67), (0, .ref v0)]) (dk_at dk_X6_readsStatement_0 10 rfl) (by decide) rfl ?_
    refine G_aload_n 1 (dk_at dk_X6_readsStatement_0 11 rfl) rfl ?_
    refine G_iload_n 0 (dk_at dk_X6_readsStatement_0 12 rfl) rfl ?_
    refine G_iconst (v := 0) (dk_at dk_X6_readsStatement_0 13 rfl) (by decide) ?_
    refine G_aload_n 1 (dk_at dk_X6_readsStatement_0 14 rfl) rfl ?_
    refine K_gR gf_X6_13 (dk_at dk_X6_readsStatement_0 15 rfl) h (fun r68 h => ?_)
    refine G_iconst (v := 0) (dk_at dk_X6_readsStatement_0 16 rfl) (by decide) ?_
    refine K_aI (dk_at dk_X6_readsStatement_0 17 rfl) h (fun i69 h => ?_)
    refine G_iconst (v := 1) (dk_at dk_X6_readsStatement_0 18 rfl) (by decide) ?_
    refine G_isub (dk_at dk_X6_readsStatement_0 19 rfl) ?_
    obtain ⟨⟨_, ho⟩, h⟩ := h
    refine G_callV (As := [.int i67, .int 0, .int (i69 - 1)]) (rest := []) lk_X6_137 rfl (dk_at dk_X6_readsStatement_0 20 rfl) rfl rfl (Nat.le_of_ble_eq_true rfl) ho (h.mono fun o73 A70 b71 c72 h => aftV h fun h => ?_)
    refine G_aload_n 1 (dk_at dk_X6_readsStatement_0 21 rfl) rfl ?_
    refine G_iload_n 0 (dk_at dk_X6_readsStatement_0 22 rfl) rfl ?_
    refine G_iconst (v := 1) (dk_at dk_X6_readsStatement_0 23 rfl) (by decide) ?_
    refine G_iadd (dk_at dk_X6_readsStatement_0 24 rfl) ?_
    refine G_iconst (v := 1) (dk_at dk_X6_readsStatement_0 25 rfl) (by decide) ?_
    refine G_sipush (v := 255) (dk_at dk_X6_readsStatement_0 26 rfl) (by decide) ?_
    obtain ⟨⟨_, ho⟩, h⟩ := h
    refine G_callV (As := [.int (i67 + 1), .int 1, .int 255]) (rest := []) lk_X6_137 rfl (dk_at dk_X6_readsStatement_0 27 rfl) rfl rfl (Nat.le_of_ble_eq_true rfl) ho (h.mono fun o77 A74 b75 c76 h => aftV h fun h => ?_)
    refine G_goto (tgt := 176) (dk_at dk_X6_readsStatement_0 28 rfl) (by decide) ?_
    refine G_sub [1] rfl ?_
    exact h
theorem k_X6_readsStatement_176 {l : Launch} {X : XT} {d : Nat} {Q : Ot → AH → Prop} {A : AH} {bc bs : Nat} {v0 : Nat} (h : isO A v0 7 ∧ Cal l X d bc bs M_X6_mustEnd [.ref v0] A fun o4 A1 b2 c3 => rV o4 (fun E => Q (.inr E) A1) <| Q Rv A1) : G l X M_X6_readsStatement d Q 176 [(0, .ref v0)] [] A bc bs := by
  refine G_aload_n 0 (dk_at dk_X6_readsStatement_2 0 rfl) rfl ?_
  obtain ⟨⟨_, ho⟩, h⟩ := h
  refine G_callV (As := []) (rest := []) lk_X6_128 rfl (dk_at dk_X6_readsStatement_2 1 rfl) rfl rfl (Nat.le_of_ble_eq_true rfl) ho (h.mono fun o4 A1 b2 c3 h => aftV h fun h => ?_)
  exact G_vret rfl (dk_at dk_X6_readsStatement_2 2 rfl) h
theorem k_X6_load_0 {l : Launch} {X : XT} {d : Nat} {Q : Ot → AH → Prop} {A : AH} {bc bs : Nat} {v0 : Nat} {v1 : Int32} (h : gI A v0 7 7 fun i1 => Cal l X d bc bs M_X6_isIn [.int v1, .int 0, .int i1] A fun o5 A2 b3 c4 => rI o5 (fun E => Q (.inr E) A2) fun i6 => (i6 = 0 → G l X M_X6_load d Q 18 [(0, .ref v0), (1, .int v1)] [.int 1, .ref v0] A2 b3 c4) ∧ (¬ i6 = 0 → G l X M_X6_load d Q 18 [(0, .ref v0), (1, .int v1)] [.int 0, .ref v0] A2 b3 c4)) : G l X M_X6_load d Q 0 [(0, .ref v0), (1, .int v1)] [] A bc bs := by
  refine G_aload_n 0 (dk_at dk_X6_load 0 rfl) rfl ?_
  refine G_iload_n 1 (dk_at dk_X6_load 1 rfl) rfl ?_
  refine G_iconst (v := 0) (dk_at dk_X6_load 2 rfl) (by decide) ?_
  refine G_aload_n 0 (dk_at dk_X6_load 3 rfl) rfl ?_
  refine K_gI gf_X6_56 (dk_at dk_X6_load 4 rfl) h (fun i1 h => ?_)
  refine G_callS (As := [.int v1, .int 0, .int i1]) (rest := [.ref v0]) lk_X6_62 rfl (dk_at dk_X6_load 5 rfl) rfl rfl (Nat.le_of_ble_eq_true rfl) (h.mono fun o5 A2 b3 c4 h => aftI h fun i6 h => ?_)
  refine G_if_eq (tgt := 17) (dk_at dk_X6_load 6 rfl) (by decide) (fun c => ?_) (fun c => ?_)
  · replace h := h.1 c
    refine G_iconst (v := 1) (dk_at dk_X6_load 9 rfl) (by decide) ?_
    exact h
  · replace h := h.2 c
    refine G_iconst (v := 0) (dk_at dk_X6_load 7 rfl) (by decide) ?_
    refine G_goto (tgt := 18) (dk_at dk_X6_load 8 rfl) (by decide) ?_
    exact h
theorem k_X6_load_18 {l : Launch} {X : XT} {d : Nat} {Q : Ot → AH → Prop} {A : AH} {bc bs : Nat} {v0 : Nat} {v1 : Int32} {s0 : Int32} {s1 : Nat} (h : pV A s1 7 5 (.int s0) fun A1 => gI A1 v0 7 5 fun i2 => (i2 ≤ 0 → pV A1 v0 7 8 (.int v1) fun A3 => pV A3 v0 7 7 (.int 0) fun A4 => pV A4 v0 7 10 (.int 0) fun A5 => pV A5 v0 7 13 (.int 0) fun A6 => isO A6 v0 7 ∧ Cal l X d bc bs M_X6_next [.ref v0] A6 fun o10 A7 b8 c9 => rV o10 (fun E => Q (.inr E) A7) <| isO A7 v0 7 ∧ Cal l X d b8 c9 M_X6_readsHead [.ref v0] A7 fun o14 A11 b12 c13 => rV o14 (fun E => Q (.inr E) A11) <| G l X M_X6_load d Q 58 [(0, .ref v0)] [] A11 b12 c13) ∧ (¬ i2 ≤ 0 → Q (Ri 0) A1)) : G l X M_X6_load d Q 18 [(0, .ref v0), (1, .int v1)] [.int s0, .ref s1] A bc bs := by
  refine K_pI pf_X6_50 (dk_at dk_X6_load 10 rfl) h (fun A1 h => ?_)
  refine G_aload_n 0 (dk_at dk_X6_load 11 rfl) rfl ?_
  refine K_gI gf_X6_50 (dk_at dk_X6_load 12 rfl) h (fun i2 h => ?_)
  refine G_if_le (tgt := 30) (dk_at dk_X6_load 13 rfl) (by decide) (fun c => ?_) (fun c => ?_)
  · replace h := h.1 c
    refine G_aload_n 0 (dk_at dk_X6_load 16 rfl) rfl ?_
    refine G_iload_n 1 (dk_at dk_X6_load 17 rfl) rfl ?_
    refine K_pI pf_X6_59 (dk_at dk_X6_load 18 rfl) h (fun A3 h => ?_)
    refine G_aload_n 0 (dk_at dk_X6_load 19 rfl) rfl ?_
    refine G_iconst (v := 0) (dk_at dk_X6_load 20 rfl) (by decide) ?_
    refine K_pI pf_X6_56 (dk_at dk_X6_load 21 rfl) h (fun A4 h => ?_)
    refine G_aload_n 0 (dk_at dk_X6_load 22 rfl) rfl ?_
    refine G_iconst (v := 0) (dk_at dk_X6_load 23 rfl) (by decide) ?_
    refine K_pI pf_X6_66 (dk_at dk_X6_load 24 rfl) h (fun A5 h => ?_)
    refine G_aload_n 0 (dk_at dk_X6_load 25 rfl) rfl ?_
    refine G_iconst (v := 0) (dk_at dk_X6_load 26 rfl) (by decide) ?_
    refine K_pI pf_X6_89 (dk_at dk_X6_load 27 rfl) h (fun A6 h => ?_)
    refine G_aload_n 0 (dk_at dk_X6_load 28 rfl) rfl ?_
    obtain ⟨⟨_, ho⟩, h⟩ := h
    refine G_callV (As := []) (rest := []) lk_X6_109 rfl (dk_at dk_X6_load 29 rfl) rfl rfl (Nat.le_of_ble_eq_true rfl) ho (h.mono fun o10 A7 b8 c9 h => aftV h fun h => ?_)
    refine G_aload_n 0 (dk_at dk_X6_load 30 rfl) rfl ?_
    obtain ⟨⟨_, ho⟩, h⟩ := h
    refine G_callV (As := []) (rest := []) lk_X6_147 rfl (dk_at dk_X6_load 31 rfl) rfl rfl (Nat.le_of_ble_eq_true rfl) ho (h.mono fun o14 A11 b12 c13 h => aftV h fun h => ?_)
    refine G_sub [0] rfl ?_
    exact h
  · replace h := h.2 c
    refine G_iconst (v := 0) (dk_at dk_X6_load 14 rfl) (by decide) ?_
    exact G_iret (ty := .int) rfl rfl (dk_at dk_X6_load 15 rfl) h
theorem k_X6_load_58 {l : Launch} {X : XT} {d : Nat} {Q : Ot → AH → Prop} {A : AH} {bc bs : Nat} {v0 : Nat} (h : gI A v0 7 13 fun i1 => (¬ i1 = 0 → G l X M_X6_load d Q 80 [(0, .ref v0)] [] A bc bs) ∧ (i1 = 0 → gI A v0 7 11 fun i2 => (i2 = 3 → G l X M_X6_load d Q 80 [(0, .ref v0)] [] A bc bs) ∧ (¬ i2 = 3 → isO A v0 7 ∧ Cal l X d bc bs M_X6_readsStatement [.ref v0] A fun o6 A3 b4 c5 => rV o6 (fun E => Q (.inr E) A3) <| G l X M_X6_load d Q 58 [(0, .ref v0)] [] A3 b4 c5))) : G l X M_X6_load d Q 58 [(0, .ref v0)] [] A bc bs := by
  refine G_aload_n 0 (dk_at dk_X6_load 32 rfl) rfl ?_
  refine K_gI gf_X6_89 (dk_at dk_X6_load 33 rfl) h (fun i1 h => ?_)
  refine G_if_ne (tgt := 80) (dk_at dk_X6_load 34 rfl) (by decide) (fun c => ?_) (fun c => ?_)
  · replace h := h.1 c
    exact h
  · replace h := h.2 c
    refine G_aload_n 0 (dk_at dk_X6_load 35 rfl) rfl ?_
    refine K_gI gf_X6_76 (dk_at dk_X6_load 36 rfl) h (fun i2 h => ?_)
    refine G_iconst (v := 3) (dk_at dk_X6_load 37 rfl) (by decide) ?_
    refine G_icmp_eq (tgt := 80) (dk_at dk_X6_load 38 rfl) (by decide) (fun c => ?_) (fun c => ?_)
    · replace h := h.1 c
      exact h
    · replace h := h.2 c
      refine G_aload_n 0 (dk_at dk_X6_load 39 rfl) rfl ?_
      obtain ⟨⟨_, ho⟩, h⟩ := h
      refine G_callV (As := []) (rest := []) lk_X6_150 rfl (dk_at dk_X6_load 40 rfl) rfl rfl (Nat.le_of_ble_eq_true rfl) ho (h.mono fun o6 A3 b4 c5 h => aftV h fun h => ?_)
      refine G_goto (tgt := 58) (dk_at dk_X6_load 41 rfl) (by decide) ?_
      exact h
theorem k_X6_load_80 {l : Launch} {X : XT} {d : Nat} {Q : Ot → AH → Prop} {A : AH} {bc bs : Nat} {v0 : Nat} (h : gI A v0 7 13 fun i1 => (¬ i1 = 0 → gI A v0 7 14 fun i2 => G l X M_X6_load d Q 96 [(0, .ref v0)] [.int i2, .ref v0] A bc bs) ∧ (i1 = 0 → G l X M_X6_load d Q 96 [(0, .ref v0)] [.int ((-1)), .ref v0] A bc bs)) : G l X M_X6_load d Q 80 [(0, .ref v0)] [] A bc bs := by
  refine G_aload_n 0 (dk_at dk_X6_load 42 rfl) rfl ?_
  refine G_aload_n 0 (dk_at dk_X6_load 43 rfl) rfl ?_
  refine K_gI gf_X6_89 (dk_at dk_X6_load 44 rfl) h (fun i1 h => ?_)
  refine G_if_ne (tgt := 92) (dk_at dk_X6_load 45 rfl) (by decide) (fun c => ?_) (fun c => ?_)
  · replace h := h.1 c
    refine G_aload_n 0 (dk_at dk_X6_load 48 rfl) rfl ?_
    refine K_gI gf_X6_102 (dk_at dk_X6_load 49 rfl) h (fun i2 h => ?_)
    exact h
  · replace h := h.2 c
    refine G_iconst (v := (-1)) (dk_at dk_X6_load 46 rfl) (by decide) ?_
    refine G_goto (tgt := 96) (dk_at dk_X6_load 47 rfl) (by decide) ?_
    exact h
theorem k_X6_load_96 {l : Launch} {X : XT} {d : Nat} {Q : Ot → AH → Prop} {A : AH} {bc bs : Nat} {v0 : Nat} {s0 : Int32} {s1 : Nat} (h : pV A s1 7 15 (.int s0) fun A1 => gI A1 v0 7 13 fun i2 => (i2 = 0 → isO A1 v0 7 ∧ Cal l X d bc bs M_X6_keeps [.ref v0] A1 fun o6 A3 b4 c5 => rV o6 (fun E => Q (.inr E) A3) <| gR A3 v0 7 1 fun r7 => isO A3 v0 7 ∧ Cal l X d b4 c5 M_X6_becomes [.ref v0, .ref r7, .int 0] A3 fun o11 A8 b9 c10 => rV o11 (fun E => Q (.inr E) A8) <| isO A8 v0 7 ∧ Cal l X d b9 c10 M_X6_parts [.ref v0] A8 fun o15 A12 b13 c14 => rI o15 (fun E => Q (.inr E) A12) fun i16 => Q (Ri i16) A12) ∧ (¬ i2 = 0 → gI A1 v0 7 13 fun i17 => Q (Ri i17) A1)) : G l X M_X6_load d Q 96 [(0, .ref v0)] [.int s0, .ref s1] A bc bs := by
  refine K_pI pf_X6_25 (dk_at dk_X6_load 50 rfl) h (fun A1 h => ?_)
  refine G_aload_n 0 (dk_at dk_X6_load 51 rfl) rfl ?_
  refine K_gI gf_X6_89 (dk_at dk_X6_load 52 rfl) h (fun i2 h => ?_)
  refine G_if_eq (tgt := 111) (dk_at dk_X6_load 53 rfl) (by decide) (fun c => ?_) (fun c => ?_)
  · replace h := h.1 c
    refine G_aload_n 0 (dk_at dk_X6_load 57 rfl) rfl ?_
    obtain ⟨⟨_, ho⟩, h⟩ := h
    refine G_callV (As := []) (rest := []) lk_X6_153 rfl (dk_at dk_X6_load 58 rfl) rfl rfl (Nat.le_of_ble_eq_true rfl) ho (h.mono fun o6 A3 b4 c5 h => aftV h fun h => ?_)
    refine G_aload_n 0 (dk_at dk_X6_load 59 rfl) rfl ?_
    refine G_aload_n 0 (dk_at dk_X6_load 60 rfl) rfl ?_
    refine K_gR gf_X6_13 (dk_at dk_X6_load 61 rfl) h (fun r7 h => ?_)
    refine G_iconst (v := 0) (dk_at dk_X6_load 62 rfl) (by decide) ?_
    obtain ⟨⟨_, ho⟩, h⟩ := h
    refine G_callV (As := [.ref r7, .int 0]) (rest := []) lk_X6_46 rfl (dk_at dk_X6_load 63 rfl) rfl rfl (Nat.le_of_ble_eq_true rfl) ho (h.mono fun o11 A8 b9 c10 h => aftV h fun h => ?_)
    refine G_aload_n 0 (dk_at dk_X6_load 64 rfl) rfl ?_
    obtain ⟨⟨_, ho⟩, h⟩ := h
    refine G_callV (As := []) (rest := []) lk_X6_156 rfl (dk_at dk_X6_load 65 rfl) rfl rfl (Nat.le_of_ble_eq_true rfl) ho (h.mono fun o15 A12 b13 c14 h => aftI h fun i16 h => ?_)
    exact G_iret (ty := .int) rfl rfl (dk_at dk_X6_load 66 rfl) h
  · replace h := h.2 c
    refine G_aload_n 0 (dk_at dk_X6_load 54 rfl) rfl ?_
    refine K_gI gf_X6_89 (dk_at dk_X6_load 55 rfl) h (fun i17 h => ?_)
    exact G_iret (ty := .int) rfl rfl (dk_at dk_X6_load 56 rfl) h
theorem k_X6_errorPosition_0 {l : Launch} {X : XT} {d : Nat} {Q : Ot → AH → Prop} {A : AH} {bc bs : Nat} {v0 : Nat} (h : pV A v0 7 5 (.int 0) fun A1 => gI A1 v0 7 15 fun i2 => Q (Ri i2) A1) : G l X M_X6_errorPosition d Q 0 [(0, .ref v0)] [] A bc bs := by
  refine G_aload_n 0 (dk_at dk_X6_errorPosition 0 rfl) rfl ?_
  refine G_iconst (v := 0) (dk_at dk_X6_errorPosition 1 rfl) (by decide) ?_
  refine K_pI pf_X6_50 (dk_at dk_X6_errorPosition 2 rfl) h (fun A1 h => ?_)
  refine G_aload_n 0 (dk_at dk_X6_errorPosition 3 rfl) rfl ?_
  refine K_gI gf_X6_25 (dk_at dk_X6_errorPosition 4 rfl) h (fun i2 h => ?_)
  exact G_iret (ty := .int) rfl rfl (dk_at dk_X6_errorPosition 5 rfl) h
theorem k_X6_pieces_0 {l : Launch} {X : XT} {d : Nat} {Q : Ot → AH → Prop} {A : AH} {bc bs : Nat} {v0 : Nat} (h : gR A v0 7 0 fun r1 => aI X A r1 0 fun i2 => gR A v0 7 0 fun r3 => aI X A r3 2 fun i4 => gR A v0 7 0 fun r5 => aI X A r5 2 fun i6 => ¬ i6 = 0 ∧ Q (Ri (((i2 + i4) - 1) / i6)) A) : G l X M_X6_pieces d Q 0 [(0, .ref v0)] [] A bc bs := by
  refine G_aload_n 0 (dk_at dk_X6_pieces 0 rfl) rfl ?_
  refine K_gR gf_X6_7 (dk_at dk_X6_pieces 1 rfl) h (fun r1 h => ?_)
  refine G_iconst (v := 0) (dk_at dk_X6_pieces 2 rfl) (by decide) ?_
  refine K_aI (dk_at dk_X6_pieces 3 rfl) h (fun i2 h => ?_)
  refine G_aload_n 0 (dk_at dk_X6_pieces 4 rfl) rfl ?_
  refine K_gR gf_X6_7 (dk_at dk_X6_pieces 5 rfl) h (fun r3 h => ?_)
  refine G_iconst (v := 2) (dk_at dk_X6_pieces 6 rfl) (by decide) ?_
  refine K_aI (dk_at dk_X6_pieces 7 rfl) h (fun i4 h => ?_)
  refine G_iadd (dk_at dk_X6_pieces 8 rfl) ?_
  refine G_iconst (v := 1) (dk_at dk_X6_pieces 9 rfl) (by decide) ?_
  refine G_isub (dk_at dk_X6_pieces 10 rfl) ?_
  refine G_aload_n 0 (dk_at dk_X6_pieces 11 rfl) rfl ?_
  refine K_gR gf_X6_7 (dk_at dk_X6_pieces 12 rfl) h (fun r5 h => ?_)
  refine G_iconst (v := 2) (dk_at dk_X6_pieces 13 rfl) (by decide) ?_
  refine K_aI (dk_at dk_X6_pieces 14 rfl) h (fun i6 h => ?_)
  obtain ⟨h0, h⟩ := h
  refine G_idiv (dk_at dk_X6_pieces 15 rfl) h0 ?_
  exact G_iret (ty := .int) rfl rfl (dk_at dk_X6_pieces 16 rfl) h
theorem k_X6_perPiece_0 {l : Launch} {X : XT} {d : Nat} {Q : Ot → AH → Prop} {A : AH} {bc bs : Nat} {v0 : Nat} (h : gR A v0 7 0 fun r1 => aI X A r1 2 fun i2 => gR A v0 7 0 fun r3 => aI X A r3 3 fun i4 => gR A v0 7 0 fun r5 => aI X A r5 3 fun i6 => ¬ i6 = 0 ∧ Q (Ri (((i2 + i4) - 1) / i6)) A) : G l X M_X6_perPiece d Q 0 [(0, .ref v0)] [] A bc bs := by
  refine G_aload_n 0 (dk_at dk_X6_perPiece 0 rfl) rfl ?_
  refine K_gR gf_X6_7 (dk_at dk_X6_perPiece 1 rfl) h (fun r1 h => ?_)
  refine G_iconst (v := 2) (dk_at dk_X6_perPiece 2 rfl) (by decide) ?_
  refine K_aI (dk_at dk_X6_perPiece 3 rfl) h (fun i2 h => ?_)
  refine G_aload_n 0 (dk_at dk_X6_perPiece 4 rfl) rfl ?_
  refine K_gR gf_X6_7 (dk_at dk_X6_perPiece 5 rfl) h (fun r3 h => ?_)
  refine G_iconst (v := 3) (dk_at dk_X6_perPiece 6 rfl) (by decide) ?_
  refine K_aI (dk_at dk_X6_perPiece 7 rfl) h (fun i4 h => ?_)
  refine G_iadd (dk_at dk_X6_perPiece 8 rfl) ?_
  refine G_iconst (v := 1) (dk_at dk_X6_perPiece 9 rfl) (by decide) ?_
  refine G_isub (dk_at dk_X6_perPiece 10 rfl) ?_
  refine G_aload_n 0 (dk_at dk_X6_perPiece 11 rfl) rfl ?_
  refine K_gR gf_X6_7 (dk_at dk_X6_perPiece 12 rfl) h (fun r5 h => ?_)
  refine G_iconst (v := 3) (dk_at dk_X6_perPiece 13 rfl) (by decide) ?_
  refine K_aI (dk_at dk_X6_perPiece 14 rfl) h (fun i6 h => ?_)
  obtain ⟨h0, h⟩ := h
  refine G_idiv (dk_at dk_X6_perPiece 15 rfl) h0 ?_
  exact G_iret (ty := .int) rfl rfl (dk_at dk_X6_perPiece 16 rfl) h
theorem k_X6_pieceLength_0 {l : Launch} {X : XT} {d : Nat} {Q : Ot → AH → Prop} {A : AH} {bc bs : Nat} {v0 : Nat} {v1 : Int32} (h : gR A v0 7 0 fun r1 => aI X A r1 0 fun i2 => gR A v0 7 0 fun r3 => aI X A r3 2 fun i4 => gR A v0 7 0 fun r5 => aI X A r5 2 fun i6 => (i6 ≤ (i2 - (i4 * v1)) → gR A v0 7 0 fun r7 => aI X A r7 2 fun i8 => Q (Ri i8) A) ∧ (¬ i6 ≤ (i2 - (i4 * v1)) → Q (Ri (i2 - (i4 * v1))) A)) : G l X M_X6_pieceLength d Q 0 [(0, .ref v0), (1, .int v1)] [] A bc bs := by
  refine G_aload_n 0 (dk_at dk_X6_pieceLength 0 rfl) rfl ?_
  refine K_gR gf_X6_7 (dk_at dk_X6_pieceLength 1 rfl) h (fun r1 h => ?_)
  refine G_iconst (v := 0) (dk_at dk_X6_pieceLength 2 rfl) (by decide) ?_
  refine K_aI (dk_at dk_X6_pieceLength 3 rfl) h (fun i2 h => ?_)
  refine G_aload_n 0 (dk_at dk_X6_pieceLength 4 rfl) rfl ?_
  refine K_gR gf_X6_7 (dk_at dk_X6_pieceLength 5 rfl) h (fun r3 h => ?_)
  refine G_iconst (v := 2) (dk_at dk_X6_pieceLength 6 rfl) (by decide) ?_
  refine K_aI (dk_at dk_X6_pieceLength 7 rfl) h (fun i4 h => ?_)
  refine G_iload_n 1 (dk_at dk_X6_pieceLength 8 rfl) rfl ?_
  refine G_imul (dk_at dk_X6_pieceLength 9 rfl) ?_
  refine G_isub (dk_at dk_X6_pieceLength 10 rfl) ?_
  refine G_istore_n (lv' := [(2, .int (i2 - (i4 * v1))), (0, .ref v0), (1, .int v1)]) (dk_at dk_X6_pieceLength 11 rfl) (by decide) rfl ?_
  refine G_iload_n 0 (dk_at dk_X6_pieceLength 12 rfl) rfl ?_
  refine G_aload_n 1 (dk_at dk_X6_pieceLength 13 rfl) rfl ?_
  refine K_gR gf_X6_7 (dk_at dk_X6_pieceLength 14 rfl) h (fun r5 h => ?_)
  refine G_iconst (v := 2) (dk_at dk_X6_pieceLength 15 rfl) (by decide) ?_
  refine K_aI (dk_at dk_X6_pieceLength 16 rfl) h (fun i6 h => ?_)
  refine G_icmp_ge (tgt := 30) (dk_at dk_X6_pieceLength 17 rfl) (by decide) (fun c => ?_) (fun c => ?_)
  · replace h := h.1 c
    refine G_aload_n 1 (dk_at dk_X6_pieceLength 20 rfl) rfl ?_
    refine K_gR gf_X6_7 (dk_at dk_X6_pieceLength 21 rfl) h (fun r7 h => ?_)
    refine G_iconst (v := 2) (dk_at dk_X6_pieceLength 22 rfl) (by decide) ?_
    refine K_aI (dk_at dk_X6_pieceLength 23 rfl) h (fun i8 h => ?_)
    exact G_iret (ty := .int) rfl rfl (dk_at dk_X6_pieceLength 24 rfl) h
  · replace h := h.2 c
    refine G_iload_n 0 (dk_at dk_X6_pieceLength 18 rfl) rfl ?_
    refine G_goto (tgt := 36) (dk_at dk_X6_pieceLength 19 rfl) (by decide) ?_
    exact G_iret (ty := .int) rfl rfl (dk_at dk_X6_pieceLength 24 rfl) h
theorem k_X6_partsOf_0 {l : Launch} {X : XT} {d : Nat} {Q : Ot → AH → Prop} {A : AH} {bc bs : Nat} {v0 : Nat} {v1 : Int32} (h : isO A v0 7 ∧ Cal l X d bc bs M_X6_pieceLength [.ref v0, .int v1] A fun o4 A1 b2 c3 => rI o4 (fun E => Q (.inr E) A1) fun i5 => gR A1 v0 7 0 fun r6 => aI X A1 r6 3 fun i7 => gR A1 v0 7 0 fun r8 => aI X A1 r8 3 fun i9 => ¬ i9 = 0 ∧ Q (Ri (((i5 + i7) - 1) / i9)) A1) : G l X M_X6_partsOf d Q 0 [(0, .ref v0), (1, .int v1)] [] A bc bs := by
  refine G_aload_n 0 (dk_at dk_X6_partsOf 0 rfl) rfl ?_
  refine G_iload_n 1 (dk_at dk_X6_partsOf 1 rfl) rfl ?_
  obtain ⟨⟨_, ho⟩, h⟩ := h
  refine G_callV (As := [.int v1]) (rest := []) lk_X6_159 rfl (dk_at dk_X6_partsOf 2 rfl) rfl rfl (Nat.le_of_ble_eq_true rfl) ho (h.mono fun o4 A1 b2 c3 h => aftI h fun i5 h => ?_)
  refine G_aload_n 0 (dk_at dk_X6_partsOf 3 rfl) rfl ?_
  refine K_gR gf_X6_7 (dk_at dk_X6_partsOf 4 rfl) h (fun r6 h => ?_)
  refine G_iconst (v := 3) (dk_at dk_X6_partsOf 5 rfl) (by decide) ?_
  refine K_aI (dk_at dk_X6_partsOf 6 rfl) h (fun i7 h => ?_)
  refine G_iadd (dk_at dk_X6_partsOf 7 rfl) ?_
  refine G_iconst (v := 1) (dk_at dk_X6_partsOf 8 rfl) (by decide) ?_
  refine G_isub (dk_at dk_X6_partsOf 9 rfl) ?_
  refine G_aload_n 0 (dk_at dk_X6_partsOf 10 rfl) rfl ?_
  refine K_gR gf_X6_7 (dk_at dk_X6_partsOf 11 rfl) h (fun r8 h => ?_)
  refine G_iconst (v := 3) (dk_at dk_X6_partsOf 12 rfl) (by decide) ?_
  refine K_aI (dk_at dk_X6_partsOf 13 rfl) h (fun i9 h => ?_)
  obtain ⟨h0, h⟩ := h
  refine G_idiv (dk_at dk_X6_partsOf 14 rfl) h0 ?_
  exact G_iret (ty := .int) rfl rfl (dk_at dk_X6_partsOf 15 rfl) h
theorem k_X6_firstPart_0 {l : Launch} {X : XT} {d : Nat} {Q : Ot → AH → Prop} {A : AH} {bc bs : Nat} {v0 : Nat} {v1 : Int32} (h : isO A v0 7 ∧ Cal l X d bc bs M_X6_perPiece [.ref v0] A fun o4 A1 b2 c3 => rI o4 (fun E => Q (.inr E) A1) fun i5 => Q (Ri (i5 * v1)) A1) : G l X M_X6_firstPart d Q 0 [(0, .ref v0), (1, .int v1)] [] A bc bs := by
  refine G_aload_n 0 (dk_at dk_X6_firstPart 0 rfl) rfl ?_
  obtain ⟨⟨_, ho⟩, h⟩ := h
  refine G_callV (As := []) (rest := []) lk_X6_162 rfl (dk_at dk_X6_firstPart 1 rfl) rfl rfl (Nat.le_of_ble_eq_true rfl) ho (h.mono fun o4 A1 b2 c3 h => aftI h fun i5 h => ?_)
  refine G_iload_n 1 (dk_at dk_X6_firstPart 2 rfl) rfl ?_
  refine G_imul (dk_at dk_X6_firstPart 3 rfl) ?_
  exact G_iret (ty := .int) rfl rfl (dk_at dk_X6_firstPart 4 rfl) h
theorem k_X6_parts_0 {l : Launch} {X : XT} {d : Nat} {Q : Ot → AH → Prop} {A : AH} {bc bs : Nat} {v0 : Nat} (h : isO A v0 7 ∧ Cal l X d bc bs M_X6_pieces [.ref v0] A fun o4 A1 b2 c3 => rI o4 (fun E => Q (.inr E) A1) fun i5 => isO A1 v0 7 ∧ Cal l X d b2 c3 M_X6_firstPart [.ref v0, .int (i5 - 1)] A1 fun o9 A6 b7 c8 => rI o9 (fun E => Q (.inr E) A6) fun i10 => isO A6 v0 7 ∧ Cal l X d b7 c8 M_X6_pieces [.ref v0] A6 fun o14 A11 b12 c13 => rI o14 (fun E => Q (.inr E) A11) fun i15 => isO A11 v0 7 ∧ Cal l X d b12 c13 M_X6_partsOf [.ref v0, .int (i15 - 1)] A11 fun o19 A16 b17 c18 => rI o19 (fun E => Q (.inr E) A16) fun i20 => Q (Ri (i10 + i20)) A16) : G l X M_X6_parts d Q 0 [(0, .ref v0)] [] A bc bs := by
  refine G_aload_n 0 (dk_at dk_X6_parts 0 rfl) rfl ?_
  refine G_aload_n 0 (dk_at dk_X6_parts 1 rfl) rfl ?_
  obtain ⟨⟨_, ho⟩, h⟩ := h
  refine G_callV (As := []) (rest := [.ref v0]) lk_X6_165 rfl (dk_at dk_X6_parts 2 rfl) rfl rfl (Nat.le_of_ble_eq_true rfl) ho (h.mono fun o4 A1 b2 c3 h => aftI h fun i5 h => ?_)
  refine G_iconst (v := 1) (dk_at dk_X6_parts 3 rfl) (by decide) ?_
  refine G_isub (dk_at dk_X6_parts 4 rfl) ?_
  obtain ⟨⟨_, ho⟩, h⟩ := h
  refine G_callV (As := [.int (i5 - 1)]) (rest := []) lk_X6_167 rfl (dk_at dk_X6_parts 5 rfl) rfl rfl (Nat.le_of_ble_eq_true rfl) ho (h.mono fun o9 A6 b7 c8 h => aftI h fun i10 h => ?_)
  refine G_aload_n 0 (dk_at dk_X6_parts 6 rfl) rfl ?_
  refine G_aload_n 0 (dk_at dk_X6_parts 7 rfl) rfl ?_
  obtain ⟨⟨_, ho⟩, h⟩ := h
  refine G_callV (As := []) (rest := [.ref v0, .int i10]) lk_X6_165 rfl (dk_at dk_X6_parts 8 rfl) rfl rfl (Nat.le_of_ble_eq_true rfl) ho (h.mono fun o14 A11 b12 c13 h => aftI h fun i15 h => ?_)
  refine G_iconst (v := 1) (dk_at dk_X6_parts 9 rfl) (by decide) ?_
  refine G_isub (dk_at dk_X6_parts 10 rfl) ?_
  obtain ⟨⟨_, ho⟩, h⟩ := h
  refine G_callV (As := [.int (i15 - 1)]) (rest := [.int i10]) lk_X6_170 rfl (dk_at dk_X6_parts 11 rfl) rfl rfl (Nat.le_of_ble_eq_true rfl) ho (h.mono fun o19 A16 b17 c18 h => aftI h fun i20 h => ?_)
  refine G_iadd (dk_at dk_X6_parts 12 rfl) ?_
  exact G_iret (ty := .int) rfl rfl (dk_at dk_X6_parts 13 rfl) h
theorem k_X6_pieceOf_0 {l : Launch} {X : XT} {d : Nat} {Q : Ot → AH → Prop} {A : AH} {bc bs : Nat} {v0 : Nat} {v1 : Int32} (h : isO A v0 7 ∧ Cal l X d bc bs M_X6_perPiece [.ref v0] A fun o4 A1 b2 c3 => rI o4 (fun E => Q (.inr E) A1) fun i5 => ¬ i5 = 0 ∧ Q (Ri (v1 / i5)) A1) : G l X M_X6_pieceOf d Q 0 [(0, .ref v0), (1, .int v1)] [] A bc bs := by
  refine G_iload_n 1 (dk_at dk_X6_pieceOf 0 rfl) rfl ?_
  refine G_aload_n 0 (dk_at dk_X6_pieceOf 1 rfl) rfl ?_
  obtain ⟨⟨_, ho⟩, h⟩ := h
  refine G_callV (As := []) (rest := [.int v1]) lk_X6_162 rfl (dk_at dk_X6_pieceOf 2 rfl) rfl rfl (Nat.le_of_ble_eq_true rfl) ho (h.mono fun o4 A1 b2 c3 h => aftI h fun i5 h => ?_)
  obtain ⟨h0, h⟩ := h
  refine G_idiv (dk_at dk_X6_pieceOf 3 rfl) h0 ?_
  exact G_iret (ty := .int) rfl rfl (dk_at dk_X6_pieceOf 4 rfl) h
theorem k_X6_placeOf_0 {l : Launch} {X : XT} {d : Nat} {Q : Ot → AH → Prop} {A : AH} {bc bs : Nat} {v0 : Nat} {v1 : Int32} (h : gR A v0 7 0 fun r1 => aI X A r1 2 fun i2 => isO A v0 7 ∧ Cal l X d bc bs M_X6_pieceOf [.ref v0, .int v1] A fun o6 A3 b4 c5 => rI o6 (fun E => Q (.inr E) A3) fun i7 => gR A3 v0 7 0 fun r8 => aI X A3 r8 3 fun i9 => isO A3 v0 7 ∧ Cal l X d b4 c5 M_X6_pieceOf [.ref v0, .int v1] A3 fun o13 A10 b11 c12 => rI o13 (fun E => Q (.inr E) A10) fun i14 => isO A10 v0 7 ∧ Cal l X d b11 c12 M_X6_firstPart [.ref v0, .int i14] A10 fun o18 A15 b16 c17 => rI o18 (fun E => Q (.inr E) A15) fun i19 => Q (Ri ((i2 * i7) + (i9 * (v1 - i19)))) A15) : G l X M_X6_placeOf d Q 0 [(0, .ref v0), (1, .int v1)] [] A bc bs := by
  refine G_aload_n 0 (dk_at dk_X6_placeOf 0 rfl) rfl ?_
  refine K_gR gf_X6_7 (dk_at dk_X6_placeOf 1 rfl) h (fun r1 h => ?_)
  refine G_iconst (v := 2) (dk_at dk_X6_placeOf 2 rfl) (by decide) ?_
  refine K_aI (dk_at dk_X6_placeOf 3 rfl) h (fun i2 h => ?_)
  refine G_aload_n 0 (dk_at dk_X6_placeOf 4 rfl) rfl ?_
  refine G_iload_n 1 (dk_at dk_X6_placeOf 5 rfl) rfl ?_
  obtain ⟨⟨_, ho⟩, h⟩ := h
  refine G_callV (As := [.int v1]) (rest := [.int i2]) lk_X6_173 rfl (dk_at dk_X6_placeOf 6 rfl) rfl rfl (Nat.le_of_ble_eq_true rfl) ho (h.mono fun o6 A3 b4 c5 h => aftI h fun i7 h => ?_)
  refine G_imul (dk_at dk_X6_placeOf 7 rfl) ?_
  refine G_aload_n 0 (dk_at dk_X6_placeOf 8 rfl) rfl ?_
  refine K_gR gf_X6_7 (dk_at dk_X6_placeOf 9 rfl) h (fun r8 h => ?_)
  refine G_iconst (v := 3) (dk_at dk_X6_placeOf 10 rfl) (by decide) ?_
  refine K_aI (dk_at dk_X6_placeOf 11 rfl) h (fun i9 h => ?_)
  refine G_iload_n 1 (dk_at dk_X6_placeOf 12 rfl) rfl ?_
  refine G_aload_n 0 (dk_at dk_X6_placeOf 13 rfl) rfl ?_
  refine G_aload_n 0 (dk_at dk_X6_placeOf 14 rfl) rfl ?_
  refine G_iload_n 1 (dk_at dk_X6_placeOf 15 rfl) rfl ?_
  obtain ⟨⟨_, ho⟩, h⟩ := h
  refine G_callV (As := [.int v1]) (rest := [.ref v0, .int v1, .int i9, .int (i2 * i7)]) lk_X6_173 rfl (dk_at dk_X6_placeOf 16 rfl) rfl rfl (Nat.le_of_ble_eq_true rfl) ho (h.mono fun o13 A10 b11 c12 h => aftI h fun i14 h => ?_)
  obtain ⟨⟨_, ho⟩, h⟩ := h
  refine G_callV (As := [.int i14]) (rest := [.int v1, .int i9, .int (i2 * i7)]) lk_X6_167 rfl (dk_at dk_X6_placeOf 17 rfl) rfl rfl (Nat.le_of_ble_eq_true rfl) ho (h.mono fun o18 A15 b16 c17 h => aftI h fun i19 h => ?_)
  refine G_isub (dk_at dk_X6_placeOf 18 rfl) ?_
  refine G_imul (dk_at dk_X6_placeOf 19 rfl) ?_
  refine G_iadd (dk_at dk_X6_placeOf 20 rfl) ?_
  exact G_iret (ty := .int) rfl rfl (dk_at dk_X6_placeOf 21 rfl) h
theorem k_X6_partLength_0 {l : Launch} {X : XT} {d : Nat} {Q : Ot → AH → Prop} {A : AH} {bc bs : Nat} {v0 : Nat} {v1 : Int32} (h : isO A v0 7 ∧ Cal l X d bc bs M_X6_pieceOf [.ref v0, .int v1] A fun o4 A1 b2 c3 => rI o4 (fun E => Q (.inr E) A1) fun i5 => gR A1 v0 7 0 fun r6 => aI X A1 r6 2 fun i7 => isO A1 v0 7 ∧ Cal l X d b2 c3 M_X6_pieceLength [.ref v0, .int i5] A1 fun o11 A8 b9 c10 => rI o11 (fun E => Q (.inr E) A8) fun i12 => isO A8 v0 7 ∧ Cal l X d b9 c10 M_X6_placeOf [.ref v0, .int v1] A8 fun o16 A13 b14 c15 => rI o16 (fun E => Q (.inr E) A13) fun i17 => gR A13 v0 7 0 fun r18 => aI X A13 r18 3 fun i19 => (i19 ≤ (((i7 * i5) + i12) - i17) → gR A13 v0 7 0 fun r20 => aI X A13 r20 3 fun i21 => Q (Ri i21) A13) ∧ (¬ i19 ≤ (((i7 * i5) + i12) - i17) → Q (Ri (((i7 * i5) + i12) - i17)) A13)) : G l X M_X6_partLength d Q 0 [(0, .ref v0), (1, .int v1)] [] A bc bs := by
  refine G_aload_n 0 (dk_at dk_X6_partLength 0 rfl) rfl ?_
  refine G_iload_n 1 (dk_at dk_X6_partLength 1 rfl) rfl ?_
  obtain ⟨⟨_, ho⟩, h⟩ := h
  refine G_callV (As := [.int v1]) (rest := []) lk_X6_173 rfl (dk_at dk_X6_partLength 2 rfl) rfl rfl (Nat.le_of_ble_eq_true rfl) ho (h.mono fun o4 A1 b2 c3 h => aftI h fun i5 h => ?_)
  refine G_istore_n (lv' := [(2, .int i5), (0, .ref v0), (1, .int v1)]) (dk_at dk_X6_partLength 3 rfl) (by decide) rfl ?_
  refine G_aload_n 1 (dk_at dk_X6_partLength 4 rfl) rfl ?_
  refine K_gR gf_X6_7 (dk_at dk_X6_partLength 5 rfl) h (fun r6 h => ?_)
  refine G_iconst (v := 2) (dk_at dk_X6_partLength 6 rfl) (by decide) ?_
  refine K_aI (dk_at dk_X6_partLength 7 rfl) h (fun i7 h => ?_)
  refine G_iload_n 0 (dk_at dk_X6_partLength 8 rfl) rfl ?_
  refine G_imul (dk_at dk_X6_partLength 9 rfl) ?_
  refine G_aload_n 1 (dk_at dk_X6_partLength 10 rfl) rfl ?_
  refine G_iload_n 0 (dk_at dk_X6_partLength 11 rfl) rfl ?_
  obtain ⟨⟨_, ho⟩, h⟩ := h
  refine G_callV (As := [.int i5]) (rest := [.int (i7 * i5)]) lk_X6_159 rfl (dk_at dk_X6_partLength 12 rfl) rfl rfl (Nat.le_of_ble_eq_true rfl) ho (h.mono fun o11 A8 b9 c10 h => aftI h fun i12 h => ?_)
  refine G_iadd (dk_at dk_X6_partLength 13 rfl) ?_
  refine G_aload_n 1 (dk_at dk_X6_partLength 14 rfl) rfl ?_
  refine G_iload_n 2 (dk_at dk_X6_partLength 15 rfl) rfl ?_
  obtain ⟨⟨_, ho⟩, h⟩ := h
  refine G_callV (As := [.int v1]) (rest := [.int ((i7 * i5) + i12)]) lk_X6_176 rfl (dk_at dk_X6_partLength 16 rfl) rfl rfl (Nat.le_of_ble_eq_true rfl) ho (h.mono fun o16 A13 b14 c15 h => aftI h fun i17 h => ?_)
  refine G_isub (dk_at dk_X6_partLength 17 rfl) ?_
  refine G_istore_n (lv' := [(3, .int (((i7 * i5) + i12) - i17)), (2, .int i5), (0, .ref v0), (1, .int v1)]) (dk_at dk_X6_partLength 18 rfl) (by decide) rfl ?_
  refine G_iload_n 0 (dk_at dk_X6_partLength 19 rfl) rfl ?_
  refine G_aload_n 2 (dk_at dk_X6_partLength 20 rfl) rfl ?_
  refine K_gR gf_X6_7 (dk_at dk_X6_partLength 21 rfl) h (fun r18 h => ?_)
  refine G_iconst (v := 3) (dk_at dk_X6_partLength 22 rfl) (by decide) ?_
  refine K_aI (dk_at dk_X6_partLength 23 rfl) h (fun i19 h => ?_)
  refine G_icmp_ge (tgt := 41) (dk_at dk_X6_partLength 24 rfl) (by decide) (fun c => ?_) (fun c => ?_)
  · replace h := h.1 c
    refine G_aload_n 2 (dk_at dk_X6_partLength 27 rfl) rfl ?_
    refine K_gR gf_X6_7 (dk_at dk_X6_partLength 28 rfl) h (fun r20 h => ?_)
    refine G_iconst (v := 3) (dk_at dk_X6_partLength 29 rfl) (by decide) ?_
    refine K_aI (dk_at dk_X6_partLength 30 rfl) h (fun i21 h => ?_)
    exact G_iret (ty := .int) rfl rfl (dk_at dk_X6_partLength 31 rfl) h
  · replace h := h.2 c
    refine G_iload_n 0 (dk_at dk_X6_partLength 25 rfl) rfl ?_
    refine G_goto (tgt := 47) (dk_at dk_X6_partLength 26 rfl) (by decide) ?_
    exact G_iret (ty := .int) rfl rfl (dk_at dk_X6_partLength 31 rfl) h
theorem k_X6_isMissing_0 {l : Launch} {X : XT} {d : Nat} {Q : Ot → AH → Prop} {A : AH} {bc bs : Nat} {v0 : Nat} {v1 : Int32} (h : gR A v0 7 0 fun r1 => aI X A r1 (96 + v1) fun i2 => (¬ i2 = 0 → Q (Ri 0) A) ∧ (i2 = 0 → Q (Ri 1) A)) : G l X M_X6_isMissing d Q 0 [(0, .ref v0), (1, .int v1)] [] A bc bs := by
  refine G_aload_n 0 (dk_at dk_X6_isMissing 0 rfl) rfl ?_
  refine K_gR gf_X6_7 (dk_at dk_X6_isMissing 1 rfl) h (fun r1 h => ?_)
  refine G_bipush (v := 96) (dk_at dk_X6_isMissing 2 rfl) (by decide) ?_
  refine G_iload_n 1 (dk_at dk_X6_isMissing 3 rfl) rfl ?_
  refine G_iadd (dk_at dk_X6_isMissing 4 rfl) ?_
  refine K_aI (dk_at dk_X6_isMissing 5 rfl) h (fun i2 h => ?_)
  refine G_if_ne (tgt := 16) (dk_at dk_X6_isMissing 6 rfl) (by decide) (fun c => ?_) (fun c => ?_)
  · replace h := h.1 c
    refine G_iconst (v := 0) (dk_at dk_X6_isMissing 9 rfl) (by decide) ?_
    exact G_iret (ty := .boolean) rfl rfl (dk_at dk_X6_isMissing 10 rfl) h
  · replace h := h.2 c
    refine G_iconst (v := 1) (dk_at dk_X6_isMissing 7 rfl) (by decide) ?_
    refine G_goto (tgt := 17) (dk_at dk_X6_isMissing 8 rfl) (by decide) ?_
    exact G_iret (ty := .boolean) rfl rfl (dk_at dk_X6_isMissing 10 rfl) h
theorem k_X6_partAt_0 {l : Launch} {X : XT} {d : Nat} {Q : Ot → AH → Prop} {A : AH} {bc bs : Nat} {v0 : Nat} {v1 : Int32} (h : gR A v0 7 0 fun r1 => aI X A r1 2 fun i2 => ¬ i2 = 0 ∧ isO A v0 7 ∧ Cal l X d bc bs M_X6_firstPart [.ref v0, .int (v1 / i2)] A fun o6 A3 b4 c5 => rI o6 (fun E => Q (.inr E) A3) fun i7 => gR A3 v0 7 0 fun r8 => aI X A3 r8 2 fun i9 => gR A3 v0 7 0 fun r10 => aI X A3 r10 3 fun i11 => ¬ i11 = 0 ∧ Q (Ri (i7 + ((v1 - (i9 * (v1 / i2))) / i11))) A3) : G l X M_X6_partAt d Q 0 [(0, .ref v0), (1, .int v1)] [] A bc bs := by
  refine G_iload_n 1 (dk_at dk_X6_partAt 0 rfl) rfl ?_
  refine G_aload_n 0 (dk_at dk_X6_partAt 1 rfl) rfl ?_
  refine K_gR gf_X6_7 (dk_at dk_X6_partAt 2 rfl) h (fun r1 h => ?_)
  refine G_iconst (v := 2) (dk_at dk_X6_partAt 3 rfl) (by decide) ?_
  refine K_aI (dk_at dk_X6_partAt 4 rfl) h (fun i2 h => ?_)
  obtain ⟨h0, h⟩ := h
  refine G_idiv (dk_at dk_X6_partAt 5 rfl) h0 ?_
  refine G_istore_n (lv' := [(2, .int (v1 / i2)), (0, .ref v0), (1, .int v1)]) (dk_at dk_X6_partAt 6 rfl) (by decide) rfl ?_
  refine G_aload_n 1 (dk_at dk_X6_partAt 7 rfl) rfl ?_
  refine G_iload_n 0 (dk_at dk_X6_partAt 8 rfl) rfl ?_
  obtain ⟨⟨_, ho⟩, h⟩ := h
  refine G_callV (As := [.int (v1 / i2)]) (rest := []) lk_X6_167 rfl (dk_at dk_X6_partAt 9 rfl) rfl rfl (Nat.le_of_ble_eq_true rfl) ho (h.mono fun o6 A3 b4 c5 h => aftI h fun i7 h => ?_)
  refine G_iload_n 2 (dk_at dk_X6_partAt 10 rfl) rfl ?_
  refine G_aload_n 1 (dk_at dk_X6_partAt 11 rfl) rfl ?_
  refine K_gR gf_X6_7 (dk_at dk_X6_partAt 12 rfl) h (fun r8 h => ?_)
  refine G_iconst (v := 2) (dk_at dk_X6_partAt 13 rfl) (by decide) ?_
  refine K_aI (dk_at dk_X6_partAt 14 rfl) h (fun i9 h => ?_)
  refine G_iload_n 0 (dk_at dk_X6_partAt 15 rfl) rfl ?_
  refine G_imul (dk_at dk_X6_partAt 16 rfl) ?_
  refine G_isub (dk_at dk_X6_partAt 17 rfl) ?_
  refine G_aload_n 1 (dk_at dk_X6_partAt 18 rfl) rfl ?_
  refine K_gR gf_X6_7 (dk_at dk_X6_partAt 19 rfl) h (fun r10 h => ?_)
  refine G_iconst (v := 3) (dk_at dk_X6_partAt 20 rfl) (by decide) ?_
  refine K_aI (dk_at dk_X6_partAt 21 rfl) h (fun i11 h => ?_)
  obtain ⟨h0, h⟩ := h
  refine G_idiv (dk_at dk_X6_partAt 22 rfl) h0 ?_
  refine G_iadd (dk_at dk_X6_partAt 23 rfl) ?_
  exact G_iret (ty := .int) rfl rfl (dk_at dk_X6_partAt 24 rfl) h
theorem k_X6_missingIn_0 {l : Launch} {X : XT} {d : Nat} {Q : Ot → AH → Prop} {A : AH} {bc bs : Nat} {v0 : Nat} {v1 : Int32} (h : G l X M_X6_missingIn d Q 4 [(0, .ref v0), (1, .int v1), (2, .int 0), (3, .int 0)] [] A bc bs) : G l X M_X6_missingIn d Q 0 [(0, .ref v0), (1, .int v1)] [] A bc bs := by
  refine G_iconst (v := 0) (dk_at dk_X6_missingIn 0 rfl) (by decide) ?_
  refine G_istore_n (lv' := [(2, .int 0), (0, .ref v0), (1, .int v1)]) (dk_at dk_X6_missingIn 1 rfl) (by decide) rfl ?_
  refine G_iconst (v := 0) (dk_at dk_X6_missingIn 2 rfl) (by decide) ?_
  refine G_istore_n (lv' := [(3, .int 0), (2, .int 0), (0, .ref v0), (1, .int v1)]) (dk_at dk_X6_missingIn 3 rfl) (by decide) rfl ?_
  refine G_sub [2, 3, 1, 0] rfl ?_
  exact h
theorem k_X6_missingIn_4 {l : Launch} {X : XT} {d : Nat} {Q : Ot → AH → Prop} {A : AH} {bc bs : Nat} {v0 : Nat} {v1 : Int32} {v2 : Int32} {v3 : Int32} (h : isO A v0 7 ∧ Cal l X d bc bs M_X6_partsOf [.ref v0, .int v1] A fun o4 A1 b2 c3 => rI o4 (fun E => Q (.inr E) A1) fun i5 => (i5 ≤ v3 → Q (Ri v2) A1) ∧ (¬ i5 ≤ v3 → isO A1 v0 7 ∧ Cal l X d b2 c3 M_X6_firstPart [.ref v0, .int v1] A1 fun o9 A6 b7 c8 => rI o9 (fun E => Q (.inr E) A6) fun i10 => isO A6 v0 7 ∧ Cal l X d b7 c8 M_X6_isMissing [.ref v0, .int (i10 + v3)] A6 fun o14 A11 b12 c13 => rI o14 (fun E => Q (.inr E) A11) fun i15 => (i15 = 0 → G l X M_X6_missingIn d Q 4 [(0, .ref v0), (1, .int v1), (2, .int (v2 + 0)), (3, .int (v3 + 1))] [] A11 b12 c13) ∧ (¬ i15 = 0 → G l X M_X6_missingIn d Q 4 [(0, .ref v0), (1, .int v1), (2, .int (v2 + 1)), (3, .int (v3 + 1))] [] A11 b12 c13))) : G l X M_X6_missingIn d Q 4 [(0, .ref v0), (1, .int v1), (2, .int v2), (3, .int v3)] [] A bc bs := by
  refine G_iload_n 3 (dk_at dk_X6_missingIn 4 rfl) rfl ?_
  refine G_aload_n 0 (dk_at dk_X6_missingIn 5 rfl) rfl ?_
  refine G_iload_n 1 (dk_at dk_X6_missingIn 6 rfl) rfl ?_
  obtain ⟨⟨_, ho⟩, h⟩ := h
  refine G_callV (As := [.int v1]) (rest := [.int v3]) lk_X6_170 rfl (dk_at dk_X6_missingIn 7 rfl) rfl rfl (Nat.le_of_ble_eq_true rfl) ho (h.mono fun o4 A1 b2 c3 h => aftI h fun i5 h => ?_)
  refine G_icmp_ge (tgt := 41) (dk_at dk_X6_missingIn 8 rfl) (by decide) (fun c => ?_) (fun c => ?_)
  · replace h := h.1 c
    refine G_iload_n 2 (dk_at dk_X6_missingIn 25 rfl) rfl ?_
    exact G_iret (ty := .int) rfl rfl (dk_at dk_X6_missingIn 26 rfl) h
  · replace h := h.2 c
    refine G_iload_n 2 (dk_at dk_X6_missingIn 9 rfl) rfl ?_
    refine G_aload_n 0 (dk_at dk_X6_missingIn 10 rfl) rfl ?_
    refine G_aload_n 0 (dk_at dk_X6_missingIn 11 rfl) rfl ?_
    refine G_iload_n 1 (dk_at dk_X6_missingIn 12 rfl) rfl ?_
    obtain ⟨⟨_, ho⟩, h⟩ := h
    refine G_callV (As := [.int v1]) (rest := [.ref v0, .int v2]) lk_X6_167 rfl (dk_at dk_X6_missingIn 13 rfl) rfl rfl (Nat.le_of_ble_eq_true rfl) ho (h.mono fun o9 A6 b7 c8 h => aftI h fun i10 h => ?_)
    refine G_iload_n 3 (dk_at dk_X6_missingIn 14 rfl) rfl ?_
    refine G_iadd (dk_at dk_X6_missingIn 15 rfl) ?_
    obtain ⟨⟨_, ho⟩, h⟩ := h
    refine G_callV (As := [.int (i10 + v3)]) (rest := [.int v2]) lk_X6_179 rfl (dk_at dk_X6_missingIn 16 rfl) rfl rfl (Nat.le_of_ble_eq_true rfl) ho (h.mono fun o14 A11 b12 c13 h => aftI h fun i15 h => ?_)
    refine G_if_eq (tgt := 32) (dk_at dk_X6_missingIn 17 rfl) (by decide) (fun c => ?_) (fun c => ?_)
    · replace h := h.1 c
      refine G_iconst (v := 0) (dk_at dk_X6_missingIn 20 rfl) (by decide) ?_
      refine G_iadd (dk_at dk_X6_missingIn 21 rfl) ?_
      refine G_istore_n (lv' := [(2, .int (v2 + 0)), (0, .ref v0), (1, .int v1), (3, .int v3)]) (dk_at dk_X6_missingIn 22 rfl) (by decide) rfl ?_
      refine G_iinc (v := v3 + 1) (lv' := [(3, .int (v3 + 1)), (2, .int (v2 + 0)), (0, .ref v0), (1, .int v1)]) 3 (dk_at dk_X6_missingIn 23 rfl) rfl rfl (by decide) rfl ?_
      refine G_goto (tgt := 4) (dk_at dk_X6_missingIn 24 rfl) (by decide) ?_
      refine G_sub [2, 3, 1, 0] rfl ?_
      exact h
    · replace h := h.2 c
      refine G_iconst (v := 1) (dk_at dk_X6_missingIn 18 rfl) (by decide) ?_
      refine G_goto (tgt := 33) (dk_at dk_X6_missingIn 19 rfl) (by decide) ?_
      refine G_iadd (dk_at dk_X6_missingIn 21 rfl) ?_
      refine G_istore_n (lv' := [(2, .int (v2 + 1)), (0, .ref v0), (1, .int v1), (3, .int v3)]) (dk_at dk_X6_missingIn 22 rfl) (by decide) rfl ?_
      refine G_iinc (v := v3 + 1) (lv' := [(3, .int (v3 + 1)), (2, .int (v2 + 1)), (0, .ref v0), (1, .int v1)]) 3 (dk_at dk_X6_missingIn 23 rfl) rfl rfl (by decide) rfl ?_
      refine G_goto (tgt := 4) (dk_at dk_X6_missingIn 24 rfl) (by decide) ?_
      refine G_sub [2, 3, 1, 0] rfl ?_
      exact h
theorem k_X6_byteOf_0 {l : Launch} {X : XT} {d : Nat} {Q : Ot → AH → Prop} {A : AH} {bc bs : Nat} {v0 : Nat} {v1 : Int32} {v2 : Int32} (h : gR A v0 7 0 fun r1 => aI X A r1 1 fun i2 => G l X M_X6_byteOf d Q 25 [(0, .ref v0), (1, .int v1), (2, .int v2), (3, .int (((i2 + (37 * v2)) + ((v2 * v2) / 5)) - ((i2 + (37 * v2)) + ((v2 * v2) / 5)) / 251 * 251)), (4, .int 0)] [] A bc bs) : G l X M_X6_byteOf d Q 0 [(0, .ref v0), (1, .int v1), (2, .int v2)] [] A bc bs := by
  refine G_aload_n 0 (dk_at dk_X6_byteOf 0 rfl) rfl ?_
  refine K_gR gf_X6_7 (dk_at dk_X6_byteOf 1 rfl) h (fun r1 h => ?_)
  refine G_iconst (v := 1) (dk_at dk_X6_byteOf 2 rfl) (by decide) ?_
  refine K_aI (dk_at dk_X6_byteOf 3 rfl) h (fun i2 h => ?_)
  refine G_bipush (v := 37) (dk_at dk_X6_byteOf 4 rfl) (by decide) ?_
  refine G_iload_n 2 (dk_at dk_X6_byteOf 5 rfl) rfl ?_
  refine G_imul (dk_at dk_X6_byteOf 6 rfl) ?_
  refine G_iadd (dk_at dk_X6_byteOf 7 rfl) ?_
  refine G_iload_n 2 (dk_at dk_X6_byteOf 8 rfl) rfl ?_
  refine G_iload_n 2 (dk_at dk_X6_byteOf 9 rfl) rfl ?_
  refine G_imul (dk_at dk_X6_byteOf 10 rfl) ?_
  refine G_iconst (v := 5) (dk_at dk_X6_byteOf 11 rfl) (by decide) ?_
  refine G_idiv (dk_at dk_X6_byteOf 12 rfl) (by decide) ?_
  refine G_iadd (dk_at dk_X6_byteOf 13 rfl) ?_
  refine G_sipush (v := 251) (dk_at dk_X6_byteOf 14 rfl) (by decide) ?_
  refine G_irem (dk_at dk_X6_byteOf 15 rfl) (by decide) ?_
  refine G_istore_n (lv' := [(3, .int (((i2 + (37 * v2)) + ((v2 * v2) / 5)) - ((i2 + (37 * v2)) + ((v2 * v2) / 5)) / 251 * 251)), (0, .ref v0), (1, .int v1), (2, .int v2)]) (dk_at dk_X6_byteOf 16 rfl) (by decide) rfl ?_
  refine G_iconst (v := 0) (dk_at dk_X6_byteOf 17 rfl) (by decide) ?_
  refine G_istore (lv' := [(4, .int 0), (3, .int (((i2 + (37 * v2)) + ((v2 * v2) / 5)) - ((i2 + (37 * v2)) + ((v2 * v2) / 5)) / 251 * 251)), (0, .ref v0), (1, .int v1), (2, .int v2)]) (dk_at dk_X6_byteOf 18 rfl) (by decide) rfl ?_
  refine G_sub [2, 3, 4, 1, 0] rfl ?_
  exact h
theorem k_X6_byteOf_25 {l : Launch} {X : XT} {d : Nat} {Q : Ot → AH → Prop} {A : AH} {bc bs : Nat} {v0 : Nat} {v1 : Int32} {v2 : Int32} {v3 : Int32} {v4 : Int32} (h : gR A v0 7 0 fun r1 => aI X A r1 10 fun i2 => (i2 ≤ v4 → G l X M_X6_byteOf d Q 85 [(3, .int v3)] [] A bc bs) ∧ (¬ i2 ≤ v4 → (¬ v1 = 1 → G l X M_X6_byteOf d Q 85 [(3, .int v3)] [] A bc bs) ∧ (v1 = 1 → gR A v0 7 0 fun r3 => aI X A r3 (20 + (2 * v4)) fun i4 => (¬ i4 = v2 → G l X M_X6_byteOf d Q 25 [(0, .ref v0), (1, .int v1), (2, .int v2), (3, .int (v3 + 0)), (4, .int (v4 + 1))] [] A bc bs) ∧ (i4 = v2 → gR A v0 7 0 fun r5 => aI X A r5 ((20 + (2 * v4)) + 1) fun i6 => G l X M_X6_byteOf d Q 25 [(0, .ref v0), (1, .int v1), (2, .int v2), (3, .int (v3 + i6)), (4, .int (v4 + 1))] [] A bc bs)))) : G l X M_X6_byteOf d Q 25 [(0, .ref v0), (1, .int v1), (2, .int v2), (3, .int v3), (4, .int v4)] [] A bc bs := by
  refine G_iload 4 (dk_at dk_X6_byteOf 19 rfl) rfl ?_
  refine G_aload_n 0 (dk_at dk_X6_byteOf 20 rfl) rfl ?_
  refine K_gR gf_X6_7 (dk_at dk_X6_byteOf 21 rfl) h (fun r1 h => ?_)
  refine G_bipush (v := 10) (dk_at dk_X6_byteOf 22 rfl) (by decide) ?_
  refine K_aI (dk_at dk_X6_byteOf 23 rfl) h (fun i2 h => ?_)
  refine G_icmp_ge (tgt := 85) (dk_at dk_X6_byteOf 24 rfl) (by decide) (fun c => ?_) (fun c => ?_)
  · replace h := h.1 c
    refine G_sub [3] rfl ?_
    exact h
  · replace h := h.2 c
    refine G_iload_n 1 (dk_at dk_X6_byteOf 25 rfl) rfl ?_
    refine G_iconst (v := 1) (dk_at dk_X6_byteOf 26 rfl) (by decide) ?_
    refine G_icmp_ne (tgt := 85) (dk_at dk_X6_byteOf 27 rfl) (by decide) (fun c => ?_) (fun c => ?_)
    · replace h := h.1 c
      refine G_sub [3] rfl ?_
      exact h
    · replace h := h.2 c
      refine G_iload_n 3 (dk_at dk_X6_byteOf 28 rfl) rfl ?_
      refine G_aload_n 0 (dk_at dk_X6_byteOf 29 rfl) rfl ?_
      refine K_gR gf_X6_7 (dk_at dk_X6_byteOf 30 rfl) h (fun r3 h => ?_)
      refine G_bipush (v := 20) (dk_at dk_X6_byteOf 31 rfl) (by decide) ?_
      refine G_iconst (v := 2) (dk_at dk_X6_byteOf 32 rfl) (by decide) ?_
      refine G_iload 4 (dk_at dk_X6_byteOf 33 rfl) rfl ?_
      refine G_imul (dk_at dk_X6_byteOf 34 rfl) ?_
      refine G_iadd (dk_at dk_X6_byteOf 35 rfl) ?_
      refine K_aI (dk_at dk_X6_byteOf 36 rfl) h (fun i4 h => ?_)
      refine G_iload_n 2 (dk_at dk_X6_byteOf 37 rfl) rfl ?_
      refine G_icmp_ne (tgt := 76) (dk_at dk_X6_byteOf 38 rfl) (by decide) (fun c => ?_) (fun c => ?_)
      · replace h := h.1 c
        refine G_iconst (v := 0) (dk_at dk_X6_byteOf 50 rfl) (by decide) ?_
        refine G_iadd (dk_at dk_X6_byteOf 51 rfl) ?_
        refine G_istore_n (lv' := [(3, .int (v3 + 0)), (0, .ref v0), (1, .int v1), (2, .int v2), (4, .int v4)]) (dk_at dk_X6_byteOf 52 rfl) (by decide) rfl ?_
        refine G_iinc (v := v4 + 1) (lv' := [(4, .int (v4 + 1)), (3, .int (v3 + 0)), (0, .ref v0), (1, .int v1), (2, .int v2)]) 4 (dk_at dk_X6_byteOf 53 rfl) rfl rfl (by decide) rfl ?_
        refine G_goto (tgt := 25) (dk_at dk_X6_byteOf 54 rfl) (by decide) ?_
        refine G_sub [2, 3, 4, 1, 0] rfl ?_
        exact h
      · replace h := h.2 c
        refine G_aload_n 0 (dk_at dk_X6_byteOf 39 rfl) rfl ?_
        refine K_gR gf_X6_7 (dk_at dk_X6_byteOf 40 rfl) h (fun r5 h => ?_)
        refine G_bipush (v := 20) (dk_at dk_X6_byteOf 41 rfl) (by decide) ?_
        refine G_iconst (v := 2) (dk_at dk_X6_byteOf 42 rfl) (by decide) ?_
        refine G_iload 4 (dk_at dk_X6_byteOf 43 rfl) rfl ?_
        refine G_imul (dk_at dk_X6_byteOf 44 rfl) ?_
        refine G_iadd (dk_at dk_X6_byteOf 45 rfl) ?_
        refine G_iconst (v := 1) (dk_at dk_X6_byteOf 46 rfl) (by decide) ?_
        refine G_iadd (dk_at dk_X6_byteOf 47 rfl) ?_
        refine K_aI (dk_at dk_X6_byteOf 48 rfl) h (fun i6 h => ?_)
        refine G_goto (tgt := 77) (dk_at dk_X6_byteOf 49 rfl) (by decide) ?_
        refine G_iadd (dk_at dk_X6_byteOf 51 rfl) ?_
        refine G_istore_n (lv' := [(3, .int (v3 + i6)), (0, .ref v0), (1, .int v1), (2, .int v2), (4, .int v4)]) (dk_at dk_X6_byteOf 52 rfl) (by decide) rfl ?_
        refine G_iinc (v := v4 + 1) (lv' := [(4, .int (v4 + 1)), (3, .int (v3 + i6)), (0, .ref v0), (1, .int v1), (2, .int v2)]) 4 (dk_at dk_X6_byteOf 53 rfl) rfl rfl (by decide) rfl ?_
        refine G_goto (tgt := 25) (dk_at dk_X6_byteOf 54 rfl) (by decide) ?_
        refine G_sub [2, 3, 4, 1, 0] rfl ?_
        exact h
theorem k_X6_byteOf_85 {l : Launch} {X : XT} {d : Nat} {Q : Ot → AH → Prop} {A : AH} {bc bs : Nat} {v3 : Int32} (h : Q (Ri (v3 - v3 / 256 * 256)) A) : G l X M_X6_byteOf d Q 85 [(3, .int v3)] [] A bc bs := by
  refine G_iload_n 0 (dk_at dk_X6_byteOf 55 rfl) rfl ?_
  refine G_sipush (v := 256) (dk_at dk_X6_byteOf 56 rfl) (by decide) ?_
  refine G_irem (dk_at dk_X6_byteOf 57 rfl) (by decide) ?_
  exact G_iret (ty := .int) rfl rfl (dk_at dk_X6_byteOf 58 rfl) h
theorem k_X6_sumOf_0 {l : Launch} {X : XT} {d : Nat} {Q : Ot → AH → Prop} {A : AH} {bc bs : Nat} {v0 : Nat} {v1 : Int32} {v2 : Int32} {v3 : Int32} (h : G l X M_X6_sumOf d Q 6 [(0, .ref v0), (1, .int v1), (2, .int v2), (3, .int v3), (4, .int 0), (5, .int 0)] [] A bc bs) : G l X M_X6_sumOf d Q 0 [(0, .ref v0), (1, .int v1), (2, .int v2), (3, .int v3)] [] A bc bs := by
  refine G_iconst (v := 0) (dk_at dk_X6_sumOf 0 rfl) (by decide) ?_
  refine G_istore (lv' := [(4, .int 0), (0, .ref v0), (1, .int v1), (2, .int v2), (3, .int v3)]) (dk_at dk_X6_sumOf 1 rfl) (by decide) rfl ?_
  refine G_iconst (v := 0) (dk_at dk_X6_sumOf 2 rfl) (by decide) ?_
  refine G_istore (lv' := [(5, .int 0), (4, .int 0), (0, .ref v0), (1, .int v1), (2, .int v2), (3, .int v3)]) (dk_at dk_X6_sumOf 3 rfl) (by decide) rfl ?_
  refine G_sub [2, 3, 4, 5, 1, 0] rfl ?_
  exact h
theorem k_X6_sumOf_6 {l : Launch} {X : XT} {d : Nat} {Q : Ot → AH → Prop} {A : AH} {bc bs : Nat} {v0 : Nat} {v1 : Int32} {v2 : Int32} {v3 : Int32} {v4 : Int32} {v5 : Int32} (h : (v3 ≤ v5 → Q (Ri (v4 - v4 / 9973 * 9973)) A) ∧ (¬ v3 ≤ v5 → isO A v0 7 ∧ Cal l X d bc bs M_X6_byteOf [.ref v0, .int v1, .int (v2 + v5)] A fun o4 A1 b2 c3 => rI o4 (fun E => Q (.inr E) A1) fun i5 => G l X M_X6_sumOf d Q 6 [(0, .ref v0), (1, .int v1), (2, .int v2), (3, .int v3), (4, .int (v4 + ((v5 + 1) * i5))), (5, .int (v5 + 1))] [] A1 b2 c3)) : G l X M_X6_sumOf d Q 6 [(0, .ref v0), (1, .int v1), (2, .int v2), (3, .int v3), (4, .int v4), (5, .int v5)] [] A bc bs := by
  refine G_iload 5 (dk_at dk_X6_sumOf 4 rfl) rfl ?_
  refine G_iload_n 3 (dk_at dk_X6_sumOf 5 rfl) rfl ?_
  refine G_icmp_ge (tgt := 37) (dk_at dk_X6_sumOf 6 rfl) (by decide) (fun c => ?_) (fun c => ?_)
  · replace h := h.1 c
    refine G_iload 4 (dk_at dk_X6_sumOf 22 rfl) rfl ?_
    refine G_sipush (v := 9973) (dk_at dk_X6_sumOf 23 rfl) (by decide) ?_
    refine G_irem (dk_at dk_X6_sumOf 24 rfl) (by decide) ?_
    exact G_iret (ty := .int) rfl rfl (dk_at dk_X6_sumOf 25 rfl) h
  · replace h := h.2 c
    refine G_iload 4 (dk_at dk_X6_sumOf 7 rfl) rfl ?_
    refine G_iload 5 (dk_at dk_X6_sumOf 8 rfl) rfl ?_
    refine G_iconst (v := 1) (dk_at dk_X6_sumOf 9 rfl) (by decide) ?_
    refine G_iadd (dk_at dk_X6_sumOf 10 rfl) ?_
    refine G_aload_n 0 (dk_at dk_X6_sumOf 11 rfl) rfl ?_
    refine G_iload_n 1 (dk_at dk_X6_sumOf 12 rfl) rfl ?_
    refine G_iload_n 2 (dk_at dk_X6_sumOf 13 rfl) rfl ?_
    refine G_iload 5 (dk_at dk_X6_sumOf 14 rfl) rfl ?_
    refine G_iadd (dk_at dk_X6_sumOf 15 rfl) ?_
    obtain ⟨⟨_, ho⟩, h⟩ := h
    refine G_callV (As := [.int v1, .int (v2 + v5)]) (rest := [.int (v5 + 1), .int v4]) lk_X6_182 rfl (dk_at dk_X6_sumOf 16 rfl) rfl rfl (Nat.le_of_ble_eq_true rfl) ho (h.mono fun o4 A1 b2 c3 h => aftI h fun i5 h => ?_)
    refine G_imul (dk_at dk_X6_sumOf 17 rfl) ?_
    refine G_iadd (dk_at dk_X6_sumOf 18 rfl) ?_
    refine G_istore (lv' := [(4, .int (v4 + ((v5 + 1) * i5))), (0, .ref v0), (1, .int v1), (2, .int v2), (3, .int v3), (5, .int v5)]) (dk_at dk_X6_sumOf 19 rfl) (by decide) rfl ?_
    refine G_iinc (v := v5 + 1) (lv' := [(5, .int (v5 + 1)), (4, .int (v4 + ((v5 + 1) * i5))), (0, .ref v0), (1, .int v1), (2, .int v2), (3, .int v3)]) 5 (dk_at dk_X6_sumOf 20 rfl) rfl rfl (by decide) rfl ?_
    refine G_goto (tgt := 6) (dk_at dk_X6_sumOf 21 rfl) (by decide) ?_
    refine G_sub [2, 3, 4, 5, 1, 0] rfl ?_
    exact h
theorem k_X6_rowSum_0 {l : Launch} {X : XT} {d : Nat} {Q : Ot → AH → Prop} {A : AH} {bc bs : Nat} {v0 : Nat} {v1 : Int32} {v2 : Int32} (h : G l X M_X6_rowSum d Q 5 [(0, .ref v0), (1, .int v1), (2, .int v2), (3, .int 0), (4, .int 0)] [] A bc bs) : G l X M_X6_rowSum d Q 0 [(0, .ref v0), (1, .int v1), (2, .int v2)] [] A bc bs := by
  refine G_iconst (v := 0) (dk_at dk_X6_rowSum 0 rfl) (by decide) ?_
  refine G_istore_n (lv' := [(3, .int 0), (0, .ref v0), (1, .int v1), (2, .int v2)]) (dk_at dk_X6_rowSum 1 rfl) (by decide) rfl ?_
  refine G_iconst (v := 0) (dk_at dk_X6_rowSum 2 rfl) (by decide) ?_
  refine G_istore (lv' := [(4, .int 0), (3, .int 0), (0, .ref v0), (1, .int v1), (2, .int v2)]) (dk_at dk_X6_rowSum 3 rfl) (by decide) rfl ?_
  refine G_sub [2, 3, 4, 1, 0] rfl ?_
  exact h
theorem k_X6_rowSum_5 {l : Launch} {X : XT} {d : Nat} {Q : Ot → AH → Prop} {A : AH} {bc bs : Nat} {v0 : Nat} {v1 : Int32} {v2 : Int32} {v3 : Int32} {v4 : Int32} (h : (v2 ≤ v4 → Q (Ri (v3 - v3 / 9973 * 9973)) A) ∧ (¬ v2 ≤ v4 → gR A v0 7 0 fun r1 => aI X A r1 (v1 + v4) fun i2 => G l X M_X6_rowSum d Q 5 [(0, .ref v0), (1, .int v1), (2, .int v2), (3, .int (v3 + ((v4 + 1) * i2))), (4, .int (v4 + 1))] [] A bc bs)) : G l X M_X6_rowSum d Q 5 [(0, .ref v0), (1, .int v1), (2, .int v2), (3, .int v3), (4, .int v4)] [] A bc bs := by
  refine G_iload 4 (dk_at dk_X6_rowSum 4 rfl) rfl ?_
  refine G_iload_n 2 (dk_at dk_X6_rowSum 5 rfl) rfl ?_
  refine G_icmp_ge (tgt := 34) (dk_at dk_X6_rowSum 6 rfl) (by decide) (fun c => ?_) (fun c => ?_)
  · replace h := h.1 c
    refine G_iload_n 3 (dk_at dk_X6_rowSum 22 rfl) rfl ?_
    refine G_sipush (v := 9973) (dk_at dk_X6_rowSum 23 rfl) (by decide) ?_
    refine G_irem (dk_at dk_X6_rowSum 24 rfl) (by decide) ?_
    exact G_iret (ty := .int) rfl rfl (dk_at dk_X6_rowSum 25 rfl) h
  · replace h := h.2 c
    refine G_iload_n 3 (dk_at dk_X6_rowSum 7 rfl) rfl ?_
    refine G_iload 4 (dk_at dk_X6_rowSum 8 rfl) rfl ?_
    refine G_iconst (v := 1) (dk_at dk_X6_rowSum 9 rfl) (by decide) ?_
    refine G_iadd (dk_at dk_X6_rowSum 10 rfl) ?_
    refine G_aload_n 0 (dk_at dk_X6_rowSum 11 rfl) rfl ?_
    refine K_gR gf_X6_7 (dk_at dk_X6_rowSum 12 rfl) h (fun r1 h => ?_)
    refine G_iload_n 1 (dk_at dk_X6_rowSum 13 rfl) rfl ?_
    refine G_iload 4 (dk_at dk_X6_rowSum 14 rfl) rfl ?_
    refine G_iadd (dk_at dk_X6_rowSum 15 rfl) ?_
    refine K_aI (dk_at dk_X6_rowSum 16 rfl) h (fun i2 h => ?_)
    refine G_imul (dk_at dk_X6_rowSum 17 rfl) ?_
    refine G_iadd (dk_at dk_X6_rowSum 18 rfl) ?_
    refine G_istore_n (lv' := [(3, .int (v3 + ((v4 + 1) * i2))), (0, .ref v0), (1, .int v1), (2, .int v2), (4, .int v4)]) (dk_at dk_X6_rowSum 19 rfl) (by decide) rfl ?_
    refine G_iinc (v := v4 + 1) (lv' := [(4, .int (v4 + 1)), (3, .int (v3 + ((v4 + 1) * i2))), (0, .ref v0), (1, .int v1), (2, .int v2)]) 4 (dk_at dk_X6_rowSum 20 rfl) rfl rfl (by decide) rfl ?_
    refine G_goto (tgt := 5) (dk_at dk_X6_rowSum 21 rfl) (by decide) ?_
    refine G_sub [2, 3, 4, 1, 0] rfl ?_
    exact h
theorem k_X6_stateOf_0 {l : Launch} {X : XT} {d : Nat} {Q : Ot → AH → Prop} {A : AH} {bc bs : Nat} {v0 : Nat} {v1 : Int32} (h : isO A v0 7 ∧ Cal l X d bc bs M_X6_missingIn [.ref v0, .int v1] A fun o4 A1 b2 c3 => rI o4 (fun E => Q (.inr E) A1) fun i5 => (i5 ≤ 0 → gR A1 v0 7 0 fun r6 => aI X A1 r6 2 fun i7 => isO A1 v0 7 ∧ Cal l X d b2 c3 M_X6_pieceLength [.ref v0, .int v1] A1 fun o11 A8 b9 c10 => rI o11 (fun E => Q (.inr E) A8) fun i12 => isO A8 v0 7 ∧ Cal l X d b9 c10 M_X6_rowSum [.ref v0, .int (336 + (i7 * v1)), .int i12] A8 fun o16 A13 b14 c15 => rI o16 (fun E => Q (.inr E) A13) fun i17 => gR A13 v0 7 0 fun r18 => aI X A13 r18 2 fun i19 => isO A13 v0 7 ∧ Cal l X d b14 c15 M_X6_pieceLength [.ref v0, .int v1] A13 fun o23 A20 b21 c22 => rI o23 (fun E => Q (.inr E) A20) fun i24 => isO A20 v0 7 ∧ Cal l X d b21 c22 M_X6_sumOf [.ref v0, .int 0, .int (i19 * v1), .int i24] A20 fun o28 A25 b26 c27 => rI o28 (fun E => Q (.inr E) A25) fun i29 => (¬ i17 = i29 → Q (Ri 2) A25) ∧ (i17 = i29 → Q (Ri 1) A25)) ∧ (¬ i5 ≤ 0 → Q (Ri 0) A1)) : G l X M_X6_stateOf d Q 0 [(0, .ref v0), (1, .int v1)] [] A bc bs := by
  refine G_aload_n 0 (dk_at dk_X6_stateOf 0 rfl) rfl ?_
  refine G_iload_n 1 (dk_at dk_X6_stateOf 1 rfl) rfl ?_
  obtain ⟨⟨_, ho⟩, h⟩ := h
  refine G_callV (As := [.int v1]) (rest := []) lk_X6_185 rfl (dk_at dk_X6_stateOf 2 rfl) rfl rfl (Nat.le_of_ble_eq_true rfl) ho (h.mono fun o4 A1 b2 c3 h => aftI h fun i5 h => ?_)
  refine G_if_le (tgt := 10) (dk_at dk_X6_stateOf 3 rfl) (by decide) (fun c => ?_) (fun c => ?_)
  · replace h := h.1 c
    refine G_aload_n 0 (dk_at dk_X6_stateOf 6 rfl) rfl ?_
    refine G_sipush (v := 336) (dk_at dk_X6_stateOf 7 rfl) (by decide) ?_
    refine G_aload_n 0 (dk_at dk_X6_stateOf 8 rfl) rfl ?_
    refine K_gR gf_X6_7 (dk_at dk_X6_stateOf 9 rfl) h (fun r6 h => ?_)
    refine G_iconst (v := 2) (dk_at dk_X6_stateOf 10 rfl) (by decide) ?_
    refine K_aI (dk_at dk_X6_stateOf 11 rfl) h (fun i7 h => ?_)
    refine G_iload_n 1 (dk_at dk_X6_stateOf 12 rfl) rfl ?_
    refine G_imul (dk_at dk_X6_stateOf 13 rfl) ?_
    refine G_iadd (dk_at dk_X6_stateOf 14 rfl) ?_
    refine G_aload_n 0 (dk_at dk_X6_stateOf 15 rfl) rfl ?_
    refine G_iload_n 1 (dk_at dk_X6_stateOf 16 rfl) rfl ?_
    obtain ⟨⟨_, ho⟩, h⟩ := h
    refine G_callV (As := [.int v1]) (rest := [.int (336 + (i7 * v1)), .ref v0]) lk_X6_159 rfl (dk_at dk_X6_stateOf 17 rfl) rfl rfl (Nat.le_of_ble_eq_true rfl) ho (h.mono fun o11 A8 b9 c10 h => aftI h fun i12 h => ?_)
    obtain ⟨⟨_, ho⟩, h⟩ := h
    refine G_callV (As := [.int (336 + (i7 * v1)), .int i12]) (rest := []) lk_X6_188 rfl (dk_at dk_X6_stateOf 18 rfl) rfl rfl (Nat.le_of_ble_eq_true rfl) ho (h.mono fun o16 A13 b14 c15 h => aftI h fun i17 h => ?_)
    refine G_aload_n 0 (dk_at dk_X6_stateOf 19 rfl) rfl ?_
    refine G_iconst (v := 0) (dk_at dk_X6_stateOf 20 rfl) (by decide) ?_
    refine G_aload_n 0 (dk_at dk_X6_stateOf 21 rfl) rfl ?_
    refine K_gR gf_X6_7 (dk_at dk_X6_stateOf 22 rfl) h (fun r18 h => ?_)
    refine G_iconst (v := 2) (dk_at dk_X6_stateOf 23 rfl) (by decide) ?_
    refine K_aI (dk_at dk_X6_stateOf 24 rfl) h (fun i19 h => ?_)
    refine G_iload_n 1 (dk_at dk_X6_stateOf 25 rfl) rfl ?_
    refine G_imul (dk_at dk_X6_stateOf 26 rfl) ?_
    refine G_aload_n 0 (dk_at dk_X6_stateOf 27 rfl) rfl ?_
    refine G_iload_n 1 (dk_at dk_X6_stateOf 28 rfl) rfl ?_
    obtain ⟨⟨_, ho⟩, h⟩ := h
    refine G_callV (As := [.int v1]) (rest := [.int (i19 * v1), .int 0, .ref v0, .int i17]) lk_X6_159 rfl (dk_at dk_X6_stateOf 29 rfl) rfl rfl (Nat.le_of_ble_eq_true rfl) ho (h.mono fun o23 A20 b21 c22 h => aftI h fun i24 h => ?_)
    obtain ⟨⟨_, ho⟩, h⟩ := h
    refine G_callV (As := [.int 0, .int (i19 * v1), .int i24]) (rest := [.int i17]) lk_X6_191 rfl (dk_at dk_X6_stateOf 30 rfl) rfl rfl (Nat.le_of_ble_eq_true rfl) ho (h.mono fun o28 A25 b26 c27 h => aftI h fun i29 h => ?_)
    refine G_icmp_ne (tgt := 56) (dk_at dk_X6_stateOf 31 rfl) (by decide) (fun c => ?_) (fun c => ?_)
    · replace h := h.1 c
      refine G_iconst (v := 2) (dk_at dk_X6_stateOf 34 rfl) (by decide) ?_
      exact G_iret (ty := .int) rfl rfl (dk_at dk_X6_stateOf 35 rfl) h
    · replace h := h.2 c
      refine G_iconst (v := 1) (dk_at dk_X6_stateOf 32 rfl) (by decide) ?_
      refine G_goto (tgt := 57) (dk_at dk_X6_stateOf 33 rfl) (by decide) ?_
      exact G_iret (ty := .int) rfl rfl (dk_at dk_X6_stateOf 35 rfl) h
  · replace h := h.2 c
    refine G_iconst (v := 0) (dk_at dk_X6_stateOf 4 rfl) (by decide) ?_
    exact G_iret (ty := .int) rfl rfl (dk_at dk_X6_stateOf 5 rfl) h
theorem k_X6_piecesIn_0 {l : Launch} {X : XT} {d : Nat} {Q : Ot → AH → Prop} {A : AH} {bc bs : Nat} {v0 : Nat} {v1 : Int32} (h : G l X M_X6_piecesIn d Q 4 [(0, .ref v0), (1, .int v1), (2, .int 0), (3, .int 0)] [] A bc bs) : G l X M_X6_piecesIn d Q 0 [(0, .ref v0), (1, .int v1)] [] A bc bs := by
  refine G_iconst (v := 0) (dk_at dk_X6_piecesIn 0 rfl) (by decide) ?_
  refine G_istore_n (lv' := [(2, .int 0), (0, .ref v0), (1, .int v1)]) (dk_at dk_X6_piecesIn 1 rfl) (by decide) rfl ?_
  refine G_iconst (v := 0) (dk_at dk_X6_piecesIn 2 rfl) (by decide) ?_
  refine G_istore_n (lv' := [(3, .int 0), (2, .int 0), (0, .ref v0), (1, .int v1)]) (dk_at dk_X6_piecesIn 3 rfl) (by decide) rfl ?_
  refine G_sub [2, 3, 1, 0] rfl ?_
  exact h
theorem k_X6_piecesIn_4 {l : Launch} {X : XT} {d : Nat} {Q : Ot → AH → Prop} {A : AH} {bc bs : Nat} {v0 : Nat} {v1 : Int32} {v2 : Int32} {v3 : Int32} (h : isO A v0 7 ∧ Cal l X d bc bs M_X6_pieces [.ref v0] A fun o4 A1 b2 c3 => rI o4 (fun E => Q (.inr E) A1) fun i5 => (i5 ≤ v3 → Q (Ri v2) A1) ∧ (¬ i5 ≤ v3 → isO A1 v0 7 ∧ Cal l X d b2 c3 M_X6_stateOf [.ref v0, .int v3] A1 fun o9 A6 b7 c8 => rI o9 (fun E => Q (.inr E) A6) fun i10 => (¬ i10 = v1 → G l X M_X6_piecesIn d Q 4 [(0, .ref v0), (1, .int v1), (2, .int (v2 + 0)), (3, .int (v3 + 1))] [] A6 b7 c8) ∧ (i10 = v1 → G l X M_X6_piecesIn d Q 4 [(0, .ref v0), (1, .int v1), (2, .int (v2 + 1)), (3, .int (v3 + 1))] [] A6 b7 c8))) : G l X M_X6_piecesIn d Q 4 [(0, .ref v0), (1, .int v1), (2, .int v2), (3, .int v3)] [] A bc bs := by
  refine G_iload_n 3 (dk_at dk_X6_piecesIn 4 rfl) rfl ?_
  refine G_aload_n 0 (dk_at dk_X6_piecesIn 5 rfl) rfl ?_
  obtain ⟨⟨_, ho⟩, h⟩ := h
  refine G_callV (As := []) (rest := [.int v3]) lk_X6_165 rfl (dk_at dk_X6_piecesIn 6 rfl) rfl rfl (Nat.le_of_ble_eq_true rfl) ho (h.mono fun o4 A1 b2 c3 h => aftI h fun i5 h => ?_)
  refine G_icmp_ge (tgt := 35) (dk_at dk_X6_piecesIn 7 rfl) (by decide) (fun c => ?_) (fun c => ?_)
  · replace h := h.1 c
    refine G_iload_n 2 (dk_at dk_X6_piecesIn 21 rfl) rfl ?_
    exact G_iret (ty := .int) rfl rfl (dk_at dk_X6_piecesIn 22 rfl) h
  · replace h := h.2 c
    refine G_iload_n 2 (dk_at dk_X6_piecesIn 8 rfl) rfl ?_
    refine G_aload_n 0 (dk_at dk_X6_piecesIn 9 rfl) rfl ?_
    refine G_iload_n 3 (dk_at dk_X6_piecesIn 10 rfl) rfl ?_
    obtain ⟨⟨_, ho⟩, h⟩ := h
    refine G_callV (As := [.int v3]) (rest := [.int v2]) lk_X6_195 rfl (dk_at dk_X6_piecesIn 11 rfl) rfl rfl (Nat.le_of_ble_eq_true rfl) ho (h.mono fun o9 A6 b7 c8 h => aftI h fun i10 h => ?_)
    refine G_iload_n 1 (dk_at dk_X6_piecesIn 12 rfl) rfl ?_
    refine G_icmp_ne (tgt := 26) (dk_at dk_X6_piecesIn 13 rfl) (by decide) (fun c => ?_) (fun c => ?_)
    · replace h := h.1 c
      refine G_iconst (v := 0) (dk_at dk_X6_piecesIn 16 rfl) (by decide) ?_
      refine G_iadd (dk_at dk_X6_piecesIn 17 rfl) ?_
      refine G_istore_n (lv' := [(2, .int (v2 + 0)), (0, .ref v0), (1, .int v1), (3, .int v3)]) (dk_at dk_X6_piecesIn 18 rfl) (by decide) rfl ?_
      refine G_iinc (v := v3 + 1) (lv' := [(3, .int (v3 + 1)), (2, .int (v2 + 0)), (0, .ref v0), (1, .int v1)]) 3 (dk_at dk_X6_piecesIn 19 rfl) rfl rfl (by decide) rfl ?_
      refine G_goto (tgt := 4) (dk_at dk_X6_piecesIn 20 rfl) (by decide) ?_
      refine G_sub [2, 3, 1, 0] rfl ?_
      exact h
    · replace h := h.2 c
      refine G_iconst (v := 1) (dk_at dk_X6_piecesIn 14 rfl) (by decide) ?_
      refine G_goto (tgt := 27) (dk_at dk_X6_piecesIn 15 rfl) (by decide) ?_
      refine G_iadd (dk_at dk_X6_piecesIn 17 rfl) ?_
      refine G_istore_n (lv' := [(2, .int (v2 + 1)), (0, .ref v0), (1, .int v1), (3, .int v3)]) (dk_at dk_X6_piecesIn 18 rfl) (by decide) rfl ?_
      refine G_iinc (v := v3 + 1) (lv' := [(3, .int (v3 + 1)), (2, .int (v2 + 1)), (0, .ref v0), (1, .int v1)]) 3 (dk_at dk_X6_piecesIn 19 rfl) rfl rfl (by decide) rfl ?_
      refine G_goto (tgt := 4) (dk_at dk_X6_piecesIn 20 rfl) (by decide) ?_
      refine G_sub [2, 3, 1, 0] rfl ?_
      exact h
theorem k_X6_missing_0 {l : Launch} {X : XT} {d : Nat} {Q : Ot → AH → Prop} {A : AH} {bc bs : Nat} {v0 : Nat} (h : G l X M_X6_missing d Q 4 [(0, .ref v0), (1, .int 0), (2, .int 0)] [] A bc bs) : G l X M_X6_missing d Q 0 [(0, .ref v0)] [] A bc bs := by
  refine G_iconst (v := 0) (dk_at dk_X6_missing 0 rfl) (by decide) ?_
  refine G_istore_n (lv' := [(1, .int 0), (0, .ref v0)]) (dk_at dk_X6_missing 1 rfl) (by decide) rfl ?_
  refine G_iconst (v := 0) (dk_at dk_X6_missing 2 rfl) (by decide) ?_
  refine G_istore_n (lv' := [(2, .int 0), (1, .int 0), (0, .ref v0)]) (dk_at dk_X6_missing 3 rfl) (by decide) rfl ?_
  refine G_sub [2, 1, 0] rfl ?_
  exact h
theorem k_X6_missing_4 {l : Launch} {X : XT} {d : Nat} {Q : Ot → AH → Prop} {A : AH} {bc bs : Nat} {v0 : Nat} {v1 : Int32} {v2 : Int32} (h : isO A v0 7 ∧ Cal l X d bc bs M_X6_parts [.ref v0] A fun o4 A1 b2 c3 => rI o4 (fun E => Q (.inr E) A1) fun i5 => (i5 ≤ v2 → Q (Ri v1) A1) ∧ (¬ i5 ≤ v2 → isO A1 v0 7 ∧ Cal l X d b2 c3 M_X6_isMissing [.ref v0, .int v2] A1 fun o9 A6 b7 c8 => rI o9 (fun E => Q (.inr E) A6) fun i10 => (i10 = 0 → G l X M_X6_missing d Q 4 [(0, .ref v0), (1, .int (v1 + 0)), (2, .int (v2 + 1))] [] A6 b7 c8) ∧ (¬ i10 = 0 → G l X M_X6_missing d Q 4 [(0, .ref v0), (1, .int (v1 + 1)), (2, .int (v2 + 1))] [] A6 b7 c8))) : G l X M_X6_missing d Q 4 [(0, .ref v0), (1, .int v1), (2, .int v2)] [] A bc bs := by
  refine G_iload_n 2 (dk_at dk_X6_missing 4 rfl) rfl ?_
  refine G_aload_n 0 (dk_at dk_X6_missing 5 rfl) rfl ?_
  obtain ⟨⟨_, ho⟩, h⟩ := h
  refine G_callV (As := []) (rest := [.int v2]) lk_X6_156 rfl (dk_at dk_X6_missing 6 rfl) rfl rfl (Nat.le_of_ble_eq_true rfl) ho (h.mono fun o4 A1 b2 c3 h => aftI h fun i5 h => ?_)
  refine G_icmp_ge (tgt := 34) (dk_at dk_X6_missing 7 rfl) (by decide) (fun c => ?_) (fun c => ?_)
  · replace h := h.1 c
    refine G_iload_n 1 (dk_at dk_X6_missing 20 rfl) rfl ?_
    exact G_iret (ty := .int) rfl rfl (dk_at dk_X6_missing 21 rfl) h
  · replace h := h.2 c
    refine G_iload_n 1 (dk_at dk_X6_missing 8 rfl) rfl ?_
    refine G_aload_n 0 (dk_at dk_X6_missing 9 rfl) rfl ?_
    refine G_iload_n 2 (dk_at dk_X6_missing 10 rfl) rfl ?_
    obtain ⟨⟨_, ho⟩, h⟩ := h
    refine G_callV (As := [.int v2]) (rest := [.int v1]) lk_X6_179 rfl (dk_at dk_X6_missing 11 rfl) rfl rfl (Nat.le_of_ble_eq_true rfl) ho (h.mono fun o9 A6 b7 c8 h => aftI h fun i10 h => ?_)
    refine G_if_eq (tgt := 25) (dk_at dk_X6_missing 12 rfl) (by decide) (fun c => ?_) (fun c => ?_)
    · replace h := h.1 c
      refine G_iconst (v := 0) (dk_at dk_X6_missing 15 rfl) (by decide) ?_
      refine G_iadd (dk_at dk_X6_missing 16 rfl) ?_
      refine G_istore_n (lv' := [(1, .int (v1 + 0)), (0, .ref v0), (2, .int v2)]) (dk_at dk_X6_missing 17 rfl) (by decide) rfl ?_
      refine G_iinc (v := v2 + 1) (lv' := [(2, .int (v2 + 1)), (1, .int (v1 + 0)), (0, .ref v0)]) 2 (dk_at dk_X6_missing 18 rfl) rfl rfl (by decide) rfl ?_
      refine G_goto (tgt := 4) (dk_at dk_X6_missing 19 rfl) (by decide) ?_
      refine G_sub [2, 1, 0] rfl ?_
      exact h
    · replace h := h.2 c
      refine G_iconst (v := 1) (dk_at dk_X6_missing 13 rfl) (by decide) ?_
      refine G_goto (tgt := 26) (dk_at dk_X6_missing 14 rfl) (by decide) ?_
      refine G_iadd (dk_at dk_X6_missing 16 rfl) ?_
      refine G_istore_n (lv' := [(1, .int (v1 + 1)), (0, .ref v0), (2, .int v2)]) (dk_at dk_X6_missing 17 rfl) (by decide) rfl ?_
      refine G_iinc (v := v2 + 1) (lv' := [(2, .int (v2 + 1)), (1, .int (v1 + 1)), (0, .ref v0)]) 2 (dk_at dk_X6_missing 18 rfl) rfl rfl (by decide) rfl ?_
      refine G_goto (tgt := 4) (dk_at dk_X6_missing 19 rfl) (by decide) ?_
      refine G_sub [2, 1, 0] rfl ?_
      exact h
theorem k_X6_count_0 {l : Launch} {X : XT} {d : Nat} {Q : Ot → AH → Prop} {A : AH} {bc bs : Nat} {v0 : Nat} {v1 : Int32} (h : Cal l X d bc bs M_X6_isIn [.int v1, .int 0, .int 11] A fun o4 A1 b2 c3 => rI o4 (fun E => Q (.inr E) A1) fun i5 => (i5 = 0 → G l X M_X6_count d Q 16 [(0, .ref v0), (1, .int v1)] [.int 1, .ref v0] A1 b2 c3) ∧ (¬ i5 = 0 → G l X M_X6_count d Q 16 [(0, .ref v0), (1, .int v1)] [.int 0, .ref v0] A1 b2 c3)) : G l X M_X6_count d Q 0 [(0, .ref v0), (1, .int v1)] [] A bc bs := by
  refine G_aload_n 0 (dk_at dk_X6_count 0 rfl) rfl ?_
  refine G_iload_n 1 (dk_at dk_X6_count 1 rfl) rfl ?_
  refine G_iconst (v := 0) (dk_at dk_X6_count 2 rfl) (by decide) ?_
  refine G_bipush (v := 11) (dk_at dk_X6_count 3 rfl) (by decide) ?_
  refine G_callS (As := [.int v1, .int 0, .int 11]) (rest := [.ref v0]) lk_X6_62 rfl (dk_at dk_X6_count 4 rfl) rfl rfl (Nat.le_of_ble_eq_true rfl) (h.mono fun o4 A1 b2 c3 h => aftI h fun i5 h => ?_)
  refine G_if_eq (tgt := 15) (dk_at dk_X6_count 5 rfl) (by decide) (fun c => ?_) (fun c => ?_)
  · replace h := h.1 c
    refine G_iconst (v := 1) (dk_at dk_X6_count 8 rfl) (by decide) ?_
    exact h
  · replace h := h.2 c
    refine G_iconst (v := 0) (dk_at dk_X6_count 6 rfl) (by decide) ?_
    refine G_goto (tgt := 16) (dk_at dk_X6_count 7 rfl) (by decide) ?_
    exact h
theorem k_X6_count_16 {l : Launch} {X : XT} {d : Nat} {Q : Ot → AH → Prop} {A : AH} {bc bs : Nat} {v0 : Nat} {v1 : Int32} {s0 : Int32} {s1 : Nat} (h : pV A s1 7 5 (.int s0) fun A1 => gI A1 v0 7 5 fun i2 => (i2 ≤ 0 → (v1 = 0 → gR A1 v0 7 0 fun r3 => aI X A1 r3 0 fun i4 => Q (Ri i4) A1) ∧ (v1 = 1 → isO A1 v0 7 ∧ Cal l X d bc bs M_X6_pieces [.ref v0] A1 fun o8 A5 b6 c7 => rI o8 (fun E => Q (.inr E) A5) fun i9 => Q (Ri i9) A5) ∧ (v1 = 2 → isO A1 v0 7 ∧ Cal l X d bc bs M_X6_parts [.ref v0] A1 fun o13 A10 b11 c12 => rI o13 (fun E => Q (.inr E) A10) fun i14 => Q (Ri i14) A10) ∧ (v1 = 3 → gR A1 v0 7 0 fun r15 => aI X A1 r15 5 fun i16 => Q (Ri i16) A1) ∧ (v1 = 4 → gR A1 v0 7 0 fun r17 => aI X A1 r17 6 fun i18 => Q (Ri i18) A1) ∧ (v1 = 5 → isO A1 v0 7 ∧ Cal l X d bc bs M_X6_piecesIn [.ref v0, .int 1] A1 fun o22 A19 b20 c21 => rI o22 (fun E => Q (.inr E) A19) fun i23 => Q (Ri i23) A19) ∧ (v1 = 6 → isO A1 v0 7 ∧ Cal l X d bc bs M_X6_piecesIn [.ref v0, .int 2] A1 fun o27 A24 b25 c26 => rI o27 (fun E => Q (.inr E) A24) fun i28 => Q (Ri i28) A24) ∧ (v1 = 7 → isO A1 v0 7 ∧ Cal l X d bc bs M_X6_missing [.ref v0] A1 fun o32 A29 b30 c31 => rI o32 (fun E => Q (.inr E) A29) fun i33 => Q (Ri i33) A29) ∧ (v1 = 8 → gR A1 v0 7 0 fun r34 => aI X A1 r34 9 fun i35 => Q (Ri i35) A1) ∧ (v1 = 9 → gR A1 v0 7 0 fun r36 => aI X A1 r36 7 fun i37 => Q (Ri i37) A1) ∧ (v1 = 10 → gR A1 v0 7 0 fun r38 => aI X A1 r38 8 fun i39 => Q (Ri i39) A1) ∧ (¬ v1 = 0 → ¬ v1 = 1 → ¬ v1 = 2 → ¬ v1 = 3 → ¬ v1 = 4 → ¬ v1 = 5 → ¬ v1 = 6 → ¬ v1 = 7 → ¬ v1 = 8 → ¬ v1 = 9 → ¬ v1 = 10 → gR A1 v0 7 0 fun r40 => aI X A1 r40 4 fun i41 => Q (Ri i41) A1)) ∧ (¬ i2 ≤ 0 → Q (Ri 0) A1)) : G l X M_X6_count d Q 16 [(0, .ref v0), (1, .int v1)] [.int s0, .ref s1] A bc bs := by
  refine K_pI pf_X6_50 (dk_at dk_X6_count 9 rfl) h (fun A1 h => ?_)
  refine G_aload_n 0 (dk_at dk_X6_count 10 rfl) rfl ?_
  refine K_gI gf_X6_50 (dk_at dk_X6_count 11 rfl) h (fun i2 h => ?_)
  refine G_if_le (tgt := 28) (dk_at dk_X6_count 12 rfl) (by decide) (fun c => ?_) (fun c => ?_)
  · replace h := h.1 c
    refine G_iload_n 1 (dk_at dk_X6_count 15 rfl) rfl ?_
    by_cases c0 : v1 = 0
    · replace h := h.1 c0
      refine G_tcase (tgt := 88) (dk_at dk_X6_count 16 rfl) (by rw [c0]; decide) (by rw [c0]; decide) (off := 59) (by rw [c0]; rfl) (by decide) ?_
      refine G_aload_n 0 (dk_at dk_X6_count 17 rfl) rfl ?_
      refine K_gR gf_X6_7 (dk_at dk_X6_count 18 rfl) h (fun r3 h => ?_)
      refine G_iconst (v := 0) (dk_at dk_X6_count 19 rfl) (by decide) ?_
      refine K_aI (dk_at dk_X6_count 20 rfl) h (fun i4 h => ?_)
      exact G_iret (ty := .int) rfl rfl (dk_at dk_X6_count 21 rfl) h
    by_cases c1 : v1 = 1
    · replace h := h.2.1 c1
      refine G_tcase (tgt := 95) (dk_at dk_X6_count 16 rfl) (by rw [c1]; decide) (by rw [c1]; decide) (off := 66) (by rw [c1]; rfl) (by decide) ?_
      refine G_aload_n 0 (dk_at dk_X6_count 22 rfl) rfl ?_
      obtain ⟨⟨_, ho⟩, h⟩ := h
      refine G_callV (As := []) (rest := []) lk_X6_165 rfl (dk_at dk_X6_count 23 rfl) rfl rfl (Nat.le_of_ble_eq_true rfl) ho (h.mono fun o8 A5 b6 c7 h => aftI h fun i9 h => ?_)
      exact G_iret (ty := .int) rfl rfl (dk_at dk_X6_count 24 rfl) h
    by_cases c2 : v1 = 2
    · replace h := h.2.2.1 c2
      refine G_tcase (tgt := 100) (dk_at dk_X6_count 16 rfl) (by rw [c2]; decide) (by rw [c2]; decide) (off := 71) (by rw [c2]; rfl) (by decide) ?_
      refine G_aload_n 0 (dk_at dk_X6_count 25 rfl) rfl ?_
      obtain ⟨⟨_, ho⟩, h⟩ := h
      refine G_callV (As := []) (rest := []) lk_X6_156 rfl (dk_at dk_X6_count 26 rfl) rfl rfl (Nat.le_of_ble_eq_true rfl) ho (h.mono fun o13 A10 b11 c12 h => aftI h fun i14 h => ?_)
      exact G_iret (ty := .int) rfl rfl (dk_at dk_X6_count 27 rfl) h
    by_cases c3 : v1 = 3
    · replace h := h.2.2.2.1 c3
      refine G_tcase (tgt := 105) (dk_at dk_X6_count 16 rfl) (by rw [c3]; decide) (by rw [c3]; decide) (off := 76) (by rw [c3]; rfl) (by decide) ?_
      refine G_aload_n 0 (dk_at dk_X6_count 28 rfl) rfl ?_
      refine K_gR gf_X6_7 (dk_at dk_X6_count 29 rfl) h (fun r15 h => ?_)
      refine G_iconst (v := 5) (dk_at dk_X6_count 30 rfl) (by decide) ?_
      refine K_aI (dk_at dk_X6_count 31 rfl) h (fun i16 h => ?_)
      exact G_iret (ty := .int) rfl rfl (dk_at dk_X6_count 32 rfl) h
    by_cases c4 : v1 = 4
    · replace h := h.2.2.2.2.1 c4
      refine G_tcase (tgt := 112) (dk_at dk_X6_count 16 rfl) (by rw [c4]; decide) (by rw [c4]; decide) (off := 83) (by rw [c4]; rfl) (by decide) ?_
      refine G_aload_n 0 (dk_at dk_X6_count 33 rfl) rfl ?_
      refine K_gR gf_X6_7 (dk_at dk_X6_count 34 rfl) h (fun r17 h => ?_)
      refine G_bipush (v := 6) (dk_at dk_X6_count 35 rfl) (by decide) ?_
      refine K_aI (dk_at dk_X6_count 36 rfl) h (fun i18 h => ?_)
      exact G_iret (ty := .int) rfl rfl (dk_at dk_X6_count 37 rfl) h
    by_cases c5 : v1 = 5
    · replace h := h.2.2.2.2.2.1 c5
      refine G_tcase (tgt := 120) (dk_at dk_X6_count 16 rfl) (by rw [c5]; decide) (by rw [c5]; decide) (off := 91) (by rw [c5]; rfl) (by decide) ?_
      refine G_aload_n 0 (dk_at dk_X6_count 38 rfl) rfl ?_
      refine G_iconst (v := 1) (dk_at dk_X6_count 39 rfl) (by decide) ?_
      obtain ⟨⟨_, ho⟩, h⟩ := h
      refine G_callV (As := [.int 1]) (rest := []) lk_X6_198 rfl (dk_at dk_X6_count 40 rfl) rfl rfl (Nat.le_of_ble_eq_true rfl) ho (h.mono fun o22 A19 b20 c21 h => aftI h fun i23 h => ?_)
      exact G_iret (ty := .int) rfl rfl (dk_at dk_X6_count 41 rfl) h
    by_cases c6 : v1 = 6
    · replace h := h.2.2.2.2.2.2.1 c6
      refine G_tcase (tgt := 126) (dk_at dk_X6_count 16 rfl) (by rw [c6]; decide) (by rw [c6]; decide) (off := 97) (by rw [c6]; rfl) (by decide) ?_
      refine G_aload_n 0 (dk_at dk_X6_count 42 rfl) rfl ?_
      refine G_iconst (v := 2) (dk_at dk_X6_count 43 rfl) (by decide) ?_
      obtain ⟨⟨_, ho⟩, h⟩ := h
      refine G_callV (As := [.int 2]) (rest := []) lk_X6_198 rfl (dk_at dk_X6_count 44 rfl) rfl rfl (Nat.le_of_ble_eq_true rfl) ho (h.mono fun o27 A24 b25 c26 h => aftI h fun i28 h => ?_)
      exact G_iret (ty := .int) rfl rfl (dk_at dk_X6_count 45 rfl) h
    by_cases c7 : v1 = 7
    · replace h := h.2.2.2.2.2.2.2.1 c7
      refine G_tcase (tgt := 132) (dk_at dk_X6_count 16 rfl) (by rw [c7]; decide) (by rw [c7]; decide) (off := 103) (by rw [c7]; rfl) (by decide) ?_
      refine G_aload_n 0 (dk_at dk_X6_count 46 rfl) rfl ?_
      obtain ⟨⟨_, ho⟩, h⟩ := h
      refine G_callV (As := []) (rest := []) lk_X6_201 rfl (dk_at dk_X6_count 47 rfl) rfl rfl (Nat.le_of_ble_eq_true rfl) ho (h.mono fun o32 A29 b30 c31 h => aftI h fun i33 h => ?_)
      exact G_iret (ty := .int) rfl rfl (dk_at dk_X6_count 48 rfl) h
    by_cases c8 : v1 = 8
    · replace h := h.2.2.2.2.2.2.2.2.1 c8
      refine G_tcase (tgt := 137) (dk_at dk_X6_count 16 rfl) (by rw [c8]; decide) (by rw [c8]; decide) (off := 108) (by rw [c8]; rfl) (by decide) ?_
      refine G_aload_n 0 (dk_at dk_X6_count 49 rfl) rfl ?_
      refine K_gR gf_X6_7 (dk_at dk_X6_count 50 rfl) h (fun r34 h => ?_)
      refine G_bipush (v := 9) (dk_at dk_X6_count 51 rfl) (by decide) ?_
      refine K_aI (dk_at dk_X6_count 52 rfl) h (fun i35 h => ?_)
      exact G_iret (ty := .int) rfl rfl (dk_at dk_X6_count 53 rfl) h
    by_cases c9 : v1 = 9
    · replace h := h.2.2.2.2.2.2.2.2.2.1 c9
      refine G_tcase (tgt := 145) (dk_at dk_X6_count 16 rfl) (by rw [c9]; decide) (by rw [c9]; decide) (off := 116) (by rw [c9]; rfl) (by decide) ?_
      refine G_aload_n 0 (dk_at dk_X6_count 54 rfl) rfl ?_
      refine K_gR gf_X6_7 (dk_at dk_X6_count 55 rfl) h (fun r36 h => ?_)
      refine G_bipush (v := 7) (dk_at dk_X6_count 56 rfl) (by decide) ?_
      refine K_aI (dk_at dk_X6_count 57 rfl) h (fun i37 h => ?_)
      exact G_iret (ty := .int) rfl rfl (dk_at dk_X6_count 58 rfl) h
    by_cases c10 : v1 = 10
    · replace h := h.2.2.2.2.2.2.2.2.2.2.1 c10
      refine G_tcase (tgt := 153) (dk_at dk_X6_count 16 rfl) (by rw [c10]; decide) (by rw [c10]; decide) (off := 124) (by rw [c10]; rfl) (by decide) ?_
      refine G_aload_n 0 (dk_at dk_X6_count 59 rfl) rfl ?_
      refine K_gR gf_X6_7 (dk_at dk_X6_count 60 rfl) h (fun r38 h => ?_)
      refine G_bipush (v := 8) (dk_at dk_X6_count 61 rfl) (by decide) ?_
      refine K_aI (dk_at dk_X6_count 62 rfl) h (fun i39 h => ?_)
      exact G_iret (ty := .int) rfl rfl (dk_at dk_X6_count 63 rfl) h
    replace h := h.2.2.2.2.2.2.2.2.2.2.2 c0 c1 c2 c3 c4 c5 c6 c7 c8 c9 c10
    refine G_tout (tgt := 161) (dk_at dk_X6_count 16 rfl) (tsw_out (n := 10) (fun k hk => ?_)) (by decide) ?_
    · have hk2 : k = 0 ∨ k = 1 ∨ k = 2 ∨ k = 3 ∨ k = 4 ∨ k = 5 ∨ k = 6 ∨ k = 7 ∨ k = 8 ∨ k = 9 ∨ k = 10 := by omega
      rcases hk2 with rfl | rfl | rfl | rfl | rfl | rfl | rfl | rfl | rfl | rfl | rfl
      · exact c0
      · exact c1
      · exact c2
      · exact c3
      · exact c4
      · exact c5
      · exact c6
      · exact c7
      · exact c8
      · exact c9
      · exact c10
    · refine G_aload_n 0 (dk_at dk_X6_count 64 rfl) rfl ?_
      refine K_gR gf_X6_7 (dk_at dk_X6_count 65 rfl) h (fun r40 h => ?_)
      refine G_iconst (v := 4) (dk_at dk_X6_count 66 rfl) (by decide) ?_
      refine K_aI (dk_at dk_X6_count 67 rfl) h (fun i41 h => ?_)
      exact G_iret (ty := .int) rfl rfl (dk_at dk_X6_count 68 rfl) h
  · replace h := h.2 c
    refine G_iconst (v := 0) (dk_at dk_X6_count 13 rfl) (by decide) ?_
    exact G_iret (ty := .int) rfl rfl (dk_at dk_X6_count 14 rfl) h
theorem k_X6_isSource_0 {l : Launch} {X : XT} {d : Nat} {Q : Ot → AH → Prop} {A : AH} {bc bs : Nat} {v0 : Int32} (h : Cal l X d bc bs M_X6_isIn [.int v0, .int 0, .int 1] A fun o4 A1 b2 c3 => rI o4 (fun E => Q (.inr E) A1) fun i5 => ((i5 : Int32) = 0 ∨ (i5 : Int32) = 1) ∧ Q (Ri i5) A1) : G l X M_X6_isSource d Q 0 [(0, .int v0)] [] A bc bs := by
  refine G_iload_n 0 (dk_at dk_X6_isSource 0 rfl) rfl ?_
  refine G_iconst (v := 0) (dk_at dk_X6_isSource 1 rfl) (by decide) ?_
  refine G_iconst (v := 1) (dk_at dk_X6_isSource 2 rfl) (by decide) ?_
  refine G_callS (As := [.int v0, .int 0, .int 1]) (rest := []) lk_X6_62 rfl (dk_at dk_X6_isSource 3 rfl) rfl rfl (Nat.le_of_ble_eq_true rfl) (h.mono fun o4 A1 b2 c3 h => aftI h fun i5 h => ?_)
  refine G_iret (ty := .boolean) rfl (by rcases h.1 with e | e <;> (rw [e]; rfl)) (dk_at dk_X6_isSource 4 rfl) h.2
theorem k_X6_isPlace_0 {l : Launch} {X : XT} {d : Nat} {Q : Ot → AH → Prop} {A : AH} {bc bs : Nat} {v0 : Nat} {v1 : Int32} (h : gR A v0 7 0 fun r1 => aI X A r1 0 fun i2 => Cal l X d bc bs M_X6_isIn [.int v1, .int 0, .int (i2 - 1)] A fun o6 A3 b4 c5 => rI o6 (fun E => Q (.inr E) A3) fun i7 => ((i7 : Int32) = 0 ∨ (i7 : Int32) = 1) ∧ Q (Ri i7) A3) : G l X M_X6_isPlace d Q 0 [(0, .ref v0), (1, .int v1)] [] A bc bs := by
  refine G_iload_n 1 (dk_at dk_X6_isPlace 0 rfl) rfl ?_
  refine G_iconst (v := 0) (dk_at dk_X6_isPlace 1 rfl) (by decide) ?_
  refine G_aload_n 0 (dk_at dk_X6_isPlace 2 rfl) rfl ?_
  refine K_gR gf_X6_7 (dk_at dk_X6_isPlace 3 rfl) h (fun r1 h => ?_)
  refine G_iconst (v := 0) (dk_at dk_X6_isPlace 4 rfl) (by decide) ?_
  refine K_aI (dk_at dk_X6_isPlace 5 rfl) h (fun i2 h => ?_)
  refine G_iconst (v := 1) (dk_at dk_X6_isPlace 6 rfl) (by decide) ?_
  refine G_isub (dk_at dk_X6_isPlace 7 rfl) ?_
  refine G_callS (As := [.int v1, .int 0, .int (i2 - 1)]) (rest := []) lk_X6_62 rfl (dk_at dk_X6_isPlace 8 rfl) rfl rfl (Nat.le_of_ble_eq_true rfl) (h.mono fun o6 A3 b4 c5 h => aftI h fun i7 h => ?_)
  refine G_iret (ty := .boolean) rfl (by rcases h.1 with e | e <;> (rw [e]; rfl)) (dk_at dk_X6_isPlace 9 rfl) h.2
theorem k_X6_isPiece_0 {l : Launch} {X : XT} {d : Nat} {Q : Ot → AH → Prop} {A : AH} {bc bs : Nat} {v0 : Nat} {v1 : Int32} (h : isO A v0 7 ∧ Cal l X d bc bs M_X6_pieces [.ref v0] A fun o4 A1 b2 c3 => rI o4 (fun E => Q (.inr E) A1) fun i5 => Cal l X d b2 c3 M_X6_isIn [.int v1, .int 0, .int (i5 - 1)] A1 fun o9 A6 b7 c8 => rI o9 (fun E => Q (.inr E) A6) fun i10 => ((i10 : Int32) = 0 ∨ (i10 : Int32) = 1) ∧ Q (Ri i10) A6) : G l X M_X6_isPiece d Q 0 [(0, .ref v0), (1, .int v1)] [] A bc bs := by
  refine G_iload_n 1 (dk_at dk_X6_isPiece 0 rfl) rfl ?_
  refine G_iconst (v := 0) (dk_at dk_X6_isPiece 1 rfl) (by decide) ?_
  refine G_aload_n 0 (dk_at dk_X6_isPiece 2 rfl) rfl ?_
  obtain ⟨⟨_, ho⟩, h⟩ := h
  refine G_callV (As := []) (rest := [.int 0, .int v1]) lk_X6_165 rfl (dk_at dk_X6_isPiece 3 rfl) rfl rfl (Nat.le_of_ble_eq_true rfl) ho (h.mono fun o4 A1 b2 c3 h => aftI h fun i5 h => ?_)
  refine G_iconst (v := 1) (dk_at dk_X6_isPiece 4 rfl) (by decide) ?_
  refine G_isub (dk_at dk_X6_isPiece 5 rfl) ?_
  refine G_callS (As := [.int v1, .int 0, .int (i5 - 1)]) (rest := []) lk_X6_62 rfl (dk_at dk_X6_isPiece 6 rfl) rfl rfl (Nat.le_of_ble_eq_true rfl) (h.mono fun o9 A6 b7 c8 h => aftI h fun i10 h => ?_)
  refine G_iret (ty := .boolean) rfl (by rcases h.1 with e | e <;> (rw [e]; rfl)) (dk_at dk_X6_isPiece 7 rfl) h.2
theorem k_X6_isPart_0 {l : Launch} {X : XT} {d : Nat} {Q : Ot → AH → Prop} {A : AH} {bc bs : Nat} {v0 : Nat} {v1 : Int32} (h : isO A v0 7 ∧ Cal l X d bc bs M_X6_parts [.ref v0] A fun o4 A1 b2 c3 => rI o4 (fun E => Q (.inr E) A1) fun i5 => Cal l X d b2 c3 M_X6_isIn [.int v1, .int 0, .int (i5 - 1)] A1 fun o9 A6 b7 c8 => rI o9 (fun E => Q (.inr E) A6) fun i10 => ((i10 : Int32) = 0 ∨ (i10 : Int32) = 1) ∧ Q (Ri i10) A6) : G l X M_X6_isPart d Q 0 [(0, .ref v0), (1, .int v1)] [] A bc bs := by
  refine G_iload_n 1 (dk_at dk_X6_isPart 0 rfl) rfl ?_
  refine G_iconst (v := 0) (dk_at dk_X6_isPart 1 rfl) (by decide) ?_
  refine G_aload_n 0 (dk_at dk_X6_isPart 2 rfl) rfl ?_
  obtain ⟨⟨_, ho⟩, h⟩ := h
  refine G_callV (As := []) (rest := [.int 0, .int v1]) lk_X6_156 rfl (dk_at dk_X6_isPart 3 rfl) rfl rfl (Nat.le_of_ble_eq_true rfl) ho (h.mono fun o4 A1 b2 c3 h => aftI h fun i5 h => ?_)
  refine G_iconst (v := 1) (dk_at dk_X6_isPart 4 rfl) (by decide) ?_
  refine G_isub (dk_at dk_X6_isPart 5 rfl) ?_
  refine G_callS (As := [.int v1, .int 0, .int (i5 - 1)]) (rest := []) lk_X6_62 rfl (dk_at dk_X6_isPart 6 rfl) rfl rfl (Nat.le_of_ble_eq_true rfl) (h.mono fun o9 A6 b7 c8 h => aftI h fun i10 h => ?_)
  refine G_iret (ty := .boolean) rfl (by rcases h.1 with e | e <;> (rw [e]; rfl)) (dk_at dk_X6_isPart 7 rfl) h.2
theorem k_X6_fromSource_0 {l : Launch} {X : XT} {d : Nat} {Q : Ot → AH → Prop} {A : AH} {bc bs : Nat} {v0 : Nat} {v1 : Int32} (h : G l X M_X6_fromSource d Q 4 [(0, .ref v0), (1, .int v1), (2, .int 0), (3, .int 0)] [] A bc bs) : G l X M_X6_fromSource d Q 0 [(0, .ref v0), (1, .int v1)] [] A bc bs := by
  refine G_iconst (v := 0) (dk_at dk_X6_fromSource 0 rfl) (by decide) ?_
  refine G_istore_n (lv' := [(2, .int 0), (0, .ref v0), (1, .int v1)]) (dk_at dk_X6_fromSource 1 rfl) (by decide) rfl ?_
  refine G_iconst (v := 0) (dk_at dk_X6_fromSource 2 rfl) (by decide) ?_
  refine G_istore_n (lv' := [(3, .int 0), (2, .int 0), (0, .ref v0), (1, .int v1)]) (dk_at dk_X6_fromSource 3 rfl) (by decide) rfl ?_
  refine G_sub [2, 3, 1, 0] rfl ?_
  exact h
theorem k_X6_fromSource_4 {l : Launch} {X : XT} {d : Nat} {Q : Ot → AH → Prop} {A : AH} {bc bs : Nat} {v0 : Nat} {v1 : Int32} {v2 : Int32} {v3 : Int32} (h : isO A v0 7 ∧ Cal l X d bc bs M_X6_parts [.ref v0] A fun o4 A1 b2 c3 => rI o4 (fun E => Q (.inr E) A1) fun i5 => (i5 ≤ v3 → Q (Ri v2) A1) ∧ (¬ i5 ≤ v3 → gR A1 v0 7 0 fun r6 => aI X A1 r6 (96 + v3) fun i7 => (¬ i7 = (v1 + 1) → G l X M_X6_fromSource d Q 4 [(0, .ref v0), (1, .int v1), (2, .int (v2 + 0)), (3, .int (v3 + 1))] [] A1 b2 c3) ∧ (i7 = (v1 + 1) → G l X M_X6_fromSource d Q 4 [(0, .ref v0), (1, .int v1), (2, .int (v2 + 1)), (3, .int (v3 + 1))] [] A1 b2 c3))) : G l X M_X6_fromSource d Q 4 [(0, .ref v0), (1, .int v1), (2, .int v2), (3, .int v3)] [] A bc bs := by
  refine G_iload_n 3 (dk_at dk_X6_fromSource 4 rfl) rfl ?_
  refine G_aload_n 0 (dk_at dk_X6_fromSource 5 rfl) rfl ?_
  obtain ⟨⟨_, ho⟩, h⟩ := h
  refine G_callV (As := []) (rest := [.int v3]) lk_X6_156 rfl (dk_at dk_X6_fromSource 6 rfl) rfl rfl (Nat.le_of_ble_eq_true rfl) ho (h.mono fun o4 A1 b2 c3 h => aftI h fun i5 h => ?_)
  refine G_icmp_ge (tgt := 41) (dk_at dk_X6_fromSource 7 rfl) (by decide) (fun c => ?_) (fun c => ?_)
  · replace h := h.1 c
    refine G_iload_n 2 (dk_at dk_X6_fromSource 26 rfl) rfl ?_
    exact G_iret (ty := .int) rfl rfl (dk_at dk_X6_fromSource 27 rfl) h
  · replace h := h.2 c
    refine G_iload_n 2 (dk_at dk_X6_fromSource 8 rfl) rfl ?_
    refine G_aload_n 0 (dk_at dk_X6_fromSource 9 rfl) rfl ?_
    refine K_gR gf_X6_7 (dk_at dk_X6_fromSource 10 rfl) h (fun r6 h => ?_)
    refine G_bipush (v := 96) (dk_at dk_X6_fromSource 11 rfl) (by decide) ?_
    refine G_iload_n 3 (dk_at dk_X6_fromSource 12 rfl) rfl ?_
    refine G_iadd (dk_at dk_X6_fromSource 13 rfl) ?_
    refine K_aI (dk_at dk_X6_fromSource 14 rfl) h (fun i7 h => ?_)
    refine G_iload_n 1 (dk_at dk_X6_fromSource 15 rfl) rfl ?_
    refine G_iconst (v := 1) (dk_at dk_X6_fromSource 16 rfl) (by decide) ?_
    refine G_iadd (dk_at dk_X6_fromSource 17 rfl) ?_
    refine G_icmp_ne (tgt := 32) (dk_at dk_X6_fromSource 18 rfl) (by decide) (fun c => ?_) (fun c => ?_)
    · replace h := h.1 c
      refine G_iconst (v := 0) (dk_at dk_X6_fromSource 21 rfl) (by decide) ?_
      refine G_iadd (dk_at dk_X6_fromSource 22 rfl) ?_
      refine G_istore_n (lv' := [(2, .int (v2 + 0)), (0, .ref v0), (1, .int v1), (3, .int v3)]) (dk_at dk_X6_fromSource 23 rfl) (by decide) rfl ?_
      refine G_iinc (v := v3 + 1) (lv' := [(3, .int (v3 + 1)), (2, .int (v2 + 0)), (0, .ref v0), (1, .int v1)]) 3 (dk_at dk_X6_fromSource 24 rfl) rfl rfl (by decide) rfl ?_
      refine G_goto (tgt := 4) (dk_at dk_X6_fromSource 25 rfl) (by decide) ?_
      refine G_sub [2, 3, 1, 0] rfl ?_
      exact h
    · replace h := h.2 c
      refine G_iconst (v := 1) (dk_at dk_X6_fromSource 19 rfl) (by decide) ?_
      refine G_goto (tgt := 33) (dk_at dk_X6_fromSource 20 rfl) (by decide) ?_
      refine G_iadd (dk_at dk_X6_fromSource 22 rfl) ?_
      refine G_istore_n (lv' := [(2, .int (v2 + 1)), (0, .ref v0), (1, .int v1), (3, .int v3)]) (dk_at dk_X6_fromSource 23 rfl) (by decide) rfl ?_
      refine G_iinc (v := v3 + 1) (lv' := [(3, .int (v3 + 1)), (2, .int (v2 + 1)), (0, .ref v0), (1, .int v1)]) 3 (dk_at dk_X6_fromSource 24 rfl) rfl rfl (by decide) rfl ?_
      refine G_goto (tgt := 4) (dk_at dk_X6_fromSource 25 rfl) (by decide) ?_
      refine G_sub [2, 3, 1, 0] rfl ?_
      exact h
theorem k_X6_source_0 {l : Launch} {X : XT} {d : Nat} {Q : Ot → AH → Prop} {A : AH} {bc bs : Nat} {v0 : Nat} {v1 : Int32} {v2 : Int32} (h : Cal l X d bc bs M_X6_isSource [.int v1] A fun o4 A1 b2 c3 => rI o4 (fun E => Q (.inr E) A1) fun i5 => (¬ i5 = 0 → Cal l X d b2 c3 M_X6_isIn [.int v2, .int 0, .int 4] A1 fun o9 A6 b7 c8 => rI o9 (fun E => Q (.inr E) A6) fun i10 => (i10 = 0 → G l X M_X6_source d Q 26 [(0, .ref v0), (1, .int v1), (2, .int v2)] [.int 2, .ref v0] A6 b7 c8) ∧ (¬ i10 = 0 → G l X M_X6_source d Q 26 [(0, .ref v0), (1, .int v1), (2, .int v2)] [.int 0, .ref v0] A6 b7 c8)) ∧ (i5 = 0 → G l X M_X6_source d Q 26 [(0, .ref v0), (1, .int v1), (2, .int v2)] [.int 1, .ref v0] A1 b2 c3)) : G l X M_X6_source d Q 0 [(0, .ref v0), (1, .int v1), (2, .int v2)] [] A bc bs := by
  refine G_aload_n 0 (dk_at dk_X6_source 0 rfl) rfl ?_
  refine G_iload_n 1 (dk_at dk_X6_source 1 rfl) rfl ?_
  refine G_callS (As := [.int v1]) (rest := [.ref v0]) lk_X6_204 rfl (dk_at dk_X6_source 2 rfl) rfl rfl (Nat.le_of_ble_eq_true rfl) (h.mono fun o4 A1 b2 c3 h => aftI h fun i5 h => ?_)
  refine G_if_ne (tgt := 12) (dk_at dk_X6_source 3 rfl) (by decide) (fun c => ?_) (fun c => ?_)
  · replace h := h.1 c
    refine G_iload_n 2 (dk_at dk_X6_source 6 rfl) rfl ?_
    refine G_iconst (v := 0) (dk_at dk_X6_source 7 rfl) (by decide) ?_
    refine G_iconst (v := 4) (dk_at dk_X6_source 8 rfl) (by decide) ?_
    refine G_callS (As := [.int v2, .int 0, .int 4]) (rest := [.ref v0]) lk_X6_62 rfl (dk_at dk_X6_source 9 rfl) rfl rfl (Nat.le_of_ble_eq_true rfl) (h.mono fun o9 A6 b7 c8 h => aftI h fun i10 h => ?_)
    refine G_if_eq (tgt := 25) (dk_at dk_X6_source 10 rfl) (by decide) (fun c => ?_) (fun c => ?_)
    · replace h := h.1 c
      refine G_iconst (v := 2) (dk_at dk_X6_source 13 rfl) (by decide) ?_
      exact h
    · replace h := h.2 c
      refine G_iconst (v := 0) (dk_at dk_X6_source 11 rfl) (by decide) ?_
      refine G_goto (tgt := 26) (dk_at dk_X6_source 12 rfl) (by decide) ?_
      exact h
  · replace h := h.2 c
    refine G_iconst (v := 1) (dk_at dk_X6_source 4 rfl) (by decide) ?_
    refine G_goto (tgt := 26) (dk_at dk_X6_source 5 rfl) (by decide) ?_
    exact h
theorem k_X6_source_26 {l : Launch} {X : XT} {d : Nat} {Q : Ot → AH → Prop} {A : AH} {bc bs : Nat} {v0 : Nat} {v1 : Int32} {v2 : Int32} {s0 : Int32} {s1 : Nat} (h : pV A s1 7 5 (.int s0) fun A1 => gI A1 v0 7 5 fun i2 => (i2 ≤ 0 → (v2 = 0 → gR A1 v0 7 0 fun r3 => aI X A1 r3 (14 + v1) fun i4 => Q (Ri i4) A1) ∧ (v2 = 1 → (¬ v1 = 1 → Q (Ri 0) A1) ∧ (v1 = 1 → gR A1 v0 7 0 fun r5 => aI X A1 r5 13 fun i6 => Q (Ri i6) A1)) ∧ (v2 = 2 → gR A1 v0 7 0 fun r7 => aI X A1 r7 (16 + v1) fun i8 => Q (Ri i8) A1) ∧ (v2 = 3 → gR A1 v0 7 0 fun r9 => aI X A1 r9 (18 + v1) fun i10 => Q (Ri i10) A1) ∧ (¬ v2 = 0 → ¬ v2 = 1 → ¬ v2 = 2 → ¬ v2 = 3 → isO A1 v0 7 ∧ Cal l X d bc bs M_X6_fromSource [.ref v0, .int v1] A1 fun o14 A11 b12 c13 => rI o14 (fun E => Q (.inr E) A11) fun i15 => Q (Ri i15) A11)) ∧ (¬ i2 ≤ 0 → Q (Ri 0) A1)) : G l X M_X6_source d Q 26 [(0, .ref v0), (1, .int v1), (2, .int v2)] [.int s0, .ref s1] A bc bs := by
  refine K_pI pf_X6_50 (dk_at dk_X6_source 14 rfl) h (fun A1 h => ?_)
  refine G_aload_n 0 (dk_at dk_X6_source 15 rfl) rfl ?_
  refine K_gI gf_X6_50 (dk_at dk_X6_source 16 rfl) h (fun i2 h => ?_)
  refine G_if_le (tgt := 38) (dk_at dk_X6_source 17 rfl) (by decide) (fun c => ?_) (fun c => ?_)
  · replace h := h.1 c
    refine G_iload_n 2 (dk_at dk_X6_source 20 rfl) rfl ?_
    by_cases c0 : v2 = 0
    · replace h := h.1 c0
      refine G_tcase (tgt := 68) (dk_at dk_X6_source 21 rfl) (by rw [c0]; decide) (by rw [c0]; decide) (off := 29) (by rw [c0]; rfl) (by decide) ?_
      refine G_aload_n 0 (dk_at dk_X6_source 22 rfl) rfl ?_
      refine K_gR gf_X6_7 (dk_at dk_X6_source 23 rfl) h (fun r3 h => ?_)
      refine G_bipush (v := 14) (dk_at dk_X6_source 24 rfl) (by decide) ?_
      refine G_iload_n 1 (dk_at dk_X6_source 25 rfl) rfl ?_
      refine G_iadd (dk_at dk_X6_source 26 rfl) ?_
      refine K_aI (dk_at dk_X6_source 27 rfl) h (fun i4 h => ?_)
      exact G_iret (ty := .int) rfl rfl (dk_at dk_X6_source 28 rfl) h
    by_cases c1 : v2 = 1
    · replace h := h.2.1 c1
      refine G_tcase (tgt := 78) (dk_at dk_X6_source 21 rfl) (by rw [c1]; decide) (by rw [c1]; decide) (off := 39) (by rw [c1]; rfl) (by decide) ?_
      refine G_iload_n 1 (dk_at dk_X6_source 29 rfl) rfl ?_
      refine G_iconst (v := 1) (dk_at dk_X6_source 30 rfl) (by decide) ?_
      refine G_icmp_ne (tgt := 93) (dk_at dk_X6_source 31 rfl) (by decide) (fun c => ?_) (fun c => ?_)
      · replace h := h.1 c
        refine G_iconst (v := 0) (dk_at dk_X6_source 37 rfl) (by decide) ?_
        exact G_iret (ty := .int) rfl rfl (dk_at dk_X6_source 38 rfl) h
      · replace h := h.2 c
        refine G_aload_n 0 (dk_at dk_X6_source 32 rfl) rfl ?_
        refine K_gR gf_X6_7 (dk_at dk_X6_source 33 rfl) h (fun r5 h => ?_)
        refine G_bipush (v := 13) (dk_at dk_X6_source 34 rfl) (by decide) ?_
        refine K_aI (dk_at dk_X6_source 35 rfl) h (fun i6 h => ?_)
        refine G_goto (tgt := 94) (dk_at dk_X6_source 36 rfl) (by decide) ?_
        exact G_iret (ty := .int) rfl rfl (dk_at dk_X6_source 38 rfl) h
    by_cases c2 : v2 = 2
    · replace h := h.2.2.1 c2
      refine G_tcase (tgt := 95) (dk_at dk_X6_source 21 rfl) (by rw [c2]; decide) (by rw [c2]; decide) (off := 56) (by rw [c2]; rfl) (by decide) ?_
      refine G_aload_n 0 (dk_at dk_X6_source 39 rfl) rfl ?_
      refine K_gR gf_X6_7 (dk_at dk_X6_source 40 rfl) h (fun r7 h => ?_)
      refine G_bipush (v := 16) (dk_at dk_X6_source 41 rfl) (by decide) ?_
      refine G_iload_n 1 (dk_at dk_X6_source 42 rfl) rfl ?_
      refine G_iadd (dk_at dk_X6_source 43 rfl) ?_
      refine K_aI (dk_at dk_X6_source 44 rfl) h (fun i8 h => ?_)
      exact G_iret (ty := .int) rfl rfl (dk_at dk_X6_source 45 rfl) h
    by_cases c3 : v2 = 3
    · replace h := h.2.2.2.1 c3
      refine G_tcase (tgt := 105) (dk_at dk_X6_source 21 rfl) (by rw [c3]; decide) (by rw [c3]; decide) (off := 66) (by rw [c3]; rfl) (by decide) ?_
      refine G_aload_n 0 (dk_at dk_X6_source 46 rfl) rfl ?_
      refine K_gR gf_X6_7 (dk_at dk_X6_source 47 rfl) h (fun r9 h => ?_)
      refine G_bipush (v := 18) (dk_at dk_X6_source 48 rfl) (by decide) ?_
      refine G_iload_n 1 (dk_at dk_X6_source 49 rfl) rfl ?_
      refine G_iadd (dk_at dk_X6_source 50 rfl) ?_
      refine K_aI (dk_at dk_X6_source 51 rfl) h (fun i10 h => ?_)
      exact G_iret (ty := .int) rfl rfl (dk_at dk_X6_source 52 rfl) h
    replace h := h.2.2.2.2 c0 c1 c2 c3
    refine G_tout (tgt := 115) (dk_at dk_X6_source 21 rfl) (tsw_out (n := 3) (fun k hk => ?_)) (by decide) ?_
    · have hk2 : k = 0 ∨ k = 1 ∨ k = 2 ∨ k = 3 := by omega
      rcases hk2 with rfl | rfl | rfl | rfl
      · exact c0
      · exact c1
      · exact c2
      · exact c3
    · refine G_aload_n 0 (dk_at dk_X6_source 53 rfl) rfl ?_
      refine G_iload_n 1 (dk_at dk_X6_source 54 rfl) rfl ?_
      obtain ⟨⟨_, ho⟩, h⟩ := h
      refine G_callV (As := [.int v1]) (rest := []) lk_X6_207 rfl (dk_at dk_X6_source 55 rfl) rfl rfl (Nat.le_of_ble_eq_true rfl) ho (h.mono fun o14 A11 b12 c13 h => aftI h fun i15 h => ?_)
      exact G_iret (ty := .int) rfl rfl (dk_at dk_X6_source 56 rfl) h
  · replace h := h.2 c
    refine G_iconst (v := 0) (dk_at dk_X6_source 18 rfl) (by decide) ?_
    exact G_iret (ty := .int) rfl rfl (dk_at dk_X6_source 19 rfl) h
