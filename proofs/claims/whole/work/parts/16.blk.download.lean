/-! blocks: what a method asks, row by row, as one formula (laid by wip/whole/gen) -/
theorem k_X1_init_0 {l : Launch} {X : XT} {d : Nat} {Q : Ot → AH → Prop} {A : AH} {bc bs : Nat} {v0 : Nat} {v1 : Nat} (h : mkA A 240 (fun N => ia X N (fun _ => 0)) bc bs fun r1 A2 b3 c4 => pV A2 v0 2 1 (.ref r1) fun A5 => mkA A5 240 (fun N => ia X N (fun _ => 0)) b3 c4 fun r6 A7 b8 c9 => pV A7 v0 2 2 (.ref r6) fun A10 => mkA A10 60 (fun N => ia X N (fun _ => 0)) b8 c9 fun r11 A12 b13 c14 => pV A12 v0 2 3 (.ref r11) fun A15 => mkA A15 60 (fun N => ia X N (fun _ => 0)) b13 c14 fun r16 A17 b18 c19 => pV A17 v0 2 4 (.ref r16) fun A20 => pV A20 v0 2 5 (.int 0) fun A21 => pV A21 v0 2 6 (.int 0) fun A22 => pV A22 v0 2 7 (.int 0) fun A23 => pV A23 v0 2 8 (.int 0) fun A24 => pV A24 v0 2 9 (.int 0) fun A25 => pV A25 v0 2 10 (.int 0) fun A26 => mkA A26 2 (fun N => ia X N (fun _ => 0)) b18 c19 fun r27 A28 b29 c30 => pV A28 v0 2 11 (.ref r27) fun A31 => mkA A31 2 (fun N => ia X N (fun _ => 0)) b29 c30 fun r32 A33 b34 c35 => pV A33 v0 2 12 (.ref r32) fun A36 => mkA A36 2 (fun N => ia X N (fun _ => 0)) b34 c35 fun r37 A38 b39 c40 => pV A38 v0 2 13 (.ref r37) fun A41 => ((0 : Int32) = 0 ∨ (0 : Int32) = 1) ∧ pV A41 v0 2 14 (.int 0) fun A42 => mk A42 (ob 0 df_0) 3 b39 c40 fun r43 A44 b45 c46 => Cal l X d b45 c46 M_Jx4a65c_init_da8c8 [.ref r43] A44 fun o50 A47 b48 c49 => zV o50 <| pV A47 v0 2 15 (.ref r43) fun A51 => mk A51 (ob 1 df_1) 4 b48 c49 fun r52 A53 b54 c55 => Cal l X d b54 c55 M_X0_init [.ref r52] A53 fun o59 A56 b57 c58 => zV o59 <| pV A56 v0 2 16 (.ref r52) fun A60 => pV A60 v0 2 0 (.ref v1) fun A61 => Q Rv A61) : G l X M_X1_init d Q 0 [(0, .ref v0), (1, .ref v1)] [] A bc bs := by
  refine G_aload_n 0 (dk_at dk_X1_init 0 rfl) rfl ?_
  refine G_objInit wd_11 wo_1 wo_2 (dk_at dk_X1_init 1 rfl) (Nat.le_of_ble_eq_true rfl) ?_
  refine G_aload_n 0 (dk_at dk_X1_init 2 rfl) rfl ?_
  refine G_sipush (v := 240) (dk_at dk_X1_init 3 rfl) (by decide) ?_
  refine K_newi wa_i (dk_at dk_X1_init 4 rfl) h (fun r1 A2 b3 c4 h => ?_)
  refine K_pR pf_X1_9 rfl rfl (dk_at dk_X1_init 5 rfl) h (fun A5 h => ?_)
  refine G_aload_n 0 (dk_at dk_X1_init 6 rfl) rfl ?_
  refine G_sipush (v := 240) (dk_at dk_X1_init 7 rfl) (by decide) ?_
  refine K_newi wa_i (dk_at dk_X1_init 8 rfl) h (fun r6 A7 b8 c9 h => ?_)
  refine K_pR pf_X1_15 rfl rfl (dk_at dk_X1_init 9 rfl) h (fun A10 h => ?_)
  refine G_aload_n 0 (dk_at dk_X1_init 10 rfl) rfl ?_
  refine G_bipush (v := 60) (dk_at dk_X1_init 11 rfl) (by decide) ?_
  refine K_newi wa_i (dk_at dk_X1_init 12 rfl) h (fun r11 A12 b13 c14 h => ?_)
  refine K_pR pf_X1_18 rfl rfl (dk_at dk_X1_init 13 rfl) h (fun A15 h => ?_)
  refine G_aload_n 0 (dk_at dk_X1_init 14 rfl) rfl ?_
  refine G_bipush (v := 60) (dk_at dk_X1_init 15 rfl) (by decide) ?_
  refine K_newi wa_i (dk_at dk_X1_init 16 rfl) h (fun r16 A17 b18 c19 h => ?_)
  refine K_pR pf_X1_21 rfl rfl (dk_at dk_X1_init 17 rfl) h (fun A20 h => ?_)
  refine G_aload_n 0 (dk_at dk_X1_init 18 rfl) rfl ?_
  refine G_iconst (v := 0) (dk_at dk_X1_init 19 rfl) (by decide) ?_
  refine K_pI pf_X1_24 (dk_at dk_X1_init 20 rfl) h (fun A21 h => ?_)
  refine G_aload_n 0 (dk_at dk_X1_init 21 rfl) rfl ?_
  refine G_iconst (v := 0) (dk_at dk_X1_init 22 rfl) (by decide) ?_
  refine K_pI pf_X1_28 (dk_at dk_X1_init 23 rfl) h (fun A22 h => ?_)
  refine G_aload_n 0 (dk_at dk_X1_init 24 rfl) rfl ?_
  refine G_iconst (v := 0) (dk_at dk_X1_init 25 rfl) (by decide) ?_
  refine K_pI pf_X1_31 (dk_at dk_X1_init 26 rfl) h (fun A23 h => ?_)
  refine G_aload_n 0 (dk_at dk_X1_init 27 rfl) rfl ?_
  refine G_iconst (v := 0) (dk_at dk_X1_init 28 rfl) (by decide) ?_
  refine K_pI pf_X1_34 (dk_at dk_X1_init 29 rfl) h (fun A24 h => ?_)
  refine G_aload_n 0 (dk_at dk_X1_init 30 rfl) rfl ?_
  refine G_iconst (v := 0) (dk_at dk_X1_init 31 rfl) (by decide) ?_
  refine K_pI pf_X1_37 (dk_at dk_X1_init 32 rfl) h (fun A25 h => ?_)
  refine G_aload_n 0 (dk_at dk_X1_init 33 rfl) rfl ?_
  refine G_iconst (v := 0) (dk_at dk_X1_init 34 rfl) (by decide) ?_
  refine K_pI pf_X1_40 (dk_at dk_X1_init 35 rfl) h (fun A26 h => ?_)
  refine G_aload_n 0 (dk_at dk_X1_init 36 rfl) rfl ?_
  refine G_iconst (v := 2) (dk_at dk_X1_init 37 rfl) (by decide) ?_
  refine K_newi wa_i (dk_at dk_X1_init 38 rfl) h (fun r27 A28 b29 c30 h => ?_)
  refine K_pR pf_X1_43 rfl rfl (dk_at dk_X1_init 39 rfl) h (fun A31 h => ?_)
  refine G_aload_n 0 (dk_at dk_X1_init 40 rfl) rfl ?_
  refine G_iconst (v := 2) (dk_at dk_X1_init 41 rfl) (by decide) ?_
  refine K_newi wa_i (dk_at dk_X1_init 42 rfl) h (fun r32 A33 b34 c35 h => ?_)
  refine K_pR pf_X1_46 rfl rfl (dk_at dk_X1_init 43 rfl) h (fun A36 h => ?_)
  refine G_aload_n 0 (dk_at dk_X1_init 44 rfl) rfl ?_
  refine G_iconst (v := 2) (dk_at dk_X1_init 45 rfl) (by decide) ?_
  refine K_newi wa_i (dk_at dk_X1_init 46 rfl) h (fun r37 A38 b39 c40 h => ?_)
  refine K_pR pf_X1_49 rfl rfl (dk_at dk_X1_init 47 rfl) h (fun A41 h => ?_)
  refine G_aload_n 0 (dk_at dk_X1_init 48 rfl) rfl ?_
  refine G_iconst (v := 0) (dk_at dk_X1_init 49 rfl) (by decide) ?_
  refine K_pZ pf_X1_52 (dk_at dk_X1_init 50 rfl) h (fun A42 h => ?_)
  refine G_aload_n 0 (dk_at dk_X1_init 51 rfl) rfl ?_
  refine K_new no_X1_56 (dk_at dk_X1_init 52 rfl) h (fun r43 A44 b45 c46 h => ?_)
  refine G_dup (dk_at dk_X1_init 53 rfl) rfl ?_
  refine G_callI (As := []) (rest := [.ref r43, .ref v0]) lk_X1_58 (dk_at dk_X1_init 54 rfl) rfl rfl (Nat.le_of_ble_eq_true rfl) (h.mono fun o50 A47 b48 c49 h => atfV h fun h => ?_)
  refine K_pR pf_X1_59 rfl rfl (dk_at dk_X1_init 55 rfl) h (fun A51 h => ?_)
  refine G_aload_n 0 (dk_at dk_X1_init 56 rfl) rfl ?_
  refine K_new no_X1_63 (dk_at dk_X1_init 57 rfl) h (fun r52 A53 b54 c55 h => ?_)
  refine G_dup (dk_at dk_X1_init 58 rfl) rfl ?_
  refine G_callIN (As := []) (rest := [.ref r52, .ref v0]) lk_X1_65 (dk_at dk_X1_init 59 rfl) rfl rfl (Nat.le_of_ble_eq_true rfl) (h.mono fun o59 A56 b57 c58 h => atfV h fun h => ?_)
  refine K_pR pf_X1_66 rfl rfl (dk_at dk_X1_init 60 rfl) h (fun A60 h => ?_)
  refine G_aload_n 0 (dk_at dk_X1_init 61 rfl) rfl ?_
  refine G_aload_n 1 (dk_at dk_X1_init 62 rfl) rfl ?_
  refine K_pR pf_X1_70 rfl rfl (dk_at dk_X1_init 63 rfl) h (fun A61 h => ?_)
  exact G_vret rfl (dk_at dk_X1_init 64 rfl) h
theorem k_X1_begin_0 {l : Launch} {X : XT} {d : Nat} {Q : Ot → AH → Prop} {A : AH} {bc bs : Nat} {v0 : Nat} {v1 : Nat} (h : pV A v0 2 0 (.ref v1) fun A1 => pV A1 v0 2 8 (.int 0) fun A2 => pV A2 v0 2 9 (.int 0) fun A3 => pV A3 v0 2 10 (.int 0) fun A4 => ((0 : Int32) = 0 ∨ (0 : Int32) = 1) ∧ pV A4 v0 2 14 (.int 0) fun A5 => gR A5 v0 2 11 fun r6 => Cal l X d bc bs M_J7_fill_53178 [.ref r6, .int 1] A5 fun o10 A7 b8 c9 => rV o10 (fun E => Q (.inr E) A7) <| gR A7 v0 2 12 fun r11 => Cal l X d b8 c9 M_J7_fill_53178 [.ref r11, .int 0] A7 fun o15 A12 b13 c14 => rV o15 (fun E => Q (.inr E) A12) <| gR A12 v0 2 13 fun r16 => Cal l X d b13 c14 M_J7_fill_53178 [.ref r16, .int 0] A12 fun o20 A17 b18 c19 => rV o20 (fun E => Q (.inr E) A17) <| gR A17 v0 2 15 fun r21 => isO A17 r21 0 ∧ Cal l X d b18 c19 M_Jx4a65c_clear_da8c8 [.ref r21] A17 fun o25 A22 b23 c24 => rV o25 (fun E => Q (.inr E) A22) <| gR A22 v0 2 16 fun r26 => pV A22 r26 1 3 (.int 0) fun A27 => isO A27 v0 2 ∧ Cal l X d b23 c24 M_X1_loseAll [.ref v0] A27 fun o31 A28 b29 c30 => rV o31 (fun E => Q (.inr E) A28) <| Q Rv A28) : G l X M_X1_begin d Q 0 [(0, .ref v0), (1, .ref v1)] [] A bc bs := by
  refine G_aload_n 0 (dk_at dk_X1_begin 0 rfl) rfl ?_
  refine G_aload_n 1 (dk_at dk_X1_begin 1 rfl) rfl ?_
  refine K_pR pf_X1_70 rfl rfl (dk_at dk_X1_begin 2 rfl) h (fun A1 h => ?_)
  refine G_aload_n 0 (dk_at dk_X1_begin 3 rfl) rfl ?_
  refine G_iconst (v := 0) (dk_at dk_X1_begin 4 rfl) (by decide) ?_
  refine K_pI pf_X1_34 (dk_at dk_X1_begin 5 rfl) h (fun A2 h => ?_)
  refine G_aload_n 0 (dk_at dk_X1_begin 6 rfl) rfl ?_
  refine G_iconst (v := 0) (dk_at dk_X1_begin 7 rfl) (by decide) ?_
  refine K_pI pf_X1_37 (dk_at dk_X1_begin 8 rfl) h (fun A3 h => ?_)
  refine G_aload_n 0 (dk_at dk_X1_begin 9 rfl) rfl ?_
  refine G_iconst (v := 0) (dk_at dk_X1_begin 10 rfl) (by decide) ?_
  refine K_pI pf_X1_40 (dk_at dk_X1_begin 11 rfl) h (fun A4 h => ?_)
  refine G_aload_n 0 (dk_at dk_X1_begin 12 rfl) rfl ?_
  refine G_iconst (v := 0) (dk_at dk_X1_begin 13 rfl) (by decide) ?_
  refine K_pZ pf_X1_52 (dk_at dk_X1_begin 14 rfl) h (fun A5 h => ?_)
  refine G_aload_n 0 (dk_at dk_X1_begin 15 rfl) rfl ?_
  refine K_gR gf_X1_43 (dk_at dk_X1_begin 16 rfl) h (fun r6 h => ?_)
  refine G_iconst (v := 1) (dk_at dk_X1_begin 17 rfl) (by decide) ?_
  refine G_callS (As := [.ref r6, .int 1]) (rest := []) lk_X1_74 rfl (dk_at dk_X1_begin 18 rfl) rfl rfl (Nat.le_of_ble_eq_true rfl) (h.mono fun o10 A7 b8 c9 h => aftV h fun h => ?_)
  refine G_aload_n 0 (dk_at dk_X1_begin 19 rfl) rfl ?_
  refine K_gR gf_X1_46 (dk_at dk_X1_begin 20 rfl) h (fun r11 h => ?_)
  refine G_iconst (v := 0) (dk_at dk_X1_begin 21 rfl) (by decide) ?_
  refine G_callS (As := [.ref r11, .int 0]) (rest := []) lk_X1_74 rfl (dk_at dk_X1_begin 22 rfl) rfl rfl (Nat.le_of_ble_eq_true rfl) (h.mono fun o15 A12 b13 c14 h => aftV h fun h => ?_)
  refine G_aload_n 0 (dk_at dk_X1_begin 23 rfl) rfl ?_
  refine K_gR gf_X1_49 (dk_at dk_X1_begin 24 rfl) h (fun r16 h => ?_)
  refine G_iconst (v := 0) (dk_at dk_X1_begin 25 rfl) (by decide) ?_
  refine G_callS (As := [.ref r16, .int 0]) (rest := []) lk_X1_74 rfl (dk_at dk_X1_begin 26 rfl) rfl rfl (Nat.le_of_ble_eq_true rfl) (h.mono fun o20 A17 b18 c19 h => aftV h fun h => ?_)
  refine G_aload_n 0 (dk_at dk_X1_begin 27 rfl) rfl ?_
  refine K_gR gf_X1_59 (dk_at dk_X1_begin 28 rfl) h (fun r21 h => ?_)
  obtain ⟨⟨_, ho⟩, h⟩ := h
  refine G_callV (As := []) (rest := []) lk_X1_80 rfl (dk_at dk_X1_begin 29 rfl) rfl rfl (Nat.le_of_ble_eq_true rfl) ho (h.mono fun o25 A22 b23 c24 h => aftV h fun h => ?_)
  refine G_aload_n 0 (dk_at dk_X1_begin 30 rfl) rfl ?_
  refine K_gR gf_X1_66 (dk_at dk_X1_begin 31 rfl) h (fun r26 h => ?_)
  refine G_iconst (v := 0) (dk_at dk_X1_begin 32 rfl) (by decide) ?_
  refine K_pI pf_X1_83 (dk_at dk_X1_begin 33 rfl) h (fun A27 h => ?_)
  refine G_aload_n 0 (dk_at dk_X1_begin 34 rfl) rfl ?_
  obtain ⟨⟨_, ho⟩, h⟩ := h
  refine G_callV (As := []) (rest := []) lk_X1_86 rfl (dk_at dk_X1_begin 35 rfl) rfl rfl (Nat.le_of_ble_eq_true rfl) ho (h.mono fun o31 A28 b29 c30 h => aftV h fun h => ?_)
  exact G_vret rfl (dk_at dk_X1_begin 36 rfl) h
theorem k_X1_copyFrom_0 {l : Launch} {X : XT} {d : Nat} {Q : Ot → AH → Prop} {A : AH} {bc bs : Nat} {v0 : Nat} {v1 : Nat} (h : gR A v1 2 0 fun r1 => pV A v0 2 0 (.ref r1) fun A2 => gI A2 v1 2 5 fun i3 => pV A2 v0 2 5 (.int i3) fun A4 => gI A4 v1 2 6 fun i5 => pV A4 v0 2 6 (.int i5) fun A6 => gI A6 v1 2 7 fun i7 => pV A6 v0 2 7 (.int i7) fun A8 => gI A8 v1 2 8 fun i9 => pV A8 v0 2 8 (.int i9) fun A10 => gI A10 v1 2 9 fun i11 => pV A10 v0 2 9 (.int i11) fun A12 => gI A12 v1 2 10 fun i13 => pV A12 v0 2 10 (.int i13) fun A14 => gI A14 v1 2 14 fun i15 => ((i15 : Int32) = 0 ∨ (i15 : Int32) = 1) ∧ pV A14 v0 2 14 (.int i15) fun A16 => gR A16 v1 2 1 fun r17 => gR A16 v0 2 1 fun r18 => Cal l X d bc bs M_X5_copyRow [.ref r17, .ref r18] A16 fun o22 A19 b20 c21 => zV o22 <| gR A19 v1 2 2 fun r23 => gR A19 v0 2 2 fun r24 => Cal l X d b20 c21 M_X5_copyRow [.ref r23, .ref r24] A19 fun o28 A25 b26 c27 => zV o28 <| gR A25 v1 2 3 fun r29 => gR A25 v0 2 3 fun r30 => Cal l X d b26 c27 M_X5_copyRow [.ref r29, .ref r30] A25 fun o34 A31 b32 c33 => zV o34 <| gR A31 v1 2 4 fun r35 => gR A31 v0 2 4 fun r36 => Cal l X d b32 c33 M_X5_copyRow [.ref r35, .ref r36] A31 fun o40 A37 b38 c39 => zV o40 <| gR A37 v1 2 11 fun r41 => gR A37 v0 2 11 fun r42 => Cal l X d b38 c39 M_X5_copyRow [.ref r41, .ref r42] A37 fun o46 A43 b44 c45 => zV o46 <| gR A43 v1 2 12 fun r47 => gR A43 v0 2 12 fun r48 => Cal l X d b44 c45 M_X5_copyRow [.ref r47, .ref r48] A43 fun o52 A49 b50 c51 => zV o52 <| gR A49 v1 2 13 fun r53 => gR A49 v0 2 13 fun r54 => Cal l X d b50 c51 M_X5_copyRow [.ref r53, .ref r54] A49 fun o58 A55 b56 c57 => zV o58 <| gR A55 v0 2 15 fun r59 => isO A55 r59 0 ∧ Cal l X d b56 c57 M_Jx4a65c_clear_da8c8 [.ref r59] A55 fun o63 A60 b61 c62 => rV o63 (fun E => Q (.inr E) A60) <| G l X M_X1_copyFrom d Q 150 [(0, .ref v0), (1, .ref v1), (2, .int 0)] [] A60 b61 c62) : G l X M_X1_copyFrom d Q 0 [(0, .ref v0), (1, .ref v1)] [] A bc bs := by
  refine G_aload_n 0 (dk_at dk_X1_copyFrom_0 0 rfl) rfl ?_
  refine G_aload_n 1 (dk_at dk_X1_copyFrom_0 1 rfl) rfl ?_
  refine K_gR gf_X1_70 (dk_at dk_X1_copyFrom_0 2 rfl) h (fun r1 h => ?_)
  refine K_pR pf_X1_70 rfl rfl (dk_at dk_X1_copyFrom_0 3 rfl) h (fun A2 h => ?_)
  refine G_aload_n 0 (dk_at dk_X1_copyFrom_0 4 rfl) rfl ?_
  refine G_aload_n 1 (dk_at dk_X1_copyFrom_0 5 rfl) rfl ?_
  refine K_gI gf_X1_24 (dk_at dk_X1_copyFrom_0 6 rfl) h (fun i3 h => ?_)
  refine K_pI pf_X1_24 (dk_at dk_X1_copyFrom_0 7 rfl) h (fun A4 h => ?_)
  refine G_aload_n 0 (dk_at dk_X1_copyFrom_0 8 rfl) rfl ?_
  refine G_aload_n 1 (dk_at dk_X1_copyFrom_0 9 rfl) rfl ?_
  refine K_gI gf_X1_28 (dk_at dk_X1_copyFrom_0 10 rfl) h (fun i5 h => ?_)
  refine K_pI pf_X1_28 (dk_at dk_X1_copyFrom_0 11 rfl) h (fun A6 h => ?_)
  refine G_aload_n 0 (dk_at dk_X1_copyFrom_0 12 rfl) rfl ?_
  refine G_aload_n 1 (dk_at dk_X1_copyFrom_0 13 rfl) rfl ?_
  refine K_gI gf_X1_31 (dk_at dk_X1_copyFrom_0 14 rfl) h (fun i7 h => ?_)
  refine K_pI pf_X1_31 (dk_at dk_X1_copyFrom_0 15 rfl) h (fun A8 h => ?_)
  refine G_aload_n 0 (dk_at dk_X1_copyFrom_0 16 rfl) rfl ?_
  refine G_aload_n 1 (dk_at dk_X1_copyFrom_0 17 rfl) rfl ?_
  refine K_gI gf_X1_34 (dk_at dk_X1_copyFrom_0 18 rfl) h (fun i9 h => ?_)
  refine K_pI pf_X1_34 (dk_at dk_X1_copyFrom_0 19 rfl) h (fun A10 h => ?_)
  refine G_aload_n 0 (dk_at dk_X1_copyFrom_0 20 rfl) rfl ?_
  refine G_aload_n 1 (dk_at dk_X1_copyFrom_0 21 rfl) rfl ?_
  refine K_gI gf_X1_37 (dk_at dk_X1_copyFrom_0 22 rfl) h (fun i11 h => ?_)
  refine K_pI pf_X1_37 (dk_at dk_X1_copyFrom_0 23 rfl) h (fun A12 h => ?_)
  refine G_aload_n 0 (dk_at dk_X1_copyFrom_0 24 rfl) rfl ?_
  refine G_aload_n 1 (dk_at dk_X1_copyFrom_0 25 rfl) rfl ?_
  refine K_gI gf_X1_40 (dk_at dk_X1_copyFrom_0 26 rfl) h (fun i13 h => ?_)
  refine K_pI pf_X1_40 (dk_at dk_X1_copyFrom_0 27 rfl) h (fun A14 h => ?_)
  refine G_aload_n 0 (dk_at dk_X1_copyFrom_0 28 rfl) rfl ?_
  refine G_aload_n 1 (dk_at dk_X1_copyFrom_0 29 rfl) rfl ?_
  refine K_gI gf_X1_52 (dk_at dk_X1_copyFrom_0 30 rfl) h (fun i15 h => ?_)
  refine K_pZ pf_X1_52 (dk_at dk_X1_copyFrom_0 31 rfl) h (fun A16 h => ?_)
  refine G_aload_n 1 (dk_at dk_X1_copyFrom_0 32 rfl) rfl ?_
  refine K_gR gf_X1_9 (dk_at dk_X1_copyFrom_0 33 rfl) h (fun r17 h => ?_)
  refine G_aload_n 0 (dk_at dk_X1_copyFrom_0 34 rfl) rfl ?_
  refine K_gR gf_X1_9 (dk_at dk_X1_copyFrom_0 35 rfl) h (fun r18 h => ?_)
  refine G_callSN (As := [.ref r17, .ref r18]) (rest := []) lk_X1_89 (dk_at dk_X1_copyFrom_0 36 rfl) rfl rfl (Nat.le_of_ble_eq_true rfl) (h.mono fun o22 A19 b20 c21 h => atfV h fun h => ?_)
  refine G_aload_n 1 (dk_at dk_X1_copyFrom_0 37 rfl) rfl ?_
  refine K_gR gf_X1_15 (dk_at dk_X1_copyFrom_0 38 rfl) h (fun r23 h => ?_)
  refine G_aload_n 0 (dk_at dk_X1_copyFrom_0 39 rfl) rfl ?_
  refine K_gR gf_X1_15 (dk_at dk_X1_copyFrom_0 40 rfl) h (fun r24 h => ?_)
  refine G_callSN (As := [.ref r23, .ref r24]) (rest := []) lk_X1_89 (dk_at dk_X1_copyFrom_0 41 rfl) rfl rfl (Nat.le_of_ble_eq_true rfl) (h.mono fun o28 A25 b26 c27 h => atfV h fun h => ?_)
  refine G_aload_n 1 (dk_at dk_X1_copyFrom_0 42 rfl) rfl ?_
  refine K_gR gf_X1_18 (dk_at dk_X1_copyFrom_0 43 rfl) h (fun r29 h => ?_)
  refine G_aload_n 0 (dk_at dk_X1_copyFrom_0 44 rfl) rfl ?_
  refine K_gR gf_X1_18 (dk_at dk_X1_copyFrom_0 45 rfl) h (fun r30 h => ?_)
  refine G_callSN (As := [.ref r29, .ref r30]) (rest := []) lk_X1_89 (dk_at dk_X1_copyFrom_0 46 rfl) rfl rfl (Nat.le_of_ble_eq_true rfl) (h.mono fun o34 A31 b32 c33 h => atfV h fun h => ?_)
  refine G_aload_n 1 (dk_at dk_X1_copyFrom_0 47 rfl) rfl ?_
  refine K_gR gf_X1_21 (dk_at dk_X1_copyFrom_0 48 rfl) h (fun r35 h => ?_)
  refine G_aload_n 0 (dk_at dk_X1_copyFrom_0 49 rfl) rfl ?_
  refine K_gR gf_X1_21 (dk_at dk_X1_copyFrom_1 0 rfl) h (fun r36 h => ?_)
  refine G_callSN (As := [.ref r35, .ref r36]) (rest := []) lk_X1_89 (dk_at dk_X1_copyFrom_1 1 rfl) rfl rfl (Nat.le_of_ble_eq_true rfl) (h.mono fun o40 A37 b38 c39 h => atfV h fun h => ?_)
  refine G_aload_n 1 (dk_at dk_X1_copyFrom_1 2 rfl) rfl ?_
  refine K_gR gf_X1_43 (dk_at dk_X1_copyFrom_1 3 rfl) h (fun r41 h => ?_)
  refine G_aload_n 0 (dk_at dk_X1_copyFrom_1 4 rfl) rfl ?_
  refine K_gR gf_X1_43 (dk_at dk_X1_copyFrom_1 5 rfl) h (fun r42 h => ?_)
  refine G_callSN (As := [.ref r41, .ref r42]) (rest := []) lk_X1_89 (dk_at dk_X1_copyFrom_1 6 rfl) rfl rfl (Nat.le_of_ble_eq_true rfl) (h.mono fun o46 A43 b44 c45 h => atfV h fun h => ?_)
  refine G_aload_n 1 (dk_at dk_X1_copyFrom_1 7 rfl) rfl ?_
  refine K_gR gf_X1_46 (dk_at dk_X1_copyFrom_1 8 rfl) h (fun r47 h => ?_)
  refine G_aload_n 0 (dk_at dk_X1_copyFrom_1 9 rfl) rfl ?_
  refine K_gR gf_X1_46 (dk_at dk_X1_copyFrom_1 10 rfl) h (fun r48 h => ?_)
  refine G_callSN (As := [.ref r47, .ref r48]) (rest := []) lk_X1_89 (dk_at dk_X1_copyFrom_1 11 rfl) rfl rfl (Nat.le_of_ble_eq_true rfl) (h.mono fun o52 A49 b50 c51 h => atfV h fun h => ?_)
  refine G_aload_n 1 (dk_at dk_X1_copyFrom_1 12 rfl) rfl ?_
  refine K_gR gf_X1_49 (dk_at dk_X1_copyFrom_1 13 rfl) h (fun r53 h => ?_)
  refine G_aload_n 0 (dk_at dk_X1_copyFrom_1 14 rfl) rfl ?_
  refine K_gR gf_X1_49 (dk_at dk_X1_copyFrom_1 15 rfl) h (fun r54 h => ?_)
  refine G_callSN (As := [.ref r53, .ref r54]) (rest := []) lk_X1_89 (dk_at dk_X1_copyFrom_1 16 rfl) rfl rfl (Nat.le_of_ble_eq_true rfl) (h.mono fun o58 A55 b56 c57 h => atfV h fun h => ?_)
  refine G_aload_n 0 (dk_at dk_X1_copyFrom_1 17 rfl) rfl ?_
  refine K_gR gf_X1_59 (dk_at dk_X1_copyFrom_1 18 rfl) h (fun r59 h => ?_)
  obtain ⟨⟨_, ho⟩, h⟩ := h
  refine G_callV (As := []) (rest := []) lk_X1_80 rfl (dk_at dk_X1_copyFrom_1 19 rfl) rfl rfl (Nat.le_of_ble_eq_true rfl) ho (h.mono fun o63 A60 b61 c62 h => aftV h fun h => ?_)
  refine G_iconst (v := 0) (dk_at dk_X1_copyFrom_1 20 rfl) (by decide) ?_
  refine G_istore_n (lv' := [(2, .int 0), (0, .ref v0), (1, .ref v1)]) (dk_at dk_X1_copyFrom_1 21 rfl) (by decide) rfl ?_
  refine G_sub [1, 2, 0] rfl ?_
  exact h
theorem k_X1_copyFrom_150 {l : Launch} {X : XT} {d : Nat} {Q : Ot → AH → Prop} {A : AH} {bc bs : Nat} {v0 : Nat} {v1 : Nat} {v2 : Int32} (h : gR A v1 2 15 fun r1 => isO A r1 0 ∧ Cal l X d bc bs M_Jx4a65c_size_8abf5 [.ref r1] A fun o5 A2 b3 c4 => rI o5 (fun E => Q (.inr E) A2) fun i6 => (i6 ≤ v2 → gR A2 v0 2 16 fun r7 => gR A2 v1 2 16 fun r8 => isO A2 r7 1 ∧ Cal l X d b3 c4 M_X0_copyFrom [.ref r7, .ref r8] A2 fun o12 A9 b10 c11 => rV o12 (fun E => Q (.inr E) A9) <| Q Rv A9) ∧ (¬ i6 ≤ v2 → gR A2 v0 2 15 fun r13 => gR A2 v1 2 15 fun r14 => isO A2 r14 0 ∧ Cal l X d b3 c4 M_Jx4a65c_get_915e3 [.ref r14, .int v2] A2 fun o18 A15 b16 c17 => rQ o18 (fun E => Q (.inr E) A15) fun o19 => ∃ a20, o19 = some a20 ∧ isO A15 a20 3 ∧ isO A15 r13 0 ∧ Cal l X d b16 c17 M_Jx4a65c_add_9ea2d [.ref r13, .ref a20] A15 fun o24 A21 b22 c23 => rI o24 (fun E => Q (.inr E) A21) fun i25 => G l X M_X1_copyFrom d Q 150 [(0, .ref v0), (1, .ref v1), (2, .int (v2 + 1))] [] A21 b22 c23)) : G l X M_X1_copyFrom d Q 150 [(0, .ref v0), (1, .ref v1), (2, .int v2)] [] A bc bs := by
  refine G_iload_n 2 (dk_at dk_X1_copyFrom_1 22 rfl) rfl ?_
  refine G_aload_n 1 (dk_at dk_X1_copyFrom_1 23 rfl) rfl ?_
  refine K_gR gf_X1_59 (dk_at dk_X1_copyFrom_1 24 rfl) h (fun r1 h => ?_)
  obtain ⟨⟨_, ho⟩, h⟩ := h
  refine G_callV (As := []) (rest := [.int v2]) lk_X1_93 rfl (dk_at dk_X1_copyFrom_1 25 rfl) rfl rfl (Nat.le_of_ble_eq_true rfl) ho (h.mono fun o5 A2 b3 c4 h => aftI h fun i6 h => ?_)
  refine G_icmp_ge (tgt := 186) (dk_at dk_X1_copyFrom_1 26 rfl) (by decide) (fun c => ?_) (fun c => ?_)
  · replace h := h.1 c
    refine G_aload_n 0 (dk_at dk_X1_copyFrom_1 38 rfl) rfl ?_
    refine K_gR gf_X1_66 (dk_at dk_X1_copyFrom_1 39 rfl) h (fun r7 h => ?_)
    refine G_aload_n 1 (dk_at dk_X1_copyFrom_1 40 rfl) rfl ?_
    refine K_gR gf_X1_66 (dk_at dk_X1_copyFrom_1 41 rfl) h (fun r8 h => ?_)
    obtain ⟨⟨_, ho⟩, h⟩ := h
    refine G_callV (As := [.ref r8]) (rest := []) lk_X1_107 rfl (dk_at dk_X1_copyFrom_1 42 rfl) rfl rfl (Nat.le_of_ble_eq_true rfl) ho (h.mono fun o12 A9 b10 c11 h => aftV h fun h => ?_)
    exact G_vret rfl (dk_at dk_X1_copyFrom_1 43 rfl) h
  · replace h := h.2 c
    refine G_aload_n 0 (dk_at dk_X1_copyFrom_1 27 rfl) rfl ?_
    refine K_gR gf_X1_59 (dk_at dk_X1_copyFrom_1 28 rfl) h (fun r13 h => ?_)
    refine G_aload_n 1 (dk_at dk_X1_copyFrom_1 29 rfl) rfl ?_
    refine K_gR gf_X1_59 (dk_at dk_X1_copyFrom_1 30 rfl) h (fun r14 h => ?_)
    refine G_iload_n 2 (dk_at dk_X1_copyFrom_1 31 rfl) rfl ?_
    obtain ⟨⟨_, ho⟩, h⟩ := h
    refine G_callV (As := [.int v2]) (rest := [.ref r13]) lk_X1_97 rfl (dk_at dk_X1_copyFrom_1 32 rfl) rfl rfl (Nat.le_of_ble_eq_true rfl) ho (h.mono fun o18 A15 b16 c17 h => aftQ h fun o19 h => ?_)
    refine K_castP wd_12 (dk_at dk_X1_copyFrom_1 33 rfl) h (fun a20 h => ?_)
    obtain ⟨⟨_, ho⟩, h⟩ := h
    refine G_callV (As := [.ref a20]) (rest := []) lk_X1_103 rfl (dk_at dk_X1_copyFrom_1 34 rfl) rfl rfl (Nat.le_of_ble_eq_true rfl) ho (h.mono fun o24 A21 b22 c23 h => aftI h fun i25 h => ?_)
    refine G_pop (dk_at dk_X1_copyFrom_1 35 rfl) rfl ?_
    refine G_iinc (v := v2 + 1) (lv' := [(2, .int (v2 + 1)), (0, .ref v0), (1, .ref v1)]) 2 (dk_at dk_X1_copyFrom_1 36 rfl) rfl rfl (by decide) rfl ?_
    refine G_goto (tgt := 150) (dk_at dk_X1_copyFrom_1 37 rfl) (by decide) ?_
    refine G_sub [1, 2, 0] rfl ?_
    exact h
theorem k_X1_isConnected_0 {l : Launch} {X : XT} {d : Nat} {Q : Ot → AH → Prop} {A : AH} {bc bs : Nat} {v0 : Nat} {v1 : Int32} (h : gR A v0 2 11 fun r1 => Cal l X d bc bs M_X5_at [.ref r1, .int v1] A fun o5 A2 b3 c4 => zI o5 fun i6 => (¬ i6 = 1 → Q (Ri 0) A2) ∧ (i6 = 1 → Q (Ri 1) A2)) : G l X M_X1_isConnected d Q 0 [(0, .ref v0), (1, .int v1)] [] A bc bs := by
  refine G_aload_n 0 (dk_at dk_X1_isConnected 0 rfl) rfl ?_
  refine K_gR gf_X1_43 (dk_at dk_X1_isConnected 1 rfl) h (fun r1 h => ?_)
  refine G_iload_n 1 (dk_at dk_X1_isConnected 2 rfl) rfl ?_
  refine G_callSN (As := [.ref r1, .int v1]) (rest := []) lk_X1_111 (dk_at dk_X1_isConnected 3 rfl) rfl rfl (Nat.le_of_ble_eq_true rfl) (h.mono fun o5 A2 b3 c4 h => atfI h fun i6 h => ?_)
  refine G_iconst (v := 1) (dk_at dk_X1_isConnected 4 rfl) (by decide) ?_
  refine G_icmp_ne (tgt := 16) (dk_at dk_X1_isConnected 5 rfl) (by decide) (fun c => ?_) (fun c => ?_)
  · replace h := h.1 c
    refine G_iconst (v := 0) (dk_at dk_X1_isConnected 8 rfl) (by decide) ?_
    exact G_iret (ty := .boolean) rfl rfl (dk_at dk_X1_isConnected 9 rfl) h
  · replace h := h.2 c
    refine G_iconst (v := 1) (dk_at dk_X1_isConnected 6 rfl) (by decide) ?_
    refine G_goto (tgt := 17) (dk_at dk_X1_isConnected 7 rfl) (by decide) ?_
    exact G_iret (ty := .boolean) rfl rfl (dk_at dk_X1_isConnected 9 rfl) h
theorem k_X1_isMissing_0 {l : Launch} {X : XT} {d : Nat} {Q : Ot → AH → Prop} {A : AH} {bc bs : Nat} {v0 : Nat} {v1 : Int32} (h : gR A v0 2 2 fun r1 => Cal l X d bc bs M_X5_at [.ref r1, .int v1] A fun o5 A2 b3 c4 => zI o5 fun i6 => (¬ i6 = ((-1)) → Q (Ri 0) A2) ∧ (i6 = ((-1)) → Q (Ri 1) A2)) : G l X M_X1_isMissing d Q 0 [(0, .ref v0), (1, .int v1)] [] A bc bs := by
  refine G_aload_n 0 (dk_at dk_X1_isMissing 0 rfl) rfl ?_
  refine K_gR gf_X1_15 (dk_at dk_X1_isMissing 1 rfl) h (fun r1 h => ?_)
  refine G_iload_n 1 (dk_at dk_X1_isMissing 2 rfl) rfl ?_
  refine G_callSN (As := [.ref r1, .int v1]) (rest := []) lk_X1_111 (dk_at dk_X1_isMissing 3 rfl) rfl rfl (Nat.le_of_ble_eq_true rfl) (h.mono fun o5 A2 b3 c4 h => atfI h fun i6 h => ?_)
  refine G_iconst (v := (-1)) (dk_at dk_X1_isMissing 4 rfl) (by decide) ?_
  refine G_icmp_ne (tgt := 16) (dk_at dk_X1_isMissing 5 rfl) (by decide) (fun c => ?_) (fun c => ?_)
  · replace h := h.1 c
    refine G_iconst (v := 0) (dk_at dk_X1_isMissing 8 rfl) (by decide) ?_
    exact G_iret (ty := .boolean) rfl rfl (dk_at dk_X1_isMissing 9 rfl) h
  · replace h := h.2 c
    refine G_iconst (v := 1) (dk_at dk_X1_isMissing 6 rfl) (by decide) ?_
    refine G_goto (tgt := 17) (dk_at dk_X1_isMissing 7 rfl) (by decide) ?_
    exact G_iret (ty := .boolean) rfl rfl (dk_at dk_X1_isMissing 9 rfl) h
theorem k_X1_isSuspect_0 {l : Launch} {X : XT} {d : Nat} {Q : Ot → AH → Prop} {A : AH} {bc bs : Nat} {v0 : Nat} {v1 : Int32} (h : gR A v0 2 4 fun r1 => Cal l X d bc bs M_X5_at [.ref r1, .int v1] A fun o5 A2 b3 c4 => zI o5 fun i6 => (¬ i6 = 2 → Q (Ri 0) A2) ∧ (i6 = 2 → Q (Ri 1) A2)) : G l X M_X1_isSuspect d Q 0 [(0, .ref v0), (1, .int v1)] [] A bc bs := by
  refine G_aload_n 0 (dk_at dk_X1_isSuspect 0 rfl) rfl ?_
  refine K_gR gf_X1_21 (dk_at dk_X1_isSuspect 1 rfl) h (fun r1 h => ?_)
  refine G_iload_n 1 (dk_at dk_X1_isSuspect 2 rfl) rfl ?_
  refine G_callSN (As := [.ref r1, .int v1]) (rest := []) lk_X1_111 (dk_at dk_X1_isSuspect 3 rfl) rfl rfl (Nat.le_of_ble_eq_true rfl) (h.mono fun o5 A2 b3 c4 h => atfI h fun i6 h => ?_)
  refine G_iconst (v := 2) (dk_at dk_X1_isSuspect 4 rfl) (by decide) ?_
  refine G_icmp_ne (tgt := 16) (dk_at dk_X1_isSuspect 5 rfl) (by decide) (fun c => ?_) (fun c => ?_)
  · replace h := h.1 c
    refine G_iconst (v := 0) (dk_at dk_X1_isSuspect 8 rfl) (by decide) ?_
    exact G_iret (ty := .boolean) rfl rfl (dk_at dk_X1_isSuspect 9 rfl) h
  · replace h := h.2 c
    refine G_iconst (v := 1) (dk_at dk_X1_isSuspect 6 rfl) (by decide) ?_
    refine G_goto (tgt := 17) (dk_at dk_X1_isSuspect 7 rfl) (by decide) ?_
    exact G_iret (ty := .boolean) rfl rfl (dk_at dk_X1_isSuspect 9 rfl) h
theorem k_X1_isFinished_0 {l : Launch} {X : XT} {d : Nat} {Q : Ot → AH → Prop} {A : AH} {bc bs : Nat} {v0 : Nat} (h : gI A v0 2 6 fun i1 => gR A v0 2 0 fun r2 => gI A r2 4 2 fun i3 => (¬ i1 = i3 → Q (Ri 0) A) ∧ (i1 = i3 → Q (Ri 1) A)) : G l X M_X1_isFinished d Q 0 [(0, .ref v0)] [] A bc bs := by
  refine G_aload_n 0 (dk_at dk_X1_isFinished 0 rfl) rfl ?_
  refine K_gI gf_X1_28 (dk_at dk_X1_isFinished 1 rfl) h (fun i1 h => ?_)
  refine G_aload_n 0 (dk_at dk_X1_isFinished 2 rfl) rfl ?_
  refine K_gR gf_X1_70 (dk_at dk_X1_isFinished 3 rfl) h (fun r2 h => ?_)
  refine K_gI gf_X1_115 (dk_at dk_X1_isFinished 4 rfl) h (fun i3 h => ?_)
  refine G_icmp_ne (tgt := 18) (dk_at dk_X1_isFinished 5 rfl) (by decide) (fun c => ?_) (fun c => ?_)
  · replace h := h.1 c
    refine G_iconst (v := 0) (dk_at dk_X1_isFinished 8 rfl) (by decide) ?_
    exact G_iret (ty := .boolean) rfl rfl (dk_at dk_X1_isFinished 9 rfl) h
  · replace h := h.2 c
    refine G_iconst (v := 1) (dk_at dk_X1_isFinished 6 rfl) (by decide) ?_
    refine G_goto (tgt := 19) (dk_at dk_X1_isFinished 7 rfl) (by decide) ?_
    exact G_iret (ty := .boolean) rfl rfl (dk_at dk_X1_isFinished 9 rfl) h
theorem k_X1_partsFrom_0 {l : Launch} {X : XT} {d : Nat} {Q : Ot → AH → Prop} {A : AH} {bc bs : Nat} {v0 : Nat} {v1 : Int32} (h : G l X M_X1_partsFrom d Q 4 [(0, .ref v0), (1, .int v1), (2, .int 0), (3, .int 0)] [] A bc bs) : G l X M_X1_partsFrom d Q 0 [(0, .ref v0), (1, .int v1)] [] A bc bs := by
  refine G_iconst (v := 0) (dk_at dk_X1_partsFrom 0 rfl) (by decide) ?_
  refine G_istore_n (lv' := [(2, .int 0), (0, .ref v0), (1, .int v1)]) (dk_at dk_X1_partsFrom 1 rfl) (by decide) rfl ?_
  refine G_iconst (v := 0) (dk_at dk_X1_partsFrom 2 rfl) (by decide) ?_
  refine G_istore_n (lv' := [(3, .int 0), (2, .int 0), (0, .ref v0), (1, .int v1)]) (dk_at dk_X1_partsFrom 3 rfl) (by decide) rfl ?_
  refine G_sub [2, 3, 1, 0] rfl ?_
  exact h
theorem k_X1_partsFrom_4 {l : Launch} {X : XT} {d : Nat} {Q : Ot → AH → Prop} {A : AH} {bc bs : Nat} {v0 : Nat} {v1 : Int32} {v2 : Int32} {v3 : Int32} (h : gR A v0 2 0 fun r1 => gI A r1 4 3 fun i2 => (i2 ≤ v3 → Q (Ri v2) A) ∧ (¬ i2 ≤ v3 → gR A v0 2 2 fun r3 => Cal l X d bc bs M_X5_at [.ref r3, .int v3] A fun o7 A4 b5 c6 => zI o7 fun i8 => (¬ i8 = v1 → G l X M_X1_partsFrom d Q 4 [(0, .ref v0), (1, .int v1), (2, .int v2), (3, .int (v3 + 1))] [] A4 b5 c6) ∧ (i8 = v1 → G l X M_X1_partsFrom d Q 4 [(0, .ref v0), (1, .int v1), (2, .int (v2 + 1)), (3, .int (v3 + 1))] [] A4 b5 c6))) : G l X M_X1_partsFrom d Q 4 [(0, .ref v0), (1, .int v1), (2, .int v2), (3, .int v3)] [] A bc bs := by
  refine G_iload_n 3 (dk_at dk_X1_partsFrom 4 rfl) rfl ?_
  refine G_aload_n 0 (dk_at dk_X1_partsFrom 5 rfl) rfl ?_
  refine K_gR gf_X1_70 (dk_at dk_X1_partsFrom 6 rfl) h (fun r1 h => ?_)
  refine K_gI gf_X1_120 (dk_at dk_X1_partsFrom 7 rfl) h (fun i2 h => ?_)
  refine G_icmp_ge (tgt := 36) (dk_at dk_X1_partsFrom 8 rfl) (by decide) (fun c => ?_) (fun c => ?_)
  · replace h := h.1 c
    refine G_iload_n 2 (dk_at dk_X1_partsFrom 18 rfl) rfl ?_
    exact G_iret (ty := .int) rfl rfl (dk_at dk_X1_partsFrom 19 rfl) h
  · replace h := h.2 c
    refine G_aload_n 0 (dk_at dk_X1_partsFrom 9 rfl) rfl ?_
    refine K_gR gf_X1_15 (dk_at dk_X1_partsFrom 10 rfl) h (fun r3 h => ?_)
    refine G_iload_n 3 (dk_at dk_X1_partsFrom 11 rfl) rfl ?_
    refine G_callSN (As := [.ref r3, .int v3]) (rest := []) lk_X1_111 (dk_at dk_X1_partsFrom 12 rfl) rfl rfl (Nat.le_of_ble_eq_true rfl) (h.mono fun o7 A4 b5 c6 h => atfI h fun i8 h => ?_)
    refine G_iload_n 1 (dk_at dk_X1_partsFrom 13 rfl) rfl ?_
    refine G_icmp_ne (tgt := 30) (dk_at dk_X1_partsFrom 14 rfl) (by decide) (fun c => ?_) (fun c => ?_)
    · replace h := h.1 c
      refine G_iinc (v := v3 + 1) (lv' := [(3, .int (v3 + 1)), (0, .ref v0), (1, .int v1), (2, .int v2)]) 3 (dk_at dk_X1_partsFrom 16 rfl) rfl rfl (by decide) rfl ?_
      refine G_goto (tgt := 4) (dk_at dk_X1_partsFrom 17 rfl) (by decide) ?_
      refine G_sub [1, 2, 3, 0] rfl ?_
      exact h
    · replace h := h.2 c
      refine G_iinc (v := v2 + 1) (lv' := [(2, .int (v2 + 1)), (0, .ref v0), (1, .int v1), (3, .int v3)]) 2 (dk_at dk_X1_partsFrom 15 rfl) rfl rfl (by decide) rfl ?_
      refine G_iinc (v := v3 + 1) (lv' := [(3, .int (v3 + 1)), (2, .int (v2 + 1)), (0, .ref v0), (1, .int v1)]) 3 (dk_at dk_X1_partsFrom 16 rfl) rfl rfl (by decide) rfl ?_
      refine G_goto (tgt := 4) (dk_at dk_X1_partsFrom 17 rfl) (by decide) ?_
      refine G_sub [2, 3, 1, 0] rfl ?_
      exact h
theorem k_X1_wrongBytesOf_0 {l : Launch} {X : XT} {d : Nat} {Q : Ot → AH → Prop} {A : AH} {bc bs : Nat} {v0 : Nat} {v1 : Int32} (h : isO A v0 2 ∧ Cal l X d bc bs M_X1_isMissing [.ref v0, .int v1] A fun o4 A1 b2 c3 => rI o4 (fun E => Q (.inr E) A1) fun i5 => (i5 = 0 → gR A1 v0 2 1 fun r6 => gR A1 v0 2 0 fun r7 => gR A1 r7 4 4 fun r8 => gR A1 v0 2 0 fun r9 => isO A1 r9 4 ∧ Cal l X d b2 c3 M_X3_partStart [.ref r9, .int v1] A1 fun o13 A10 b11 c12 => rI o13 (fun E => Q (.inr E) A10) fun i14 => gR A10 v0 2 0 fun r15 => isO A10 r15 4 ∧ Cal l X d b11 c12 M_X3_partLength [.ref r15, .int v1] A10 fun o19 A16 b17 c18 => rI o19 (fun E => Q (.inr E) A16) fun i20 => Cal l X d b17 c18 M_X5_differences [.ref r6, .ref r8, .int i14, .int i20] A16 fun o24 A21 b22 c23 => zI o24 fun i25 => Q (Ri i25) A21) ∧ (¬ i5 = 0 → Q (Ri 0) A1)) : G l X M_X1_wrongBytesOf d Q 0 [(0, .ref v0), (1, .int v1)] [] A bc bs := by
  refine G_aload_n 0 (dk_at dk_X1_wrongBytesOf 0 rfl) rfl ?_
  refine G_iload_n 1 (dk_at dk_X1_wrongBytesOf 1 rfl) rfl ?_
  obtain ⟨⟨_, ho⟩, h⟩ := h
  refine G_callV (As := [.int v1]) (rest := []) lk_X1_123 rfl (dk_at dk_X1_wrongBytesOf 2 rfl) rfl rfl (Nat.le_of_ble_eq_true rfl) ho (h.mono fun o4 A1 b2 c3 h => aftI h fun i5 h => ?_)
  refine G_if_eq (tgt := 10) (dk_at dk_X1_wrongBytesOf 3 rfl) (by decide) (fun c => ?_) (fun c => ?_)
  · replace h := h.1 c
    refine G_aload_n 0 (dk_at dk_X1_wrongBytesOf 6 rfl) rfl ?_
    refine K_gR gf_X1_9 (dk_at dk_X1_wrongBytesOf 7 rfl) h (fun r6 h => ?_)
    refine G_aload_n 0 (dk_at dk_X1_wrongBytesOf 8 rfl) rfl ?_
    refine K_gR gf_X1_70 (dk_at dk_X1_wrongBytesOf 9 rfl) h (fun r7 h => ?_)
    refine K_gR gf_X1_127 (dk_at dk_X1_wrongBytesOf 10 rfl) h (fun r8 h => ?_)
    refine G_aload_n 0 (dk_at dk_X1_wrongBytesOf 11 rfl) rfl ?_
    refine K_gR gf_X1_70 (dk_at dk_X1_wrongBytesOf 12 rfl) h (fun r9 h => ?_)
    refine G_iload_n 1 (dk_at dk_X1_wrongBytesOf 13 rfl) rfl ?_
    obtain ⟨⟨_, ho⟩, h⟩ := h
    refine G_callV (As := [.int v1]) (rest := [.ref r8, .ref r6]) lk_X1_130 rfl (dk_at dk_X1_wrongBytesOf 14 rfl) rfl rfl (Nat.le_of_ble_eq_true rfl) ho (h.mono fun o13 A10 b11 c12 h => aftI h fun i14 h => ?_)
    refine G_aload_n 0 (dk_at dk_X1_wrongBytesOf 15 rfl) rfl ?_
    refine K_gR gf_X1_70 (dk_at dk_X1_wrongBytesOf 16 rfl) h (fun r15 h => ?_)
    refine G_iload_n 1 (dk_at dk_X1_wrongBytesOf 17 rfl) rfl ?_
    obtain ⟨⟨_, ho⟩, h⟩ := h
    refine G_callV (As := [.int v1]) (rest := [.int i14, .ref r8, .ref r6]) lk_X1_134 rfl (dk_at dk_X1_wrongBytesOf 18 rfl) rfl rfl (Nat.le_of_ble_eq_true rfl) ho (h.mono fun o19 A16 b17 c18 h => aftI h fun i20 h => ?_)
    refine G_callSN (As := [.ref r6, .ref r8, .int i14, .int i20]) (rest := []) lk_X1_137 (dk_at dk_X1_wrongBytesOf 19 rfl) rfl rfl (Nat.le_of_ble_eq_true rfl) (h.mono fun o24 A21 b22 c23 h => atfI h fun i25 h => ?_)
    exact G_iret (ty := .int) rfl rfl (dk_at dk_X1_wrongBytesOf 20 rfl) h
  · replace h := h.2 c
    refine G_iconst (v := 0) (dk_at dk_X1_wrongBytesOf 4 rfl) (by decide) ?_
    exact G_iret (ty := .int) rfl rfl (dk_at dk_X1_wrongBytesOf 5 rfl) h
theorem k_X1_makeTicks_0 {l : Launch} {X : XT} {d : Nat} {Q : Ot → AH → Prop} {A : AH} {bc bs : Nat} {v0 : Nat} {v1 : Int32} (h : G l X M_X1_makeTicks d Q 2 [(0, .ref v0), (1, .int v1), (2, .int 0)] [] A bc bs) : G l X M_X1_makeTicks d Q 0 [(0, .ref v0), (1, .int v1)] [] A bc bs := by
  refine G_iconst (v := 0) (dk_at dk_X1_makeTicks 0 rfl) (by decide) ?_
  refine G_istore_n (lv' := [(2, .int 0), (0, .ref v0), (1, .int v1)]) (dk_at dk_X1_makeTicks 1 rfl) (by decide) rfl ?_
  refine G_sub [1, 2, 0] rfl ?_
  exact h
theorem k_X1_makeTicks_2 {l : Launch} {X : XT} {d : Nat} {Q : Ot → AH → Prop} {A : AH} {bc bs : Nat} {v0 : Nat} {v1 : Int32} {v2 : Int32} (h : (v1 ≤ v2 → Q (Ri v1) A) ∧ (¬ v1 ≤ v2 → isO A v0 2 ∧ Cal l X d bc bs M_X1_isFinished [.ref v0] A fun o4 A1 b2 c3 => rI o4 (fun E => Q (.inr E) A1) fun i5 => (¬ i5 = 0 → Q (Ri v2) A1) ∧ (i5 = 0 → isO A1 v0 2 ∧ Cal l X d b2 c3 M_X1_makeTick [.ref v0] A1 fun o9 A6 b7 c8 => rI o9 (fun E => Q (.inr E) A6) fun i10 => (¬ i10 = 0 → G l X M_X1_makeTicks d Q 2 [(0, .ref v0), (1, .int v1), (2, .int (v2 + 1))] [] A6 b7 c8) ∧ (i10 = 0 → Q (Ri v2) A6)))) : G l X M_X1_makeTicks d Q 2 [(0, .ref v0), (1, .int v1), (2, .int v2)] [] A bc bs := by
  refine G_iload_n 2 (dk_at dk_X1_makeTicks 2 rfl) rfl ?_
  refine G_iload_n 1 (dk_at dk_X1_makeTicks 3 rfl) rfl ?_
  refine G_icmp_ge (tgt := 29) (dk_at dk_X1_makeTicks 4 rfl) (by decide) (fun c => ?_) (fun c => ?_)
  · replace h := h.1 c
    refine G_iload_n 1 (dk_at dk_X1_makeTicks 15 rfl) rfl ?_
    exact G_iret (ty := .int) rfl rfl (dk_at dk_X1_makeTicks 16 rfl) h
  · replace h := h.2 c
    refine G_aload_n 0 (dk_at dk_X1_makeTicks 5 rfl) rfl ?_
    obtain ⟨⟨_, ho⟩, h⟩ := h
    refine G_callV (As := []) (rest := []) lk_X1_141 rfl (dk_at dk_X1_makeTicks 6 rfl) rfl rfl (Nat.le_of_ble_eq_true rfl) ho (h.mono fun o4 A1 b2 c3 h => aftI h fun i5 h => ?_)
    refine G_if_ne (tgt := 21) (dk_at dk_X1_makeTicks 7 rfl) (by decide) (fun c => ?_) (fun c => ?_)
    · replace h := h.1 c
      refine G_iload_n 2 (dk_at dk_X1_makeTicks 11 rfl) rfl ?_
      exact G_iret (ty := .int) rfl rfl (dk_at dk_X1_makeTicks 12 rfl) h
    · replace h := h.2 c
      refine G_aload_n 0 (dk_at dk_X1_makeTicks 8 rfl) rfl ?_
      obtain ⟨⟨_, ho⟩, h⟩ := h
      refine G_callV (As := []) (rest := []) lk_X1_145 rfl (dk_at dk_X1_makeTicks 9 rfl) rfl rfl (Nat.le_of_ble_eq_true rfl) ho (h.mono fun o9 A6 b7 c8 h => aftI h fun i10 h => ?_)
      refine G_if_ne (tgt := 23) (dk_at dk_X1_makeTicks 10 rfl) (by decide) (fun c => ?_) (fun c => ?_)
      · replace h := h.1 c
        refine G_iinc (v := v2 + 1) (lv' := [(2, .int (v2 + 1)), (0, .ref v0), (1, .int v1)]) 2 (dk_at dk_X1_makeTicks 13 rfl) rfl rfl (by decide) rfl ?_
        refine G_goto (tgt := 2) (dk_at dk_X1_makeTicks 14 rfl) (by decide) ?_
        refine G_sub [1, 2, 0] rfl ?_
        exact h
      · replace h := h.2 c
        refine G_iload_n 2 (dk_at dk_X1_makeTicks 11 rfl) rfl ?_
        exact G_iret (ty := .int) rfl rfl (dk_at dk_X1_makeTicks 12 rfl) h
theorem k_X1_makeTick_0 {l : Launch} {X : XT} {d : Nat} {Q : Ot → AH → Prop} {A : AH} {bc bs : Nat} {v0 : Nat} (h : isO A v0 2 ∧ Cal l X d bc bs M_X1_isConnected [.ref v0, .int 0] A fun o4 A1 b2 c3 => rI o4 (fun E => Q (.inr E) A1) fun i5 => (i5 = 0 → G l X M_X1_makeTick d Q 28 [(0, .ref v0), (1, .int 0)] [] A1 b2 c3) ∧ (¬ i5 = 0 → gI A1 v0 2 5 fun i6 => (i6 ≤ 0 → G l X M_X1_makeTick d Q 28 [(0, .ref v0), (1, .int 0)] [] A1 b2 c3) ∧ (¬ i6 ≤ 0 → isO A1 v0 2 ∧ Cal l X d b2 c3 M_X1_lowestMissing [.ref v0] A1 fun o10 A7 b8 c9 => rI o10 (fun E => Q (.inr E) A7) fun i11 => isO A7 v0 2 ∧ Cal l X d b8 c9 M_X1_receive [.ref v0, .int i11, .int 0] A7 fun o15 A12 b13 c14 => rV o15 (fun E => Q (.inr E) A12) <| G l X M_X1_makeTick d Q 28 [(0, .ref v0), (1, .int 1)] [] A12 b13 c14))) : G l X M_X1_makeTick d Q 0 [(0, .ref v0)] [] A bc bs := by
  refine G_iconst (v := 0) (dk_at dk_X1_makeTick 0 rfl) (by decide) ?_
  refine G_istore_n (lv' := [(1, .int 0), (0, .ref v0)]) (dk_at dk_X1_makeTick 1 rfl) (by decide) rfl ?_
  refine G_aload_n 1 (dk_at dk_X1_makeTick 2 rfl) rfl ?_
  refine G_iconst (v := 0) (dk_at dk_X1_makeTick 3 rfl) (by decide) ?_
  obtain ⟨⟨_, ho⟩, h⟩ := h
  refine G_callV (As := [.int 0]) (rest := []) lk_X1_148 rfl (dk_at dk_X1_makeTick 4 rfl) rfl rfl (Nat.le_of_ble_eq_true rfl) ho (h.mono fun o4 A1 b2 c3 h => aftI h fun i5 h => ?_)
  refine G_if_eq (tgt := 28) (dk_at dk_X1_makeTick 5 rfl) (by decide) (fun c => ?_) (fun c => ?_)
  · replace h := h.1 c
    refine G_sub [1, 0] rfl ?_
    exact h
  · replace h := h.2 c
    refine G_aload_n 1 (dk_at dk_X1_makeTick 6 rfl) rfl ?_
    refine K_gI gf_X1_24 (dk_at dk_X1_makeTick 7 rfl) h (fun i6 h => ?_)
    refine G_if_le (tgt := 28) (dk_at dk_X1_makeTick 8 rfl) (by decide) (fun c => ?_) (fun c => ?_)
    · replace h := h.1 c
      refine G_sub [1, 0] rfl ?_
      exact h
    · replace h := h.2 c
      refine G_aload_n 1 (dk_at dk_X1_makeTick 9 rfl) rfl ?_
      refine G_aload_n 1 (dk_at dk_X1_makeTick 10 rfl) rfl ?_
      obtain ⟨⟨_, ho⟩, h⟩ := h
      refine G_callV (As := []) (rest := [.ref v0]) lk_X1_151 rfl (dk_at dk_X1_makeTick 11 rfl) rfl rfl (Nat.le_of_ble_eq_true rfl) ho (h.mono fun o10 A7 b8 c9 h => aftI h fun i11 h => ?_)
      refine G_iconst (v := 0) (dk_at dk_X1_makeTick 12 rfl) (by decide) ?_
      obtain ⟨⟨_, ho⟩, h⟩ := h
      refine G_callV (As := [.int i11, .int 0]) (rest := []) lk_X1_154 rfl (dk_at dk_X1_makeTick 13 rfl) rfl rfl (Nat.le_of_ble_eq_true rfl) ho (h.mono fun o15 A12 b13 c14 h => aftV h fun h => ?_)
      refine G_iconst (v := 1) (dk_at dk_X1_makeTick 14 rfl) (by decide) ?_
      refine G_istore_n (lv' := [(1, .int 1), (0, .ref v0)]) (dk_at dk_X1_makeTick 15 rfl) (by decide) rfl ?_
      refine G_sub [1, 0] rfl ?_
      exact h
theorem k_X1_makeTick_28 {l : Launch} {X : XT} {d : Nat} {Q : Ot → AH → Prop} {A : AH} {bc bs : Nat} {v0 : Nat} {v1 : Int32} (h : isO A v0 2 ∧ Cal l X d bc bs M_X1_isConnected [.ref v0, .int 1] A fun o4 A1 b2 c3 => rI o4 (fun E => Q (.inr E) A1) fun i5 => (i5 = 0 → G l X M_X1_makeTick d Q 56 [(0, .ref v0), (1, .int v1), (2, .int 0)] [] A1 b2 c3) ∧ (¬ i5 = 0 → gI A1 v0 2 5 fun i6 => (i6 ≤ 0 → G l X M_X1_makeTick d Q 56 [(0, .ref v0), (1, .int v1), (2, .int 0)] [] A1 b2 c3) ∧ (¬ i6 ≤ 0 → isO A1 v0 2 ∧ Cal l X d b2 c3 M_X1_highestMissing [.ref v0] A1 fun o10 A7 b8 c9 => rI o10 (fun E => Q (.inr E) A7) fun i11 => isO A7 v0 2 ∧ Cal l X d b8 c9 M_X1_receive [.ref v0, .int i11, .int 1] A7 fun o15 A12 b13 c14 => rV o15 (fun E => Q (.inr E) A12) <| G l X M_X1_makeTick d Q 56 [(0, .ref v0), (1, .int 1), (2, .int 0)] [] A12 b13 c14))) : G l X M_X1_makeTick d Q 28 [(0, .ref v0), (1, .int v1)] [] A bc bs := by
  refine G_aload_n 0 (dk_at dk_X1_makeTick 16 rfl) rfl ?_
  refine G_iconst (v := 1) (dk_at dk_X1_makeTick 17 rfl) (by decide) ?_
  obtain ⟨⟨_, ho⟩, h⟩ := h
  refine G_callV (As := [.int 1]) (rest := []) lk_X1_148 rfl (dk_at dk_X1_makeTick 18 rfl) rfl rfl (Nat.le_of_ble_eq_true rfl) ho (h.mono fun o4 A1 b2 c3 h => aftI h fun i5 h => ?_)
  refine G_if_eq (tgt := 54) (dk_at dk_X1_makeTick 19 rfl) (by decide) (fun c => ?_) (fun c => ?_)
  · replace h := h.1 c
    refine G_iconst (v := 0) (dk_at dk_X1_makeTick 30 rfl) (by decide) ?_
    refine G_istore_n (lv' := [(2, .int 0), (0, .ref v0), (1, .int v1)]) (dk_at dk_X1_makeTick 31 rfl) (by decide) rfl ?_
    refine G_sub [1, 2, 0] rfl ?_
    exact h
  · replace h := h.2 c
    refine G_aload_n 0 (dk_at dk_X1_makeTick 20 rfl) rfl ?_
    refine K_gI gf_X1_24 (dk_at dk_X1_makeTick 21 rfl) h (fun i6 h => ?_)
    refine G_if_le (tgt := 54) (dk_at dk_X1_makeTick 22 rfl) (by decide) (fun c => ?_) (fun c => ?_)
    · replace h := h.1 c
      refine G_iconst (v := 0) (dk_at dk_X1_makeTick 30 rfl) (by decide) ?_
      refine G_istore_n (lv' := [(2, .int 0), (0, .ref v0), (1, .int v1)]) (dk_at dk_X1_makeTick 31 rfl) (by decide) rfl ?_
      refine G_sub [1, 2, 0] rfl ?_
      exact h
    · replace h := h.2 c
      refine G_aload_n 0 (dk_at dk_X1_makeTick 23 rfl) rfl ?_
      refine G_aload_n 0 (dk_at dk_X1_makeTick 24 rfl) rfl ?_
      obtain ⟨⟨_, ho⟩, h⟩ := h
      refine G_callV (As := []) (rest := [.ref v0]) lk_X1_158 rfl (dk_at dk_X1_makeTick 25 rfl) rfl rfl (Nat.le_of_ble_eq_true rfl) ho (h.mono fun o10 A7 b8 c9 h => aftI h fun i11 h => ?_)
      refine G_iconst (v := 1) (dk_at dk_X1_makeTick 26 rfl) (by decide) ?_
      obtain ⟨⟨_, ho⟩, h⟩ := h
      refine G_callV (As := [.int i11, .int 1]) (rest := []) lk_X1_154 rfl (dk_at dk_X1_makeTick 27 rfl) rfl rfl (Nat.le_of_ble_eq_true rfl) ho (h.mono fun o15 A12 b13 c14 h => aftV h fun h => ?_)
      refine G_iconst (v := 1) (dk_at dk_X1_makeTick 28 rfl) (by decide) ?_
      refine G_istore_n (lv' := [(1, .int 1), (0, .ref v0)]) (dk_at dk_X1_makeTick 29 rfl) (by decide) rfl ?_
      refine G_iconst (v := 0) (dk_at dk_X1_makeTick 30 rfl) (by decide) ?_
      refine G_istore_n (lv' := [(2, .int 0), (1, .int 1), (0, .ref v0)]) (dk_at dk_X1_makeTick 31 rfl) (by decide) rfl ?_
      refine G_sub [2, 1, 0] rfl ?_
      exact h
theorem k_X1_makeTick_56 {l : Launch} {X : XT} {d : Nat} {Q : Ot → AH → Prop} {A : AH} {bc bs : Nat} {v0 : Nat} {v1 : Int32} {v2 : Int32} (h : gR A v0 2 0 fun r1 => gI A r1 4 2 fun i2 => (i2 ≤ v2 → ((v1 : Int32) = 0 ∨ (v1 : Int32) = 1) ∧ Q (Ri v1) A) ∧ (¬ i2 ≤ v2 → isO A v0 2 ∧ Cal l X d bc bs M_X1_isConnected [.ref v0, .int 0] A fun o6 A3 b4 c5 => rI o6 (fun E => Q (.inr E) A3) fun i7 => (i7 = 0 → ((v1 : Int32) = 0 ∨ (v1 : Int32) = 1) ∧ Q (Ri v1) A3) ∧ (¬ i7 = 0 → isO A3 v0 2 ∧ Cal l X d b4 c5 M_X1_isSuspect [.ref v0, .int v2] A3 fun o11 A8 b9 c10 => rI o11 (fun E => Q (.inr E) A8) fun i12 => (i12 = 0 → G l X M_X1_makeTick d Q 56 [(0, .ref v0), (1, .int v1), (2, .int (v2 + 1))] [] A8 b9 c10) ∧ (¬ i12 = 0 → isO A8 v0 2 ∧ Cal l X d b9 c10 M_X1_searchPiece [.ref v0, .int v2] A8 fun o16 A13 b14 c15 => rI o16 (fun E => Q (.inr E) A13) fun i17 => G l X M_X1_makeTick d Q 56 [(0, .ref v0), (1, .int 1), (2, .int (v2 + 1))] [] A13 b14 c15)))) : G l X M_X1_makeTick d Q 56 [(0, .ref v0), (1, .int v1), (2, .int v2)] [] A bc bs := by
  refine G_iload_n 2 (dk_at dk_X1_makeTick 32 rfl) rfl ?_
  refine G_aload_n 0 (dk_at dk_X1_makeTick 33 rfl) rfl ?_
  refine K_gR gf_X1_70 (dk_at dk_X1_makeTick 34 rfl) h (fun r1 h => ?_)
  refine K_gI gf_X1_115 (dk_at dk_X1_makeTick 35 rfl) h (fun i2 h => ?_)
  refine G_icmp_ge (tgt := 97) (dk_at dk_X1_makeTick 36 rfl) (by decide) (fun c => ?_) (fun c => ?_)
  · replace h := h.1 c
    refine G_iload_n 1 (dk_at dk_X1_makeTick 53 rfl) rfl ?_
    refine G_iret (ty := .boolean) rfl (by rcases h.1 with e | e <;> (rw [e]; rfl)) (dk_at dk_X1_makeTick 54 rfl) h.2
  · replace h := h.2 c
    refine G_aload_n 0 (dk_at dk_X1_makeTick 37 rfl) rfl ?_
    refine G_iconst (v := 0) (dk_at dk_X1_makeTick 38 rfl) (by decide) ?_
    obtain ⟨⟨_, ho⟩, h⟩ := h
    refine G_callV (As := [.int 0]) (rest := []) lk_X1_148 rfl (dk_at dk_X1_makeTick 39 rfl) rfl rfl (Nat.le_of_ble_eq_true rfl) ho (h.mono fun o6 A3 b4 c5 h => aftI h fun i7 h => ?_)
    refine G_if_eq (tgt := 97) (dk_at dk_X1_makeTick 40 rfl) (by decide) (fun c => ?_) (fun c => ?_)
    · replace h := h.1 c
      refine G_iload_n 1 (dk_at dk_X1_makeTick 53 rfl) rfl ?_
      refine G_iret (ty := .boolean) rfl (by rcases h.1 with e | e <;> (rw [e]; rfl)) (dk_at dk_X1_makeTick 54 rfl) h.2
    · replace h := h.2 c
      refine G_aload_n 0 (dk_at dk_X1_makeTick 41 rfl) rfl ?_
      refine G_iload_n 2 (dk_at dk_X1_makeTick 42 rfl) rfl ?_
      obtain ⟨⟨_, ho⟩, h⟩ := h
      refine G_callV (As := [.int v2]) (rest := []) lk_X1_161 rfl (dk_at dk_X1_makeTick 43 rfl) rfl rfl (Nat.le_of_ble_eq_true rfl) ho (h.mono fun o11 A8 b9 c10 h => aftI h fun i12 h => ?_)
      refine G_if_eq (tgt := 91) (dk_at dk_X1_makeTick 44 rfl) (by decide) (fun c => ?_) (fun c => ?_)
      · replace h := h.1 c
        refine G_iinc (v := v2 + 1) (lv' := [(2, .int (v2 + 1)), (0, .ref v0), (1, .int v1)]) 2 (dk_at dk_X1_makeTick 51 rfl) rfl rfl (by decide) rfl ?_
        refine G_goto (tgt := 56) (dk_at dk_X1_makeTick 52 rfl) (by decide) ?_
        refine G_sub [1, 2, 0] rfl ?_
        exact h
      · replace h := h.2 c
        refine G_aload_n 0 (dk_at dk_X1_makeTick 45 rfl) rfl ?_
        refine G_iload_n 2 (dk_at dk_X1_makeTick 46 rfl) rfl ?_
        obtain ⟨⟨_, ho⟩, h⟩ := h
        refine G_callV (As := [.int v2]) (rest := []) lk_X1_164 rfl (dk_at dk_X1_makeTick 47 rfl) rfl rfl (Nat.le_of_ble_eq_true rfl) ho (h.mono fun o16 A13 b14 c15 h => aftI h fun i17 h => ?_)
        refine G_pop (dk_at dk_X1_makeTick 48 rfl) rfl ?_
        refine G_iconst (v := 1) (dk_at dk_X1_makeTick 49 rfl) (by decide) ?_
        refine G_istore_n (lv' := [(1, .int 1), (0, .ref v0), (2, .int v2)]) (dk_at dk_X1_makeTick 50 rfl) (by decide) rfl ?_
        refine G_iinc (v := v2 + 1) (lv' := [(2, .int (v2 + 1)), (1, .int 1), (0, .ref v0)]) 2 (dk_at dk_X1_makeTick 51 rfl) rfl rfl (by decide) rfl ?_
        refine G_goto (tgt := 56) (dk_at dk_X1_makeTick 52 rfl) (by decide) ?_
        refine G_sub [2, 1, 0] rfl ?_
        exact h
theorem k_X1_lowestMissing_0 {l : Launch} {X : XT} {d : Nat} {Q : Ot → AH → Prop} {A : AH} {bc bs : Nat} {v0 : Nat} (h : G l X M_X1_lowestMissing d Q 2 [(0, .ref v0), (1, .int 0)] [] A bc bs) : G l X M_X1_lowestMissing d Q 0 [(0, .ref v0)] [] A bc bs := by
  refine G_iconst (v := 0) (dk_at dk_X1_lowestMissing 0 rfl) (by decide) ?_
  refine G_istore_n (lv' := [(1, .int 0), (0, .ref v0)]) (dk_at dk_X1_lowestMissing 1 rfl) (by decide) rfl ?_
  refine G_sub [1, 0] rfl ?_
  exact h
theorem k_X1_lowestMissing_2 {l : Launch} {X : XT} {d : Nat} {Q : Ot → AH → Prop} {A : AH} {bc bs : Nat} {v0 : Nat} {v1 : Int32} (h : gR A v0 2 0 fun r1 => gI A r1 4 3 fun i2 => (i2 ≤ v1 → Q (Ri ((-1))) A) ∧ (¬ i2 ≤ v1 → isO A v0 2 ∧ Cal l X d bc bs M_X1_isMissing [.ref v0, .int v1] A fun o6 A3 b4 c5 => rI o6 (fun E => Q (.inr E) A3) fun i7 => (i7 = 0 → G l X M_X1_lowestMissing d Q 2 [(0, .ref v0), (1, .int (v1 + 1))] [] A3 b4 c5) ∧ (¬ i7 = 0 → Q (Ri v1) A3))) : G l X M_X1_lowestMissing d Q 2 [(0, .ref v0), (1, .int v1)] [] A bc bs := by
  refine G_iload_n 1 (dk_at dk_X1_lowestMissing 2 rfl) rfl ?_
  refine G_aload_n 0 (dk_at dk_X1_lowestMissing 3 rfl) rfl ?_
  refine K_gR gf_X1_70 (dk_at dk_X1_lowestMissing 4 rfl) h (fun r1 h => ?_)
  refine K_gI gf_X1_120 (dk_at dk_X1_lowestMissing 5 rfl) h (fun i2 h => ?_)
  refine G_icmp_ge (tgt := 29) (dk_at dk_X1_lowestMissing 6 rfl) (by decide) (fun c => ?_) (fun c => ?_)
  · replace h := h.1 c
    refine G_iconst (v := (-1)) (dk_at dk_X1_lowestMissing 15 rfl) (by decide) ?_
    exact G_iret (ty := .int) rfl rfl (dk_at dk_X1_lowestMissing 16 rfl) h
  · replace h := h.2 c
    refine G_aload_n 0 (dk_at dk_X1_lowestMissing 7 rfl) rfl ?_
    refine G_iload_n 1 (dk_at dk_X1_lowestMissing 8 rfl) rfl ?_
    obtain ⟨⟨_, ho⟩, h⟩ := h
    refine G_callV (As := [.int v1]) (rest := []) lk_X1_123 rfl (dk_at dk_X1_lowestMissing 9 rfl) rfl rfl (Nat.le_of_ble_eq_true rfl) ho (h.mono fun o6 A3 b4 c5 h => aftI h fun i7 h => ?_)
    refine G_if_eq (tgt := 23) (dk_at dk_X1_lowestMissing 10 rfl) (by decide) (fun c => ?_) (fun c => ?_)
    · replace h := h.1 c
      refine G_iinc (v := v1 + 1) (lv' := [(1, .int (v1 + 1)), (0, .ref v0)]) 1 (dk_at dk_X1_lowestMissing 13 rfl) rfl rfl (by decide) rfl ?_
      refine G_goto (tgt := 2) (dk_at dk_X1_lowestMissing 14 rfl) (by decide) ?_
      refine G_sub [1, 0] rfl ?_
      exact h
    · replace h := h.2 c
      refine G_iload_n 1 (dk_at dk_X1_lowestMissing 11 rfl) rfl ?_
      exact G_iret (ty := .int) rfl rfl (dk_at dk_X1_lowestMissing 12 rfl) h
theorem k_X1_highestMissing_0 {l : Launch} {X : XT} {d : Nat} {Q : Ot → AH → Prop} {A : AH} {bc bs : Nat} {v0 : Nat} (h : gR A v0 2 0 fun r1 => gI A r1 4 3 fun i2 => G l X M_X1_highestMissing d Q 10 [(0, .ref v0), (1, .int (i2 - 1))] [] A bc bs) : G l X M_X1_highestMissing d Q 0 [(0, .ref v0)] [] A bc bs := by
  refine G_aload_n 0 (dk_at dk_X1_highestMissing 0 rfl) rfl ?_
  refine K_gR gf_X1_70 (dk_at dk_X1_highestMissing 1 rfl) h (fun r1 h => ?_)
  refine K_gI gf_X1_120 (dk_at dk_X1_highestMissing 2 rfl) h (fun i2 h => ?_)
  refine G_iconst (v := 1) (dk_at dk_X1_highestMissing 3 rfl) (by decide) ?_
  refine G_isub (dk_at dk_X1_highestMissing 4 rfl) ?_
  refine G_istore_n (lv' := [(1, .int (i2 - 1)), (0, .ref v0)]) (dk_at dk_X1_highestMissing 5 rfl) (by decide) rfl ?_
  refine G_sub [1, 0] rfl ?_
  exact h
theorem k_X1_highestMissing_10 {l : Launch} {X : XT} {d : Nat} {Q : Ot → AH → Prop} {A : AH} {bc bs : Nat} {v0 : Nat} {v1 : Int32} (h : (v1 < 0 → Q (Ri ((-1))) A) ∧ (¬ v1 < 0 → isO A v0 2 ∧ Cal l X d bc bs M_X1_isMissing [.ref v0, .int v1] A fun o4 A1 b2 c3 => rI o4 (fun E => Q (.inr E) A1) fun i5 => (i5 = 0 → G l X M_X1_highestMissing d Q 10 [(0, .ref v0), (1, .int (v1 + (-1)))] [] A1 b2 c3) ∧ (¬ i5 = 0 → Q (Ri v1) A1))) : G l X M_X1_highestMissing d Q 10 [(0, .ref v0), (1, .int v1)] [] A bc bs := by
  refine G_iload_n 1 (dk_at dk_X1_highestMissing 6 rfl) rfl ?_
  refine G_if_lt (tgt := 30) (dk_at dk_X1_highestMissing 7 rfl) (by decide) (fun c => ?_) (fun c => ?_)
  · replace h := h.1 c
    refine G_iconst (v := (-1)) (dk_at dk_X1_highestMissing 16 rfl) (by decide) ?_
    exact G_iret (ty := .int) rfl rfl (dk_at dk_X1_highestMissing 17 rfl) h
  · replace h := h.2 c
    refine G_aload_n 0 (dk_at dk_X1_highestMissing 8 rfl) rfl ?_
    refine G_iload_n 1 (dk_at dk_X1_highestMissing 9 rfl) rfl ?_
    obtain ⟨⟨_, ho⟩, h⟩ := h
    refine G_callV (As := [.int v1]) (rest := []) lk_X1_123 rfl (dk_at dk_X1_highestMissing 10 rfl) rfl rfl (Nat.le_of_ble_eq_true rfl) ho (h.mono fun o4 A1 b2 c3 h => aftI h fun i5 h => ?_)
    refine G_if_eq (tgt := 24) (dk_at dk_X1_highestMissing 11 rfl) (by decide) (fun c => ?_) (fun c => ?_)
    · replace h := h.1 c
      refine G_iinc (v := v1 + (-1)) (lv' := [(1, .int (v1 + (-1))), (0, .ref v0)]) 1 (dk_at dk_X1_highestMissing 14 rfl) rfl rfl (by decide) rfl ?_
      refine G_goto (tgt := 10) (dk_at dk_X1_highestMissing 15 rfl) (by decide) ?_
      refine G_sub [1, 0] rfl ?_
      exact h
    · replace h := h.2 c
      refine G_iload_n 1 (dk_at dk_X1_highestMissing 12 rfl) rfl ?_
      exact G_iret (ty := .int) rfl rfl (dk_at dk_X1_highestMissing 13 rfl) h
theorem k_X1_receiveMissing_0 {l : Launch} {X : XT} {d : Nat} {Q : Ot → AH → Prop} {A : AH} {bc bs : Nat} {v0 : Nat} {v1 : Int32} {v2 : Int32} (h : gR A v0 2 0 fun r1 => isO A r1 4 ∧ Cal l X d bc bs M_X3_firstPart [.ref r1, .int v1] A fun o5 A2 b3 c4 => rI o5 (fun E => Q (.inr E) A2) fun i6 => gR A2 v0 2 0 fun r7 => isO A2 r7 4 ∧ Cal l X d b3 c4 M_X3_partsOf [.ref r7, .int v1] A2 fun o11 A8 b9 c10 => rI o11 (fun E => Q (.inr E) A8) fun i12 => G l X M_X1_receiveMissing d Q 27 [(0, .ref v0), (2, .int v2), (4, .int (i6 + i12)), (5, .int 0), (6, .int i6)] [] A8 b9 c10) : G l X M_X1_receiveMissing d Q 0 [(0, .ref v0), (1, .int v1), (2, .int v2)] [] A bc bs := by
  refine G_aload_n 0 (dk_at dk_X1_receiveMissing 0 rfl) rfl ?_
  refine K_gR gf_X1_70 (dk_at dk_X1_receiveMissing 1 rfl) h (fun r1 h => ?_)
  refine G_iload_n 1 (dk_at dk_X1_receiveMissing 2 rfl) rfl ?_
  obtain ⟨⟨_, ho⟩, h⟩ := h
  refine G_callV (As := [.int v1]) (rest := []) lk_X1_167 rfl (dk_at dk_X1_receiveMissing 3 rfl) rfl rfl (Nat.le_of_ble_eq_true rfl) ho (h.mono fun o5 A2 b3 c4 h => aftI h fun i6 h => ?_)
  refine G_istore_n (lv' := [(3, .int i6), (0, .ref v0), (1, .int v1), (2, .int v2)]) (dk_at dk_X1_receiveMissing 4 rfl) (by decide) rfl ?_
  refine G_iload_n 0 (dk_at dk_X1_receiveMissing 5 rfl) rfl ?_
  refine G_aload_n 1 (dk_at dk_X1_receiveMissing 6 rfl) rfl ?_
  refine K_gR gf_X1_70 (dk_at dk_X1_receiveMissing 7 rfl) h (fun r7 h => ?_)
  refine G_iload_n 2 (dk_at dk_X1_receiveMissing 8 rfl) rfl ?_
  obtain ⟨⟨_, ho⟩, h⟩ := h
  refine G_callV (As := [.int v1]) (rest := [.int i6]) lk_X1_170 rfl (dk_at dk_X1_receiveMissing 9 rfl) rfl rfl (Nat.le_of_ble_eq_true rfl) ho (h.mono fun o11 A8 b9 c10 h => aftI h fun i12 h => ?_)
  refine G_iadd (dk_at dk_X1_receiveMissing 10 rfl) ?_
  refine G_istore (lv' := [(4, .int (i6 + i12)), (3, .int i6), (0, .ref v0), (1, .int v1), (2, .int v2)]) (dk_at dk_X1_receiveMissing 11 rfl) (by decide) rfl ?_
  refine G_iconst (v := 0) (dk_at dk_X1_receiveMissing 12 rfl) (by decide) ?_
  refine G_istore (lv' := [(5, .int 0), (4, .int (i6 + i12)), (3, .int i6), (0, .ref v0), (1, .int v1), (2, .int v2)]) (dk_at dk_X1_receiveMissing 13 rfl) (by decide) rfl ?_
  refine G_iload_n 2 (dk_at dk_X1_receiveMissing 14 rfl) rfl ?_
  refine G_istore (lv' := [(6, .int i6), (5, .int 0), (4, .int (i6 + i12)), (3, .int i6), (0, .ref v0), (1, .int v1), (2, .int v2)]) (dk_at dk_X1_receiveMissing 15 rfl) (by decide) rfl ?_
  refine G_sub [4, 6, 2, 1, 0] rfl ?_
  exact h
theorem k_X1_receiveMissing_27 {l : Launch} {X : XT} {d : Nat} {Q : Ot → AH → Prop} {A : AH} {bc bs : Nat} {v0 : Nat} {v2 : Int32} {v4 : Int32} {v5 : Int32} {v6 : Int32} (h : (v4 ≤ v6 → Q (Ri v5) A) ∧ (¬ v4 ≤ v6 → isO A v0 2 ∧ Cal l X d bc bs M_X1_isConnected [.ref v0, .int v2] A fun o4 A1 b2 c3 => rI o4 (fun E => Q (.inr E) A1) fun i5 => (i5 = 0 → Q (Ri v5) A1) ∧ (¬ i5 = 0 → isO A1 v0 2 ∧ Cal l X d b2 c3 M_X1_isMissing [.ref v0, .int v6] A1 fun o9 A6 b7 c8 => rI o9 (fun E => Q (.inr E) A6) fun i10 => (i10 = 0 → G l X M_X1_receiveMissing d Q 27 [(0, .ref v0), (2, .int v2), (4, .int v4), (5, .int v5), (6, .int (v6 + 1))] [] A6 b7 c8) ∧ (¬ i10 = 0 → isO A6 v0 2 ∧ Cal l X d b7 c8 M_X1_receive [.ref v0, .int v6, .int v2] A6 fun o14 A11 b12 c13 => rV o14 (fun E => Q (.inr E) A11) <| G l X M_X1_receiveMissing d Q 27 [(0, .ref v0), (2, .int v2), (4, .int v4), (5, .int (v5 + 1)), (6, .int (v6 + 1))] [] A11 b12 c13)))) : G l X M_X1_receiveMissing d Q 27 [(0, .ref v0), (2, .int v2), (4, .int v4), (5, .int v5), (6, .int v6)] [] A bc bs := by
  refine G_iload 4 (dk_at dk_X1_receiveMissing 16 rfl) rfl ?_
  refine G_iload 2 (dk_at dk_X1_receiveMissing 17 rfl) rfl ?_
  refine G_icmp_ge (tgt := 67) (dk_at dk_X1_receiveMissing 18 rfl) (by decide) (fun c => ?_) (fun c => ?_)
  · replace h := h.1 c
    refine G_iload 3 (dk_at dk_X1_receiveMissing 34 rfl) rfl ?_
    exact G_iret (ty := .int) rfl rfl (dk_at dk_X1_receiveMissing 35 rfl) h
  · replace h := h.2 c
    refine G_aload_n 0 (dk_at dk_X1_receiveMissing 19 rfl) rfl ?_
    refine G_iload_n 1 (dk_at dk_X1_receiveMissing 20 rfl) rfl ?_
    obtain ⟨⟨_, ho⟩, h⟩ := h
    refine G_callV (As := [.int v2]) (rest := []) lk_X1_148 rfl (dk_at dk_X1_receiveMissing 21 rfl) rfl rfl (Nat.le_of_ble_eq_true rfl) ho (h.mono fun o4 A1 b2 c3 h => aftI h fun i5 h => ?_)
    refine G_if_eq (tgt := 67) (dk_at dk_X1_receiveMissing 22 rfl) (by decide) (fun c => ?_) (fun c => ?_)
    · replace h := h.1 c
      refine G_iload 3 (dk_at dk_X1_receiveMissing 34 rfl) rfl ?_
      exact G_iret (ty := .int) rfl rfl (dk_at dk_X1_receiveMissing 35 rfl) h
    · replace h := h.2 c
      refine G_aload_n 0 (dk_at dk_X1_receiveMissing 23 rfl) rfl ?_
      refine G_iload 4 (dk_at dk_X1_receiveMissing 24 rfl) rfl ?_
      obtain ⟨⟨_, ho⟩, h⟩ := h
      refine G_callV (As := [.int v6]) (rest := []) lk_X1_123 rfl (dk_at dk_X1_receiveMissing 25 rfl) rfl rfl (Nat.le_of_ble_eq_true rfl) ho (h.mono fun o9 A6 b7 c8 h => aftI h fun i10 h => ?_)
      refine G_if_eq (tgt := 61) (dk_at dk_X1_receiveMissing 26 rfl) (by decide) (fun c => ?_) (fun c => ?_)
      · replace h := h.1 c
        refine G_iinc (v := v6 + 1) (lv' := [(6, .int (v6 + 1)), (0, .ref v0), (2, .int v2), (4, .int v4), (5, .int v5)]) 4 (dk_at dk_X1_receiveMissing 32 rfl) rfl rfl (by decide) rfl ?_
        refine G_goto (tgt := 27) (dk_at dk_X1_receiveMissing 33 rfl) (by decide) ?_
        refine G_sub [1, 2, 3, 4, 0] rfl ?_
        exact h
      · replace h := h.2 c
        refine G_aload_n 0 (dk_at dk_X1_receiveMissing 27 rfl) rfl ?_
        refine G_iload 4 (dk_at dk_X1_receiveMissing 28 rfl) rfl ?_
        refine G_iload_n 1 (dk_at dk_X1_receiveMissing 29 rfl) rfl ?_
        obtain ⟨⟨_, ho⟩, h⟩ := h
        refine G_callV (As := [.int v6, .int v2]) (rest := []) lk_X1_154 rfl (dk_at dk_X1_receiveMissing 30 rfl) rfl rfl (Nat.le_of_ble_eq_true rfl) ho (h.mono fun o14 A11 b12 c13 h => aftV h fun h => ?_)
        refine G_iinc (v := v5 + 1) (lv' := [(5, .int (v5 + 1)), (0, .ref v0), (2, .int v2), (4, .int v4), (6, .int v6)]) 3 (dk_at dk_X1_receiveMissing 31 rfl) rfl rfl (by decide) rfl ?_
        refine G_iinc (v := v6 + 1) (lv' := [(6, .int (v6 + 1)), (5, .int (v5 + 1)), (0, .ref v0), (2, .int v2), (4, .int v4)]) 4 (dk_at dk_X1_receiveMissing 32 rfl) rfl rfl (by decide) rfl ?_
        refine G_goto (tgt := 27) (dk_at dk_X1_receiveMissing 33 rfl) (by decide) ?_
        refine G_sub [2, 3, 4, 1, 0] rfl ?_
        exact h
theorem k_X1_receive_0 {l : Launch} {X : XT} {d : Nat} {Q : Ot → AH → Prop} {A : AH} {bc bs : Nat} {v0 : Nat} {v1 : Int32} {v2 : Int32} (h : gI A v0 2 8 fun i1 => pV A v0 2 8 (.int (i1 + 1)) fun A2 => gR A2 v0 2 0 fun r3 => isO A2 r3 4 ∧ Cal l X d bc bs M_X3_bytesOf [.ref r3, .int v2] A2 fun o7 A4 b5 c6 => rR o7 (fun E => Q (.inr E) A4) fun r8 => isO A4 v0 2 ∧ Cal l X d b5 c6 M_X1_putPart [.ref v0, .int v1, .ref r8, .int v2] A4 fun o12 A9 b10 c11 => rV o12 (fun E => Q (.inr E) A9) <| gR A9 v0 2 0 fun r13 => isO A9 r13 4 ∧ Cal l X d b10 c11 M_X3_partStart [.ref r13, .int v1] A9 fun o17 A14 b15 c16 => rI o17 (fun E => Q (.inr E) A14) fun i18 => gR A14 v0 2 0 fun r19 => isO A14 r19 4 ∧ Cal l X d b15 c16 M_X3_partLength [.ref r19, .int v1] A14 fun o23 A20 b21 c22 => rI o23 (fun E => Q (.inr E) A20) fun i24 => isO A20 v0 2 ∧ Cal l X d b21 c22 M_X1_breakBytes [.ref v0, .int i18, .int i24] A20 fun o28 A25 b26 c27 => rV o28 (fun E => Q (.inr E) A25) <| gR A25 v0 2 12 fun r29 => Cal l X d b26 c27 M_X5_at [.ref r29, .int v2] A25 fun o33 A30 b31 c32 => zI o33 fun i34 => gR A30 v0 2 12 fun r35 => Cal l X d b31 c32 M_X5_put [.ref r35, .int v2, .int (i34 + 1)] A30 fun o39 A36 b37 c38 => zV o39 <| gR A36 v0 2 16 fun r40 => isO A36 r40 1 ∧ Cal l X d b37 c38 M_X0_write [.ref r40, .int 0, .int v1, .int v2] A36 fun o44 A41 b42 c43 => rV o44 (fun E => Q (.inr E) A41) <| gR A41 v0 2 0 fun r45 => gR A41 r45 4 10 fun r46 => Cal l X d b42 c43 M_X5_at [.ref r46, .int v1] A41 fun o50 A47 b48 c49 => zI o50 fun i51 => isO A47 v0 2 ∧ Cal l X d b48 c49 M_X1_judge [.ref v0, .int i51] A47 fun o55 A52 b53 c54 => rV o55 (fun E => Q (.inr E) A52) <| gR A52 v0 2 0 fun r56 => isO A52 r56 4 ∧ Cal l X d b53 c54 M_X3_isCutAt [.ref r56, .int v2, .int (i34 + 1)] A52 fun o60 A57 b58 c59 => rI o60 (fun E => Q (.inr E) A57) fun i61 => (i61 = 0 → Q Rv A57) ∧ (¬ i61 = 0 → gR A57 v0 2 11 fun r62 => Cal l X d b58 c59 M_X5_put [.ref r62, .int v2, .int 0] A57 fun o66 A63 b64 c65 => zV o66 <| gR A63 v0 2 16 fun r67 => isO A63 r67 1 ∧ Cal l X d b64 c65 M_X0_write [.ref r67, .int 5, .int v2, .int (i34 + 1)] A63 fun o71 A68 b69 c70 => rV o71 (fun E => Q (.inr E) A68) <| Q Rv A68)) : G l X M_X1_receive d Q 0 [(0, .ref v0), (1, .int v1), (2, .int v2)] [] A bc bs := by
  refine G_aload_n 0 (dk_at dk_X1_receive 0 rfl) rfl ?_
  refine G_dup (dk_at dk_X1_receive 1 rfl) rfl ?_
  refine K_gI gf_X1_34 (dk_at dk_X1_receive 2 rfl) h (fun i1 h => ?_)
  refine G_iconst (v := 1) (dk_at dk_X1_receive 3 rfl) (by decide) ?_
  refine G_iadd (dk_at dk_X1_receive 4 rfl) ?_
  refine K_pI pf_X1_34 (dk_at dk_X1_receive 5 rfl) h (fun A2 h => ?_)
  refine G_aload_n 0 (dk_at dk_X1_receive 6 rfl) rfl ?_
  refine G_iload_n 1 (dk_at dk_X1_receive 7 rfl) rfl ?_
  refine G_aload_n 0 (dk_at dk_X1_receive 8 rfl) rfl ?_
  refine K_gR gf_X1_70 (dk_at dk_X1_receive 9 rfl) h (fun r3 h => ?_)
  refine G_iload_n 2 (dk_at dk_X1_receive 10 rfl) rfl ?_
  obtain ⟨⟨_, ho⟩, h⟩ := h
  refine G_callV (As := [.int v2]) (rest := [.int v1, .ref v0]) lk_X1_173 rfl (dk_at dk_X1_receive 11 rfl) rfl rfl (Nat.le_of_ble_eq_true rfl) ho (h.mono fun o7 A4 b5 c6 h => aftR h fun r8 h => ?_)
  refine G_iload_n 2 (dk_at dk_X1_receive 12 rfl) rfl ?_
  obtain ⟨⟨_, ho⟩, h⟩ := h
  refine G_callV (As := [.int v1, .ref r8, .int v2]) (rest := []) lk_X1_177 rfl (dk_at dk_X1_receive 13 rfl) rfl rfl (Nat.le_of_ble_eq_true rfl) ho (h.mono fun o12 A9 b10 c11 h => aftV h fun h => ?_)
  refine G_aload_n 0 (dk_at dk_X1_receive 14 rfl) rfl ?_
  refine G_aload_n 0 (dk_at dk_X1_receive 15 rfl) rfl ?_
  refine K_gR gf_X1_70 (dk_at dk_X1_receive 16 rfl) h (fun r13 h => ?_)
  refine G_iload_n 1 (dk_at dk_X1_receive 17 rfl) rfl ?_
  obtain ⟨⟨_, ho⟩, h⟩ := h
  refine G_callV (As := [.int v1]) (rest := [.ref v0]) lk_X1_130 rfl (dk_at dk_X1_receive 18 rfl) rfl rfl (Nat.le_of_ble_eq_true rfl) ho (h.mono fun o17 A14 b15 c16 h => aftI h fun i18 h => ?_)
  refine G_aload_n 0 (dk_at dk_X1_receive 19 rfl) rfl ?_
  refine K_gR gf_X1_70 (dk_at dk_X1_receive 20 rfl) h (fun r19 h => ?_)
  refine G_iload_n 1 (dk_at dk_X1_receive 21 rfl) rfl ?_
  obtain ⟨⟨_, ho⟩, h⟩ := h
  refine G_callV (As := [.int v1]) (rest := [.int i18, .ref v0]) lk_X1_134 rfl (dk_at dk_X1_receive 22 rfl) rfl rfl (Nat.le_of_ble_eq_true rfl) ho (h.mono fun o23 A20 b21 c22 h => aftI h fun i24 h => ?_)
  obtain ⟨⟨_, ho⟩, h⟩ := h
  refine G_callV (As := [.int i18, .int i24]) (rest := []) lk_X1_181 rfl (dk_at dk_X1_receive 23 rfl) rfl rfl (Nat.le_of_ble_eq_true rfl) ho (h.mono fun o28 A25 b26 c27 h => aftV h fun h => ?_)
  refine G_aload_n 0 (dk_at dk_X1_receive 24 rfl) rfl ?_
  refine K_gR gf_X1_46 (dk_at dk_X1_receive 25 rfl) h (fun r29 h => ?_)
  refine G_iload_n 2 (dk_at dk_X1_receive 26 rfl) rfl ?_
  refine G_callSN (As := [.ref r29, .int v2]) (rest := []) lk_X1_111 (dk_at dk_X1_receive 27 rfl) rfl rfl (Nat.le_of_ble_eq_true rfl) (h.mono fun o33 A30 b31 c32 h => atfI h fun i34 h => ?_)
  refine G_iconst (v := 1) (dk_at dk_X1_receive 28 rfl) (by decide) ?_
  refine G_iadd (dk_at dk_X1_receive 29 rfl) ?_
  refine G_istore_n (lv' := [(3, .int (i34 + 1)), (0, .ref v0), (1, .int v1), (2, .int v2)]) (dk_at dk_X1_receive 30 rfl) (by decide) rfl ?_
  refine G_aload_n 1 (dk_at dk_X1_receive 31 rfl) rfl ?_
  refine K_gR gf_X1_46 (dk_at dk_X1_receive 32 rfl) h (fun r35 h => ?_)
  refine G_iload_n 3 (dk_at dk_X1_receive 33 rfl) rfl ?_
  refine G_iload_n 0 (dk_at dk_X1_receive 34 rfl) rfl ?_
  refine G_callSN (As := [.ref r35, .int v2, .int (i34 + 1)]) (rest := []) lk_X1_184 (dk_at dk_X1_receive 35 rfl) rfl rfl (Nat.le_of_ble_eq_true rfl) (h.mono fun o39 A36 b37 c38 h => atfV h fun h => ?_)
  refine G_aload_n 1 (dk_at dk_X1_receive 36 rfl) rfl ?_
  refine K_gR gf_X1_66 (dk_at dk_X1_receive 37 rfl) h (fun r40 h => ?_)
  refine G_iconst (v := 0) (dk_at dk_X1_receive 38 rfl) (by decide) ?_
  refine G_iload_n 2 (dk_at dk_X1_receive 39 rfl) rfl ?_
  refine G_iload_n 3 (dk_at dk_X1_receive 40 rfl) rfl ?_
  obtain ⟨⟨_, ho⟩, h⟩ := h
  refine G_callV (As := [.int 0, .int v1, .int v2]) (rest := []) lk_X1_188 rfl (dk_at dk_X1_receive 41 rfl) rfl rfl (Nat.le_of_ble_eq_true rfl) ho (h.mono fun o44 A41 b42 c43 h => aftV h fun h => ?_)
  refine G_aload_n 1 (dk_at dk_X1_receive 42 rfl) rfl ?_
  refine G_aload_n 1 (dk_at dk_X1_receive 43 rfl) rfl ?_
  refine K_gR gf_X1_70 (dk_at dk_X1_receive 44 rfl) h (fun r45 h => ?_)
  refine K_gR gf_X1_192 (dk_at dk_X1_receive 45 rfl) h (fun r46 h => ?_)
  refine G_iload_n 2 (dk_at dk_X1_receive 46 rfl) rfl ?_
  refine G_callSN (As := [.ref r46, .int v1]) (rest := [.ref v0]) lk_X1_111 (dk_at dk_X1_receive 47 rfl) rfl rfl (Nat.le_of_ble_eq_true rfl) (h.mono fun o50 A47 b48 c49 h => atfI h fun i51 h => ?_)
  obtain ⟨⟨_, ho⟩, h⟩ := h
  refine G_callV (As := [.int i51]) (rest := []) lk_X1_195 rfl (dk_at dk_X1_receive 48 rfl) rfl rfl (Nat.le_of_ble_eq_true rfl) ho (h.mono fun o55 A52 b53 c54 h => aftV h fun h => ?_)
  refine G_aload_n 1 (dk_at dk_X1_receive 49 rfl) rfl ?_
  refine K_gR gf_X1_70 (dk_at dk_X1_receive 50 rfl) h (fun r56 h => ?_)
  refine G_iload_n 3 (dk_at dk_X1_receive 51 rfl) rfl ?_
  refine G_iload_n 0 (dk_at dk_X1_receive 52 rfl) rfl ?_
  obtain ⟨⟨_, ho⟩, h⟩ := h
  refine G_callV (As := [.int v2, .int (i34 + 1)]) (rest := []) lk_X1_199 rfl (dk_at dk_X1_receive 53 rfl) rfl rfl (Nat.le_of_ble_eq_true rfl) ho (h.mono fun o60 A57 b58 c59 h => aftI h fun i61 h => ?_)
  refine G_if_eq (tgt := 120) (dk_at dk_X1_receive 54 rfl) (by decide) (fun c => ?_) (fun c => ?_)
  · replace h := h.1 c
    exact G_vret rfl (dk_at dk_X1_receive 66 rfl) h
  · replace h := h.2 c
    refine G_aload_n 1 (dk_at dk_X1_receive 55 rfl) rfl ?_
    refine K_gR gf_X1_43 (dk_at dk_X1_receive 56 rfl) h (fun r62 h => ?_)
    refine G_iload_n 3 (dk_at dk_X1_receive 57 rfl) rfl ?_
    refine G_iconst (v := 0) (dk_at dk_X1_receive 58 rfl) (by decide) ?_
    refine G_callSN (As := [.ref r62, .int v2, .int 0]) (rest := []) lk_X1_184 (dk_at dk_X1_receive 59 rfl) rfl rfl (Nat.le_of_ble_eq_true rfl) (h.mono fun o66 A63 b64 c65 h => atfV h fun h => ?_)
    refine G_aload_n 1 (dk_at dk_X1_receive 60 rfl) rfl ?_
    refine K_gR gf_X1_66 (dk_at dk_X1_receive 61 rfl) h (fun r67 h => ?_)
    refine G_iconst (v := 5) (dk_at dk_X1_receive 62 rfl) (by decide) ?_
    refine G_iload_n 3 (dk_at dk_X1_receive 63 rfl) rfl ?_
    refine G_iload_n 0 (dk_at dk_X1_receive 64 rfl) rfl ?_
    obtain ⟨⟨_, ho⟩, h⟩ := h
    refine G_callV (As := [.int 5, .int v2, .int (i34 + 1)]) (rest := []) lk_X1_188 rfl (dk_at dk_X1_receive 65 rfl) rfl rfl (Nat.le_of_ble_eq_true rfl) ho (h.mono fun o71 A68 b69 c70 h => aftV h fun h => ?_)
    exact G_vret rfl (dk_at dk_X1_receive 66 rfl) h
theorem k_X1_putPart_0 {l : Launch} {X : XT} {d : Nat} {Q : Ot → AH → Prop} {A : AH} {bc bs : Nat} {v0 : Nat} {v1 : Int32} {v2 : Nat} {v3 : Int32} (h : gR A v0 2 0 fun r1 => isO A r1 4 ∧ Cal l X d bc bs M_X3_partStart [.ref r1, .int v1] A fun o5 A2 b3 c4 => rI o5 (fun E => Q (.inr E) A2) fun i6 => gR A2 v0 2 0 fun r7 => isO A2 r7 4 ∧ Cal l X d b3 c4 M_X3_partLength [.ref r7, .int v1] A2 fun o11 A8 b9 c10 => rI o11 (fun E => Q (.inr E) A8) fun i12 => G l X M_X1_putPart d Q 27 [(0, .ref v0), (1, .int v1), (2, .ref v2), (3, .int v3), (5, .int (i6 + i12)), (6, .int i6)] [] A8 b9 c10) : G l X M_X1_putPart d Q 0 [(0, .ref v0), (1, .int v1), (2, .ref v2), (3, .int v3)] [] A bc bs := by
  refine G_aload_n 0 (dk_at dk_X1_putPart 0 rfl) rfl ?_
  refine K_gR gf_X1_70 (dk_at dk_X1_putPart 1 rfl) h (fun r1 h => ?_)
  refine G_iload_n 1 (dk_at dk_X1_putPart 2 rfl) rfl ?_
  obtain ⟨⟨_, ho⟩, h⟩ := h
  refine G_callV (As := [.int v1]) (rest := []) lk_X1_130 rfl (dk_at dk_X1_putPart 3 rfl) rfl rfl (Nat.le_of_ble_eq_true rfl) ho (h.mono fun o5 A2 b3 c4 h => aftI h fun i6 h => ?_)
  refine G_istore (lv' := [(4, .int i6), (0, .ref v0), (1, .int v1), (2, .ref v2), (3, .int v3)]) (dk_at dk_X1_putPart 4 rfl) (by decide) rfl ?_
  refine G_iload 0 (dk_at dk_X1_putPart 5 rfl) rfl ?_
  refine G_aload_n 1 (dk_at dk_X1_putPart 6 rfl) rfl ?_
  refine K_gR gf_X1_70 (dk_at dk_X1_putPart 7 rfl) h (fun r7 h => ?_)
  refine G_iload_n 2 (dk_at dk_X1_putPart 8 rfl) rfl ?_
  obtain ⟨⟨_, ho⟩, h⟩ := h
  refine G_callV (As := [.int v1]) (rest := [.int i6]) lk_X1_134 rfl (dk_at dk_X1_putPart 9 rfl) rfl rfl (Nat.le_of_ble_eq_true rfl) ho (h.mono fun o11 A8 b9 c10 h => aftI h fun i12 h => ?_)
  refine G_iadd (dk_at dk_X1_putPart 10 rfl) ?_
  refine G_istore (lv' := [(5, .int (i6 + i12)), (4, .int i6), (0, .ref v0), (1, .int v1), (2, .ref v2), (3, .int v3)]) (dk_at dk_X1_putPart 11 rfl) (by decide) rfl ?_
  refine G_iload 1 (dk_at dk_X1_putPart 12 rfl) rfl ?_
  refine G_istore (lv' := [(6, .int i6), (5, .int (i6 + i12)), (4, .int i6), (0, .ref v0), (1, .int v1), (2, .ref v2), (3, .int v3)]) (dk_at dk_X1_putPart 13 rfl) (by decide) rfl ?_
  refine G_sub [3, 4, 5, 6, 1, 0] rfl ?_
  exact h
theorem k_X1_putPart_27 {l : Launch} {X : XT} {d : Nat} {Q : Ot → AH → Prop} {A : AH} {bc bs : Nat} {v0 : Nat} {v1 : Int32} {v2 : Nat} {v3 : Int32} {v5 : Int32} {v6 : Int32} (h : (v5 ≤ v6 → gR A v0 2 0 fun r1 => gR A r1 4 10 fun r2 => Cal l X d bc bs M_X5_at [.ref r2, .int v1] A fun o6 A3 b4 c5 => zI o6 fun i7 => gR A3 v0 2 2 fun r8 => Cal l X d b4 c5 M_X5_put [.ref r8, .int v1, .int v3] A3 fun o12 A9 b10 c11 => zV o12 <| gR A9 v0 2 3 fun r13 => gR A9 v0 2 3 fun r14 => Cal l X d b10 c11 M_X5_at [.ref r14, .int i7] A9 fun o18 A15 b16 c17 => zI o18 fun i19 => Cal l X d b16 c17 M_X5_put [.ref r13, .int i7, .int (i19 - 1)] A15 fun o23 A20 b21 c22 => zV o23 <| gI A20 v0 2 5 fun i24 => pV A20 v0 2 5 (.int (i24 - 1)) fun A25 => Q Rv A25) ∧ (¬ v5 ≤ v6 → gR A v0 2 1 fun r26 => Cal l X d bc bs M_X5_at [.ref v2, .int v6] A fun o30 A27 b28 c29 => zI o30 fun i31 => Cal l X d b28 c29 M_X5_put [.ref r26, .int v6, .int i31] A27 fun o35 A32 b33 c34 => zV o35 <| G l X M_X1_putPart d Q 27 [(0, .ref v0), (1, .int v1), (2, .ref v2), (3, .int v3), (5, .int v5), (6, .int (v6 + 1))] [] A32 b33 c34)) : G l X M_X1_putPart d Q 27 [(0, .ref v0), (1, .int v1), (2, .ref v2), (3, .int v3), (5, .int v5), (6, .int v6)] [] A bc bs := by
  refine G_iload 5 (dk_at dk_X1_putPart 14 rfl) rfl ?_
  refine G_iload 4 (dk_at dk_X1_putPart 15 rfl) rfl ?_
  refine G_icmp_ge (tgt := 55) (dk_at dk_X1_putPart 16 rfl) (by decide) (fun c => ?_) (fun c => ?_)
  · replace h := h.1 c
    refine G_aload_n 0 (dk_at dk_X1_putPart 26 rfl) rfl ?_
    refine K_gR gf_X1_70 (dk_at dk_X1_putPart 27 rfl) h (fun r1 h => ?_)
    refine K_gR gf_X1_192 (dk_at dk_X1_putPart 28 rfl) h (fun r2 h => ?_)
    refine G_iload_n 1 (dk_at dk_X1_putPart 29 rfl) rfl ?_
    refine G_callSN (As := [.ref r2, .int v1]) (rest := []) lk_X1_111 (dk_at dk_X1_putPart 30 rfl) rfl rfl (Nat.le_of_ble_eq_true rfl) (h.mono fun o6 A3 b4 c5 h => atfI h fun i7 h => ?_)
    refine G_istore (lv' := [(6, .int i7), (0, .ref v0), (1, .int v1), (2, .ref v2), (3, .int v3), (5, .int v5)]) (dk_at dk_X1_putPart 31 rfl) (by decide) rfl ?_
    refine G_aload_n 1 (dk_at dk_X1_putPart 32 rfl) rfl ?_
    refine K_gR gf_X1_15 (dk_at dk_X1_putPart 33 rfl) h (fun r8 h => ?_)
    refine G_iload_n 2 (dk_at dk_X1_putPart 34 rfl) rfl ?_
    refine G_iload_n 4 (dk_at dk_X1_putPart 35 rfl) rfl ?_
    refine G_callSN (As := [.ref r8, .int v1, .int v3]) (rest := []) lk_X1_184 (dk_at dk_X1_putPart 36 rfl) rfl rfl (Nat.le_of_ble_eq_true rfl) (h.mono fun o12 A9 b10 c11 h => atfV h fun h => ?_)
    refine G_aload_n 1 (dk_at dk_X1_putPart 37 rfl) rfl ?_
    refine K_gR gf_X1_18 (dk_at dk_X1_putPart 38 rfl) h (fun r13 h => ?_)
    refine G_iload 0 (dk_at dk_X1_putPart 39 rfl) rfl ?_
    refine G_aload_n 1 (dk_at dk_X1_putPart 40 rfl) rfl ?_
    refine K_gR gf_X1_18 (dk_at dk_X1_putPart 41 rfl) h (fun r14 h => ?_)
    refine G_iload 0 (dk_at dk_X1_putPart 42 rfl) rfl ?_
    refine G_callSN (As := [.ref r14, .int i7]) (rest := [.int i7, .ref r13]) lk_X1_111 (dk_at dk_X1_putPart 43 rfl) rfl rfl (Nat.le_of_ble_eq_true rfl) (h.mono fun o18 A15 b16 c17 h => atfI h fun i19 h => ?_)
    refine G_iconst (v := 1) (dk_at dk_X1_putPart 44 rfl) (by decide) ?_
    refine G_isub (dk_at dk_X1_putPart 45 rfl) ?_
    refine G_callSN (As := [.ref r13, .int i7, .int (i19 - 1)]) (rest := []) lk_X1_184 (dk_at dk_X1_putPart 46 rfl) rfl rfl (Nat.le_of_ble_eq_true rfl) (h.mono fun o23 A20 b21 c22 h => atfV h fun h => ?_)
    refine G_aload_n 1 (dk_at dk_X1_putPart 47 rfl) rfl ?_
    refine G_dup (dk_at dk_X1_putPart 48 rfl) rfl ?_
    refine K_gI gf_X1_24 (dk_at dk_X1_putPart 49 rfl) h (fun i24 h => ?_)
    refine G_iconst (v := 1) (dk_at dk_X1_putPart 50 rfl) (by decide) ?_
    refine G_isub (dk_at dk_X1_putPart 51 rfl) ?_
    refine K_pI pf_X1_24 (dk_at dk_X1_putPart 52 rfl) h (fun A25 h => ?_)
    exact G_vret rfl (dk_at dk_X1_putPart 53 rfl) h
  · replace h := h.2 c
    refine G_aload_n 0 (dk_at dk_X1_putPart 17 rfl) rfl ?_
    refine K_gR gf_X1_9 (dk_at dk_X1_putPart 18 rfl) h (fun r26 h => ?_)
    refine G_iload 5 (dk_at dk_X1_putPart 19 rfl) rfl ?_
    refine G_aload_n 2 (dk_at dk_X1_putPart 20 rfl) rfl ?_
    refine G_iload 5 (dk_at dk_X1_putPart 21 rfl) rfl ?_
    refine G_callSN (As := [.ref v2, .int v6]) (rest := [.int v6, .ref r26]) lk_X1_111 (dk_at dk_X1_putPart 22 rfl) rfl rfl (Nat.le_of_ble_eq_true rfl) (h.mono fun o30 A27 b28 c29 h => atfI h fun i31 h => ?_)
    refine G_callSN (As := [.ref r26, .int v6, .int i31]) (rest := []) lk_X1_184 (dk_at dk_X1_putPart 23 rfl) rfl rfl (Nat.le_of_ble_eq_true rfl) (h.mono fun o35 A32 b33 c34 h => atfV h fun h => ?_)
    refine G_iinc (v := v6 + 1) (lv' := [(6, .int (v6 + 1)), (0, .ref v0), (1, .int v1), (2, .ref v2), (3, .int v3), (5, .int v5)]) 5 (dk_at dk_X1_putPart 24 rfl) rfl rfl (by decide) rfl ?_
    refine G_goto (tgt := 27) (dk_at dk_X1_putPart 25 rfl) (by decide) ?_
    refine G_sub [1, 2, 3, 4, 5, 0] rfl ?_
    exact h
theorem k_X1_breakBytes_0 {l : Launch} {X : XT} {d : Nat} {Q : Ot → AH → Prop} {A : AH} {bc bs : Nat} {v0 : Nat} {v1 : Int32} {v2 : Int32} (h : G l X M_X1_breakBytes d Q 2 [(0, .ref v0), (1, .int v1), (2, .int v2), (3, .int 0)] [] A bc bs) : G l X M_X1_breakBytes d Q 0 [(0, .ref v0), (1, .int v1), (2, .int v2)] [] A bc bs := by
  refine G_iconst (v := 0) (dk_at dk_X1_breakBytes 0 rfl) (by decide) ?_
  refine G_istore_n (lv' := [(3, .int 0), (0, .ref v0), (1, .int v1), (2, .int v2)]) (dk_at dk_X1_breakBytes 1 rfl) (by decide) rfl ?_
  refine G_sub [1, 2, 3, 0] rfl ?_
  exact h
theorem k_X1_breakBytes_2 {l : Launch} {X : XT} {d : Nat} {Q : Ot → AH → Prop} {A : AH} {bc bs : Nat} {v0 : Nat} {v1 : Int32} {v2 : Int32} {v3 : Int32} (h : gR A v0 2 0 fun r1 => gI A r1 4 13 fun i2 => (i2 ≤ v3 → Q Rv A) ∧ (¬ i2 ≤ v3 → gR A v0 2 0 fun r3 => gR A r3 4 12 fun r4 => Cal l X d bc bs M_X5_at [.ref r4, .int ((3 * v3) + 1)] A fun o8 A5 b6 c7 => zI o8 fun i9 => gR A5 v0 2 0 fun r10 => gR A5 r10 4 12 fun r11 => Cal l X d b6 c7 M_X5_at [.ref r11, .int (3 * v3)] A5 fun o15 A12 b13 c14 => zI o15 fun i16 => gI A12 v0 2 8 fun i17 => (¬ i16 = i17 → G l X M_X1_breakBytes d Q 2 [(0, .ref v0), (1, .int v1), (2, .int v2), (3, .int (v3 + 1))] [] A12 b13 c14) ∧ (i16 = i17 → (v2 ≤ i9 → G l X M_X1_breakBytes d Q 2 [(0, .ref v0), (1, .int v1), (2, .int v2), (3, .int (v3 + 1))] [] A12 b13 c14) ∧ (¬ v2 ≤ i9 → gR A12 v0 2 1 fun r18 => gR A12 v0 2 0 fun r19 => gR A12 r19 4 12 fun r20 => Cal l X d b13 c14 M_X5_at [.ref r20, .int ((3 * v3) + 2)] A12 fun o24 A21 b22 c23 => zI o24 fun i25 => Cal l X d b22 c23 M_X5_addTo [.ref r18, .int (v1 + i9), .int i25] A21 fun o29 A26 b27 c28 => zV o29 <| G l X M_X1_breakBytes d Q 2 [(0, .ref v0), (1, .int v1), (2, .int v2), (3, .int (v3 + 1))] [] A26 b27 c28)))) : G l X M_X1_breakBytes d Q 2 [(0, .ref v0), (1, .int v1), (2, .int v2), (3, .int v3)] [] A bc bs := by
  refine G_iload_n 3 (dk_at dk_X1_breakBytes 2 rfl) rfl ?_
  refine G_aload_n 0 (dk_at dk_X1_breakBytes 3 rfl) rfl ?_
  refine K_gR gf_X1_70 (dk_at dk_X1_breakBytes 4 rfl) h (fun r1 h => ?_)
  refine K_gI gf_X1_203 (dk_at dk_X1_breakBytes 5 rfl) h (fun i2 h => ?_)
  refine G_icmp_ge (tgt := 88) (dk_at dk_X1_breakBytes 6 rfl) (by decide) (fun c => ?_) (fun c => ?_)
  · replace h := h.1 c
    exact G_vret rfl (dk_at dk_X1_breakBytes 47 rfl) h
  · replace h := h.2 c
    refine G_aload_n 0 (dk_at dk_X1_breakBytes 7 rfl) rfl ?_
    refine K_gR gf_X1_70 (dk_at dk_X1_breakBytes 8 rfl) h (fun r3 h => ?_)
    refine K_gR gf_X1_206 (dk_at dk_X1_breakBytes 9 rfl) h (fun r4 h => ?_)
    refine G_iconst (v := 3) (dk_at dk_X1_breakBytes 10 rfl) (by decide) ?_
    refine G_iload_n 3 (dk_at dk_X1_breakBytes 11 rfl) rfl ?_
    refine G_imul (dk_at dk_X1_breakBytes 12 rfl) ?_
    refine G_iconst (v := 1) (dk_at dk_X1_breakBytes 13 rfl) (by decide) ?_
    refine G_iadd (dk_at dk_X1_breakBytes 14 rfl) ?_
    refine G_callSN (As := [.ref r4, .int ((3 * v3) + 1)]) (rest := []) lk_X1_111 (dk_at dk_X1_breakBytes 15 rfl) rfl rfl (Nat.le_of_ble_eq_true rfl) (h.mono fun o8 A5 b6 c7 h => atfI h fun i9 h => ?_)
    refine G_istore (lv' := [(4, .int i9), (0, .ref v0), (1, .int v1), (2, .int v2), (3, .int v3)]) (dk_at dk_X1_breakBytes 16 rfl) (by decide) rfl ?_
    refine G_aload_n 1 (dk_at dk_X1_breakBytes 17 rfl) rfl ?_
    refine K_gR gf_X1_70 (dk_at dk_X1_breakBytes 18 rfl) h (fun r10 h => ?_)
    refine K_gR gf_X1_206 (dk_at dk_X1_breakBytes 19 rfl) h (fun r11 h => ?_)
    refine G_iconst (v := 3) (dk_at dk_X1_breakBytes 20 rfl) (by decide) ?_
    refine G_iload_n 4 (dk_at dk_X1_breakBytes 21 rfl) rfl ?_
    refine G_imul (dk_at dk_X1_breakBytes 22 rfl) ?_
    refine G_callSN (As := [.ref r11, .int (3 * v3)]) (rest := []) lk_X1_111 (dk_at dk_X1_breakBytes 23 rfl) rfl rfl (Nat.le_of_ble_eq_true rfl) (h.mono fun o15 A12 b13 c14 h => atfI h fun i16 h => ?_)
    refine G_aload_n 1 (dk_at dk_X1_breakBytes 24 rfl) rfl ?_
    refine K_gI gf_X1_34 (dk_at dk_X1_breakBytes 25 rfl) h (fun i17 h => ?_)
    refine G_icmp_ne (tgt := 82) (dk_at dk_X1_breakBytes 26 rfl) (by decide) (fun c => ?_) (fun c => ?_)
    · replace h := h.1 c
      refine G_iinc (v := v3 + 1) (lv' := [(3, .int (v3 + 1)), (4, .int i9), (0, .ref v0), (1, .int v1), (2, .int v2)]) 4 (dk_at dk_X1_breakBytes 45 rfl) rfl rfl (by decide) rfl ?_
      refine G_goto (tgt := 2) (dk_at dk_X1_breakBytes 46 rfl) (by decide) ?_
      refine G_sub [2, 3, 4, 0] rfl ?_
      exact h
    · replace h := h.2 c
      refine G_iload 0 (dk_at dk_X1_breakBytes 27 rfl) rfl ?_
      refine G_iload_n 3 (dk_at dk_X1_breakBytes 28 rfl) rfl ?_
      refine G_icmp_ge (tgt := 82) (dk_at dk_X1_breakBytes 29 rfl) (by decide) (fun c => ?_) (fun c => ?_)
      · replace h := h.1 c
        refine G_iinc (v := v3 + 1) (lv' := [(3, .int (v3 + 1)), (4, .int i9), (0, .ref v0), (1, .int v1), (2, .int v2)]) 4 (dk_at dk_X1_breakBytes 45 rfl) rfl rfl (by decide) rfl ?_
        refine G_goto (tgt := 2) (dk_at dk_X1_breakBytes 46 rfl) (by decide) ?_
        refine G_sub [2, 3, 4, 0] rfl ?_
        exact h
      · replace h := h.2 c
        refine G_aload_n 1 (dk_at dk_X1_breakBytes 30 rfl) rfl ?_
        refine K_gR gf_X1_9 (dk_at dk_X1_breakBytes 31 rfl) h (fun r18 h => ?_)
        refine G_iload_n 2 (dk_at dk_X1_breakBytes 32 rfl) rfl ?_
        refine G_iload 0 (dk_at dk_X1_breakBytes 33 rfl) rfl ?_
        refine G_iadd (dk_at dk_X1_breakBytes 34 rfl) ?_
        refine G_aload_n 1 (dk_at dk_X1_breakBytes 35 rfl) rfl ?_
        refine K_gR gf_X1_70 (dk_at dk_X1_breakBytes 36 rfl) h (fun r19 h => ?_)
        refine K_gR gf_X1_206 (dk_at dk_X1_breakBytes 37 rfl) h (fun r20 h => ?_)
        refine G_iconst (v := 3) (dk_at dk_X1_breakBytes 38 rfl) (by decide) ?_
        refine G_iload_n 4 (dk_at dk_X1_breakBytes 39 rfl) rfl ?_
        refine G_imul (dk_at dk_X1_breakBytes 40 rfl) ?_
        refine G_iconst (v := 2) (dk_at dk_X1_breakBytes 41 rfl) (by decide) ?_
        refine G_iadd (dk_at dk_X1_breakBytes 42 rfl) ?_
        refine G_callSN (As := [.ref r20, .int ((3 * v3) + 2)]) (rest := [.int (v1 + i9), .ref r18]) lk_X1_111 (dk_at dk_X1_breakBytes 43 rfl) rfl rfl (Nat.le_of_ble_eq_true rfl) (h.mono fun o24 A21 b22 c23 h => atfI h fun i25 h => ?_)
        refine G_callSN (As := [.ref r18, .int (v1 + i9), .int i25]) (rest := []) lk_X1_209 (dk_at dk_X1_breakBytes 44 rfl) rfl rfl (Nat.le_of_ble_eq_true rfl) (h.mono fun o29 A26 b27 c28 h => atfV h fun h => ?_)
        refine G_iinc (v := v3 + 1) (lv' := [(3, .int (v3 + 1)), (4, .int i9), (0, .ref v0), (1, .int v1), (2, .int v2)]) 4 (dk_at dk_X1_breakBytes 45 rfl) rfl rfl (by decide) rfl ?_
        refine G_goto (tgt := 2) (dk_at dk_X1_breakBytes 46 rfl) (by decide) ?_
        refine G_sub [2, 3, 4, 0] rfl ?_
        exact h
theorem k_X1_judge_0 {l : Launch} {X : XT} {d : Nat} {Q : Ot → AH → Prop} {A : AH} {bc bs : Nat} {v0 : Nat} {v1 : Int32} (h : gR A v0 2 3 fun r1 => Cal l X d bc bs M_X5_at [.ref r1, .int v1] A fun o5 A2 b3 c4 => zI o5 fun i6 => (i6 ≤ 0 → gR A2 v0 2 1 fun r7 => gR A2 v0 2 0 fun r8 => isO A2 r8 4 ∧ Cal l X d b3 c4 M_X3_pieceStart [.ref r8, .int v1] A2 fun o12 A9 b10 c11 => rI o12 (fun E => Q (.inr E) A9) fun i13 => gR A9 v0 2 0 fun r14 => isO A9 r14 4 ∧ Cal l X d b10 c11 M_X3_pieceLength [.ref r14, .int v1] A9 fun o18 A15 b16 c17 => rI o18 (fun E => Q (.inr E) A15) fun i19 => Cal l X d b16 c17 M_X5_sumOf [.ref r7, .int i13, .int i19] A15 fun o23 A20 b21 c22 => zI o23 fun i24 => gR A20 v0 2 0 fun r25 => gR A20 r25 4 6 fun r26 => Cal l X d b21 c22 M_X5_at [.ref r26, .int v1] A20 fun o30 A27 b28 c29 => zI o30 fun i31 => (¬ i24 = i31 → gR A27 v0 2 4 fun r32 => Cal l X d b28 c29 M_X5_put [.ref r32, .int v1, .int 2] A27 fun o36 A33 b34 c35 => zV o36 <| gI A33 v0 2 7 fun i37 => pV A33 v0 2 7 (.int (i37 + 1)) fun A38 => gR A38 v0 2 16 fun r39 => isO A38 r39 1 ∧ Cal l X d b34 c35 M_X0_write [.ref r39, .int 2, .int v1, .int 0] A38 fun o43 A40 b41 c42 => rV o43 (fun E => Q (.inr E) A40) <| Q Rv A40) ∧ (i24 = i31 → gR A27 v0 2 4 fun r44 => Cal l X d b28 c29 M_X5_put [.ref r44, .int v1, .int 1] A27 fun o48 A45 b46 c47 => zV o48 <| gI A45 v0 2 6 fun i49 => pV A45 v0 2 6 (.int (i49 + 1)) fun A50 => gR A50 v0 2 16 fun r51 => isO A50 r51 1 ∧ Cal l X d b46 c47 M_X0_write [.ref r51, .int 1, .int v1, .int 0] A50 fun o55 A52 b53 c54 => rV o55 (fun E => Q (.inr E) A52) <| Q Rv A52)) ∧ (¬ i6 ≤ 0 → Q Rv A2)) : G l X M_X1_judge d Q 0 [(0, .ref v0), (1, .int v1)] [] A bc bs := by
  refine G_aload_n 0 (dk_at dk_X1_judge 0 rfl) rfl ?_
  refine K_gR gf_X1_18 (dk_at dk_X1_judge 1 rfl) h (fun r1 h => ?_)
  refine G_iload_n 1 (dk_at dk_X1_judge 2 rfl) rfl ?_
  refine G_callSN (As := [.ref r1, .int v1]) (rest := []) lk_X1_111 (dk_at dk_X1_judge 3 rfl) rfl rfl (Nat.le_of_ble_eq_true rfl) (h.mono fun o5 A2 b3 c4 h => atfI h fun i6 h => ?_)
  refine G_if_le (tgt := 12) (dk_at dk_X1_judge 4 rfl) (by decide) (fun c => ?_) (fun c => ?_)
  · replace h := h.1 c
    refine G_aload_n 0 (dk_at dk_X1_judge 6 rfl) rfl ?_
    refine K_gR gf_X1_9 (dk_at dk_X1_judge 7 rfl) h (fun r7 h => ?_)
    refine G_aload_n 0 (dk_at dk_X1_judge 8 rfl) rfl ?_
    refine K_gR gf_X1_70 (dk_at dk_X1_judge 9 rfl) h (fun r8 h => ?_)
    refine G_iload_n 1 (dk_at dk_X1_judge 10 rfl) rfl ?_
    obtain ⟨⟨_, ho⟩, h⟩ := h
    refine G_callV (As := [.int v1]) (rest := [.ref r7]) lk_X1_212 rfl (dk_at dk_X1_judge 11 rfl) rfl rfl (Nat.le_of_ble_eq_true rfl) ho (h.mono fun o12 A9 b10 c11 h => aftI h fun i13 h => ?_)
    refine G_aload_n 0 (dk_at dk_X1_judge 12 rfl) rfl ?_
    refine K_gR gf_X1_70 (dk_at dk_X1_judge 13 rfl) h (fun r14 h => ?_)
    refine G_iload_n 1 (dk_at dk_X1_judge 14 rfl) rfl ?_
    obtain ⟨⟨_, ho⟩, h⟩ := h
    refine G_callV (As := [.int v1]) (rest := [.int i13, .ref r7]) lk_X1_215 rfl (dk_at dk_X1_judge 15 rfl) rfl rfl (Nat.le_of_ble_eq_true rfl) ho (h.mono fun o18 A15 b16 c17 h => aftI h fun i19 h => ?_)
    refine G_callSN (As := [.ref r7, .int i13, .int i19]) (rest := []) lk_X1_218 (dk_at dk_X1_judge 16 rfl) rfl rfl (Nat.le_of_ble_eq_true rfl) (h.mono fun o23 A20 b21 c22 h => atfI h fun i24 h => ?_)
    refine G_istore_n (lv' := [(2, .int i24), (0, .ref v0), (1, .int v1)]) (dk_at dk_X1_judge 17 rfl) (by decide) rfl ?_
    refine G_iload_n 0 (dk_at dk_X1_judge 18 rfl) rfl ?_
    refine G_aload_n 1 (dk_at dk_X1_judge 19 rfl) rfl ?_
    refine K_gR gf_X1_70 (dk_at dk_X1_judge 20 rfl) h (fun r25 h => ?_)
    refine K_gR gf_X1_222 (dk_at dk_X1_judge 21 rfl) h (fun r26 h => ?_)
    refine G_iload_n 2 (dk_at dk_X1_judge 22 rfl) rfl ?_
    refine G_callSN (As := [.ref r26, .int v1]) (rest := [.int i24]) lk_X1_111 (dk_at dk_X1_judge 23 rfl) rfl rfl (Nat.le_of_ble_eq_true rfl) (h.mono fun o30 A27 b28 c29 h => atfI h fun i31 h => ?_)
    refine G_icmp_ne (tgt := 83) (dk_at dk_X1_judge 24 rfl) (by decide) (fun c => ?_) (fun c => ?_)
    · replace h := h.1 c
      refine G_aload_n 1 (dk_at dk_X1_judge 43 rfl) rfl ?_
      refine K_gR gf_X1_21 (dk_at dk_X1_judge 44 rfl) h (fun r32 h => ?_)
      refine G_iload_n 2 (dk_at dk_X1_judge 45 rfl) rfl ?_
      refine G_iconst (v := 2) (dk_at dk_X1_judge 46 rfl) (by decide) ?_
      refine G_callSN (As := [.ref r32, .int v1, .int 2]) (rest := []) lk_X1_184 (dk_at dk_X1_judge 47 rfl) rfl rfl (Nat.le_of_ble_eq_true rfl) (h.mono fun o36 A33 b34 c35 h => atfV h fun h => ?_)
      refine G_aload_n 1 (dk_at dk_X1_judge 48 rfl) rfl ?_
      refine G_dup (dk_at dk_X1_judge 49 rfl) rfl ?_
      refine K_gI gf_X1_31 (dk_at dk_X1_judge 50 rfl) h (fun i37 h => ?_)
      refine G_iconst (v := 1) (dk_at dk_X1_judge 51 rfl) (by decide) ?_
      refine G_iadd (dk_at dk_X1_judge 52 rfl) ?_
      refine K_pI pf_X1_31 (dk_at dk_X1_judge 53 rfl) h (fun A38 h => ?_)
      refine G_aload_n 1 (dk_at dk_X1_judge 54 rfl) rfl ?_
      refine K_gR gf_X1_66 (dk_at dk_X1_judge 55 rfl) h (fun r39 h => ?_)
      refine G_iconst (v := 2) (dk_at dk_X1_judge 56 rfl) (by decide) ?_
      refine G_iload_n 2 (dk_at dk_X1_judge 57 rfl) rfl ?_
      refine G_iconst (v := 0) (dk_at dk_X1_judge 58 rfl) (by decide) ?_
      obtain ⟨⟨_, ho⟩, h⟩ := h
      refine G_callV (As := [.int 2, .int v1, .int 0]) (rest := []) lk_X1_188 rfl (dk_at dk_X1_judge 59 rfl) rfl rfl (Nat.le_of_ble_eq_true rfl) ho (h.mono fun o43 A40 b41 c42 h => aftV h fun h => ?_)
      exact G_vret rfl (dk_at dk_X1_judge 60 rfl) h
    · replace h := h.2 c
      refine G_aload_n 1 (dk_at dk_X1_judge 25 rfl) rfl ?_
      refine K_gR gf_X1_21 (dk_at dk_X1_judge 26 rfl) h (fun r44 h => ?_)
      refine G_iload_n 2 (dk_at dk_X1_judge 27 rfl) rfl ?_
      refine G_iconst (v := 1) (dk_at dk_X1_judge 28 rfl) (by decide) ?_
      refine G_callSN (As := [.ref r44, .int v1, .int 1]) (rest := []) lk_X1_184 (dk_at dk_X1_judge 29 rfl) rfl rfl (Nat.le_of_ble_eq_true rfl) (h.mono fun o48 A45 b46 c47 h => atfV h fun h => ?_)
      refine G_aload_n 1 (dk_at dk_X1_judge 30 rfl) rfl ?_
      refine G_dup (dk_at dk_X1_judge 31 rfl) rfl ?_
      refine K_gI gf_X1_28 (dk_at dk_X1_judge 32 rfl) h (fun i49 h => ?_)
      refine G_iconst (v := 1) (dk_at dk_X1_judge 33 rfl) (by decide) ?_
      refine G_iadd (dk_at dk_X1_judge 34 rfl) ?_
      refine K_pI pf_X1_28 (dk_at dk_X1_judge 35 rfl) h (fun A50 h => ?_)
      refine G_aload_n 1 (dk_at dk_X1_judge 36 rfl) rfl ?_
      refine K_gR gf_X1_66 (dk_at dk_X1_judge 37 rfl) h (fun r51 h => ?_)
      refine G_iconst (v := 1) (dk_at dk_X1_judge 38 rfl) (by decide) ?_
      refine G_iload_n 2 (dk_at dk_X1_judge 39 rfl) rfl ?_
      refine G_iconst (v := 0) (dk_at dk_X1_judge 40 rfl) (by decide) ?_
      obtain ⟨⟨_, ho⟩, h⟩ := h
      refine G_callV (As := [.int 1, .int v1, .int 0]) (rest := []) lk_X1_188 rfl (dk_at dk_X1_judge 41 rfl) rfl rfl (Nat.le_of_ble_eq_true rfl) ho (h.mono fun o55 A52 b53 c54 h => aftV h fun h => ?_)
      refine G_goto (tgt := 112) (dk_at dk_X1_judge 42 rfl) (by decide) ?_
      exact G_vret rfl (dk_at dk_X1_judge 60 rfl) h
  · replace h := h.2 c
    exact G_vret rfl (dk_at dk_X1_judge 5 rfl) h
theorem k_X1_lose_0 {l : Launch} {X : XT} {d : Nat} {Q : Ot → AH → Prop} {A : AH} {bc bs : Nat} {v0 : Nat} {v1 : Int32} (h : gR A v0 2 0 fun r1 => gR A r1 4 10 fun r2 => Cal l X d bc bs M_X5_at [.ref r2, .int v1] A fun o6 A3 b4 c5 => zI o6 fun i7 => gR A3 v0 2 4 fun r8 => Cal l X d b4 c5 M_X5_at [.ref r8, .int i7] A3 fun o12 A9 b10 c11 => zI o12 fun i13 => (¬ i13 = 1 → gR A9 v0 2 4 fun r14 => Cal l X d b10 c11 M_X5_at [.ref r14, .int i7] A9 fun o18 A15 b16 c17 => zI o18 fun i19 => (¬ i19 = 2 → G l X M_X1_lose d Q 59 [(0, .ref v0), (1, .int v1), (2, .int i7)] [] A15 b16 c17) ∧ (i19 = 2 → gI A15 v0 2 7 fun i20 => pV A15 v0 2 7 (.int (i20 - 1)) fun A21 => G l X M_X1_lose d Q 59 [(0, .ref v0), (1, .int v1), (2, .int i7)] [] A21 b16 c17)) ∧ (i13 = 1 → gI A9 v0 2 6 fun i22 => pV A9 v0 2 6 (.int (i22 - 1)) fun A23 => G l X M_X1_lose d Q 59 [(0, .ref v0), (1, .int v1), (2, .int i7)] [] A23 b10 c11)) : G l X M_X1_lose d Q 0 [(0, .ref v0), (1, .int v1)] [] A bc bs := by
  refine G_aload_n 0 (dk_at dk_X1_lose 0 rfl) rfl ?_
  refine K_gR gf_X1_70 (dk_at dk_X1_lose 1 rfl) h (fun r1 h => ?_)
  refine K_gR gf_X1_192 (dk_at dk_X1_lose 2 rfl) h (fun r2 h => ?_)
  refine G_iload_n 1 (dk_at dk_X1_lose 3 rfl) rfl ?_
  refine G_callSN (As := [.ref r2, .int v1]) (rest := []) lk_X1_111 (dk_at dk_X1_lose 4 rfl) rfl rfl (Nat.le_of_ble_eq_true rfl) (h.mono fun o6 A3 b4 c5 h => atfI h fun i7 h => ?_)
  refine G_istore_n (lv' := [(2, .int i7), (0, .ref v0), (1, .int v1)]) (dk_at dk_X1_lose 5 rfl) (by decide) rfl ?_
  refine G_aload_n 1 (dk_at dk_X1_lose 6 rfl) rfl ?_
  refine K_gR gf_X1_21 (dk_at dk_X1_lose 7 rfl) h (fun r8 h => ?_)
  refine G_iload_n 0 (dk_at dk_X1_lose 8 rfl) rfl ?_
  refine G_callSN (As := [.ref r8, .int i7]) (rest := []) lk_X1_111 (dk_at dk_X1_lose 9 rfl) rfl rfl (Nat.le_of_ble_eq_true rfl) (h.mono fun o12 A9 b10 c11 h => atfI h fun i13 h => ?_)
  refine G_iconst (v := 1) (dk_at dk_X1_lose 10 rfl) (by decide) ?_
  refine G_icmp_ne (tgt := 37) (dk_at dk_X1_lose 11 rfl) (by decide) (fun c => ?_) (fun c => ?_)
  · replace h := h.1 c
    refine G_aload_n 1 (dk_at dk_X1_lose 19 rfl) rfl ?_
    refine K_gR gf_X1_21 (dk_at dk_X1_lose 20 rfl) h (fun r14 h => ?_)
    refine G_iload_n 0 (dk_at dk_X1_lose 21 rfl) rfl ?_
    refine G_callSN (As := [.ref r14, .int i7]) (rest := []) lk_X1_111 (dk_at dk_X1_lose 22 rfl) rfl rfl (Nat.le_of_ble_eq_true rfl) (h.mono fun o18 A15 b16 c17 h => atfI h fun i19 h => ?_)
    refine G_iconst (v := 2) (dk_at dk_X1_lose 23 rfl) (by decide) ?_
    refine G_icmp_ne (tgt := 59) (dk_at dk_X1_lose 24 rfl) (by decide) (fun c => ?_) (fun c => ?_)
    · replace h := h.1 c
      refine G_sub [1, 2, 0] rfl ?_
      exact h
    · replace h := h.2 c
      refine G_aload_n 1 (dk_at dk_X1_lose 25 rfl) rfl ?_
      refine G_dup (dk_at dk_X1_lose 26 rfl) rfl ?_
      refine K_gI gf_X1_31 (dk_at dk_X1_lose 27 rfl) h (fun i20 h => ?_)
      refine G_iconst (v := 1) (dk_at dk_X1_lose 28 rfl) (by decide) ?_
      refine G_isub (dk_at dk_X1_lose 29 rfl) ?_
      refine K_pI pf_X1_31 (dk_at dk_X1_lose 30 rfl) h (fun A21 h => ?_)
      refine G_sub [1, 2, 0] rfl ?_
      exact h
  · replace h := h.2 c
    refine G_aload_n 1 (dk_at dk_X1_lose 12 rfl) rfl ?_
    refine G_dup (dk_at dk_X1_lose 13 rfl) rfl ?_
    refine K_gI gf_X1_28 (dk_at dk_X1_lose 14 rfl) h (fun i22 h => ?_)
    refine G_iconst (v := 1) (dk_at dk_X1_lose 15 rfl) (by decide) ?_
    refine G_isub (dk_at dk_X1_lose 16 rfl) ?_
    refine K_pI pf_X1_28 (dk_at dk_X1_lose 17 rfl) h (fun A23 h => ?_)
    refine G_goto (tgt := 59) (dk_at dk_X1_lose 18 rfl) (by decide) ?_
    refine G_sub [1, 2, 0] rfl ?_
    exact h
theorem k_X1_lose_59 {l : Launch} {X : XT} {d : Nat} {Q : Ot → AH → Prop} {A : AH} {bc bs : Nat} {v0 : Nat} {v1 : Int32} {v2 : Int32} (h : gR A v0 2 4 fun r1 => Cal l X d bc bs M_X5_put [.ref r1, .int v2, .int 0] A fun o5 A2 b3 c4 => zV o5 <| gR A2 v0 2 2 fun r6 => Cal l X d b3 c4 M_X5_put [.ref r6, .int v1, .int ((-1))] A2 fun o10 A7 b8 c9 => zV o10 <| gR A7 v0 2 3 fun r11 => gR A7 v0 2 3 fun r12 => Cal l X d b8 c9 M_X5_at [.ref r12, .int v2] A7 fun o16 A13 b14 c15 => zI o16 fun i17 => Cal l X d b14 c15 M_X5_put [.ref r11, .int v2, .int (i17 + 1)] A13 fun o21 A18 b19 c20 => zV o21 <| gI A18 v0 2 5 fun i22 => pV A18 v0 2 5 (.int (i22 + 1)) fun A23 => Q Rv A23) : G l X M_X1_lose d Q 59 [(0, .ref v0), (1, .int v1), (2, .int v2)] [] A bc bs := by
  refine G_aload_n 0 (dk_at dk_X1_lose 31 rfl) rfl ?_
  refine K_gR gf_X1_21 (dk_at dk_X1_lose 32 rfl) h (fun r1 h => ?_)
  refine G_iload_n 2 (dk_at dk_X1_lose 33 rfl) rfl ?_
  refine G_iconst (v := 0) (dk_at dk_X1_lose 34 rfl) (by decide) ?_
  refine G_callSN (As := [.ref r1, .int v2, .int 0]) (rest := []) lk_X1_184 (dk_at dk_X1_lose 35 rfl) rfl rfl (Nat.le_of_ble_eq_true rfl) (h.mono fun o5 A2 b3 c4 h => atfV h fun h => ?_)
  refine G_aload_n 0 (dk_at dk_X1_lose 36 rfl) rfl ?_
  refine K_gR gf_X1_15 (dk_at dk_X1_lose 37 rfl) h (fun r6 h => ?_)
  refine G_iload_n 1 (dk_at dk_X1_lose 38 rfl) rfl ?_
  refine G_iconst (v := (-1)) (dk_at dk_X1_lose 39 rfl) (by decide) ?_
  refine G_callSN (As := [.ref r6, .int v1, .int ((-1))]) (rest := []) lk_X1_184 (dk_at dk_X1_lose 40 rfl) rfl rfl (Nat.le_of_ble_eq_true rfl) (h.mono fun o10 A7 b8 c9 h => atfV h fun h => ?_)
  refine G_aload_n 0 (dk_at dk_X1_lose 41 rfl) rfl ?_
  refine K_gR gf_X1_18 (dk_at dk_X1_lose 42 rfl) h (fun r11 h => ?_)
  refine G_iload_n 2 (dk_at dk_X1_lose 43 rfl) rfl ?_
  refine G_aload_n 0 (dk_at dk_X1_lose 44 rfl) rfl ?_
  refine K_gR gf_X1_18 (dk_at dk_X1_lose 45 rfl) h (fun r12 h => ?_)
  refine G_iload_n 2 (dk_at dk_X1_lose 46 rfl) rfl ?_
  refine G_callSN (As := [.ref r12, .int v2]) (rest := [.int v2, .ref r11]) lk_X1_111 (dk_at dk_X1_lose 47 rfl) rfl rfl (Nat.le_of_ble_eq_true rfl) (h.mono fun o16 A13 b14 c15 h => atfI h fun i17 h => ?_)
  refine G_iconst (v := 1) (dk_at dk_X1_lose 48 rfl) (by decide) ?_
  refine G_iadd (dk_at dk_X1_lose 49 rfl) ?_
  refine G_callSN (As := [.ref r11, .int v2, .int (i17 + 1)]) (rest := []) lk_X1_184 (dk_at dk_X1_lose 50 rfl) rfl rfl (Nat.le_of_ble_eq_true rfl) (h.mono fun o21 A18 b19 c20 h => atfV h fun h => ?_)
  refine G_aload_n 0 (dk_at dk_X1_lose 51 rfl) rfl ?_
  refine G_dup (dk_at dk_X1_lose 52 rfl) rfl ?_
  refine K_gI gf_X1_24 (dk_at dk_X1_lose 53 rfl) h (fun i22 h => ?_)
  refine G_iconst (v := 1) (dk_at dk_X1_lose 54 rfl) (by decide) ?_
  refine G_iadd (dk_at dk_X1_lose 55 rfl) ?_
  refine K_pI pf_X1_24 (dk_at dk_X1_lose 56 rfl) h (fun A23 h => ?_)
  exact G_vret rfl (dk_at dk_X1_lose 57 rfl) h
theorem k_X1_loseAll_0 {l : Launch} {X : XT} {d : Nat} {Q : Ot → AH → Prop} {A : AH} {bc bs : Nat} {v0 : Nat} (h : gR A v0 2 2 fun r1 => Cal l X d bc bs M_J7_fill_53178 [.ref r1, .int ((-1))] A fun o5 A2 b3 c4 => rV o5 (fun E => Q (.inr E) A2) <| gR A2 v0 2 4 fun r6 => Cal l X d b3 c4 M_J7_fill_53178 [.ref r6, .int 0] A2 fun o10 A7 b8 c9 => rV o10 (fun E => Q (.inr E) A7) <| G l X M_X1_loseAll d Q 18 [(0, .ref v0), (1, .int 0)] [] A7 b8 c9) : G l X M_X1_loseAll d Q 0 [(0, .ref v0)] [] A bc bs := by
  refine G_aload_n 0 (dk_at dk_X1_loseAll 0 rfl) rfl ?_
  refine K_gR gf_X1_15 (dk_at dk_X1_loseAll 1 rfl) h (fun r1 h => ?_)
  refine G_iconst (v := (-1)) (dk_at dk_X1_loseAll 2 rfl) (by decide) ?_
  refine G_callS (As := [.ref r1, .int ((-1))]) (rest := []) lk_X1_74 rfl (dk_at dk_X1_loseAll 3 rfl) rfl rfl (Nat.le_of_ble_eq_true rfl) (h.mono fun o5 A2 b3 c4 h => aftV h fun h => ?_)
  refine G_aload_n 0 (dk_at dk_X1_loseAll 4 rfl) rfl ?_
  refine K_gR gf_X1_21 (dk_at dk_X1_loseAll 5 rfl) h (fun r6 h => ?_)
  refine G_iconst (v := 0) (dk_at dk_X1_loseAll 6 rfl) (by decide) ?_
  refine G_callS (As := [.ref r6, .int 0]) (rest := []) lk_X1_74 rfl (dk_at dk_X1_loseAll 7 rfl) rfl rfl (Nat.le_of_ble_eq_true rfl) (h.mono fun o10 A7 b8 c9 h => aftV h fun h => ?_)
  refine G_iconst (v := 0) (dk_at dk_X1_loseAll 8 rfl) (by decide) ?_
  refine G_istore_n (lv' := [(1, .int 0), (0, .ref v0)]) (dk_at dk_X1_loseAll 9 rfl) (by decide) rfl ?_
  refine G_sub [1, 0] rfl ?_
  exact h
theorem k_X1_loseAll_18 {l : Launch} {X : XT} {d : Nat} {Q : Ot → AH → Prop} {A : AH} {bc bs : Nat} {v0 : Nat} {v1 : Int32} (h : gR A v0 2 0 fun r1 => gI A r1 4 2 fun i2 => (i2 ≤ v1 → gR A v0 2 0 fun r3 => gI A r3 4 3 fun i4 => pV A v0 2 5 (.int i4) fun A5 => pV A5 v0 2 6 (.int 0) fun A6 => pV A6 v0 2 7 (.int 0) fun A7 => Q Rv A7) ∧ (¬ i2 ≤ v1 → gR A v0 2 3 fun r8 => gR A v0 2 0 fun r9 => isO A r9 4 ∧ Cal l X d bc bs M_X3_partsOf [.ref r9, .int v1] A fun o13 A10 b11 c12 => rI o13 (fun E => Q (.inr E) A10) fun i14 => Cal l X d b11 c12 M_X5_put [.ref r8, .int v1, .int i14] A10 fun o18 A15 b16 c17 => zV o18 <| G l X M_X1_loseAll d Q 18 [(0, .ref v0), (1, .int (v1 + 1))] [] A15 b16 c17)) : G l X M_X1_loseAll d Q 18 [(0, .ref v0), (1, .int v1)] [] A bc bs := by
  refine G_iload_n 1 (dk_at dk_X1_loseAll 10 rfl) rfl ?_
  refine G_aload_n 0 (dk_at dk_X1_loseAll 11 rfl) rfl ?_
  refine K_gR gf_X1_70 (dk_at dk_X1_loseAll 12 rfl) h (fun r1 h => ?_)
  refine K_gI gf_X1_115 (dk_at dk_X1_loseAll 13 rfl) h (fun i2 h => ?_)
  refine G_icmp_ge (tgt := 51) (dk_at dk_X1_loseAll 14 rfl) (by decide) (fun c => ?_) (fun c => ?_)
  · replace h := h.1 c
    refine G_aload_n 0 (dk_at dk_X1_loseAll 25 rfl) rfl ?_
    refine G_aload_n 0 (dk_at dk_X1_loseAll 26 rfl) rfl ?_
    refine K_gR gf_X1_70 (dk_at dk_X1_loseAll 27 rfl) h (fun r3 h => ?_)
    refine K_gI gf_X1_120 (dk_at dk_X1_loseAll 28 rfl) h (fun i4 h => ?_)
    refine K_pI pf_X1_24 (dk_at dk_X1_loseAll 29 rfl) h (fun A5 h => ?_)
    refine G_aload_n 0 (dk_at dk_X1_loseAll 30 rfl) rfl ?_
    refine G_iconst (v := 0) (dk_at dk_X1_loseAll 31 rfl) (by decide) ?_
    refine K_pI pf_X1_28 (dk_at dk_X1_loseAll 32 rfl) h (fun A6 h => ?_)
    refine G_aload_n 0 (dk_at dk_X1_loseAll 33 rfl) rfl ?_
    refine G_iconst (v := 0) (dk_at dk_X1_loseAll 34 rfl) (by decide) ?_
    refine K_pI pf_X1_31 (dk_at dk_X1_loseAll 35 rfl) h (fun A7 h => ?_)
    exact G_vret rfl (dk_at dk_X1_loseAll 36 rfl) h
  · replace h := h.2 c
    refine G_aload_n 0 (dk_at dk_X1_loseAll 15 rfl) rfl ?_
    refine K_gR gf_X1_18 (dk_at dk_X1_loseAll 16 rfl) h (fun r8 h => ?_)
    refine G_iload_n 1 (dk_at dk_X1_loseAll 17 rfl) rfl ?_
    refine G_aload_n 0 (dk_at dk_X1_loseAll 18 rfl) rfl ?_
    refine K_gR gf_X1_70 (dk_at dk_X1_loseAll 19 rfl) h (fun r9 h => ?_)
    refine G_iload_n 1 (dk_at dk_X1_loseAll 20 rfl) rfl ?_
    obtain ⟨⟨_, ho⟩, h⟩ := h
    refine G_callV (As := [.int v1]) (rest := [.int v1, .ref r8]) lk_X1_170 rfl (dk_at dk_X1_loseAll 21 rfl) rfl rfl (Nat.le_of_ble_eq_true rfl) ho (h.mono fun o13 A10 b11 c12 h => aftI h fun i14 h => ?_)
    refine G_callSN (As := [.ref r8, .int v1, .int i14]) (rest := []) lk_X1_184 (dk_at dk_X1_loseAll 22 rfl) rfl rfl (Nat.le_of_ble_eq_true rfl) (h.mono fun o18 A15 b16 c17 h => atfV h fun h => ?_)
    refine G_iinc (v := v1 + 1) (lv' := [(1, .int (v1 + 1)), (0, .ref v0)]) 1 (dk_at dk_X1_loseAll 23 rfl) rfl rfl (by decide) rfl ?_
    refine G_goto (tgt := 18) (dk_at dk_X1_loseAll 24 rfl) (by decide) ?_
    refine G_sub [1, 0] rfl ?_
    exact h
theorem k_X1_searchPiece_0 {l : Launch} {X : XT} {d : Nat} {Q : Ot → AH → Prop} {A : AH} {bc bs : Nat} {v0 : Nat} {v1 : Int32} (h : gR A v0 2 0 fun r1 => isO A r1 4 ∧ Cal l X d bc bs M_X3_firstPart [.ref r1, .int v1] A fun o5 A2 b3 c4 => rI o5 (fun E => Q (.inr E) A2) fun i6 => gR A2 v0 2 0 fun r7 => isO A2 r7 4 ∧ Cal l X d b3 c4 M_X3_partsOf [.ref r7, .int v1] A2 fun o11 A8 b9 c10 => rI o11 (fun E => Q (.inr E) A8) fun i12 => gI A8 v0 2 10 fun i13 => isO A8 v0 2 ∧ Cal l X d b9 c10 M_X1_searchRange [.ref v0, .int i6, .int i12, .int 1, .int 0] A8 fun o17 A14 b15 c16 => rI o17 (fun E => Q (.inr E) A14) fun i18 => gI A14 v0 2 9 fun i19 => pV A14 v0 2 9 (.int (i19 + i18)) fun A20 => gI A20 v0 2 10 fun i21 => (¬ i21 = i13 → G l X M_X1_searchPiece d Q 61 [(0, .ref v0), (5, .int i18)] [] A20 b15 c16) ∧ (i21 = i13 → isO A20 v0 2 ∧ Cal l X d b15 c16 M_X1_dropWhole [.ref v0, .int v1, .int i6, .int i12] A20 fun o25 A22 b23 c24 => rV o25 (fun E => Q (.inr E) A22) <| G l X M_X1_searchPiece d Q 61 [(0, .ref v0), (5, .int i18)] [] A22 b23 c24)) : G l X M_X1_searchPiece d Q 0 [(0, .ref v0), (1, .int v1)] [] A bc bs := by
  refine G_aload_n 0 (dk_at dk_X1_searchPiece 0 rfl) rfl ?_
  refine K_gR gf_X1_70 (dk_at dk_X1_searchPiece 1 rfl) h (fun r1 h => ?_)
  refine G_iload_n 1 (dk_at dk_X1_searchPiece 2 rfl) rfl ?_
  obtain ⟨⟨_, ho⟩, h⟩ := h
  refine G_callV (As := [.int v1]) (rest := []) lk_X1_167 rfl (dk_at dk_X1_searchPiece 3 rfl) rfl rfl (Nat.le_of_ble_eq_true rfl) ho (h.mono fun o5 A2 b3 c4 h => aftI h fun i6 h => ?_)
  refine G_istore_n (lv' := [(2, .int i6), (0, .ref v0), (1, .int v1)]) (dk_at dk_X1_searchPiece 4 rfl) (by decide) rfl ?_
  refine G_aload_n 1 (dk_at dk_X1_searchPiece 5 rfl) rfl ?_
  refine K_gR gf_X1_70 (dk_at dk_X1_searchPiece 6 rfl) h (fun r7 h => ?_)
  refine G_iload_n 2 (dk_at dk_X1_searchPiece 7 rfl) rfl ?_
  obtain ⟨⟨_, ho⟩, h⟩ := h
  refine G_callV (As := [.int v1]) (rest := []) lk_X1_170 rfl (dk_at dk_X1_searchPiece 8 rfl) rfl rfl (Nat.le_of_ble_eq_true rfl) ho (h.mono fun o11 A8 b9 c10 h => aftI h fun i12 h => ?_)
  refine G_istore_n (lv' := [(3, .int i12), (2, .int i6), (0, .ref v0), (1, .int v1)]) (dk_at dk_X1_searchPiece 9 rfl) (by decide) rfl ?_
  refine G_aload_n 2 (dk_at dk_X1_searchPiece 10 rfl) rfl ?_
  refine K_gI gf_X1_40 (dk_at dk_X1_searchPiece 11 rfl) h (fun i13 h => ?_)
  refine G_istore (lv' := [(4, .int i13), (3, .int i12), (2, .int i6), (0, .ref v0), (1, .int v1)]) (dk_at dk_X1_searchPiece 12 rfl) (by decide) rfl ?_
  refine G_aload_n 3 (dk_at dk_X1_searchPiece 13 rfl) rfl ?_
  refine G_iload_n 2 (dk_at dk_X1_searchPiece 14 rfl) rfl ?_
  refine G_iload_n 1 (dk_at dk_X1_searchPiece 15 rfl) rfl ?_
  refine G_iconst (v := 1) (dk_at dk_X1_searchPiece 16 rfl) (by decide) ?_
  refine G_iconst (v := 0) (dk_at dk_X1_searchPiece 17 rfl) (by decide) ?_
  obtain ⟨⟨_, ho⟩, h⟩ := h
  refine G_callV (As := [.int i6, .int i12, .int 1, .int 0]) (rest := []) lk_X1_225 rfl (dk_at dk_X1_searchPiece 18 rfl) rfl rfl (Nat.le_of_ble_eq_true rfl) ho (h.mono fun o17 A14 b15 c16 h => aftI h fun i18 h => ?_)
  refine G_istore (lv' := [(5, .int i18), (4, .int i13), (3, .int i12), (2, .int i6), (0, .ref v0), (1, .int v1)]) (dk_at dk_X1_searchPiece 19 rfl) (by decide) rfl ?_
  refine G_aload_n 4 (dk_at dk_X1_searchPiece 20 rfl) rfl ?_
  refine G_dup (dk_at dk_X1_searchPiece 21 rfl) rfl ?_
  refine K_gI gf_X1_37 (dk_at dk_X1_searchPiece 22 rfl) h (fun i19 h => ?_)
  refine G_iload 0 (dk_at dk_X1_searchPiece 23 rfl) rfl ?_
  refine G_iadd (dk_at dk_X1_searchPiece 24 rfl) ?_
  refine K_pI pf_X1_37 (dk_at dk_X1_searchPiece 25 rfl) h (fun A20 h => ?_)
  refine G_aload_n 4 (dk_at dk_X1_searchPiece 26 rfl) rfl ?_
  refine K_gI gf_X1_40 (dk_at dk_X1_searchPiece 27 rfl) h (fun i21 h => ?_)
  refine G_iload 1 (dk_at dk_X1_searchPiece 28 rfl) rfl ?_
  refine G_icmp_ne (tgt := 61) (dk_at dk_X1_searchPiece 29 rfl) (by decide) (fun c => ?_) (fun c => ?_)
  · replace h := h.1 c
    refine G_sub [4, 0] rfl ?_
    exact h
  · replace h := h.2 c
    refine G_aload_n 4 (dk_at dk_X1_searchPiece 30 rfl) rfl ?_
    refine G_iload_n 5 (dk_at dk_X1_searchPiece 31 rfl) rfl ?_
    refine G_iload_n 3 (dk_at dk_X1_searchPiece 32 rfl) rfl ?_
    refine G_iload_n 2 (dk_at dk_X1_searchPiece 33 rfl) rfl ?_
    obtain ⟨⟨_, ho⟩, h⟩ := h
    refine G_callV (As := [.int v1, .int i6, .int i12]) (rest := []) lk_X1_229 rfl (dk_at dk_X1_searchPiece 34 rfl) rfl rfl (Nat.le_of_ble_eq_true rfl) ho (h.mono fun o25 A22 b23 c24 h => aftV h fun h => ?_)
    refine G_sub [4, 0] rfl ?_
    exact h
theorem k_X1_searchPiece_61 {l : Launch} {X : XT} {d : Nat} {Q : Ot → AH → Prop} {A : AH} {bc bs : Nat} {v0 : Nat} {v5 : Int32} (h : isO A v0 2 ∧ Cal l X d bc bs M_X1_banIfTooOftenWrong [.ref v0] A fun o4 A1 b2 c3 => rV o4 (fun E => Q (.inr E) A1) <| Q (Ri v5) A1) : G l X M_X1_searchPiece d Q 61 [(0, .ref v0), (5, .int v5)] [] A bc bs := by
  refine G_aload_n 0 (dk_at dk_X1_searchPiece 35 rfl) rfl ?_
  obtain ⟨⟨_, ho⟩, h⟩ := h
  refine G_callV (As := []) (rest := []) lk_X1_232 rfl (dk_at dk_X1_searchPiece 36 rfl) rfl rfl (Nat.le_of_ble_eq_true rfl) ho (h.mono fun o4 A1 b2 c3 h => aftV h fun h => ?_)
  refine G_iload 1 (dk_at dk_X1_searchPiece 37 rfl) rfl ?_
  exact G_iret (ty := .int) rfl rfl (dk_at dk_X1_searchPiece 38 rfl) h
theorem k_X1_queriesNeeded_0 {l : Launch} {X : XT} {d : Nat} {Q : Ot → AH → Prop} {A : AH} {bc bs : Nat} {v0 : Nat} {v1 : Int32} (h : gR A v0 2 0 fun r1 => isO A r1 4 ∧ Cal l X d bc bs M_X3_firstPart [.ref r1, .int v1] A fun o5 A2 b3 c4 => rI o5 (fun E => Q (.inr E) A2) fun i6 => gR A2 v0 2 0 fun r7 => isO A2 r7 4 ∧ Cal l X d b3 c4 M_X3_partsOf [.ref r7, .int v1] A2 fun o11 A8 b9 c10 => rI o11 (fun E => Q (.inr E) A8) fun i12 => isO A8 v0 2 ∧ Cal l X d b9 c10 M_X1_searchRange [.ref v0, .int i6, .int i12, .int 0, .int 0] A8 fun o16 A13 b14 c15 => rI o16 (fun E => Q (.inr E) A13) fun i17 => Q (Ri i17) A13) : G l X M_X1_queriesNeeded d Q 0 [(0, .ref v0), (1, .int v1)] [] A bc bs := by
  refine G_aload_n 0 (dk_at dk_X1_queriesNeeded 0 rfl) rfl ?_
  refine G_aload_n 0 (dk_at dk_X1_queriesNeeded 1 rfl) rfl ?_
  refine K_gR gf_X1_70 (dk_at dk_X1_queriesNeeded 2 rfl) h (fun r1 h => ?_)
  refine G_iload_n 1 (dk_at dk_X1_queriesNeeded 3 rfl) rfl ?_
  obtain ⟨⟨_, ho⟩, h⟩ := h
  refine G_callV (As := [.int v1]) (rest := [.ref v0]) lk_X1_167 rfl (dk_at dk_X1_queriesNeeded 4 rfl) rfl rfl (Nat.le_of_ble_eq_true rfl) ho (h.mono fun o5 A2 b3 c4 h => aftI h fun i6 h => ?_)
  refine G_aload_n 0 (dk_at dk_X1_queriesNeeded 5 rfl) rfl ?_
  refine K_gR gf_X1_70 (dk_at dk_X1_queriesNeeded 6 rfl) h (fun r7 h => ?_)
  refine G_iload_n 1 (dk_at dk_X1_queriesNeeded 7 rfl) rfl ?_
  obtain ⟨⟨_, ho⟩, h⟩ := h
  refine G_callV (As := [.int v1]) (rest := [.int i6, .ref v0]) lk_X1_170 rfl (dk_at dk_X1_queriesNeeded 8 rfl) rfl rfl (Nat.le_of_ble_eq_true rfl) ho (h.mono fun o11 A8 b9 c10 h => aftI h fun i12 h => ?_)
  refine G_iconst (v := 0) (dk_at dk_X1_queriesNeeded 9 rfl) (by decide) ?_
  refine G_iconst (v := 0) (dk_at dk_X1_queriesNeeded 10 rfl) (by decide) ?_
  obtain ⟨⟨_, ho⟩, h⟩ := h
  refine G_callV (As := [.int i6, .int i12, .int 0, .int 0]) (rest := []) lk_X1_225 rfl (dk_at dk_X1_queriesNeeded 11 rfl) rfl rfl (Nat.le_of_ble_eq_true rfl) ho (h.mono fun o16 A13 b14 c15 h => aftI h fun i17 h => ?_)
  exact G_iret (ty := .int) rfl rfl (dk_at dk_X1_queriesNeeded 12 rfl) h
theorem k_X1_searchRange_0 {l : Launch} {X : XT} {d : Nat} {Q : Ot → AH → Prop} {A : AH} {bc bs : Nat} {v0 : Nat} {v1 : Int32} {v2 : Int32} {v3 : Int32} {v4 : Int32} (h : (v2 ≤ 1 → G l X M_X1_searchRange d Q 12 [(0, .ref v0), (1, .int v1), (3, .int v3)] [] A bc bs) ∧ (¬ v2 ≤ 1 → (v4 ≤ 8 → isO A v0 2 ∧ Cal l X d bc bs M_X1_isSameAsOriginal [.ref v0, .int v1, .int ((v2 + 1) / 2)] A fun o4 A1 b2 c3 => rI o4 (fun E => Q (.inr E) A1) fun i5 => (¬ i5 = 0 → G l X M_X1_searchRange d Q 60 [(0, .ref v0), (1, .int v1), (2, .int v2), (3, .int v3), (4, .int v4), (5, .int ((v2 + 1) / 2)), (6, .int 2)] [] A1 b2 c3) ∧ (i5 = 0 → isO A1 v0 2 ∧ Cal l X d b2 c3 M_X1_searchRange [.ref v0, .int v1, .int ((v2 + 1) / 2), .int v3, .int (v4 + 1)] A1 fun o9 A6 b7 c8 => rI o9 (fun E => Q (.inr E) A6) fun i10 => G l X M_X1_searchRange d Q 60 [(0, .ref v0), (1, .int v1), (2, .int v2), (3, .int v3), (4, .int v4), (5, .int ((v2 + 1) / 2)), (6, .int (2 + i10))] [] A6 b7 c8)) ∧ (¬ v4 ≤ 8 → G l X M_X1_searchRange d Q 12 [(0, .ref v0), (1, .int v1), (3, .int v3)] [] A bc bs))) : G l X M_X1_searchRange d Q 0 [(0, .ref v0), (1, .int v1), (2, .int v2), (3, .int v3), (4, .int v4)] [] A bc bs := by
  refine G_iload_n 2 (dk_at dk_X1_searchRange 0 rfl) rfl ?_
  refine G_iconst (v := 1) (dk_at dk_X1_searchRange 1 rfl) (by decide) ?_
  refine G_icmp_le (tgt := 12) (dk_at dk_X1_searchRange 2 rfl) (by decide) (fun c => ?_) (fun c => ?_)
  · replace h := h.1 c
    refine G_sub [0, 1, 3] rfl ?_
    exact h
  · replace h := h.2 c
    refine G_iload 4 (dk_at dk_X1_searchRange 3 rfl) rfl ?_
    refine G_bipush (v := 8) (dk_at dk_X1_searchRange 4 rfl) (by decide) ?_
    refine G_icmp_le (tgt := 23) (dk_at dk_X1_searchRange 5 rfl) (by decide) (fun c => ?_) (fun c => ?_)
    · replace h := h.1 c
      refine G_iload_n 2 (dk_at dk_X1_searchRange 13 rfl) rfl ?_
      refine G_iconst (v := 1) (dk_at dk_X1_searchRange 14 rfl) (by decide) ?_
      refine G_iadd (dk_at dk_X1_searchRange 15 rfl) ?_
      refine G_iconst (v := 2) (dk_at dk_X1_searchRange 16 rfl) (by decide) ?_
      refine G_idiv (dk_at dk_X1_searchRange 17 rfl) (by decide) ?_
      refine G_istore (lv' := [(5, .int ((v2 + 1) / 2)), (0, .ref v0), (1, .int v1), (2, .int v2), (3, .int v3), (4, .int v4)]) (dk_at dk_X1_searchRange 18 rfl) (by decide) rfl ?_
      refine G_iconst (v := 2) (dk_at dk_X1_searchRange 19 rfl) (by decide) ?_
      refine G_istore (lv' := [(6, .int 2), (5, .int ((v2 + 1) / 2)), (0, .ref v0), (1, .int v1), (2, .int v2), (3, .int v3), (4, .int v4)]) (dk_at dk_X1_searchRange 20 rfl) (by decide) rfl ?_
      refine G_aload_n 2 (dk_at dk_X1_searchRange 21 rfl) rfl ?_
      refine G_iload_n 3 (dk_at dk_X1_searchRange 22 rfl) rfl ?_
      refine G_iload 1 (dk_at dk_X1_searchRange 23 rfl) rfl ?_
      obtain ⟨⟨_, ho⟩, h⟩ := h
      refine G_callV (As := [.int v1, .int ((v2 + 1) / 2)]) (rest := []) lk_X1_238 rfl (dk_at dk_X1_searchRange 24 rfl) rfl rfl (Nat.le_of_ble_eq_true rfl) ho (h.mono fun o4 A1 b2 c3 h => aftI h fun i5 h => ?_)
      refine G_if_ne (tgt := 60) (dk_at dk_X1_searchRange 25 rfl) (by decide) (fun c => ?_) (fun c => ?_)
      · replace h := h.1 c
        refine G_sub [2, 3, 4, 5, 6, 1, 0] rfl ?_
        exact h
      · replace h := h.2 c
        refine G_iload 0 (dk_at dk_X1_searchRange 26 rfl) rfl ?_
        refine G_aload_n 2 (dk_at dk_X1_searchRange 27 rfl) rfl ?_
        refine G_iload_n 3 (dk_at dk_X1_searchRange 28 rfl) rfl ?_
        refine G_iload 1 (dk_at dk_X1_searchRange 29 rfl) rfl ?_
        refine G_iload_n 5 (dk_at dk_X1_searchRange 30 rfl) rfl ?_
        refine G_iload 6 (dk_at dk_X1_searchRange 31 rfl) rfl ?_
        refine G_iconst (v := 1) (dk_at dk_X1_searchRange 32 rfl) (by decide) ?_
        refine G_iadd (dk_at dk_X1_searchRange 33 rfl) ?_
        obtain ⟨⟨_, ho⟩, h⟩ := h
        refine G_callV (As := [.int v1, .int ((v2 + 1) / 2), .int v3, .int (v4 + 1)]) (rest := [.int 2]) lk_X1_225 rfl (dk_at dk_X1_searchRange 34 rfl) rfl rfl (Nat.le_of_ble_eq_true rfl) ho (h.mono fun o9 A6 b7 c8 h => aftI h fun i10 h => ?_)
        refine G_iadd (dk_at dk_X1_searchRange 35 rfl) ?_
        refine G_istore (lv' := [(6, .int (2 + i10)), (5, .int ((v2 + 1) / 2)), (0, .ref v0), (1, .int v1), (2, .int v2), (3, .int v3), (4, .int v4)]) (dk_at dk_X1_searchRange 36 rfl) (by decide) rfl ?_
        refine G_sub [2, 3, 4, 5, 6, 1, 0] rfl ?_
        exact h
    · replace h := h.2 c
      refine G_sub [0, 1, 3] rfl ?_
      exact h
theorem k_X1_searchRange_12 {l : Launch} {X : XT} {d : Nat} {Q : Ot → AH → Prop} {A : AH} {bc bs : Nat} {v0 : Nat} {v1 : Int32} {v3 : Int32} (h : (v3 = 0 → Q (Ri 0) A) ∧ (¬ v3 = 0 → isO A v0 2 ∧ Cal l X d bc bs M_X1_dropWrong [.ref v0, .int v1] A fun o4 A1 b2 c3 => rV o4 (fun E => Q (.inr E) A1) <| Q (Ri 0) A1)) : G l X M_X1_searchRange d Q 12 [(0, .ref v0), (1, .int v1), (3, .int v3)] [] A bc bs := by
  refine G_iload_n 2 (dk_at dk_X1_searchRange 6 rfl) rfl ?_
  refine G_if_eq (tgt := 21) (dk_at dk_X1_searchRange 7 rfl) (by decide) (fun c => ?_) (fun c => ?_)
  · replace h := h.1 c
    refine G_iconst (v := 0) (dk_at dk_X1_searchRange 11 rfl) (by decide) ?_
    exact G_iret (ty := .int) rfl rfl (dk_at dk_X1_searchRange 12 rfl) h
  · replace h := h.2 c
    refine G_aload_n 0 (dk_at dk_X1_searchRange 8 rfl) rfl ?_
    refine G_iload_n 1 (dk_at dk_X1_searchRange 9 rfl) rfl ?_
    obtain ⟨⟨_, ho⟩, h⟩ := h
    refine G_callV (As := [.int v1]) (rest := []) lk_X1_235 rfl (dk_at dk_X1_searchRange 10 rfl) rfl rfl (Nat.le_of_ble_eq_true rfl) ho (h.mono fun o4 A1 b2 c3 h => aftV h fun h => ?_)
    refine G_iconst (v := 0) (dk_at dk_X1_searchRange 11 rfl) (by decide) ?_
    exact G_iret (ty := .int) rfl rfl (dk_at dk_X1_searchRange 12 rfl) h
theorem k_X1_searchRange_60 {l : Launch} {X : XT} {d : Nat} {Q : Ot → AH → Prop} {A : AH} {bc bs : Nat} {v0 : Nat} {v1 : Int32} {v2 : Int32} {v3 : Int32} {v4 : Int32} {v5 : Int32} {v6 : Int32} (h : isO A v0 2 ∧ Cal l X d bc bs M_X1_isSameAsOriginal [.ref v0, .int (v1 + v5), .int (v2 - v5)] A fun o4 A1 b2 c3 => rI o4 (fun E => Q (.inr E) A1) fun i5 => (¬ i5 = 0 → Q (Ri v6) A1) ∧ (i5 = 0 → isO A1 v0 2 ∧ Cal l X d b2 c3 M_X1_searchRange [.ref v0, .int (v1 + v5), .int (v2 - v5), .int v3, .int (v4 + 1)] A1 fun o9 A6 b7 c8 => rI o9 (fun E => Q (.inr E) A6) fun i10 => Q (Ri (v6 + i10)) A6)) : G l X M_X1_searchRange d Q 60 [(0, .ref v0), (1, .int v1), (2, .int v2), (3, .int v3), (4, .int v4), (5, .int v5), (6, .int v6)] [] A bc bs := by
  refine G_aload_n 0 (dk_at dk_X1_searchRange 37 rfl) rfl ?_
  refine G_iload_n 1 (dk_at dk_X1_searchRange 38 rfl) rfl ?_
  refine G_iload 5 (dk_at dk_X1_searchRange 39 rfl) rfl ?_
  refine G_iadd (dk_at dk_X1_searchRange 40 rfl) ?_
  refine G_iload_n 2 (dk_at dk_X1_searchRange 41 rfl) rfl ?_
  refine G_iload 5 (dk_at dk_X1_searchRange 42 rfl) rfl ?_
  refine G_isub (dk_at dk_X1_searchRange 43 rfl) ?_
  obtain ⟨⟨_, ho⟩, h⟩ := h
  refine G_callV (As := [.int (v1 + v5), .int (v2 - v5)]) (rest := []) lk_X1_238 rfl (dk_at dk_X1_searchRange 44 rfl) rfl rfl (Nat.le_of_ble_eq_true rfl) ho (h.mono fun o4 A1 b2 c3 h => aftI h fun i5 h => ?_)
  refine G_if_ne (tgt := 97) (dk_at dk_X1_searchRange 45 rfl) (by decide) (fun c => ?_) (fun c => ?_)
  · replace h := h.1 c
    refine G_iload 6 (dk_at dk_X1_searchRange 61 rfl) rfl ?_
    exact G_iret (ty := .int) rfl rfl (dk_at dk_X1_searchRange 62 rfl) h
  · replace h := h.2 c
    refine G_iload 6 (dk_at dk_X1_searchRange 46 rfl) rfl ?_
    refine G_aload_n 0 (dk_at dk_X1_searchRange 47 rfl) rfl ?_
    refine G_iload_n 1 (dk_at dk_X1_searchRange 48 rfl) rfl ?_
    refine G_iload 5 (dk_at dk_X1_searchRange 49 rfl) rfl ?_
    refine G_iadd (dk_at dk_X1_searchRange 50 rfl) ?_
    refine G_iload_n 2 (dk_at dk_X1_searchRange 51 rfl) rfl ?_
    refine G_iload 5 (dk_at dk_X1_searchRange 52 rfl) rfl ?_
    refine G_isub (dk_at dk_X1_searchRange 53 rfl) ?_
    refine G_iload_n 3 (dk_at dk_X1_searchRange 54 rfl) rfl ?_
    refine G_iload 4 (dk_at dk_X1_searchRange 55 rfl) rfl ?_
    refine G_iconst (v := 1) (dk_at dk_X1_searchRange 56 rfl) (by decide) ?_
    refine G_iadd (dk_at dk_X1_searchRange 57 rfl) ?_
    obtain ⟨⟨_, ho⟩, h⟩ := h
    refine G_callV (As := [.int (v1 + v5), .int (v2 - v5), .int v3, .int (v4 + 1)]) (rest := [.int v6]) lk_X1_225 rfl (dk_at dk_X1_searchRange 58 rfl) rfl rfl (Nat.le_of_ble_eq_true rfl) ho (h.mono fun o9 A6 b7 c8 h => aftI h fun i10 h => ?_)
    refine G_iadd (dk_at dk_X1_searchRange 59 rfl) ?_
    refine G_istore (lv' := [(6, .int (v6 + i10)), (0, .ref v0), (1, .int v1), (2, .int v2), (3, .int v3), (4, .int v4), (5, .int v5)]) (dk_at dk_X1_searchRange 60 rfl) (by decide) rfl ?_
    refine G_iload 0 (dk_at dk_X1_searchRange 61 rfl) rfl ?_
    exact G_iret (ty := .int) rfl rfl (dk_at dk_X1_searchRange 62 rfl) h
theorem k_X1_isSameAsOriginal_0 {l : Launch} {X : XT} {d : Nat} {Q : Ot → AH → Prop} {A : AH} {bc bs : Nat} {v0 : Nat} {v1 : Int32} {v2 : Int32} (h : gR A v0 2 0 fun r1 => isO A r1 4 ∧ Cal l X d bc bs M_X3_partStart [.ref r1, .int v1] A fun o5 A2 b3 c4 => rI o5 (fun E => Q (.inr E) A2) fun i6 => gR A2 v0 2 0 fun r7 => isO A2 r7 4 ∧ Cal l X d b3 c4 M_X3_partStart [.ref r7, .int (v1 + v2)] A2 fun o11 A8 b9 c10 => rI o11 (fun E => Q (.inr E) A8) fun i12 => gR A8 v0 2 1 fun r13 => Cal l X d b9 c10 M_X5_sumOf [.ref r13, .int i6, .int (i12 - i6)] A8 fun o17 A14 b15 c16 => zI o17 fun i18 => gR A14 v0 2 0 fun r19 => gR A14 r19 4 4 fun r20 => Cal l X d b15 c16 M_X5_sumOf [.ref r20, .int i6, .int (i12 - i6)] A14 fun o24 A21 b22 c23 => zI o24 fun i25 => (¬ i18 = i25 → Q (Ri 0) A21) ∧ (i18 = i25 → Q (Ri 1) A21)) : G l X M_X1_isSameAsOriginal d Q 0 [(0, .ref v0), (1, .int v1), (2, .int v2)] [] A bc bs := by
  refine G_aload_n 0 (dk_at dk_X1_isSameAsOriginal 0 rfl) rfl ?_
  refine K_gR gf_X1_70 (dk_at dk_X1_isSameAsOriginal 1 rfl) h (fun r1 h => ?_)
  refine G_iload_n 1 (dk_at dk_X1_isSameAsOriginal 2 rfl) rfl ?_
  obtain ⟨⟨_, ho⟩, h⟩ := h
  refine G_callV (As := [.int v1]) (rest := []) lk_X1_130 rfl (dk_at dk_X1_isSameAsOriginal 3 rfl) rfl rfl (Nat.le_of_ble_eq_true rfl) ho (h.mono fun o5 A2 b3 c4 h => aftI h fun i6 h => ?_)
  refine G_istore_n (lv' := [(3, .int i6), (0, .ref v0), (1, .int v1), (2, .int v2)]) (dk_at dk_X1_isSameAsOriginal 4 rfl) (by decide) rfl ?_
  refine G_aload_n 1 (dk_at dk_X1_isSameAsOriginal 5 rfl) rfl ?_
  refine K_gR gf_X1_70 (dk_at dk_X1_isSameAsOriginal 6 rfl) h (fun r7 h => ?_)
  refine G_iload_n 2 (dk_at dk_X1_isSameAsOriginal 7 rfl) rfl ?_
  refine G_iload_n 3 (dk_at dk_X1_isSameAsOriginal 8 rfl) rfl ?_
  refine G_iadd (dk_at dk_X1_isSameAsOriginal 9 rfl) ?_
  obtain ⟨⟨_, ho⟩, h⟩ := h
  refine G_callV (As := [.int (v1 + v2)]) (rest := []) lk_X1_130 rfl (dk_at dk_X1_isSameAsOriginal 10 rfl) rfl rfl (Nat.le_of_ble_eq_true rfl) ho (h.mono fun o11 A8 b9 c10 h => aftI h fun i12 h => ?_)
  refine G_iload_n 0 (dk_at dk_X1_isSameAsOriginal 11 rfl) rfl ?_
  refine G_isub (dk_at dk_X1_isSameAsOriginal 12 rfl) ?_
  refine G_istore (lv' := [(4, .int (i12 - i6)), (3, .int i6), (0, .ref v0), (1, .int v1), (2, .int v2)]) (dk_at dk_X1_isSameAsOriginal 13 rfl) (by decide) rfl ?_
  refine G_aload_n 2 (dk_at dk_X1_isSameAsOriginal 14 rfl) rfl ?_
  refine K_gR gf_X1_9 (dk_at dk_X1_isSameAsOriginal 15 rfl) h (fun r13 h => ?_)
  refine G_iload_n 1 (dk_at dk_X1_isSameAsOriginal 16 rfl) rfl ?_
  refine G_iload 0 (dk_at dk_X1_isSameAsOriginal 17 rfl) rfl ?_
  refine G_callSN (As := [.ref r13, .int i6, .int (i12 - i6)]) (rest := []) lk_X1_218 (dk_at dk_X1_isSameAsOriginal 18 rfl) rfl rfl (Nat.le_of_ble_eq_true rfl) (h.mono fun o17 A14 b15 c16 h => atfI h fun i18 h => ?_)
  refine G_aload_n 2 (dk_at dk_X1_isSameAsOriginal 19 rfl) rfl ?_
  refine K_gR gf_X1_70 (dk_at dk_X1_isSameAsOriginal 20 rfl) h (fun r19 h => ?_)
  refine K_gR gf_X1_127 (dk_at dk_X1_isSameAsOriginal 21 rfl) h (fun r20 h => ?_)
  refine G_iload_n 1 (dk_at dk_X1_isSameAsOriginal 22 rfl) rfl ?_
  refine G_iload 0 (dk_at dk_X1_isSameAsOriginal 23 rfl) rfl ?_
  refine G_callSN (As := [.ref r20, .int i6, .int (i12 - i6)]) (rest := [.int i18]) lk_X1_218 (dk_at dk_X1_isSameAsOriginal 24 rfl) rfl rfl (Nat.le_of_ble_eq_true rfl) (h.mono fun o24 A21 b22 c23 h => atfI h fun i25 h => ?_)
  refine G_icmp_ne (tgt := 53) (dk_at dk_X1_isSameAsOriginal 25 rfl) (by decide) (fun c => ?_) (fun c => ?_)
  · replace h := h.1 c
    refine G_iconst (v := 0) (dk_at dk_X1_isSameAsOriginal 28 rfl) (by decide) ?_
    exact G_iret (ty := .boolean) rfl rfl (dk_at dk_X1_isSameAsOriginal 29 rfl) h
  · replace h := h.2 c
    refine G_iconst (v := 1) (dk_at dk_X1_isSameAsOriginal 26 rfl) (by decide) ?_
    refine G_goto (tgt := 54) (dk_at dk_X1_isSameAsOriginal 27 rfl) (by decide) ?_
    exact G_iret (ty := .boolean) rfl rfl (dk_at dk_X1_isSameAsOriginal 29 rfl) h
theorem k_X1_dropWrong_0 {l : Launch} {X : XT} {d : Nat} {Q : Ot → AH → Prop} {A : AH} {bc bs : Nat} {v0 : Nat} {v1 : Int32} (h : gR A v0 2 2 fun r1 => Cal l X d bc bs M_X5_at [.ref r1, .int v1] A fun o5 A2 b3 c4 => zI o5 fun i6 => isO A2 v0 2 ∧ Cal l X d b3 c4 M_X1_lose [.ref v0, .int v1] A2 fun o10 A7 b8 c9 => rV o10 (fun E => Q (.inr E) A7) <| gI A7 v0 2 10 fun i11 => pV A7 v0 2 10 (.int (i11 + 1)) fun A12 => (2 ≤ i6 → G l X M_X1_dropWrong d Q 47 [(0, .ref v0), (1, .int v1), (2, .int i6)] [] A12 b8 c9) ∧ (¬ 2 ≤ i6 → gR A12 v0 2 13 fun r13 => gR A12 v0 2 13 fun r14 => Cal l X d b8 c9 M_X5_at [.ref r14, .int i6] A12 fun o18 A15 b16 c17 => zI o18 fun i19 => Cal l X d b16 c17 M_X5_put [.ref r13, .int i6, .int (i19 + 1)] A15 fun o23 A20 b21 c22 => zV o23 <| G l X M_X1_dropWrong d Q 47 [(0, .ref v0), (1, .int v1), (2, .int i6)] [] A20 b21 c22)) : G l X M_X1_dropWrong d Q 0 [(0, .ref v0), (1, .int v1)] [] A bc bs := by
  refine G_aload_n 0 (dk_at dk_X1_dropWrong 0 rfl) rfl ?_
  refine K_gR gf_X1_15 (dk_at dk_X1_dropWrong 1 rfl) h (fun r1 h => ?_)
  refine G_iload_n 1 (dk_at dk_X1_dropWrong 2 rfl) rfl ?_
  refine G_callSN (As := [.ref r1, .int v1]) (rest := []) lk_X1_111 (dk_at dk_X1_dropWrong 3 rfl) rfl rfl (Nat.le_of_ble_eq_true rfl) (h.mono fun o5 A2 b3 c4 h => atfI h fun i6 h => ?_)
  refine G_istore_n (lv' := [(2, .int i6), (0, .ref v0), (1, .int v1)]) (dk_at dk_X1_dropWrong 4 rfl) (by decide) rfl ?_
  refine G_aload_n 1 (dk_at dk_X1_dropWrong 5 rfl) rfl ?_
  refine G_iload_n 2 (dk_at dk_X1_dropWrong 6 rfl) rfl ?_
  obtain ⟨⟨_, ho⟩, h⟩ := h
  refine G_callV (As := [.int v1]) (rest := []) lk_X1_241 rfl (dk_at dk_X1_dropWrong 7 rfl) rfl rfl (Nat.le_of_ble_eq_true rfl) ho (h.mono fun o10 A7 b8 c9 h => aftV h fun h => ?_)
  refine G_aload_n 1 (dk_at dk_X1_dropWrong 8 rfl) rfl ?_
  refine G_dup (dk_at dk_X1_dropWrong 9 rfl) rfl ?_
  refine K_gI gf_X1_40 (dk_at dk_X1_dropWrong 10 rfl) h (fun i11 h => ?_)
  refine G_iconst (v := 1) (dk_at dk_X1_dropWrong 11 rfl) (by decide) ?_
  refine G_iadd (dk_at dk_X1_dropWrong 12 rfl) ?_
  refine K_pI pf_X1_40 (dk_at dk_X1_dropWrong 13 rfl) h (fun A12 h => ?_)
  refine G_iload_n 0 (dk_at dk_X1_dropWrong 14 rfl) rfl ?_
  refine G_iconst (v := 2) (dk_at dk_X1_dropWrong 15 rfl) (by decide) ?_
  refine G_icmp_ge (tgt := 47) (dk_at dk_X1_dropWrong 16 rfl) (by decide) (fun c => ?_) (fun c => ?_)
  · replace h := h.1 c
    refine G_sub [1, 2, 0] rfl ?_
    exact h
  · replace h := h.2 c
    refine G_aload_n 1 (dk_at dk_X1_dropWrong 17 rfl) rfl ?_
    refine K_gR gf_X1_49 (dk_at dk_X1_dropWrong 18 rfl) h (fun r13 h => ?_)
    refine G_iload_n 0 (dk_at dk_X1_dropWrong 19 rfl) rfl ?_
    refine G_aload_n 1 (dk_at dk_X1_dropWrong 20 rfl) rfl ?_
    refine K_gR gf_X1_49 (dk_at dk_X1_dropWrong 21 rfl) h (fun r14 h => ?_)
    refine G_iload_n 0 (dk_at dk_X1_dropWrong 22 rfl) rfl ?_
    refine G_callSN (As := [.ref r14, .int i6]) (rest := [.int i6, .ref r13]) lk_X1_111 (dk_at dk_X1_dropWrong 23 rfl) rfl rfl (Nat.le_of_ble_eq_true rfl) (h.mono fun o18 A15 b16 c17 h => atfI h fun i19 h => ?_)
    refine G_iconst (v := 1) (dk_at dk_X1_dropWrong 24 rfl) (by decide) ?_
    refine G_iadd (dk_at dk_X1_dropWrong 25 rfl) ?_
    refine G_callSN (As := [.ref r13, .int i6, .int (i19 + 1)]) (rest := []) lk_X1_184 (dk_at dk_X1_dropWrong 26 rfl) rfl rfl (Nat.le_of_ble_eq_true rfl) (h.mono fun o23 A20 b21 c22 h => atfV h fun h => ?_)
    refine G_sub [1, 2, 0] rfl ?_
    exact h
theorem k_X1_dropWrong_47 {l : Launch} {X : XT} {d : Nat} {Q : Ot → AH → Prop} {A : AH} {bc bs : Nat} {v0 : Nat} {v1 : Int32} {v2 : Int32} (h : gR A v0 2 16 fun r1 => isO A r1 1 ∧ Cal l X d bc bs M_X0_write [.ref r1, .int 3, .int v1, .int v2] A fun o5 A2 b3 c4 => rV o5 (fun E => Q (.inr E) A2) <| Q Rv A2) : G l X M_X1_dropWrong d Q 47 [(0, .ref v0), (1, .int v1), (2, .int v2)] [] A bc bs := by
  refine G_aload_n 0 (dk_at dk_X1_dropWrong 27 rfl) rfl ?_
  refine K_gR gf_X1_66 (dk_at dk_X1_dropWrong 28 rfl) h (fun r1 h => ?_)
  refine G_iconst (v := 3) (dk_at dk_X1_dropWrong 29 rfl) (by decide) ?_
  refine G_iload_n 1 (dk_at dk_X1_dropWrong 30 rfl) rfl ?_
  refine G_iload_n 2 (dk_at dk_X1_dropWrong 31 rfl) rfl ?_
  obtain ⟨⟨_, ho⟩, h⟩ := h
  refine G_callV (As := [.int 3, .int v1, .int v2]) (rest := []) lk_X1_188 rfl (dk_at dk_X1_dropWrong 32 rfl) rfl rfl (Nat.le_of_ble_eq_true rfl) ho (h.mono fun o5 A2 b3 c4 h => aftV h fun h => ?_)
  exact G_vret rfl (dk_at dk_X1_dropWrong 33 rfl) h
theorem k_X1_dropWhole_0 {l : Launch} {X : XT} {d : Nat} {Q : Ot → AH → Prop} {A : AH} {bc bs : Nat} {v0 : Nat} {v1 : Int32} {v2 : Int32} {v3 : Int32} (h : G l X M_X1_dropWhole d Q 3 [(0, .ref v0), (1, .int v1), (2, .int v2), (3, .int v3), (4, .int v2)] [] A bc bs) : G l X M_X1_dropWhole d Q 0 [(0, .ref v0), (1, .int v1), (2, .int v2), (3, .int v3)] [] A bc bs := by
  refine G_iload_n 2 (dk_at dk_X1_dropWhole 0 rfl) rfl ?_
  refine G_istore (lv' := [(4, .int v2), (0, .ref v0), (1, .int v1), (2, .int v2), (3, .int v3)]) (dk_at dk_X1_dropWhole 1 rfl) (by decide) rfl ?_
  refine G_sub [1, 2, 3, 4, 0] rfl ?_
  exact h
theorem k_X1_dropWhole_3 {l : Launch} {X : XT} {d : Nat} {Q : Ot → AH → Prop} {A : AH} {bc bs : Nat} {v0 : Nat} {v1 : Int32} {v2 : Int32} {v3 : Int32} {v4 : Int32} (h : ((v2 + v3) ≤ v4 → gR A v0 2 16 fun r1 => isO A r1 1 ∧ Cal l X d bc bs M_X0_write [.ref r1, .int 4, .int v1, .int 0] A fun o5 A2 b3 c4 => rV o5 (fun E => Q (.inr E) A2) <| Q Rv A2) ∧ (¬ (v2 + v3) ≤ v4 → isO A v0 2 ∧ Cal l X d bc bs M_X1_lose [.ref v0, .int v4] A fun o9 A6 b7 c8 => rV o9 (fun E => Q (.inr E) A6) <| gI A6 v0 2 10 fun i10 => pV A6 v0 2 10 (.int (i10 + 1)) fun A11 => G l X M_X1_dropWhole d Q 3 [(0, .ref v0), (1, .int v1), (2, .int v2), (3, .int v3), (4, .int (v4 + 1))] [] A11 b7 c8)) : G l X M_X1_dropWhole d Q 3 [(0, .ref v0), (1, .int v1), (2, .int v2), (3, .int v3), (4, .int v4)] [] A bc bs := by
  refine G_iload 4 (dk_at dk_X1_dropWhole 2 rfl) rfl ?_
  refine G_iload_n 2 (dk_at dk_X1_dropWhole 3 rfl) rfl ?_
  refine G_iload_n 3 (dk_at dk_X1_dropWhole 4 rfl) rfl ?_
  refine G_iadd (dk_at dk_X1_dropWhole 5 rfl) ?_
  refine G_icmp_ge (tgt := 33) (dk_at dk_X1_dropWhole 6 rfl) (by decide) (fun c => ?_) (fun c => ?_)
  · replace h := h.1 c
    refine G_aload_n 0 (dk_at dk_X1_dropWhole 18 rfl) rfl ?_
    refine K_gR gf_X1_66 (dk_at dk_X1_dropWhole 19 rfl) h (fun r1 h => ?_)
    refine G_iconst (v := 4) (dk_at dk_X1_dropWhole 20 rfl) (by decide) ?_
    refine G_iload_n 1 (dk_at dk_X1_dropWhole 21 rfl) rfl ?_
    refine G_iconst (v := 0) (dk_at dk_X1_dropWhole 22 rfl) (by decide) ?_
    obtain ⟨⟨_, ho⟩, h⟩ := h
    refine G_callV (As := [.int 4, .int v1, .int 0]) (rest := []) lk_X1_188 rfl (dk_at dk_X1_dropWhole 23 rfl) rfl rfl (Nat.le_of_ble_eq_true rfl) ho (h.mono fun o5 A2 b3 c4 h => aftV h fun h => ?_)
    exact G_vret rfl (dk_at dk_X1_dropWhole 24 rfl) h
  · replace h := h.2 c
    refine G_aload_n 0 (dk_at dk_X1_dropWhole 7 rfl) rfl ?_
    refine G_iload 4 (dk_at dk_X1_dropWhole 8 rfl) rfl ?_
    obtain ⟨⟨_, ho⟩, h⟩ := h
    refine G_callV (As := [.int v4]) (rest := []) lk_X1_241 rfl (dk_at dk_X1_dropWhole 9 rfl) rfl rfl (Nat.le_of_ble_eq_true rfl) ho (h.mono fun o9 A6 b7 c8 h => aftV h fun h => ?_)
    refine G_aload_n 0 (dk_at dk_X1_dropWhole 10 rfl) rfl ?_
    refine G_dup (dk_at dk_X1_dropWhole 11 rfl) rfl ?_
    refine K_gI gf_X1_40 (dk_at dk_X1_dropWhole 12 rfl) h (fun i10 h => ?_)
    refine G_iconst (v := 1) (dk_at dk_X1_dropWhole 13 rfl) (by decide) ?_
    refine G_iadd (dk_at dk_X1_dropWhole 14 rfl) ?_
    refine K_pI pf_X1_40 (dk_at dk_X1_dropWhole 15 rfl) h (fun A11 h => ?_)
    refine G_iinc (v := v4 + 1) (lv' := [(4, .int (v4 + 1)), (0, .ref v0), (1, .int v1), (2, .int v2), (3, .int v3)]) 4 (dk_at dk_X1_dropWhole 16 rfl) rfl rfl (by decide) rfl ?_
    refine G_goto (tgt := 3) (dk_at dk_X1_dropWhole 17 rfl) (by decide) ?_
    refine G_sub [1, 2, 3, 4, 0] rfl ?_
    exact h
theorem k_X1_banIfTooOftenWrong_0 {l : Launch} {X : XT} {d : Nat} {Q : Ot → AH → Prop} {A : AH} {bc bs : Nat} {v0 : Nat} (h : gR A v0 2 13 fun r1 => Cal l X d bc bs M_X5_at [.ref r1, .int 1] A fun o5 A2 b3 c4 => zI o5 fun i6 => gR A2 v0 2 0 fun r7 => gI A2 r7 4 1 fun i8 => (i6 < i8 → Q Rv A2) ∧ (¬ i6 < i8 → gI A2 v0 2 14 fun i9 => (¬ i9 = 0 → Q Rv A2) ∧ (i9 = 0 → ((1 : Int32) = 0 ∨ (1 : Int32) = 1) ∧ pV A2 v0 2 14 (.int 1) fun A10 => gR A10 v0 2 11 fun r11 => Cal l X d b3 c4 M_X5_put [.ref r11, .int 1, .int 0] A10 fun o15 A12 b13 c14 => zV o15 <| gR A12 v0 2 16 fun r16 => isO A12 r16 1 ∧ Cal l X d b13 c14 M_X0_write [.ref r16, .int 6, .int 1, .int i6] A12 fun o20 A17 b18 c19 => rV o20 (fun E => Q (.inr E) A17) <| Q Rv A17))) : G l X M_X1_banIfTooOftenWrong d Q 0 [(0, .ref v0)] [] A bc bs := by
  refine G_aload_n 0 (dk_at dk_X1_banIfTooOftenWrong 0 rfl) rfl ?_
  refine K_gR gf_X1_49 (dk_at dk_X1_banIfTooOftenWrong 1 rfl) h (fun r1 h => ?_)
  refine G_iconst (v := 1) (dk_at dk_X1_banIfTooOftenWrong 2 rfl) (by decide) ?_
  refine G_callSN (As := [.ref r1, .int 1]) (rest := []) lk_X1_111 (dk_at dk_X1_banIfTooOftenWrong 3 rfl) rfl rfl (Nat.le_of_ble_eq_true rfl) (h.mono fun o5 A2 b3 c4 h => atfI h fun i6 h => ?_)
  refine G_istore_n (lv' := [(1, .int i6), (0, .ref v0)]) (dk_at dk_X1_banIfTooOftenWrong 4 rfl) (by decide) rfl ?_
  refine G_iload_n 0 (dk_at dk_X1_banIfTooOftenWrong 5 rfl) rfl ?_
  refine G_aload_n 1 (dk_at dk_X1_banIfTooOftenWrong 6 rfl) rfl ?_
  refine K_gR gf_X1_70 (dk_at dk_X1_banIfTooOftenWrong 7 rfl) h (fun r7 h => ?_)
  refine K_gI gf_X1_244 (dk_at dk_X1_banIfTooOftenWrong 8 rfl) h (fun i8 h => ?_)
  refine G_icmp_lt (tgt := 52) (dk_at dk_X1_banIfTooOftenWrong 9 rfl) (by decide) (fun c => ?_) (fun c => ?_)
  · replace h := h.1 c
    exact G_vret rfl (dk_at dk_X1_banIfTooOftenWrong 27 rfl) h
  · replace h := h.2 c
    refine G_aload_n 1 (dk_at dk_X1_banIfTooOftenWrong 10 rfl) rfl ?_
    refine K_gI gf_X1_52 (dk_at dk_X1_banIfTooOftenWrong 11 rfl) h (fun i9 h => ?_)
    refine G_if_ne (tgt := 52) (dk_at dk_X1_banIfTooOftenWrong 12 rfl) (by decide) (fun c => ?_) (fun c => ?_)
    · replace h := h.1 c
      exact G_vret rfl (dk_at dk_X1_banIfTooOftenWrong 27 rfl) h
    · replace h := h.2 c
      refine G_aload_n 1 (dk_at dk_X1_banIfTooOftenWrong 13 rfl) rfl ?_
      refine G_iconst (v := 1) (dk_at dk_X1_banIfTooOftenWrong 14 rfl) (by decide) ?_
      refine K_pZ pf_X1_52 (dk_at dk_X1_banIfTooOftenWrong 15 rfl) h (fun A10 h => ?_)
      refine G_aload_n 1 (dk_at dk_X1_banIfTooOftenWrong 16 rfl) rfl ?_
      refine K_gR gf_X1_43 (dk_at dk_X1_banIfTooOftenWrong 17 rfl) h (fun r11 h => ?_)
      refine G_iconst (v := 1) (dk_at dk_X1_banIfTooOftenWrong 18 rfl) (by decide) ?_
      refine G_iconst (v := 0) (dk_at dk_X1_banIfTooOftenWrong 19 rfl) (by decide) ?_
      refine G_callSN (As := [.ref r11, .int 1, .int 0]) (rest := []) lk_X1_184 (dk_at dk_X1_banIfTooOftenWrong 20 rfl) rfl rfl (Nat.le_of_ble_eq_true rfl) (h.mono fun o15 A12 b13 c14 h => atfV h fun h => ?_)
      refine G_aload_n 1 (dk_at dk_X1_banIfTooOftenWrong 21 rfl) rfl ?_
      refine K_gR gf_X1_66 (dk_at dk_X1_banIfTooOftenWrong 22 rfl) h (fun r16 h => ?_)
      refine G_bipush (v := 6) (dk_at dk_X1_banIfTooOftenWrong 23 rfl) (by decide) ?_
      refine G_iconst (v := 1) (dk_at dk_X1_banIfTooOftenWrong 24 rfl) (by decide) ?_
      refine G_iload_n 0 (dk_at dk_X1_banIfTooOftenWrong 25 rfl) rfl ?_
      obtain ⟨⟨_, ho⟩, h⟩ := h
      refine G_callV (As := [.int 6, .int 1, .int i6]) (rest := []) lk_X1_188 rfl (dk_at dk_X1_banIfTooOftenWrong 26 rfl) rfl rfl (Nat.le_of_ble_eq_true rfl) ho (h.mono fun o20 A17 b18 c19 h => aftV h fun h => ?_)
      exact G_vret rfl (dk_at dk_X1_banIfTooOftenWrong 27 rfl) h
theorem k_X1_keepArrived_0 {l : Launch} {X : XT} {d : Nat} {Q : Ot → AH → Prop} {A : AH} {bc bs : Nat} {v0 : Nat} {v1 : Int32} (h : gI A v0 2 5 fun i1 => (¬ i1 = 0 → gR A v0 2 0 fun r2 => isO A v0 2 ∧ Cal l X d bc bs M_X1_lowestMissing [.ref v0] A fun o6 A3 b4 c5 => rI o6 (fun E => Q (.inr E) A3) fun i7 => isO A3 r2 4 ∧ Cal l X d b4 c5 M_X3_partStart [.ref r2, .int i7] A3 fun o11 A8 b9 c10 => rI o11 (fun E => Q (.inr E) A8) fun i12 => G l X M_X1_keepArrived d Q 28 [(0, .ref v0), (1, .int v1)] [.int i12] A8 b9 c10) ∧ (i1 = 0 → gR A v0 2 0 fun r13 => gI A r13 4 0 fun i14 => G l X M_X1_keepArrived d Q 28 [(0, .ref v0), (1, .int v1)] [.int i14] A bc bs)) : G l X M_X1_keepArrived d Q 0 [(0, .ref v0), (1, .int v1)] [] A bc bs := by
  refine G_aload_n 0 (dk_at dk_X1_keepArrived 0 rfl) rfl ?_
  refine K_gI gf_X1_24 (dk_at dk_X1_keepArrived 1 rfl) h (fun i1 h => ?_)
  refine G_if_ne (tgt := 17) (dk_at dk_X1_keepArrived 2 rfl) (by decide) (fun c => ?_) (fun c => ?_)
  · replace h := h.1 c
    refine G_aload_n 0 (dk_at dk_X1_keepArrived 7 rfl) rfl ?_
    refine K_gR gf_X1_70 (dk_at dk_X1_keepArrived 8 rfl) h (fun r2 h => ?_)
    refine G_aload_n 0 (dk_at dk_X1_keepArrived 9 rfl) rfl ?_
    obtain ⟨⟨_, ho⟩, h⟩ := h
    refine G_callV (As := []) (rest := [.ref r2]) lk_X1_151 rfl (dk_at dk_X1_keepArrived 10 rfl) rfl rfl (Nat.le_of_ble_eq_true rfl) ho (h.mono fun o6 A3 b4 c5 h => aftI h fun i7 h => ?_)
    obtain ⟨⟨_, ho⟩, h⟩ := h
    refine G_callV (As := [.int i7]) (rest := []) lk_X1_130 rfl (dk_at dk_X1_keepArrived 11 rfl) rfl rfl (Nat.le_of_ble_eq_true rfl) ho (h.mono fun o11 A8 b9 c10 h => aftI h fun i12 h => ?_)
    exact h
  · replace h := h.2 c
    refine G_aload_n 0 (dk_at dk_X1_keepArrived 3 rfl) rfl ?_
    refine K_gR gf_X1_70 (dk_at dk_X1_keepArrived 4 rfl) h (fun r13 h => ?_)
    refine K_gI gf_X1_247 (dk_at dk_X1_keepArrived 5 rfl) h (fun i14 h => ?_)
    refine G_goto (tgt := 28) (dk_at dk_X1_keepArrived 6 rfl) (by decide) ?_
    exact h
theorem k_X1_keepArrived_28 {l : Launch} {X : XT} {d : Nat} {Q : Ot → AH → Prop} {A : AH} {bc bs : Nat} {v0 : Nat} {v1 : Int32} {s0 : Int32} (h : gR A v0 2 1 fun r1 => Cal l X d bc bs M_J7_copyOf_59c91 [.ref r1, .int (if s0 < 0 then 0 else s0)] A fun o5 A2 b3 c4 => rR o5 (fun E => Q (.inr E) A2) fun r6 => gR A2 v0 2 15 fun r7 => mk A2 (ob 3 df_3) 2 b3 c4 fun r8 A9 b10 c11 => Cal l X d b10 c11 M_X2_init [.ref r8, .int v1, .ref r6] A9 fun o15 A12 b13 c14 => zV o15 <| isO A12 r7 0 ∧ Cal l X d b13 c14 M_Jx4a65c_add_9ea2d [.ref r7, .ref r8] A12 fun o19 A16 b17 c18 => rI o19 (fun E => Q (.inr E) A16) fun i20 => gR A16 v0 2 16 fun r21 => nI_ X A16 r6 fun i22 => isO A16 r21 1 ∧ Cal l X d b17 c18 M_X0_write [.ref r21, .int 7, .int v1, .int i22] A16 fun o26 A23 b24 c25 => rV o26 (fun E => Q (.inr E) A23) <| isO A23 v0 2 ∧ Cal l X d b24 c25 M_X1_loseAll [.ref v0] A23 fun o30 A27 b28 c29 => rV o30 (fun E => Q (.inr E) A27) <| nI_ X A27 r6 fun i31 => Q (Ri i31) A27) : G l X M_X1_keepArrived d Q 28 [(0, .ref v0), (1, .int v1)] [.int s0] A bc bs := by
  refine G_istore_n (lv' := [(2, .int s0), (0, .ref v0), (1, .int v1)]) (dk_at dk_X1_keepArrived 12 rfl) (by decide) rfl ?_
  refine G_aload_n 1 (dk_at dk_X1_keepArrived 13 rfl) rfl ?_
  refine K_gR gf_X1_9 (dk_at dk_X1_keepArrived 14 rfl) h (fun r1 h => ?_)
  refine G_iload_n 0 (dk_at dk_X1_keepArrived 15 rfl) rfl ?_
  refine G_iconst (v := 0) (dk_at dk_X1_keepArrived 16 rfl) (by decide) ?_
  refine G_max wd_13 wm_max1 wm_2 wm_max3 (dk_at dk_X1_keepArrived 17 rfl) (Nat.le_of_ble_eq_true rfl) ?_
  refine G_callS (As := [.ref r1, .int (if s0 < 0 then 0 else s0)]) (rest := []) lk_X1_256 rfl (dk_at dk_X1_keepArrived 18 rfl) rfl rfl (Nat.le_of_ble_eq_true rfl) (h.mono fun o5 A2 b3 c4 h => aftR h fun r6 h => ?_)
  refine G_astore_n (lv' := [(3, .ref r6), (2, .int s0), (0, .ref v0), (1, .int v1)]) (dk_at dk_X1_keepArrived 19 rfl) (by decide) rfl ?_
  refine G_aload_n 2 (dk_at dk_X1_keepArrived 20 rfl) rfl ?_
  refine K_gR gf_X1_59 (dk_at dk_X1_keepArrived 21 rfl) h (fun r7 h => ?_)
  refine K_new no_X1_101 (dk_at dk_X1_keepArrived 22 rfl) h (fun r8 A9 b10 c11 h => ?_)
  refine G_dup (dk_at dk_X1_keepArrived 23 rfl) rfl ?_
  refine G_iload_n 3 (dk_at dk_X1_keepArrived 24 rfl) rfl ?_
  refine G_aload_n 0 (dk_at dk_X1_keepArrived 25 rfl) rfl ?_
  refine G_callI (As := [.int v1, .ref r6]) (rest := [.ref r8, .ref r7]) lk_X1_260 (dk_at dk_X1_keepArrived 26 rfl) rfl rfl (Nat.le_of_ble_eq_true rfl) (h.mono fun o15 A12 b13 c14 h => atfV h fun h => ?_)
  obtain ⟨⟨_, ho⟩, h⟩ := h
  refine G_callV (As := [.ref r8]) (rest := []) lk_X1_103 rfl (dk_at dk_X1_keepArrived 27 rfl) rfl rfl (Nat.le_of_ble_eq_true rfl) ho (h.mono fun o19 A16 b17 c18 h => aftI h fun i20 h => ?_)
  refine G_pop (dk_at dk_X1_keepArrived 28 rfl) rfl ?_
  refine G_aload_n 2 (dk_at dk_X1_keepArrived 29 rfl) rfl ?_
  refine K_gR gf_X1_66 (dk_at dk_X1_keepArrived 30 rfl) h (fun r21 h => ?_)
  refine G_bipush (v := 7) (dk_at dk_X1_keepArrived 31 rfl) (by decide) ?_
  refine G_iload_n 3 (dk_at dk_X1_keepArrived 32 rfl) rfl ?_
  refine G_aload_n 0 (dk_at dk_X1_keepArrived 33 rfl) rfl ?_
  refine K_nI (dk_at dk_X1_keepArrived 34 rfl) h (fun i22 h => ?_)
  obtain ⟨⟨_, ho⟩, h⟩ := h
  refine G_callV (As := [.int 7, .int v1, .int i22]) (rest := []) lk_X1_188 rfl (dk_at dk_X1_keepArrived 35 rfl) rfl rfl (Nat.le_of_ble_eq_true rfl) ho (h.mono fun o26 A23 b24 c25 h => aftV h fun h => ?_)
  refine G_aload_n 2 (dk_at dk_X1_keepArrived 36 rfl) rfl ?_
  obtain ⟨⟨_, ho⟩, h⟩ := h
  refine G_callV (As := []) (rest := []) lk_X1_86 rfl (dk_at dk_X1_keepArrived 37 rfl) rfl rfl (Nat.le_of_ble_eq_true rfl) ho (h.mono fun o30 A27 b28 c29 h => aftV h fun h => ?_)
  refine G_aload_n 0 (dk_at dk_X1_keepArrived 38 rfl) rfl ?_
  refine K_nI (dk_at dk_X1_keepArrived 39 rfl) h (fun i31 h => ?_)
  exact G_iret (ty := .int) rfl rfl (dk_at dk_X1_keepArrived 40 rfl) h
theorem k_X1_takeUp_0 {l : Launch} {X : XT} {d : Nat} {Q : Ot → AH → Prop} {A : AH} {bc bs : Nat} {v0 : Nat} {v1 : Nat} (h : G l X M_X1_takeUp d Q 2 [(0, .ref v0), (1, .ref v1), (2, .int 0)] [] A bc bs) : G l X M_X1_takeUp d Q 0 [(0, .ref v0), (1, .ref v1)] [] A bc bs := by
  refine G_iconst (v := 0) (dk_at dk_X1_takeUp 0 rfl) (by decide) ?_
  refine G_istore_n (lv' := [(2, .int 0), (0, .ref v0), (1, .ref v1)]) (dk_at dk_X1_takeUp 1 rfl) (by decide) rfl ?_
  refine G_sub [1, 2, 0] rfl ?_
  exact h
theorem k_X1_takeUp_2 {l : Launch} {X : XT} {d : Nat} {Q : Ot → AH → Prop} {A : AH} {bc bs : Nat} {v0 : Nat} {v1 : Nat} {v2 : Int32} (h : gR A v0 2 0 fun r1 => gI A r1 4 3 fun i2 => (i2 ≤ v2 → gR A v0 2 16 fun r3 => gI A v1 3 0 fun i4 => gR A v0 2 0 fun r5 => gI A r5 4 3 fun i6 => gI A v0 2 5 fun i7 => isO A r3 1 ∧ Cal l X d bc bs M_X0_write [.ref r3, .int 8, .int i4, .int (i6 - i7)] A fun o11 A8 b9 c10 => rV o11 (fun E => Q (.inr E) A8) <| G l X M_X1_takeUp d Q 81 [(0, .ref v0), (2, .int 0)] [] A8 b9 c10) ∧ (¬ i2 ≤ v2 → gR A v0 2 0 fun r12 => isO A r12 4 ∧ Cal l X d bc bs M_X3_partStart [.ref r12, .int v2] A fun o16 A13 b14 c15 => rI o16 (fun E => Q (.inr E) A13) fun i17 => gR A13 v0 2 0 fun r18 => isO A13 r18 4 ∧ Cal l X d b14 c15 M_X3_partLength [.ref r18, .int v2] A13 fun o22 A19 b20 c21 => rI o22 (fun E => Q (.inr E) A19) fun i23 => gR A19 v1 3 1 fun r24 => nI_ X A19 r24 fun i25 => (i25 < (i17 + i23) → G l X M_X1_takeUp d Q 2 [(0, .ref v0), (1, .ref v1), (2, .int (v2 + 1))] [] A19 b20 c21) ∧ (¬ i25 < (i17 + i23) → gR A19 v1 3 1 fun r26 => isO A19 v0 2 ∧ Cal l X d b20 c21 M_X1_putPart [.ref v0, .int v2, .ref r26, .int 2] A19 fun o30 A27 b28 c29 => rV o30 (fun E => Q (.inr E) A27) <| G l X M_X1_takeUp d Q 2 [(0, .ref v0), (1, .ref v1), (2, .int (v2 + 1))] [] A27 b28 c29))) : G l X M_X1_takeUp d Q 2 [(0, .ref v0), (1, .ref v1), (2, .int v2)] [] A bc bs := by
  refine G_iload_n 2 (dk_at dk_X1_takeUp 2 rfl) rfl ?_
  refine G_aload_n 0 (dk_at dk_X1_takeUp 3 rfl) rfl ?_
  refine K_gR gf_X1_70 (dk_at dk_X1_takeUp 4 rfl) h (fun r1 h => ?_)
  refine K_gI gf_X1_120 (dk_at dk_X1_takeUp 5 rfl) h (fun i2 h => ?_)
  refine G_icmp_ge (tgt := 54) (dk_at dk_X1_takeUp 6 rfl) (by decide) (fun c => ?_) (fun c => ?_)
  · replace h := h.1 c
    refine G_aload_n 0 (dk_at dk_X1_takeUp 28 rfl) rfl ?_
    refine K_gR gf_X1_66 (dk_at dk_X1_takeUp 29 rfl) h (fun r3 h => ?_)
    refine G_bipush (v := 8) (dk_at dk_X1_takeUp 30 rfl) (by decide) ?_
    refine G_aload_n 1 (dk_at dk_X1_takeUp 31 rfl) rfl ?_
    refine K_gI gf_X1_264 (dk_at dk_X1_takeUp 32 rfl) h (fun i4 h => ?_)
    refine G_aload_n 0 (dk_at dk_X1_takeUp 33 rfl) rfl ?_
    refine K_gR gf_X1_70 (dk_at dk_X1_takeUp 34 rfl) h (fun r5 h => ?_)
    refine K_gI gf_X1_120 (dk_at dk_X1_takeUp 35 rfl) h (fun i6 h => ?_)
    refine G_aload_n 0 (dk_at dk_X1_takeUp 36 rfl) rfl ?_
    refine K_gI gf_X1_24 (dk_at dk_X1_takeUp 37 rfl) h (fun i7 h => ?_)
    refine G_isub (dk_at dk_X1_takeUp 38 rfl) ?_
    obtain ⟨⟨_, ho⟩, h⟩ := h
    refine G_callV (As := [.int 8, .int i4, .int (i6 - i7)]) (rest := []) lk_X1_188 rfl (dk_at dk_X1_takeUp 39 rfl) rfl rfl (Nat.le_of_ble_eq_true rfl) ho (h.mono fun o11 A8 b9 c10 h => aftV h fun h => ?_)
    refine G_iconst (v := 0) (dk_at dk_X1_takeUp 40 rfl) (by decide) ?_
    refine G_istore_n (lv' := [(2, .int 0), (0, .ref v0), (1, .ref v1)]) (dk_at dk_X1_takeUp 41 rfl) (by decide) rfl ?_
    refine G_sub [1, 0] rfl ?_
    exact h
  · replace h := h.2 c
    refine G_aload_n 0 (dk_at dk_X1_takeUp 7 rfl) rfl ?_
    refine K_gR gf_X1_70 (dk_at dk_X1_takeUp 8 rfl) h (fun r12 h => ?_)
    refine G_iload_n 2 (dk_at dk_X1_takeUp 9 rfl) rfl ?_
    obtain ⟨⟨_, ho⟩, h⟩ := h
    refine G_callV (As := [.int v2]) (rest := []) lk_X1_130 rfl (dk_at dk_X1_takeUp 10 rfl) rfl rfl (Nat.le_of_ble_eq_true rfl) ho (h.mono fun o16 A13 b14 c15 h => aftI h fun i17 h => ?_)
    refine G_aload_n 0 (dk_at dk_X1_takeUp 11 rfl) rfl ?_
    refine K_gR gf_X1_70 (dk_at dk_X1_takeUp 12 rfl) h (fun r18 h => ?_)
    refine G_iload_n 2 (dk_at dk_X1_takeUp 13 rfl) rfl ?_
    obtain ⟨⟨_, ho⟩, h⟩ := h
    refine G_callV (As := [.int v2]) (rest := [.int i17]) lk_X1_134 rfl (dk_at dk_X1_takeUp 14 rfl) rfl rfl (Nat.le_of_ble_eq_true rfl) ho (h.mono fun o22 A19 b20 c21 h => aftI h fun i23 h => ?_)
    refine G_iadd (dk_at dk_X1_takeUp 15 rfl) ?_
    refine G_aload_n 1 (dk_at dk_X1_takeUp 16 rfl) rfl ?_
    refine K_gR gf_X1_263 (dk_at dk_X1_takeUp 17 rfl) h (fun r24 h => ?_)
    refine K_nI (dk_at dk_X1_takeUp 18 rfl) h (fun i25 h => ?_)
    refine G_icmp_gt (tgt := 48) (dk_at dk_X1_takeUp 19 rfl) (by decide) (fun c => ?_) (fun c => ?_)
    · replace h := h.1 c
      refine G_iinc (v := v2 + 1) (lv' := [(2, .int (v2 + 1)), (0, .ref v0), (1, .ref v1)]) 2 (dk_at dk_X1_takeUp 26 rfl) rfl rfl (by decide) rfl ?_
      refine G_goto (tgt := 2) (dk_at dk_X1_takeUp 27 rfl) (by decide) ?_
      refine G_sub [1, 2, 0] rfl ?_
      exact h
    · replace h := h.2 c
      refine G_aload_n 0 (dk_at dk_X1_takeUp 20 rfl) rfl ?_
      refine G_iload_n 2 (dk_at dk_X1_takeUp 21 rfl) rfl ?_
      refine G_aload_n 1 (dk_at dk_X1_takeUp 22 rfl) rfl ?_
      refine K_gR gf_X1_263 (dk_at dk_X1_takeUp 23 rfl) h (fun r26 h => ?_)
      refine G_iconst (v := 2) (dk_at dk_X1_takeUp 24 rfl) (by decide) ?_
      obtain ⟨⟨_, ho⟩, h⟩ := h
      refine G_callV (As := [.int v2, .ref r26, .int 2]) (rest := []) lk_X1_177 rfl (dk_at dk_X1_takeUp 25 rfl) rfl rfl (Nat.le_of_ble_eq_true rfl) ho (h.mono fun o30 A27 b28 c29 h => aftV h fun h => ?_)
      refine G_iinc (v := v2 + 1) (lv' := [(2, .int (v2 + 1)), (0, .ref v0), (1, .ref v1)]) 2 (dk_at dk_X1_takeUp 26 rfl) rfl rfl (by decide) rfl ?_
      refine G_goto (tgt := 2) (dk_at dk_X1_takeUp 27 rfl) (by decide) ?_
      refine G_sub [1, 2, 0] rfl ?_
      exact h
theorem k_X1_takeUp_81 {l : Launch} {X : XT} {d : Nat} {Q : Ot → AH → Prop} {A : AH} {bc bs : Nat} {v0 : Nat} {v2 : Int32} (h : gR A v0 2 0 fun r1 => gI A r1 4 2 fun i2 => (i2 ≤ v2 → Q Rv A) ∧ (¬ i2 ≤ v2 → isO A v0 2 ∧ Cal l X d bc bs M_X1_judge [.ref v0, .int v2] A fun o6 A3 b4 c5 => rV o6 (fun E => Q (.inr E) A3) <| G l X M_X1_takeUp d Q 81 [(0, .ref v0), (2, .int (v2 + 1))] [] A3 b4 c5)) : G l X M_X1_takeUp d Q 81 [(0, .ref v0), (2, .int v2)] [] A bc bs := by
  refine G_iload_n 1 (dk_at dk_X1_takeUp 42 rfl) rfl ?_
  refine G_aload_n 0 (dk_at dk_X1_takeUp 43 rfl) rfl ?_
  refine K_gR gf_X1_70 (dk_at dk_X1_takeUp 44 rfl) h (fun r1 h => ?_)
  refine K_gI gf_X1_115 (dk_at dk_X1_takeUp 45 rfl) h (fun i2 h => ?_)
  refine G_icmp_ge (tgt := 103) (dk_at dk_X1_takeUp 46 rfl) (by decide) (fun c => ?_) (fun c => ?_)
  · replace h := h.1 c
    exact G_vret rfl (dk_at dk_X1_takeUp 52 rfl) h
  · replace h := h.2 c
    refine G_aload_n 0 (dk_at dk_X1_takeUp 47 rfl) rfl ?_
    refine G_iload_n 1 (dk_at dk_X1_takeUp 48 rfl) rfl ?_
    obtain ⟨⟨_, ho⟩, h⟩ := h
    refine G_callV (As := [.int v2]) (rest := []) lk_X1_195 rfl (dk_at dk_X1_takeUp 49 rfl) rfl rfl (Nat.le_of_ble_eq_true rfl) ho (h.mono fun o6 A3 b4 c5 h => aftV h fun h => ?_)
    refine G_iinc (v := v2 + 1) (lv' := [(2, .int (v2 + 1)), (0, .ref v0)]) 1 (dk_at dk_X1_takeUp 50 rfl) rfl rfl (by decide) rfl ?_
    refine G_goto (tgt := 81) (dk_at dk_X1_takeUp 51 rfl) (by decide) ?_
    refine G_sub [1, 0] rfl ?_
    exact h
