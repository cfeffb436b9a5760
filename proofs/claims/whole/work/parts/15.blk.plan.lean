/-! blocks: what a method asks, row by row, as one formula (laid by wip/whole/gen) -/
theorem k_X0_init_0 {l : Launch} {X : XT} {d : Nat} {Q : Ot → AH → Prop} {A : AH} {bc bs : Nat} {v0 : Nat} (h : mkA A 40 (fun N => ia X N (fun _ => 0)) bc bs fun r1 A2 b3 c4 => pV A2 v0 1 0 (.ref r1) fun A5 => mkA A5 40 (fun N => ia X N (fun _ => 0)) b3 c4 fun r6 A7 b8 c9 => pV A7 v0 1 1 (.ref r6) fun A10 => mkA A10 40 (fun N => ia X N (fun _ => 0)) b8 c9 fun r11 A12 b13 c14 => pV A12 v0 1 2 (.ref r11) fun A15 => pV A15 v0 1 3 (.int 0) fun A16 => Q Rv A16) : G l X M_X0_init d Q 0 [(0, .ref v0)] [] A bc bs := by
  refine G_aload_n 0 (dk_at dk_X0_init 0 rfl) rfl ?_
  refine G_objInit wd_6 wo_1 wo_2 (dk_at dk_X0_init 1 rfl) (Nat.le_of_ble_eq_true rfl) ?_
  refine G_aload_n 0 (dk_at dk_X0_init 2 rfl) rfl ?_
  refine G_bipush (v := 40) (dk_at dk_X0_init 3 rfl) (by decide) ?_
  refine K_newi wa_i (dk_at dk_X0_init 4 rfl) h (fun r1 A2 b3 c4 h => ?_)
  refine K_pR pf_X0_9 rfl rfl (dk_at dk_X0_init 5 rfl) h (fun A5 h => ?_)
  refine G_aload_n 0 (dk_at dk_X0_init 6 rfl) rfl ?_
  refine G_bipush (v := 40) (dk_at dk_X0_init 7 rfl) (by decide) ?_
  refine K_newi wa_i (dk_at dk_X0_init 8 rfl) h (fun r6 A7 b8 c9 h => ?_)
  refine K_pR pf_X0_15 rfl rfl (dk_at dk_X0_init 9 rfl) h (fun A10 h => ?_)
  refine G_aload_n 0 (dk_at dk_X0_init 10 rfl) rfl ?_
  refine G_bipush (v := 40) (dk_at dk_X0_init 11 rfl) (by decide) ?_
  refine K_newi wa_i (dk_at dk_X0_init 12 rfl) h (fun r11 A12 b13 c14 h => ?_)
  refine K_pR pf_X0_18 rfl rfl (dk_at dk_X0_init 13 rfl) h (fun A15 h => ?_)
  refine G_aload_n 0 (dk_at dk_X0_init 14 rfl) rfl ?_
  refine G_iconst (v := 0) (dk_at dk_X0_init 15 rfl) (by decide) ?_
  refine K_pI pf_X0_21 (dk_at dk_X0_init 16 rfl) h (fun A16 h => ?_)
  exact G_vret rfl (dk_at dk_X0_init 17 rfl) h
theorem k_X0_write_0 {l : Launch} {X : XT} {d : Nat} {Q : Ot → AH → Prop} {A : AH} {bc bs : Nat} {v0 : Nat} {v1 : Int32} {v2 : Int32} {v3 : Int32} (h : gI A v0 1 3 fun i1 => gR A v0 1 0 fun r2 => Cal l X d bc bs M_X5_put [.ref r2, .int (i1 - i1 / 40 * 40), .int v1] A fun o6 A3 b4 c5 => zV o6 <| gR A3 v0 1 1 fun r7 => Cal l X d b4 c5 M_X5_put [.ref r7, .int (i1 - i1 / 40 * 40), .int v2] A3 fun o11 A8 b9 c10 => zV o11 <| gR A8 v0 1 2 fun r12 => Cal l X d b9 c10 M_X5_put [.ref r12, .int (i1 - i1 / 40 * 40), .int v3] A8 fun o16 A13 b14 c15 => zV o16 <| gI A13 v0 1 3 fun i17 => pV A13 v0 1 3 (.int (i17 + 1)) fun A18 => Q Rv A18) : G l X M_X0_write d Q 0 [(0, .ref v0), (1, .int v1), (2, .int v2), (3, .int v3)] [] A bc bs := by
  refine G_aload_n 0 (dk_at dk_X0_write 0 rfl) rfl ?_
  refine K_gI gf_X0_21 (dk_at dk_X0_write 1 rfl) h (fun i1 h => ?_)
  refine G_bipush (v := 40) (dk_at dk_X0_write 2 rfl) (by decide) ?_
  refine G_irem (dk_at dk_X0_write 3 rfl) (by decide) ?_
  refine G_istore (lv' := [(4, .int (i1 - i1 / 40 * 40)), (0, .ref v0), (1, .int v1), (2, .int v2), (3, .int v3)]) (dk_at dk_X0_write 4 rfl) (by decide) rfl ?_
  refine G_aload_n 1 (dk_at dk_X0_write 5 rfl) rfl ?_
  refine K_gR gf_X0_9 (dk_at dk_X0_write 6 rfl) h (fun r2 h => ?_)
  refine G_iload 0 (dk_at dk_X0_write 7 rfl) rfl ?_
  refine G_iload_n 2 (dk_at dk_X0_write 8 rfl) rfl ?_
  refine G_callSN (As := [.ref r2, .int (i1 - i1 / 40 * 40), .int v1]) (rest := []) lk_X0_25 (dk_at dk_X0_write 9 rfl) rfl rfl (Nat.le_of_ble_eq_true rfl) (h.mono fun o6 A3 b4 c5 h => atfV h fun h => ?_)
  refine G_aload_n 1 (dk_at dk_X0_write 10 rfl) rfl ?_
  refine K_gR gf_X0_15 (dk_at dk_X0_write 11 rfl) h (fun r7 h => ?_)
  refine G_iload 0 (dk_at dk_X0_write 12 rfl) rfl ?_
  refine G_iload_n 3 (dk_at dk_X0_write 13 rfl) rfl ?_
  refine G_callSN (As := [.ref r7, .int (i1 - i1 / 40 * 40), .int v2]) (rest := []) lk_X0_25 (dk_at dk_X0_write 14 rfl) rfl rfl (Nat.le_of_ble_eq_true rfl) (h.mono fun o11 A8 b9 c10 h => atfV h fun h => ?_)
  refine G_aload_n 1 (dk_at dk_X0_write 15 rfl) rfl ?_
  refine K_gR gf_X0_18 (dk_at dk_X0_write 16 rfl) h (fun r12 h => ?_)
  refine G_iload 0 (dk_at dk_X0_write 17 rfl) rfl ?_
  refine G_iload_n 4 (dk_at dk_X0_write 18 rfl) rfl ?_
  refine G_callSN (As := [.ref r12, .int (i1 - i1 / 40 * 40), .int v3]) (rest := []) lk_X0_25 (dk_at dk_X0_write 19 rfl) rfl rfl (Nat.le_of_ble_eq_true rfl) (h.mono fun o16 A13 b14 c15 h => atfV h fun h => ?_)
  refine G_aload_n 1 (dk_at dk_X0_write 20 rfl) rfl ?_
  refine G_dup (dk_at dk_X0_write 21 rfl) rfl ?_
  refine K_gI gf_X0_21 (dk_at dk_X0_write 22 rfl) h (fun i17 h => ?_)
  refine G_iconst (v := 1) (dk_at dk_X0_write 23 rfl) (by decide) ?_
  refine G_iadd (dk_at dk_X0_write 24 rfl) ?_
  refine K_pI pf_X0_21 (dk_at dk_X0_write 25 rfl) h (fun A18 h => ?_)
  exact G_vret rfl (dk_at dk_X0_write 26 rfl) h
theorem k_X0_size_0 {l : Launch} {X : XT} {d : Nat} {Q : Ot → AH → Prop} {A : AH} {bc bs : Nat} {v0 : Nat} (h : gI A v0 1 3 fun i1 => Q (Ri (if 40 < i1 then 40 else i1)) A) : G l X M_X0_size d Q 0 [(0, .ref v0)] [] A bc bs := by
  refine G_aload_n 0 (dk_at dk_X0_size 0 rfl) rfl ?_
  refine K_gI gf_X0_21 (dk_at dk_X0_size 1 rfl) h (fun i1 h => ?_)
  refine G_bipush (v := 40) (dk_at dk_X0_size 2 rfl) (by decide) ?_
  refine G_min wd_7 wm_min1 wm_2 wm_min3 (dk_at dk_X0_size 3 rfl) (Nat.le_of_ble_eq_true rfl) ?_
  exact G_iret (ty := .int) rfl rfl (dk_at dk_X0_size 4 rfl) h
theorem k_X0_slot_0 {l : Launch} {X : XT} {d : Nat} {Q : Ot → AH → Prop} {A : AH} {bc bs : Nat} {v0 : Nat} {v1 : Int32} (h : gI A v0 1 3 fun i1 => Q (Ri (((i1 - 1) - v1) - ((i1 - 1) - v1) / 40 * 40)) A) : G l X M_X0_slot d Q 0 [(0, .ref v0), (1, .int v1)] [] A bc bs := by
  refine G_aload_n 0 (dk_at dk_X0_slot 0 rfl) rfl ?_
  refine K_gI gf_X0_21 (dk_at dk_X0_slot 1 rfl) h (fun i1 h => ?_)
  refine G_iconst (v := 1) (dk_at dk_X0_slot 2 rfl) (by decide) ?_
  refine G_isub (dk_at dk_X0_slot 3 rfl) ?_
  refine G_iload_n 1 (dk_at dk_X0_slot 4 rfl) rfl ?_
  refine G_isub (dk_at dk_X0_slot 5 rfl) ?_
  refine G_bipush (v := 40) (dk_at dk_X0_slot 6 rfl) (by decide) ?_
  refine G_irem (dk_at dk_X0_slot 7 rfl) (by decide) ?_
  exact G_iret (ty := .int) rfl rfl (dk_at dk_X0_slot 8 rfl) h
theorem k_X0_copyFrom_0 {l : Launch} {X : XT} {d : Nat} {Q : Ot → AH → Prop} {A : AH} {bc bs : Nat} {v0 : Nat} {v1 : Nat} (h : gR A v1 1 0 fun r1 => gR A v0 1 0 fun r2 => Cal l X d bc bs M_X5_copyRow [.ref r1, .ref r2] A fun o6 A3 b4 c5 => zV o6 <| gR A3 v1 1 1 fun r7 => gR A3 v0 1 1 fun r8 => Cal l X d b4 c5 M_X5_copyRow [.ref r7, .ref r8] A3 fun o12 A9 b10 c11 => zV o12 <| gR A9 v1 1 2 fun r13 => gR A9 v0 1 2 fun r14 => Cal l X d b10 c11 M_X5_copyRow [.ref r13, .ref r14] A9 fun o18 A15 b16 c17 => zV o18 <| gI A15 v1 1 3 fun i19 => pV A15 v0 1 3 (.int i19) fun A20 => Q Rv A20) : G l X M_X0_copyFrom d Q 0 [(0, .ref v0), (1, .ref v1)] [] A bc bs := by
  refine G_aload_n 1 (dk_at dk_X0_copyFrom 0 rfl) rfl ?_
  refine K_gR gf_X0_9 (dk_at dk_X0_copyFrom 1 rfl) h (fun r1 h => ?_)
  refine G_aload_n 0 (dk_at dk_X0_copyFrom 2 rfl) rfl ?_
  refine K_gR gf_X0_9 (dk_at dk_X0_copyFrom 3 rfl) h (fun r2 h => ?_)
  refine G_callSN (As := [.ref r1, .ref r2]) (rest := []) lk_X0_35 (dk_at dk_X0_copyFrom 4 rfl) rfl rfl (Nat.le_of_ble_eq_true rfl) (h.mono fun o6 A3 b4 c5 h => atfV h fun h => ?_)
  refine G_aload_n 1 (dk_at dk_X0_copyFrom 5 rfl) rfl ?_
  refine K_gR gf_X0_15 (dk_at dk_X0_copyFrom 6 rfl) h (fun r7 h => ?_)
  refine G_aload_n 0 (dk_at dk_X0_copyFrom 7 rfl) rfl ?_
  refine K_gR gf_X0_15 (dk_at dk_X0_copyFrom 8 rfl) h (fun r8 h => ?_)
  refine G_callSN (As := [.ref r7, .ref r8]) (rest := []) lk_X0_35 (dk_at dk_X0_copyFrom 9 rfl) rfl rfl (Nat.le_of_ble_eq_true rfl) (h.mono fun o12 A9 b10 c11 h => atfV h fun h => ?_)
  refine G_aload_n 1 (dk_at dk_X0_copyFrom 10 rfl) rfl ?_
  refine K_gR gf_X0_18 (dk_at dk_X0_copyFrom 11 rfl) h (fun r13 h => ?_)
  refine G_aload_n 0 (dk_at dk_X0_copyFrom 12 rfl) rfl ?_
  refine K_gR gf_X0_18 (dk_at dk_X0_copyFrom 13 rfl) h (fun r14 h => ?_)
  refine G_callSN (As := [.ref r13, .ref r14]) (rest := []) lk_X0_35 (dk_at dk_X0_copyFrom 14 rfl) rfl rfl (Nat.le_of_ble_eq_true rfl) (h.mono fun o18 A15 b16 c17 h => atfV h fun h => ?_)
  refine G_aload_n 0 (dk_at dk_X0_copyFrom 15 rfl) rfl ?_
  refine G_aload_n 1 (dk_at dk_X0_copyFrom 16 rfl) rfl ?_
  refine K_gI gf_X0_21 (dk_at dk_X0_copyFrom 17 rfl) h (fun i19 h => ?_)
  refine K_pI pf_X0_21 (dk_at dk_X0_copyFrom 18 rfl) h (fun A20 h => ?_)
  exact G_vret rfl (dk_at dk_X0_copyFrom 19 rfl) h
theorem k_X2_init_0 {l : Launch} {X : XT} {d : Nat} {Q : Ot → AH → Prop} {A : AH} {bc bs : Nat} {v0 : Nat} {v1 : Int32} {v2 : Nat} (h : pV A v0 3 0 (.int v1) fun A1 => pV A1 v0 3 1 (.ref v2) fun A2 => Q Rv A2) : G l X M_X2_init d Q 0 [(0, .ref v0), (1, .int v1), (2, .ref v2)] [] A bc bs := by
  refine G_aload_n 0 (dk_at dk_X2_init 0 rfl) rfl ?_
  refine G_objInit wd_8 wo_1 wo_2 (dk_at dk_X2_init 1 rfl) (Nat.le_of_ble_eq_true rfl) ?_
  refine G_aload_n 0 (dk_at dk_X2_init 2 rfl) rfl ?_
  refine G_iload_n 1 (dk_at dk_X2_init 3 rfl) rfl ?_
  refine K_pI pf_X2_7 (dk_at dk_X2_init 4 rfl) h (fun A1 h => ?_)
  refine G_aload_n 0 (dk_at dk_X2_init 5 rfl) rfl ?_
  refine G_aload_n 2 (dk_at dk_X2_init 6 rfl) rfl ?_
  refine K_pR pf_X2_13 rfl rfl (dk_at dk_X2_init 7 rfl) h (fun A2 h => ?_)
  exact G_vret rfl (dk_at dk_X2_init 8 rfl) h
theorem k_X3_init_0 {l : Launch} {X : XT} {d : Nat} {Q : Ot → AH → Prop} {A : AH} {bc bs : Nat} {v0 : Nat} {v1 : Int32} {v2 : Int32} {v3 : Int32} {v4 : Int32} (h : pV A v0 4 1 (.int 3) fun A1 => pV A1 v0 4 2 (.int 0) fun A2 => pV A2 v0 4 3 (.int 0) fun A3 => mkA A3 240 (fun N => ia X N (fun _ => 0)) bc bs fun r4 A5 b6 c7 => pV A5 v0 4 4 (.ref r4) fun A8 => mkA A8 240 (fun N => ia X N (fun _ => 0)) b6 c7 fun r9 A10 b11 c12 => pV A10 v0 4 5 (.ref r9) fun A13 => mkA A13 60 (fun N => ia X N (fun _ => 0)) b11 c12 fun r14 A15 b16 c17 => pV A15 v0 4 6 (.ref r14) fun A18 => mkA A18 61 (fun N => ia X N (fun _ => 0)) b16 c17 fun r19 A20 b21 c22 => pV A20 v0 4 7 (.ref r19) fun A23 => mkA A23 61 (fun N => ia X N (fun _ => 0)) b21 c22 fun r24 A25 b26 c27 => pV A25 v0 4 8 (.ref r24) fun A28 => mkA A28 241 (fun N => ia X N (fun _ => 0)) b26 c27 fun r29 A30 b31 c32 => pV A30 v0 4 9 (.ref r29) fun A33 => mkA A33 240 (fun N => ia X N (fun _ => 0)) b31 c32 fun r34 A35 b36 c37 => pV A35 v0 4 10 (.ref r34) fun A38 => mkA A38 240 (fun N => ia X N (fun _ => 0)) b36 c37 fun r39 A40 b41 c42 => pV A40 v0 4 11 (.ref r39) fun A43 => mkA A43 36 (fun N => ia X N (fun _ => 0)) b41 c42 fun r44 A45 b46 c47 => pV A45 v0 4 12 (.ref r44) fun A48 => pV A48 v0 4 13 (.int 0) fun A49 => mkA A49 16 (fun N => ia X N (fun _ => 0)) b46 c47 fun r50 A51 b52 c53 => pV A51 v0 4 14 (.ref r50) fun A54 => pV A54 v0 4 15 (.int 0) fun A55 => pV A55 v0 4 0 (.int v1) fun A56 => G l X M_X3_init d Q 122 [(0, .ref v0), (1, .int v1), (2, .int v2), (3, .int v3), (4, .int v4), (5, .int 0)] [] A56 b52 c53) : G l X M_X3_init d Q 0 [(0, .ref v0), (1, .int v1), (2, .int v2), (3, .int v3), (4, .int v4)] [] A bc bs := by
  refine G_aload_n 0 (dk_at dk_X3_init_0 0 rfl) rfl ?_
  refine G_objInit wd_9 wo_1 wo_2 (dk_at dk_X3_init_0 1 rfl) (Nat.le_of_ble_eq_true rfl) ?_
  refine G_aload_n 0 (dk_at dk_X3_init_0 2 rfl) rfl ?_
  refine G_iconst (v := 3) (dk_at dk_X3_init_0 3 rfl) (by decide) ?_
  refine K_pI pf_X3_9 (dk_at dk_X3_init_0 4 rfl) h (fun A1 h => ?_)
  refine G_aload_n 0 (dk_at dk_X3_init_0 5 rfl) rfl ?_
  refine G_iconst (v := 0) (dk_at dk_X3_init_0 6 rfl) (by decide) ?_
  refine K_pI pf_X3_15 (dk_at dk_X3_init_0 7 rfl) h (fun A2 h => ?_)
  refine G_aload_n 0 (dk_at dk_X3_init_0 8 rfl) rfl ?_
  refine G_iconst (v := 0) (dk_at dk_X3_init_0 9 rfl) (by decide) ?_
  refine K_pI pf_X3_18 (dk_at dk_X3_init_0 10 rfl) h (fun A3 h => ?_)
  refine G_aload_n 0 (dk_at dk_X3_init_0 11 rfl) rfl ?_
  refine G_sipush (v := 240) (dk_at dk_X3_init_0 12 rfl) (by decide) ?_
  refine K_newi wa_i (dk_at dk_X3_init_0 13 rfl) h (fun r4 A5 b6 c7 h => ?_)
  refine K_pR pf_X3_21 rfl rfl (dk_at dk_X3_init_0 14 rfl) h (fun A8 h => ?_)
  refine G_aload_n 0 (dk_at dk_X3_init_0 15 rfl) rfl ?_
  refine G_sipush (v := 240) (dk_at dk_X3_init_0 16 rfl) (by decide) ?_
  refine K_newi wa_i (dk_at dk_X3_init_0 17 rfl) h (fun r9 A10 b11 c12 h => ?_)
  refine K_pR pf_X3_25 rfl rfl (dk_at dk_X3_init_0 18 rfl) h (fun A13 h => ?_)
  refine G_aload_n 0 (dk_at dk_X3_init_0 19 rfl) rfl ?_
  refine G_bipush (v := 60) (dk_at dk_X3_init_0 20 rfl) (by decide) ?_
  refine K_newi wa_i (dk_at dk_X3_init_0 21 rfl) h (fun r14 A15 b16 c17 h => ?_)
  refine K_pR pf_X3_28 rfl rfl (dk_at dk_X3_init_0 22 rfl) h (fun A18 h => ?_)
  refine G_aload_n 0 (dk_at dk_X3_init_0 23 rfl) rfl ?_
  refine G_bipush (v := 61) (dk_at dk_X3_init_0 24 rfl) (by decide) ?_
  refine K_newi wa_i (dk_at dk_X3_init_0 25 rfl) h (fun r19 A20 b21 c22 h => ?_)
  refine K_pR pf_X3_31 rfl rfl (dk_at dk_X3_init_0 26 rfl) h (fun A23 h => ?_)
  refine G_aload_n 0 (dk_at dk_X3_init_0 27 rfl) rfl ?_
  refine G_bipush (v := 61) (dk_at dk_X3_init_0 28 rfl) (by decide) ?_
  refine K_newi wa_i (dk_at dk_X3_init_0 29 rfl) h (fun r24 A25 b26 c27 h => ?_)
  refine K_pR pf_X3_34 rfl rfl (dk_at dk_X3_init_0 30 rfl) h (fun A28 h => ?_)
  refine G_aload_n 0 (dk_at dk_X3_init_0 31 rfl) rfl ?_
  refine G_sipush (v := 241) (dk_at dk_X3_init_0 32 rfl) (by decide) ?_
  refine K_newi wa_i (dk_at dk_X3_init_0 33 rfl) h (fun r29 A30 b31 c32 h => ?_)
  refine K_pR pf_X3_37 rfl rfl (dk_at dk_X3_init_0 34 rfl) h (fun A33 h => ?_)
  refine G_aload_n 0 (dk_at dk_X3_init_0 35 rfl) rfl ?_
  refine G_sipush (v := 240) (dk_at dk_X3_init_0 36 rfl) (by decide) ?_
  refine K_newi wa_i (dk_at dk_X3_init_0 37 rfl) h (fun r34 A35 b36 c37 h => ?_)
  refine K_pR pf_X3_40 rfl rfl (dk_at dk_X3_init_0 38 rfl) h (fun A38 h => ?_)
  refine G_aload_n 0 (dk_at dk_X3_init_0 39 rfl) rfl ?_
  refine G_sipush (v := 240) (dk_at dk_X3_init_0 40 rfl) (by decide) ?_
  refine K_newi wa_i (dk_at dk_X3_init_0 41 rfl) h (fun r39 A40 b41 c42 h => ?_)
  refine K_pR pf_X3_43 rfl rfl (dk_at dk_X3_init_0 42 rfl) h (fun A43 h => ?_)
  refine G_aload_n 0 (dk_at dk_X3_init_0 43 rfl) rfl ?_
  refine G_bipush (v := 36) (dk_at dk_X3_init_0 44 rfl) (by decide) ?_
  refine K_newi wa_i (dk_at dk_X3_init_0 45 rfl) h (fun r44 A45 b46 c47 h => ?_)
  refine K_pR pf_X3_46 rfl rfl (dk_at dk_X3_init_0 46 rfl) h (fun A48 h => ?_)
  refine G_aload_n 0 (dk_at dk_X3_init_0 47 rfl) rfl ?_
  refine G_iconst (v := 0) (dk_at dk_X3_init_0 48 rfl) (by decide) ?_
  refine K_pI pf_X3_49 (dk_at dk_X3_init_0 49 rfl) h (fun A49 h => ?_)
  refine G_aload_n 0 (dk_at dk_X3_init_1 0 rfl) rfl ?_
  refine G_bipush (v := 16) (dk_at dk_X3_init_1 1 rfl) (by decide) ?_
  refine K_newi wa_i (dk_at dk_X3_init_1 2 rfl) h (fun r50 A51 b52 c53 h => ?_)
  refine K_pR pf_X3_52 rfl rfl (dk_at dk_X3_init_1 3 rfl) h (fun A54 h => ?_)
  refine G_aload_n 0 (dk_at dk_X3_init_1 4 rfl) rfl ?_
  refine G_iconst (v := 0) (dk_at dk_X3_init_1 5 rfl) (by decide) ?_
  refine K_pI pf_X3_55 (dk_at dk_X3_init_1 6 rfl) h (fun A55 h => ?_)
  refine G_aload_n 0 (dk_at dk_X3_init_1 7 rfl) rfl ?_
  refine G_iload_n 1 (dk_at dk_X3_init_1 8 rfl) rfl ?_
  refine K_pI pf_X3_58 (dk_at dk_X3_init_1 9 rfl) h (fun A56 h => ?_)
  refine G_iconst (v := 0) (dk_at dk_X3_init_1 10 rfl) (by decide) ?_
  refine G_istore (lv' := [(5, .int 0), (0, .ref v0), (1, .int v1), (2, .int v2), (3, .int v3), (4, .int v4)]) (dk_at dk_X3_init_1 11 rfl) (by decide) rfl ?_
  refine G_sub [1, 2, 3, 4, 5, 0] rfl ?_
  exact h
theorem k_X3_init_122 {l : Launch} {X : XT} {d : Nat} {Q : Ot → AH → Prop} {A : AH} {bc bs : Nat} {v0 : Nat} {v1 : Int32} {v2 : Int32} {v3 : Int32} {v4 : Int32} {v5 : Int32} (h : (v1 ≤ v5 → G l X M_X3_init d Q 180 [(0, .ref v0), (1, .int v1), (3, .int v3), (4, .int v4), (5, .int 0)] [] A bc bs) ∧ (¬ v1 ≤ v5 → gR A v0 4 4 fun r1 => Cal l X d bc bs M_X5_put [.ref r1, .int v5, .int (((v2 + (37 * v5)) + ((v5 * v5) / 5)) - ((v2 + (37 * v5)) + ((v5 * v5) / 5)) / 251 * 251)] A fun o5 A2 b3 c4 => zV o5 <| gR A2 v0 4 5 fun r6 => Cal l X d b3 c4 M_X5_put [.ref r6, .int v5, .int (((v2 + (37 * v5)) + ((v5 * v5) / 5)) - ((v2 + (37 * v5)) + ((v5 * v5) / 5)) / 251 * 251)] A2 fun o10 A7 b8 c9 => zV o10 <| G l X M_X3_init d Q 122 [(0, .ref v0), (1, .int v1), (2, .int v2), (3, .int v3), (4, .int v4), (5, .int (v5 + 1))] [] A7 b8 c9)) : G l X M_X3_init d Q 122 [(0, .ref v0), (1, .int v1), (2, .int v2), (3, .int v3), (4, .int v4), (5, .int v5)] [] A bc bs := by
  refine G_iload 5 (dk_at dk_X3_init_1 12 rfl) rfl ?_
  refine G_iload_n 1 (dk_at dk_X3_init_1 13 rfl) rfl ?_
  refine G_icmp_ge (tgt := 177) (dk_at dk_X3_init_1 14 rfl) (by decide) (fun c => ?_) (fun c => ?_)
  · replace h := h.1 c
    refine G_iconst (v := 0) (dk_at dk_X3_init_1 41 rfl) (by decide) ?_
    refine G_istore (lv' := [(5, .int 0), (0, .ref v0), (1, .int v1), (2, .int v2), (3, .int v3), (4, .int v4)]) (dk_at dk_X3_init_1 42 rfl) (by decide) rfl ?_
    refine G_sub [1, 2, 4, 5, 0] rfl ?_
    exact h
  · replace h := h.2 c
    refine G_iload_n 2 (dk_at dk_X3_init_1 15 rfl) rfl ?_
    refine G_bipush (v := 37) (dk_at dk_X3_init_1 16 rfl) (by decide) ?_
    refine G_iload 5 (dk_at dk_X3_init_1 17 rfl) rfl ?_
    refine G_imul (dk_at dk_X3_init_1 18 rfl) ?_
    refine G_iadd (dk_at dk_X3_init_1 19 rfl) ?_
    refine G_iload 5 (dk_at dk_X3_init_1 20 rfl) rfl ?_
    refine G_iload 5 (dk_at dk_X3_init_1 21 rfl) rfl ?_
    refine G_imul (dk_at dk_X3_init_1 22 rfl) ?_
    refine G_iconst (v := 5) (dk_at dk_X3_init_1 23 rfl) (by decide) ?_
    refine G_idiv (dk_at dk_X3_init_1 24 rfl) (by decide) ?_
    refine G_iadd (dk_at dk_X3_init_1 25 rfl) ?_
    refine G_sipush (v := 251) (dk_at dk_X3_init_1 26 rfl) (by decide) ?_
    refine G_irem (dk_at dk_X3_init_1 27 rfl) (by decide) ?_
    refine G_istore (lv' := [(6, .int (((v2 + (37 * v5)) + ((v5 * v5) / 5)) - ((v2 + (37 * v5)) + ((v5 * v5) / 5)) / 251 * 251)), (0, .ref v0), (1, .int v1), (2, .int v2), (3, .int v3), (4, .int v4), (5, .int v5)]) (dk_at dk_X3_init_1 28 rfl) (by decide) rfl ?_
    refine G_aload_n 1 (dk_at dk_X3_init_1 29 rfl) rfl ?_
    refine K_gR gf_X3_21 (dk_at dk_X3_init_1 30 rfl) h (fun r1 h => ?_)
    refine G_iload 6 (dk_at dk_X3_init_1 31 rfl) rfl ?_
    refine G_iload 0 (dk_at dk_X3_init_1 32 rfl) rfl ?_
    refine G_callSN (As := [.ref r1, .int v5, .int (((v2 + (37 * v5)) + ((v5 * v5) / 5)) - ((v2 + (37 * v5)) + ((v5 * v5) / 5)) / 251 * 251)]) (rest := []) lk_X3_61 (dk_at dk_X3_init_1 33 rfl) rfl rfl (Nat.le_of_ble_eq_true rfl) (h.mono fun o5 A2 b3 c4 h => atfV h fun h => ?_)
    refine G_aload_n 1 (dk_at dk_X3_init_1 34 rfl) rfl ?_
    refine K_gR gf_X3_25 (dk_at dk_X3_init_1 35 rfl) h (fun r6 h => ?_)
    refine G_iload 6 (dk_at dk_X3_init_1 36 rfl) rfl ?_
    refine G_iload 0 (dk_at dk_X3_init_1 37 rfl) rfl ?_
    refine G_callSN (As := [.ref r6, .int v5, .int (((v2 + (37 * v5)) + ((v5 * v5) / 5)) - ((v2 + (37 * v5)) + ((v5 * v5) / 5)) / 251 * 251)]) (rest := []) lk_X3_61 (dk_at dk_X3_init_1 38 rfl) rfl rfl (Nat.le_of_ble_eq_true rfl) (h.mono fun o10 A7 b8 c9 h => atfV h fun h => ?_)
    refine G_iinc (v := v5 + 1) (lv' := [(5, .int (v5 + 1)), (6, .int (((v2 + (37 * v5)) + ((v5 * v5) / 5)) - ((v2 + (37 * v5)) + ((v5 * v5) / 5)) / 251 * 251)), (0, .ref v0), (1, .int v1), (2, .int v2), (3, .int v3), (4, .int v4)]) 6 (dk_at dk_X3_init_1 39 rfl) rfl rfl (by decide) rfl ?_
    refine G_goto (tgt := 122) (dk_at dk_X3_init_1 40 rfl) (by decide) ?_
    refine G_sub [2, 3, 4, 5, 6, 0] rfl ?_
    exact h
theorem k_X3_init_180 {l : Launch} {X : XT} {d : Nat} {Q : Ot → AH → Prop} {A : AH} {bc bs : Nat} {v0 : Nat} {v1 : Int32} {v3 : Int32} {v4 : Int32} {v5 : Int32} (h : (60 ≤ v5 → G l X M_X3_init d Q 223 [(0, .ref v0), (1, .int v1)] [] A bc bs) ∧ (¬ 60 ≤ v5 → (v1 ≤ (v5 * v3) → G l X M_X3_init d Q 223 [(0, .ref v0), (1, .int v1)] [] A bc bs) ∧ (¬ v1 ≤ (v5 * v3) → isO A v0 4 ∧ Cal l X d bc bs M_X3_addPiece [.ref v0, .int (v5 * v3), .int (if (v1 - (v5 * v3)) < v3 then (v1 - (v5 * v3)) else v3), .int v4] A fun o4 A1 b2 c3 => rV o4 (fun E => Q (.inr E) A1) <| G l X M_X3_init d Q 180 [(0, .ref v0), (1, .int v1), (3, .int v3), (4, .int v4), (5, .int (v5 + 1))] [] A1 b2 c3))) : G l X M_X3_init d Q 180 [(0, .ref v0), (1, .int v1), (3, .int v3), (4, .int v4), (5, .int v5)] [] A bc bs := by
  refine G_iload 4 (dk_at dk_X3_init_1 43 rfl) rfl ?_
  refine G_bipush (v := 60) (dk_at dk_X3_init_1 44 rfl) (by decide) ?_
  refine G_icmp_ge (tgt := 223) (dk_at dk_X3_init_1 45 rfl) (by decide) (fun c => ?_) (fun c => ?_)
  · replace h := h.1 c
    refine G_sub [0, 1] rfl ?_
    exact h
  · replace h := h.2 c
    refine G_iload 4 (dk_at dk_X3_init_1 46 rfl) rfl ?_
    refine G_iload_n 2 (dk_at dk_X3_init_1 47 rfl) rfl ?_
    refine G_imul (dk_at dk_X3_init_1 48 rfl) ?_
    refine G_iload_n 1 (dk_at dk_X3_init_1 49 rfl) rfl ?_
    refine G_icmp_ge (tgt := 223) (dk_at dk_X3_init_2 0 rfl) (by decide) (fun c => ?_) (fun c => ?_)
    · replace h := h.1 c
      refine G_sub [0, 1] rfl ?_
      exact h
    · replace h := h.2 c
      refine G_iload 4 (dk_at dk_X3_init_2 1 rfl) rfl ?_
      refine G_iload_n 2 (dk_at dk_X3_init_2 2 rfl) rfl ?_
      refine G_imul (dk_at dk_X3_init_2 3 rfl) ?_
      refine G_istore (lv' := [(6, .int (v5 * v3)), (0, .ref v0), (1, .int v1), (3, .int v3), (4, .int v4), (5, .int v5)]) (dk_at dk_X3_init_2 4 rfl) (by decide) rfl ?_
      refine G_aload_n 1 (dk_at dk_X3_init_2 5 rfl) rfl ?_
      refine G_iload 0 (dk_at dk_X3_init_2 6 rfl) rfl ?_
      refine G_iload_n 3 (dk_at dk_X3_init_2 7 rfl) rfl ?_
      refine G_iload_n 2 (dk_at dk_X3_init_2 8 rfl) rfl ?_
      refine G_iload 0 (dk_at dk_X3_init_2 9 rfl) rfl ?_
      refine G_isub (dk_at dk_X3_init_2 10 rfl) ?_
      refine G_min wd_10 wm_min1 wm_2 wm_min3 (dk_at dk_X3_init_2 11 rfl) (Nat.le_of_ble_eq_true rfl) ?_
      refine G_iload 4 (dk_at dk_X3_init_2 12 rfl) rfl ?_
      obtain ⟨⟨_, ho⟩, h⟩ := h
      refine G_callV (As := [.int (v5 * v3), .int (if (v1 - (v5 * v3)) < v3 then (v1 - (v5 * v3)) else v3), .int v4]) (rest := []) lk_X3_71 rfl (dk_at dk_X3_init_2 13 rfl) rfl rfl (Nat.le_of_ble_eq_true rfl) ho (h.mono fun o4 A1 b2 c3 h => aftV h fun h => ?_)
      refine G_iinc (v := v5 + 1) (lv' := [(5, .int (v5 + 1)), (6, .int (v5 * v3)), (0, .ref v0), (1, .int v1), (3, .int v3), (4, .int v4)]) 5 (dk_at dk_X3_init_2 14 rfl) rfl rfl (by decide) rfl ?_
      refine G_goto (tgt := 180) (dk_at dk_X3_init_2 15 rfl) (by decide) ?_
      refine G_sub [2, 3, 4, 5, 0] rfl ?_
      exact h
theorem k_X3_init_223 {l : Launch} {X : XT} {d : Nat} {Q : Ot → AH → Prop} {A : AH} {bc bs : Nat} {v0 : Nat} {v1 : Int32} (h : gR A v0 4 7 fun r1 => gI A v0 4 2 fun i2 => Cal l X d bc bs M_X5_put [.ref r1, .int i2, .int v1] A fun o6 A3 b4 c5 => zV o6 <| gR A3 v0 4 8 fun r7 => gI A3 v0 4 2 fun i8 => gI A3 v0 4 3 fun i9 => Cal l X d b4 c5 M_X5_put [.ref r7, .int i8, .int i9] A3 fun o13 A10 b11 c12 => zV o13 <| gR A10 v0 4 9 fun r14 => gI A10 v0 4 3 fun i15 => Cal l X d b11 c12 M_X5_put [.ref r14, .int i15, .int v1] A10 fun o19 A16 b17 c18 => zV o19 <| Q Rv A16) : G l X M_X3_init d Q 223 [(0, .ref v0), (1, .int v1)] [] A bc bs := by
  refine G_aload_n 0 (dk_at dk_X3_init_2 16 rfl) rfl ?_
  refine K_gR gf_X3_31 (dk_at dk_X3_init_2 17 rfl) h (fun r1 h => ?_)
  refine G_aload_n 0 (dk_at dk_X3_init_2 18 rfl) rfl ?_
  refine K_gI gf_X3_15 (dk_at dk_X3_init_2 19 rfl) h (fun i2 h => ?_)
  refine G_iload_n 1 (dk_at dk_X3_init_2 20 rfl) rfl ?_
  refine G_callSN (As := [.ref r1, .int i2, .int v1]) (rest := []) lk_X3_61 (dk_at dk_X3_init_2 21 rfl) rfl rfl (Nat.le_of_ble_eq_true rfl) (h.mono fun o6 A3 b4 c5 h => atfV h fun h => ?_)
  refine G_aload_n 0 (dk_at dk_X3_init_2 22 rfl) rfl ?_
  refine K_gR gf_X3_34 (dk_at dk_X3_init_2 23 rfl) h (fun r7 h => ?_)
  refine G_aload_n 0 (dk_at dk_X3_init_2 24 rfl) rfl ?_
  refine K_gI gf_X3_15 (dk_at dk_X3_init_2 25 rfl) h (fun i8 h => ?_)
  refine G_aload_n 0 (dk_at dk_X3_init_2 26 rfl) rfl ?_
  refine K_gI gf_X3_18 (dk_at dk_X3_init_2 27 rfl) h (fun i9 h => ?_)
  refine G_callSN (As := [.ref r7, .int i8, .int i9]) (rest := []) lk_X3_61 (dk_at dk_X3_init_2 28 rfl) rfl rfl (Nat.le_of_ble_eq_true rfl) (h.mono fun o13 A10 b11 c12 h => atfV h fun h => ?_)
  refine G_aload_n 0 (dk_at dk_X3_init_2 29 rfl) rfl ?_
  refine K_gR gf_X3_37 (dk_at dk_X3_init_2 30 rfl) h (fun r14 h => ?_)
  refine G_aload_n 0 (dk_at dk_X3_init_2 31 rfl) rfl ?_
  refine K_gI gf_X3_18 (dk_at dk_X3_init_2 32 rfl) h (fun i15 h => ?_)
  refine G_iload_n 1 (dk_at dk_X3_init_2 33 rfl) rfl ?_
  refine G_callSN (As := [.ref r14, .int i15, .int v1]) (rest := []) lk_X3_61 (dk_at dk_X3_init_2 34 rfl) rfl rfl (Nat.le_of_ble_eq_true rfl) (h.mono fun o19 A16 b17 c18 h => atfV h fun h => ?_)
  exact G_vret rfl (dk_at dk_X3_init_2 35 rfl) h
theorem k_X3_addPiece_0 {l : Launch} {X : XT} {d : Nat} {Q : Ot → AH → Prop} {A : AH} {bc bs : Nat} {v0 : Nat} {v1 : Int32} {v2 : Int32} {v3 : Int32} (h : gR A v0 4 7 fun r1 => gI A v0 4 2 fun i2 => Cal l X d bc bs M_X5_put [.ref r1, .int i2, .int v1] A fun o6 A3 b4 c5 => zV o6 <| gR A3 v0 4 8 fun r7 => gI A3 v0 4 2 fun i8 => gI A3 v0 4 3 fun i9 => Cal l X d b4 c5 M_X5_put [.ref r7, .int i8, .int i9] A3 fun o13 A10 b11 c12 => zV o13 <| gR A10 v0 4 6 fun r14 => gI A10 v0 4 2 fun i15 => gR A10 v0 4 4 fun r16 => Cal l X d b11 c12 M_X5_sumOf [.ref r16, .int v1, .int v2] A10 fun o20 A17 b18 c19 => zI o20 fun i21 => Cal l X d b18 c19 M_X5_put [.ref r14, .int i15, .int i21] A17 fun o25 A22 b23 c24 => zV o25 <| G l X M_X3_addPiece d Q 50 [(0, .ref v0), (1, .int v1), (2, .int v2), (3, .int v3), (4, .int 0)] [] A22 b23 c24) : G l X M_X3_addPiece d Q 0 [(0, .ref v0), (1, .int v1), (2, .int v2), (3, .int v3)] [] A bc bs := by
  refine G_aload_n 0 (dk_at dk_X3_addPiece 0 rfl) rfl ?_
  refine K_gR gf_X3_31 (dk_at dk_X3_addPiece 1 rfl) h (fun r1 h => ?_)
  refine G_aload_n 0 (dk_at dk_X3_addPiece 2 rfl) rfl ?_
  refine K_gI gf_X3_15 (dk_at dk_X3_addPiece 3 rfl) h (fun i2 h => ?_)
  refine G_iload_n 1 (dk_at dk_X3_addPiece 4 rfl) rfl ?_
  refine G_callSN (As := [.ref r1, .int i2, .int v1]) (rest := []) lk_X3_61 (dk_at dk_X3_addPiece 5 rfl) rfl rfl (Nat.le_of_ble_eq_true rfl) (h.mono fun o6 A3 b4 c5 h => atfV h fun h => ?_)
  refine G_aload_n 0 (dk_at dk_X3_addPiece 6 rfl) rfl ?_
  refine K_gR gf_X3_34 (dk_at dk_X3_addPiece 7 rfl) h (fun r7 h => ?_)
  refine G_aload_n 0 (dk_at dk_X3_addPiece 8 rfl) rfl ?_
  refine K_gI gf_X3_15 (dk_at dk_X3_addPiece 9 rfl) h (fun i8 h => ?_)
  refine G_aload_n 0 (dk_at dk_X3_addPiece 10 rfl) rfl ?_
  refine K_gI gf_X3_18 (dk_at dk_X3_addPiece 11 rfl) h (fun i9 h => ?_)
  refine G_callSN (As := [.ref r7, .int i8, .int i9]) (rest := []) lk_X3_61 (dk_at dk_X3_addPiece 12 rfl) rfl rfl (Nat.le_of_ble_eq_true rfl) (h.mono fun o13 A10 b11 c12 h => atfV h fun h => ?_)
  refine G_aload_n 0 (dk_at dk_X3_addPiece 13 rfl) rfl ?_
  refine K_gR gf_X3_28 (dk_at dk_X3_addPiece 14 rfl) h (fun r14 h => ?_)
  refine G_aload_n 0 (dk_at dk_X3_addPiece 15 rfl) rfl ?_
  refine K_gI gf_X3_15 (dk_at dk_X3_addPiece 16 rfl) h (fun i15 h => ?_)
  refine G_aload_n 0 (dk_at dk_X3_addPiece 17 rfl) rfl ?_
  refine K_gR gf_X3_21 (dk_at dk_X3_addPiece 18 rfl) h (fun r16 h => ?_)
  refine G_iload_n 1 (dk_at dk_X3_addPiece 19 rfl) rfl ?_
  refine G_iload_n 2 (dk_at dk_X3_addPiece 20 rfl) rfl ?_
  refine G_callSN (As := [.ref r16, .int v1, .int v2]) (rest := [.int i15, .ref r14]) lk_X3_75 (dk_at dk_X3_addPiece 21 rfl) rfl rfl (Nat.le_of_ble_eq_true rfl) (h.mono fun o20 A17 b18 c19 h => atfI h fun i21 h => ?_)
  refine G_callSN (As := [.ref r14, .int i15, .int i21]) (rest := []) lk_X3_61 (dk_at dk_X3_addPiece 22 rfl) rfl rfl (Nat.le_of_ble_eq_true rfl) (h.mono fun o25 A22 b23 c24 h => atfV h fun h => ?_)
  refine G_iconst (v := 0) (dk_at dk_X3_addPiece 23 rfl) (by decide) ?_
  refine G_istore (lv' := [(4, .int 0), (0, .ref v0), (1, .int v1), (2, .int v2), (3, .int v3)]) (dk_at dk_X3_addPiece 24 rfl) (by decide) rfl ?_
  refine G_sub [1, 2, 3, 4, 0] rfl ?_
  exact h
theorem k_X3_addPiece_50 {l : Launch} {X : XT} {d : Nat} {Q : Ot → AH → Prop} {A : AH} {bc bs : Nat} {v0 : Nat} {v1 : Int32} {v2 : Int32} {v3 : Int32} {v4 : Int32} (h : (v2 ≤ v4 → G l X M_X3_addPiece d Q 92 [(0, .ref v0)] [] A bc bs) ∧ (¬ v2 ≤ v4 → (v2 ≤ (v4 * v3) → G l X M_X3_addPiece d Q 92 [(0, .ref v0)] [] A bc bs) ∧ (¬ v2 ≤ (v4 * v3) → isO A v0 4 ∧ Cal l X d bc bs M_X3_addPart [.ref v0, .int (v1 + (v4 * v3)), .int (if (v2 - (v4 * v3)) < v3 then (v2 - (v4 * v3)) else v3)] A fun o4 A1 b2 c3 => rV o4 (fun E => Q (.inr E) A1) <| G l X M_X3_addPiece d Q 50 [(0, .ref v0), (1, .int v1), (2, .int v2), (3, .int v3), (4, .int (v4 + 1))] [] A1 b2 c3))) : G l X M_X3_addPiece d Q 50 [(0, .ref v0), (1, .int v1), (2, .int v2), (3, .int v3), (4, .int v4)] [] A bc bs := by
  refine G_iload 4 (dk_at dk_X3_addPiece 25 rfl) rfl ?_
  refine G_iload_n 2 (dk_at dk_X3_addPiece 26 rfl) rfl ?_
  refine G_icmp_ge (tgt := 92) (dk_at dk_X3_addPiece 27 rfl) (by decide) (fun c => ?_) (fun c => ?_)
  · replace h := h.1 c
    refine G_sub [0] rfl ?_
    exact h
  · replace h := h.2 c
    refine G_iload 4 (dk_at dk_X3_addPiece 28 rfl) rfl ?_
    refine G_iload_n 3 (dk_at dk_X3_addPiece 29 rfl) rfl ?_
    refine G_imul (dk_at dk_X3_addPiece 30 rfl) ?_
    refine G_iload_n 2 (dk_at dk_X3_addPiece 31 rfl) rfl ?_
    refine G_icmp_ge (tgt := 92) (dk_at dk_X3_addPiece 32 rfl) (by decide) (fun c => ?_) (fun c => ?_)
    · replace h := h.1 c
      refine G_sub [0] rfl ?_
      exact h
    · replace h := h.2 c
      refine G_iload 4 (dk_at dk_X3_addPiece 33 rfl) rfl ?_
      refine G_iload_n 3 (dk_at dk_X3_addPiece 34 rfl) rfl ?_
      refine G_imul (dk_at dk_X3_addPiece 35 rfl) ?_
      refine G_istore (lv' := [(5, .int (v4 * v3)), (0, .ref v0), (1, .int v1), (2, .int v2), (3, .int v3), (4, .int v4)]) (dk_at dk_X3_addPiece 36 rfl) (by decide) rfl ?_
      refine G_aload_n 1 (dk_at dk_X3_addPiece 37 rfl) rfl ?_
      refine G_iload_n 2 (dk_at dk_X3_addPiece 38 rfl) rfl ?_
      refine G_iload 0 (dk_at dk_X3_addPiece 39 rfl) rfl ?_
      refine G_iadd (dk_at dk_X3_addPiece 40 rfl) ?_
      refine G_iload_n 4 (dk_at dk_X3_addPiece 41 rfl) rfl ?_
      refine G_iload_n 3 (dk_at dk_X3_addPiece 42 rfl) rfl ?_
      refine G_iload 0 (dk_at dk_X3_addPiece 43 rfl) rfl ?_
      refine G_isub (dk_at dk_X3_addPiece 44 rfl) ?_
      refine G_min wd_10 wm_min1 wm_2 wm_min3 (dk_at dk_X3_addPiece 45 rfl) (Nat.le_of_ble_eq_true rfl) ?_
      obtain ⟨⟨_, ho⟩, h⟩ := h
      refine G_callV (As := [.int (v1 + (v4 * v3)), .int (if (v2 - (v4 * v3)) < v3 then (v2 - (v4 * v3)) else v3)]) (rest := []) lk_X3_79 rfl (dk_at dk_X3_addPiece 46 rfl) rfl rfl (Nat.le_of_ble_eq_true rfl) ho (h.mono fun o4 A1 b2 c3 h => aftV h fun h => ?_)
      refine G_iinc (v := v4 + 1) (lv' := [(4, .int (v4 + 1)), (5, .int (v4 * v3)), (0, .ref v0), (1, .int v1), (2, .int v2), (3, .int v3)]) 5 (dk_at dk_X3_addPiece 47 rfl) rfl rfl (by decide) rfl ?_
      refine G_goto (tgt := 50) (dk_at dk_X3_addPiece 48 rfl) (by decide) ?_
      refine G_sub [2, 3, 4, 5, 0] rfl ?_
      exact h
theorem k_X3_addPiece_92 {l : Launch} {X : XT} {d : Nat} {Q : Ot → AH → Prop} {A : AH} {bc bs : Nat} {v0 : Nat} (h : gI A v0 4 2 fun i1 => pV A v0 4 2 (.int (i1 + 1)) fun A2 => Q Rv A2) : G l X M_X3_addPiece d Q 92 [(0, .ref v0)] [] A bc bs := by
  refine G_aload_n 0 (dk_at dk_X3_addPiece 49 rfl) rfl ?_
  refine G_dup (dk_at dk_X3_addPiece 50 rfl) rfl ?_
  refine K_gI gf_X3_15 (dk_at dk_X3_addPiece 51 rfl) h (fun i1 h => ?_)
  refine G_iconst (v := 1) (dk_at dk_X3_addPiece 52 rfl) (by decide) ?_
  refine G_iadd (dk_at dk_X3_addPiece 53 rfl) ?_
  refine K_pI pf_X3_15 (dk_at dk_X3_addPiece 54 rfl) h (fun A2 h => ?_)
  exact G_vret rfl (dk_at dk_X3_addPiece 55 rfl) h
theorem k_X3_addPart_0 {l : Launch} {X : XT} {d : Nat} {Q : Ot → AH → Prop} {A : AH} {bc bs : Nat} {v0 : Nat} {v1 : Int32} {v2 : Int32} (h : gR A v0 4 9 fun r1 => gI A v0 4 3 fun i2 => Cal l X d bc bs M_X5_put [.ref r1, .int i2, .int v1] A fun o6 A3 b4 c5 => zV o6 <| gR A3 v0 4 10 fun r7 => gI A3 v0 4 3 fun i8 => gI A3 v0 4 2 fun i9 => Cal l X d b4 c5 M_X5_put [.ref r7, .int i8, .int i9] A3 fun o13 A10 b11 c12 => zV o13 <| G l X M_X3_addPart d Q 29 [(0, .ref v0), (1, .int v1), (2, .int v2), (3, .int v1)] [] A10 b11 c12) : G l X M_X3_addPart d Q 0 [(0, .ref v0), (1, .int v1), (2, .int v2)] [] A bc bs := by
  refine G_aload_n 0 (dk_at dk_X3_addPart 0 rfl) rfl ?_
  refine K_gR gf_X3_37 (dk_at dk_X3_addPart 1 rfl) h (fun r1 h => ?_)
  refine G_aload_n 0 (dk_at dk_X3_addPart 2 rfl) rfl ?_
  refine K_gI gf_X3_18 (dk_at dk_X3_addPart 3 rfl) h (fun i2 h => ?_)
  refine G_iload_n 1 (dk_at dk_X3_addPart 4 rfl) rfl ?_
  refine G_callSN (As := [.ref r1, .int i2, .int v1]) (rest := []) lk_X3_61 (dk_at dk_X3_addPart 5 rfl) rfl rfl (Nat.le_of_ble_eq_true rfl) (h.mono fun o6 A3 b4 c5 h => atfV h fun h => ?_)
  refine G_aload_n 0 (dk_at dk_X3_addPart 6 rfl) rfl ?_
  refine K_gR gf_X3_40 (dk_at dk_X3_addPart 7 rfl) h (fun r7 h => ?_)
  refine G_aload_n 0 (dk_at dk_X3_addPart 8 rfl) rfl ?_
  refine K_gI gf_X3_18 (dk_at dk_X3_addPart 9 rfl) h (fun i8 h => ?_)
  refine G_aload_n 0 (dk_at dk_X3_addPart 10 rfl) rfl ?_
  refine K_gI gf_X3_15 (dk_at dk_X3_addPart 11 rfl) h (fun i9 h => ?_)
  refine G_callSN (As := [.ref r7, .int i8, .int i9]) (rest := []) lk_X3_61 (dk_at dk_X3_addPart 12 rfl) rfl rfl (Nat.le_of_ble_eq_true rfl) (h.mono fun o13 A10 b11 c12 h => atfV h fun h => ?_)
  refine G_iload_n 1 (dk_at dk_X3_addPart 13 rfl) rfl ?_
  refine G_istore_n (lv' := [(3, .int v1), (0, .ref v0), (1, .int v1), (2, .int v2)]) (dk_at dk_X3_addPart 14 rfl) (by decide) rfl ?_
  refine G_sub [1, 2, 3, 0] rfl ?_
  exact h
theorem k_X3_addPart_29 {l : Launch} {X : XT} {d : Nat} {Q : Ot → AH → Prop} {A : AH} {bc bs : Nat} {v0 : Nat} {v1 : Int32} {v2 : Int32} {v3 : Int32} (h : ((v1 + v2) ≤ v3 → gI A v0 4 3 fun i1 => pV A v0 4 3 (.int (i1 + 1)) fun A2 => Q Rv A2) ∧ (¬ (v1 + v2) ≤ v3 → gR A v0 4 11 fun r3 => gI A v0 4 3 fun i4 => Cal l X d bc bs M_X5_put [.ref r3, .int v3, .int i4] A fun o8 A5 b6 c7 => zV o8 <| G l X M_X3_addPart d Q 29 [(0, .ref v0), (1, .int v1), (2, .int v2), (3, .int (v3 + 1))] [] A5 b6 c7)) : G l X M_X3_addPart d Q 29 [(0, .ref v0), (1, .int v1), (2, .int v2), (3, .int v3)] [] A bc bs := by
  refine G_iload_n 3 (dk_at dk_X3_addPart 15 rfl) rfl ?_
  refine G_iload_n 1 (dk_at dk_X3_addPart 16 rfl) rfl ?_
  refine G_iload_n 2 (dk_at dk_X3_addPart 17 rfl) rfl ?_
  refine G_iadd (dk_at dk_X3_addPart 18 rfl) ?_
  refine G_icmp_ge (tgt := 54) (dk_at dk_X3_addPart 19 rfl) (by decide) (fun c => ?_) (fun c => ?_)
  · replace h := h.1 c
    refine G_aload_n 0 (dk_at dk_X3_addPart 28 rfl) rfl ?_
    refine G_dup (dk_at dk_X3_addPart 29 rfl) rfl ?_
    refine K_gI gf_X3_18 (dk_at dk_X3_addPart 30 rfl) h (fun i1 h => ?_)
    refine G_iconst (v := 1) (dk_at dk_X3_addPart 31 rfl) (by decide) ?_
    refine G_iadd (dk_at dk_X3_addPart 32 rfl) ?_
    refine K_pI pf_X3_18 (dk_at dk_X3_addPart 33 rfl) h (fun A2 h => ?_)
    exact G_vret rfl (dk_at dk_X3_addPart 34 rfl) h
  · replace h := h.2 c
    refine G_aload_n 0 (dk_at dk_X3_addPart 20 rfl) rfl ?_
    refine K_gR gf_X3_43 (dk_at dk_X3_addPart 21 rfl) h (fun r3 h => ?_)
    refine G_iload_n 3 (dk_at dk_X3_addPart 22 rfl) rfl ?_
    refine G_aload_n 0 (dk_at dk_X3_addPart 23 rfl) rfl ?_
    refine K_gI gf_X3_18 (dk_at dk_X3_addPart 24 rfl) h (fun i4 h => ?_)
    refine G_callSN (As := [.ref r3, .int v3, .int i4]) (rest := []) lk_X3_61 (dk_at dk_X3_addPart 25 rfl) rfl rfl (Nat.le_of_ble_eq_true rfl) (h.mono fun o8 A5 b6 c7 h => atfV h fun h => ?_)
    refine G_iinc (v := v3 + 1) (lv' := [(3, .int (v3 + 1)), (0, .ref v0), (1, .int v1), (2, .int v2)]) 3 (dk_at dk_X3_addPart 26 rfl) rfl rfl (by decide) rfl ?_
    refine G_goto (tgt := 29) (dk_at dk_X3_addPart 27 rfl) (by decide) ?_
    refine G_sub [1, 2, 3, 0] rfl ?_
    exact h
theorem k_X3_addFlaw_0 {l : Launch} {X : XT} {d : Nat} {Q : Ot → AH → Prop} {A : AH} {bc bs : Nat} {v0 : Nat} {v1 : Int32} {v2 : Int32} (h : gR A v0 4 5 fun r1 => Cal l X d bc bs M_X5_addTo [.ref r1, .int v1, .int v2] A fun o5 A2 b3 c4 => zV o5 <| Q Rv A2) : G l X M_X3_addFlaw d Q 0 [(0, .ref v0), (1, .int v1), (2, .int v2)] [] A bc bs := by
  refine G_aload_n 0 (dk_at dk_X3_addFlaw 0 rfl) rfl ?_
  refine K_gR gf_X3_25 (dk_at dk_X3_addFlaw 1 rfl) h (fun r1 h => ?_)
  refine G_iload_n 1 (dk_at dk_X3_addFlaw 2 rfl) rfl ?_
  refine G_iload_n 2 (dk_at dk_X3_addFlaw 3 rfl) rfl ?_
  refine G_callSN (As := [.ref r1, .int v1, .int v2]) (rest := []) lk_X3_83 (dk_at dk_X3_addFlaw 4 rfl) rfl rfl (Nat.le_of_ble_eq_true rfl) (h.mono fun o5 A2 b3 c4 h => atfV h fun h => ?_)
  exact G_vret rfl (dk_at dk_X3_addFlaw 5 rfl) h
theorem k_X3_addBreak_0 {l : Launch} {X : XT} {d : Nat} {Q : Ot → AH → Prop} {A : AH} {bc bs : Nat} {v0 : Nat} {v1 : Int32} {v2 : Int32} {v3 : Int32} (h : gR A v0 4 12 fun r1 => gI A v0 4 13 fun i2 => Cal l X d bc bs M_X5_put [.ref r1, .int (3 * i2), .int v1] A fun o6 A3 b4 c5 => zV o6 <| gR A3 v0 4 12 fun r7 => gI A3 v0 4 13 fun i8 => Cal l X d b4 c5 M_X5_put [.ref r7, .int ((3 * i8) + 1), .int v2] A3 fun o12 A9 b10 c11 => zV o12 <| gR A9 v0 4 12 fun r13 => gI A9 v0 4 13 fun i14 => Cal l X d b10 c11 M_X5_put [.ref r13, .int ((3 * i14) + 2), .int v3] A9 fun o18 A15 b16 c17 => zV o18 <| gI A15 v0 4 13 fun i19 => pV A15 v0 4 13 (.int (i19 + 1)) fun A20 => Q Rv A20) : G l X M_X3_addBreak d Q 0 [(0, .ref v0), (1, .int v1), (2, .int v2), (3, .int v3)] [] A bc bs := by
  refine G_aload_n 0 (dk_at dk_X3_addBreak 0 rfl) rfl ?_
  refine K_gR gf_X3_46 (dk_at dk_X3_addBreak 1 rfl) h (fun r1 h => ?_)
  refine G_iconst (v := 3) (dk_at dk_X3_addBreak 2 rfl) (by decide) ?_
  refine G_aload_n 0 (dk_at dk_X3_addBreak 3 rfl) rfl ?_
  refine K_gI gf_X3_49 (dk_at dk_X3_addBreak 4 rfl) h (fun i2 h => ?_)
  refine G_imul (dk_at dk_X3_addBreak 5 rfl) ?_
  refine G_iload_n 1 (dk_at dk_X3_addBreak 6 rfl) rfl ?_
  refine G_callSN (As := [.ref r1, .int (3 * i2), .int v1]) (rest := []) lk_X3_61 (dk_at dk_X3_addBreak 7 rfl) rfl rfl (Nat.le_of_ble_eq_true rfl) (h.mono fun o6 A3 b4 c5 h => atfV h fun h => ?_)
  refine G_aload_n 0 (dk_at dk_X3_addBreak 8 rfl) rfl ?_
  refine K_gR gf_X3_46 (dk_at dk_X3_addBreak 9 rfl) h (fun r7 h => ?_)
  refine G_iconst (v := 3) (dk_at dk_X3_addBreak 10 rfl) (by decide) ?_
  refine G_aload_n 0 (dk_at dk_X3_addBreak 11 rfl) rfl ?_
  refine K_gI gf_X3_49 (dk_at dk_X3_addBreak 12 rfl) h (fun i8 h => ?_)
  refine G_imul (dk_at dk_X3_addBreak 13 rfl) ?_
  refine G_iconst (v := 1) (dk_at dk_X3_addBreak 14 rfl) (by decide) ?_
  refine G_iadd (dk_at dk_X3_addBreak 15 rfl) ?_
  refine G_iload_n 2 (dk_at dk_X3_addBreak 16 rfl) rfl ?_
  refine G_callSN (As := [.ref r7, .int ((3 * i8) + 1), .int v2]) (rest := []) lk_X3_61 (dk_at dk_X3_addBreak 17 rfl) rfl rfl (Nat.le_of_ble_eq_true rfl) (h.mono fun o12 A9 b10 c11 h => atfV h fun h => ?_)
  refine G_aload_n 0 (dk_at dk_X3_addBreak 18 rfl) rfl ?_
  refine K_gR gf_X3_46 (dk_at dk_X3_addBreak 19 rfl) h (fun r13 h => ?_)
  refine G_iconst (v := 3) (dk_at dk_X3_addBreak 20 rfl) (by decide) ?_
  refine G_aload_n 0 (dk_at dk_X3_addBreak 21 rfl) rfl ?_
  refine K_gI gf_X3_49 (dk_at dk_X3_addBreak 22 rfl) h (fun i14 h => ?_)
  refine G_imul (dk_at dk_X3_addBreak 23 rfl) ?_
  refine G_iconst (v := 2) (dk_at dk_X3_addBreak 24 rfl) (by decide) ?_
  refine G_iadd (dk_at dk_X3_addBreak 25 rfl) ?_
  refine G_iload_n 3 (dk_at dk_X3_addBreak 26 rfl) rfl ?_
  refine G_callSN (As := [.ref r13, .int ((3 * i14) + 2), .int v3]) (rest := []) lk_X3_61 (dk_at dk_X3_addBreak 27 rfl) rfl rfl (Nat.le_of_ble_eq_true rfl) (h.mono fun o18 A15 b16 c17 h => atfV h fun h => ?_)
  refine G_aload_n 0 (dk_at dk_X3_addBreak 28 rfl) rfl ?_
  refine G_dup (dk_at dk_X3_addBreak 29 rfl) rfl ?_
  refine K_gI gf_X3_49 (dk_at dk_X3_addBreak 30 rfl) h (fun i19 h => ?_)
  refine G_iconst (v := 1) (dk_at dk_X3_addBreak 31 rfl) (by decide) ?_
  refine G_iadd (dk_at dk_X3_addBreak 32 rfl) ?_
  refine K_pI pf_X3_49 (dk_at dk_X3_addBreak 33 rfl) h (fun A20 h => ?_)
  exact G_vret rfl (dk_at dk_X3_addBreak 34 rfl) h
theorem k_X3_addCut_0 {l : Launch} {X : XT} {d : Nat} {Q : Ot → AH → Prop} {A : AH} {bc bs : Nat} {v0 : Nat} {v1 : Int32} {v2 : Int32} (h : gR A v0 4 14 fun r1 => gI A v0 4 15 fun i2 => Cal l X d bc bs M_X5_put [.ref r1, .int (2 * i2), .int v1] A fun o6 A3 b4 c5 => zV o6 <| gR A3 v0 4 14 fun r7 => gI A3 v0 4 15 fun i8 => Cal l X d b4 c5 M_X5_put [.ref r7, .int ((2 * i8) + 1), .int v2] A3 fun o12 A9 b10 c11 => zV o12 <| gI A9 v0 4 15 fun i13 => pV A9 v0 4 15 (.int (i13 + 1)) fun A14 => Q Rv A14) : G l X M_X3_addCut d Q 0 [(0, .ref v0), (1, .int v1), (2, .int v2)] [] A bc bs := by
  refine G_aload_n 0 (dk_at dk_X3_addCut 0 rfl) rfl ?_
  refine K_gR gf_X3_52 (dk_at dk_X3_addCut 1 rfl) h (fun r1 h => ?_)
  refine G_iconst (v := 2) (dk_at dk_X3_addCut 2 rfl) (by decide) ?_
  refine G_aload_n 0 (dk_at dk_X3_addCut 3 rfl) rfl ?_
  refine K_gI gf_X3_55 (dk_at dk_X3_addCut 4 rfl) h (fun i2 h => ?_)
  refine G_imul (dk_at dk_X3_addCut 5 rfl) ?_
  refine G_iload_n 1 (dk_at dk_X3_addCut 6 rfl) rfl ?_
  refine G_callSN (As := [.ref r1, .int (2 * i2), .int v1]) (rest := []) lk_X3_61 (dk_at dk_X3_addCut 7 rfl) rfl rfl (Nat.le_of_ble_eq_true rfl) (h.mono fun o6 A3 b4 c5 h => atfV h fun h => ?_)
  refine G_aload_n 0 (dk_at dk_X3_addCut 8 rfl) rfl ?_
  refine K_gR gf_X3_52 (dk_at dk_X3_addCut 9 rfl) h (fun r7 h => ?_)
  refine G_iconst (v := 2) (dk_at dk_X3_addCut 10 rfl) (by decide) ?_
  refine G_aload_n 0 (dk_at dk_X3_addCut 11 rfl) rfl ?_
  refine K_gI gf_X3_55 (dk_at dk_X3_addCut 12 rfl) h (fun i8 h => ?_)
  refine G_imul (dk_at dk_X3_addCut 13 rfl) ?_
  refine G_iconst (v := 1) (dk_at dk_X3_addCut 14 rfl) (by decide) ?_
  refine G_iadd (dk_at dk_X3_addCut 15 rfl) ?_
  refine G_iload_n 2 (dk_at dk_X3_addCut 16 rfl) rfl ?_
  refine G_callSN (As := [.ref r7, .int ((2 * i8) + 1), .int v2]) (rest := []) lk_X3_61 (dk_at dk_X3_addCut 17 rfl) rfl rfl (Nat.le_of_ble_eq_true rfl) (h.mono fun o12 A9 b10 c11 h => atfV h fun h => ?_)
  refine G_aload_n 0 (dk_at dk_X3_addCut 18 rfl) rfl ?_
  refine G_dup (dk_at dk_X3_addCut 19 rfl) rfl ?_
  refine K_gI gf_X3_55 (dk_at dk_X3_addCut 20 rfl) h (fun i13 h => ?_)
  refine G_iconst (v := 1) (dk_at dk_X3_addCut 21 rfl) (by decide) ?_
  refine G_iadd (dk_at dk_X3_addCut 22 rfl) ?_
  refine K_pI pf_X3_55 (dk_at dk_X3_addCut 23 rfl) h (fun A14 h => ?_)
  exact G_vret rfl (dk_at dk_X3_addCut 24 rfl) h
theorem k_X3_bytesOf_0 {l : Launch} {X : XT} {d : Nat} {Q : Ot → AH → Prop} {A : AH} {bc bs : Nat} {v0 : Nat} {v1 : Int32} (h : (¬ v1 = 0 → gR A v0 4 5 fun r1 => Q (Ra r1) A) ∧ (v1 = 0 → gR A v0 4 4 fun r2 => Q (Ra r2) A)) : G l X M_X3_bytesOf d Q 0 [(0, .ref v0), (1, .int v1)] [] A bc bs := by
  refine G_iload_n 1 (dk_at dk_X3_bytesOf 0 rfl) rfl ?_
  refine G_if_ne (tgt := 11) (dk_at dk_X3_bytesOf 1 rfl) (by decide) (fun c => ?_) (fun c => ?_)
  · replace h := h.1 c
    refine G_aload_n 0 (dk_at dk_X3_bytesOf 5 rfl) rfl ?_
    refine K_gR gf_X3_25 (dk_at dk_X3_bytesOf 6 rfl) h (fun r1 h => ?_)
    exact G_aret rfl (Or.inr ⟨_, rfl⟩) (dk_at dk_X3_bytesOf 7 rfl) h
  · replace h := h.2 c
    refine G_aload_n 0 (dk_at dk_X3_bytesOf 2 rfl) rfl ?_
    refine K_gR gf_X3_21 (dk_at dk_X3_bytesOf 3 rfl) h (fun r2 h => ?_)
    refine G_goto (tgt := 15) (dk_at dk_X3_bytesOf 4 rfl) (by decide) ?_
    exact G_aret rfl (Or.inr ⟨_, rfl⟩) (dk_at dk_X3_bytesOf 7 rfl) h
theorem k_X3_partStart_0 {l : Launch} {X : XT} {d : Nat} {Q : Ot → AH → Prop} {A : AH} {bc bs : Nat} {v0 : Nat} {v1 : Int32} (h : gR A v0 4 9 fun r1 => Cal l X d bc bs M_X5_at [.ref r1, .int v1] A fun o5 A2 b3 c4 => zI o5 fun i6 => Q (Ri i6) A2) : G l X M_X3_partStart d Q 0 [(0, .ref v0), (1, .int v1)] [] A bc bs := by
  refine G_aload_n 0 (dk_at dk_X3_partStart 0 rfl) rfl ?_
  refine K_gR gf_X3_37 (dk_at dk_X3_partStart 1 rfl) h (fun r1 h => ?_)
  refine G_iload_n 1 (dk_at dk_X3_partStart 2 rfl) rfl ?_
  refine G_callSN (As := [.ref r1, .int v1]) (rest := []) lk_X3_86 (dk_at dk_X3_partStart 3 rfl) rfl rfl (Nat.le_of_ble_eq_true rfl) (h.mono fun o5 A2 b3 c4 h => atfI h fun i6 h => ?_)
  exact G_iret (ty := .int) rfl rfl (dk_at dk_X3_partStart 4 rfl) h
theorem k_X3_partLength_0 {l : Launch} {X : XT} {d : Nat} {Q : Ot → AH → Prop} {A : AH} {bc bs : Nat} {v0 : Nat} {v1 : Int32} (h : gR A v0 4 9 fun r1 => Cal l X d bc bs M_X5_at [.ref r1, .int (v1 + 1)] A fun o5 A2 b3 c4 => zI o5 fun i6 => gR A2 v0 4 9 fun r7 => Cal l X d b3 c4 M_X5_at [.ref r7, .int v1] A2 fun o11 A8 b9 c10 => zI o11 fun i12 => Q (Ri (i6 - i12)) A8) : G l X M_X3_partLength d Q 0 [(0, .ref v0), (1, .int v1)] [] A bc bs := by
  refine G_aload_n 0 (dk_at dk_X3_partLength 0 rfl) rfl ?_
  refine K_gR gf_X3_37 (dk_at dk_X3_partLength 1 rfl) h (fun r1 h => ?_)
  refine G_iload_n 1 (dk_at dk_X3_partLength 2 rfl) rfl ?_
  refine G_iconst (v := 1) (dk_at dk_X3_partLength 3 rfl) (by decide) ?_
  refine G_iadd (dk_at dk_X3_partLength 4 rfl) ?_
  refine G_callSN (As := [.ref r1, .int (v1 + 1)]) (rest := []) lk_X3_86 (dk_at dk_X3_partLength 5 rfl) rfl rfl (Nat.le_of_ble_eq_true rfl) (h.mono fun o5 A2 b3 c4 h => atfI h fun i6 h => ?_)
  refine G_aload_n 0 (dk_at dk_X3_partLength 6 rfl) rfl ?_
  refine K_gR gf_X3_37 (dk_at dk_X3_partLength 7 rfl) h (fun r7 h => ?_)
  refine G_iload_n 1 (dk_at dk_X3_partLength 8 rfl) rfl ?_
  refine G_callSN (As := [.ref r7, .int v1]) (rest := [.int i6]) lk_X3_86 (dk_at dk_X3_partLength 9 rfl) rfl rfl (Nat.le_of_ble_eq_true rfl) (h.mono fun o11 A8 b9 c10 h => atfI h fun i12 h => ?_)
  refine G_isub (dk_at dk_X3_partLength 10 rfl) ?_
  exact G_iret (ty := .int) rfl rfl (dk_at dk_X3_partLength 11 rfl) h
theorem k_X3_firstPart_0 {l : Launch} {X : XT} {d : Nat} {Q : Ot → AH → Prop} {A : AH} {bc bs : Nat} {v0 : Nat} {v1 : Int32} (h : gR A v0 4 8 fun r1 => Cal l X d bc bs M_X5_at [.ref r1, .int v1] A fun o5 A2 b3 c4 => zI o5 fun i6 => Q (Ri i6) A2) : G l X M_X3_firstPart d Q 0 [(0, .ref v0), (1, .int v1)] [] A bc bs := by
  refine G_aload_n 0 (dk_at dk_X3_firstPart 0 rfl) rfl ?_
  refine K_gR gf_X3_34 (dk_at dk_X3_firstPart 1 rfl) h (fun r1 h => ?_)
  refine G_iload_n 1 (dk_at dk_X3_firstPart 2 rfl) rfl ?_
  refine G_callSN (As := [.ref r1, .int v1]) (rest := []) lk_X3_86 (dk_at dk_X3_firstPart 3 rfl) rfl rfl (Nat.le_of_ble_eq_true rfl) (h.mono fun o5 A2 b3 c4 h => atfI h fun i6 h => ?_)
  exact G_iret (ty := .int) rfl rfl (dk_at dk_X3_firstPart 4 rfl) h
theorem k_X3_partsOf_0 {l : Launch} {X : XT} {d : Nat} {Q : Ot → AH → Prop} {A : AH} {bc bs : Nat} {v0 : Nat} {v1 : Int32} (h : gR A v0 4 8 fun r1 => Cal l X d bc bs M_X5_at [.ref r1, .int (v1 + 1)] A fun o5 A2 b3 c4 => zI o5 fun i6 => gR A2 v0 4 8 fun r7 => Cal l X d b3 c4 M_X5_at [.ref r7, .int v1] A2 fun o11 A8 b9 c10 => zI o11 fun i12 => Q (Ri (i6 - i12)) A8) : G l X M_X3_partsOf d Q 0 [(0, .ref v0), (1, .int v1)] [] A bc bs := by
  refine G_aload_n 0 (dk_at dk_X3_partsOf 0 rfl) rfl ?_
  refine K_gR gf_X3_34 (dk_at dk_X3_partsOf 1 rfl) h (fun r1 h => ?_)
  refine G_iload_n 1 (dk_at dk_X3_partsOf 2 rfl) rfl ?_
  refine G_iconst (v := 1) (dk_at dk_X3_partsOf 3 rfl) (by decide) ?_
  refine G_iadd (dk_at dk_X3_partsOf 4 rfl) ?_
  refine G_callSN (As := [.ref r1, .int (v1 + 1)]) (rest := []) lk_X3_86 (dk_at dk_X3_partsOf 5 rfl) rfl rfl (Nat.le_of_ble_eq_true rfl) (h.mono fun o5 A2 b3 c4 h => atfI h fun i6 h => ?_)
  refine G_aload_n 0 (dk_at dk_X3_partsOf 6 rfl) rfl ?_
  refine K_gR gf_X3_34 (dk_at dk_X3_partsOf 7 rfl) h (fun r7 h => ?_)
  refine G_iload_n 1 (dk_at dk_X3_partsOf 8 rfl) rfl ?_
  refine G_callSN (As := [.ref r7, .int v1]) (rest := [.int i6]) lk_X3_86 (dk_at dk_X3_partsOf 9 rfl) rfl rfl (Nat.le_of_ble_eq_true rfl) (h.mono fun o11 A8 b9 c10 h => atfI h fun i12 h => ?_)
  refine G_isub (dk_at dk_X3_partsOf 10 rfl) ?_
  exact G_iret (ty := .int) rfl rfl (dk_at dk_X3_partsOf 11 rfl) h
theorem k_X3_pieceStart_0 {l : Launch} {X : XT} {d : Nat} {Q : Ot → AH → Prop} {A : AH} {bc bs : Nat} {v0 : Nat} {v1 : Int32} (h : gR A v0 4 7 fun r1 => Cal l X d bc bs M_X5_at [.ref r1, .int v1] A fun o5 A2 b3 c4 => zI o5 fun i6 => Q (Ri i6) A2) : G l X M_X3_pieceStart d Q 0 [(0, .ref v0), (1, .int v1)] [] A bc bs := by
  refine G_aload_n 0 (dk_at dk_X3_pieceStart 0 rfl) rfl ?_
  refine K_gR gf_X3_31 (dk_at dk_X3_pieceStart 1 rfl) h (fun r1 h => ?_)
  refine G_iload_n 1 (dk_at dk_X3_pieceStart 2 rfl) rfl ?_
  refine G_callSN (As := [.ref r1, .int v1]) (rest := []) lk_X3_86 (dk_at dk_X3_pieceStart 3 rfl) rfl rfl (Nat.le_of_ble_eq_true rfl) (h.mono fun o5 A2 b3 c4 h => atfI h fun i6 h => ?_)
  exact G_iret (ty := .int) rfl rfl (dk_at dk_X3_pieceStart 4 rfl) h
theorem k_X3_pieceLength_0 {l : Launch} {X : XT} {d : Nat} {Q : Ot → AH → Prop} {A : AH} {bc bs : Nat} {v0 : Nat} {v1 : Int32} (h : gR A v0 4 7 fun r1 => Cal l X d bc bs M_X5_at [.ref r1, .int (v1 + 1)] A fun o5 A2 b3 c4 => zI o5 fun i6 => gR A2 v0 4 7 fun r7 => Cal l X d b3 c4 M_X5_at [.ref r7, .int v1] A2 fun o11 A8 b9 c10 => zI o11 fun i12 => Q (Ri (i6 - i12)) A8) : G l X M_X3_pieceLength d Q 0 [(0, .ref v0), (1, .int v1)] [] A bc bs := by
  refine G_aload_n 0 (dk_at dk_X3_pieceLength 0 rfl) rfl ?_
  refine K_gR gf_X3_31 (dk_at dk_X3_pieceLength 1 rfl) h (fun r1 h => ?_)
  refine G_iload_n 1 (dk_at dk_X3_pieceLength 2 rfl) rfl ?_
  refine G_iconst (v := 1) (dk_at dk_X3_pieceLength 3 rfl) (by decide) ?_
  refine G_iadd (dk_at dk_X3_pieceLength 4 rfl) ?_
  refine G_callSN (As := [.ref r1, .int (v1 + 1)]) (rest := []) lk_X3_86 (dk_at dk_X3_pieceLength 5 rfl) rfl rfl (Nat.le_of_ble_eq_true rfl) (h.mono fun o5 A2 b3 c4 h => atfI h fun i6 h => ?_)
  refine G_aload_n 0 (dk_at dk_X3_pieceLength 6 rfl) rfl ?_
  refine K_gR gf_X3_31 (dk_at dk_X3_pieceLength 7 rfl) h (fun r7 h => ?_)
  refine G_iload_n 1 (dk_at dk_X3_pieceLength 8 rfl) rfl ?_
  refine G_callSN (As := [.ref r7, .int v1]) (rest := [.int i6]) lk_X3_86 (dk_at dk_X3_pieceLength 9 rfl) rfl rfl (Nat.le_of_ble_eq_true rfl) (h.mono fun o11 A8 b9 c10 h => atfI h fun i12 h => ?_)
  refine G_isub (dk_at dk_X3_pieceLength 10 rfl) ?_
  exact G_iret (ty := .int) rfl rfl (dk_at dk_X3_pieceLength 11 rfl) h
theorem k_X3_leadingGoodPieces_0 {l : Launch} {X : XT} {d : Nat} {Q : Ot → AH → Prop} {A : AH} {bc bs : Nat} {v0 : Nat} {v1 : Nat} (h : G l X M_X3_leadingGoodPieces d Q 2 [(0, .ref v0), (1, .ref v1), (2, .int 0)] [] A bc bs) : G l X M_X3_leadingGoodPieces d Q 0 [(0, .ref v0), (1, .ref v1)] [] A bc bs := by
  refine G_iconst (v := 0) (dk_at dk_X3_leadingGoodPieces 0 rfl) (by decide) ?_
  refine G_istore_n (lv' := [(2, .int 0), (0, .ref v0), (1, .ref v1)]) (dk_at dk_X3_leadingGoodPieces 1 rfl) (by decide) rfl ?_
  refine G_sub [1, 2, 0] rfl ?_
  exact h
theorem k_X3_leadingGoodPieces_2 {l : Launch} {X : XT} {d : Nat} {Q : Ot → AH → Prop} {A : AH} {bc bs : Nat} {v0 : Nat} {v1 : Nat} {v2 : Int32} (h : gI A v0 4 2 fun i1 => (i1 ≤ v2 → gI A v0 4 2 fun i2 => Q (Ri i2) A) ∧ (¬ i1 ≤ v2 → isO A v0 4 ∧ Cal l X d bc bs M_X3_pieceStart [.ref v0, .int v2] A fun o6 A3 b4 c5 => rI o6 (fun E => Q (.inr E) A3) fun i7 => isO A3 v0 4 ∧ Cal l X d b4 c5 M_X3_pieceLength [.ref v0, .int v2] A3 fun o11 A8 b9 c10 => rI o11 (fun E => Q (.inr E) A8) fun i12 => nI_ X A8 v1 fun i13 => (i13 < (i7 + i12) → Q (Ri v2) A8) ∧ (¬ i13 < (i7 + i12) → Cal l X d b9 c10 M_X5_sumOf [.ref v1, .int i7, .int i12] A8 fun o17 A14 b15 c16 => zI o17 fun i18 => gR A14 v0 4 6 fun r19 => Cal l X d b15 c16 M_X5_at [.ref r19, .int v2] A14 fun o23 A20 b21 c22 => zI o23 fun i24 => (i18 = i24 → G l X M_X3_leadingGoodPieces d Q 2 [(0, .ref v0), (1, .ref v1), (2, .int (v2 + 1))] [] A20 b21 c22) ∧ (¬ i18 = i24 → Q (Ri v2) A20)))) : G l X M_X3_leadingGoodPieces d Q 2 [(0, .ref v0), (1, .ref v1), (2, .int v2)] [] A bc bs := by
  refine G_iload_n 2 (dk_at dk_X3_leadingGoodPieces 2 rfl) rfl ?_
  refine G_aload_n 0 (dk_at dk_X3_leadingGoodPieces 3 rfl) rfl ?_
  refine K_gI gf_X3_15 (dk_at dk_X3_leadingGoodPieces 4 rfl) h (fun i1 h => ?_)
  refine G_icmp_ge (tgt := 58) (dk_at dk_X3_leadingGoodPieces 5 rfl) (by decide) (fun c => ?_) (fun c => ?_)
  · replace h := h.1 c
    refine G_aload_n 0 (dk_at dk_X3_leadingGoodPieces 33 rfl) rfl ?_
    refine K_gI gf_X3_15 (dk_at dk_X3_leadingGoodPieces 34 rfl) h (fun i2 h => ?_)
    exact G_iret (ty := .int) rfl rfl (dk_at dk_X3_leadingGoodPieces 35 rfl) h
  · replace h := h.2 c
    refine G_aload_n 0 (dk_at dk_X3_leadingGoodPieces 6 rfl) rfl ?_
    refine G_iload_n 2 (dk_at dk_X3_leadingGoodPieces 7 rfl) rfl ?_
    obtain ⟨⟨_, ho⟩, h⟩ := h
    refine G_callV (As := [.int v2]) (rest := []) lk_X3_90 rfl (dk_at dk_X3_leadingGoodPieces 8 rfl) rfl rfl (Nat.le_of_ble_eq_true rfl) ho (h.mono fun o6 A3 b4 c5 h => aftI h fun i7 h => ?_)
    refine G_istore_n (lv' := [(3, .int i7), (0, .ref v0), (1, .ref v1), (2, .int v2)]) (dk_at dk_X3_leadingGoodPieces 9 rfl) (by decide) rfl ?_
    refine G_aload_n 1 (dk_at dk_X3_leadingGoodPieces 10 rfl) rfl ?_
    refine G_iload_n 3 (dk_at dk_X3_leadingGoodPieces 11 rfl) rfl ?_
    obtain ⟨⟨_, ho⟩, h⟩ := h
    refine G_callV (As := [.int v2]) (rest := []) lk_X3_94 rfl (dk_at dk_X3_leadingGoodPieces 12 rfl) rfl rfl (Nat.le_of_ble_eq_true rfl) ho (h.mono fun o11 A8 b9 c10 h => aftI h fun i12 h => ?_)
    refine G_istore (lv' := [(4, .int i12), (3, .int i7), (0, .ref v0), (1, .ref v1), (2, .int v2)]) (dk_at dk_X3_leadingGoodPieces 13 rfl) (by decide) rfl ?_
    refine G_iload_n 1 (dk_at dk_X3_leadingGoodPieces 14 rfl) rfl ?_
    refine G_iload 0 (dk_at dk_X3_leadingGoodPieces 15 rfl) rfl ?_
    refine G_iadd (dk_at dk_X3_leadingGoodPieces 16 rfl) ?_
    refine G_aload_n 3 (dk_at dk_X3_leadingGoodPieces 17 rfl) rfl ?_
    refine K_nI (dk_at dk_X3_leadingGoodPieces 18 rfl) h (fun i13 h => ?_)
    refine G_icmp_gt (tgt := 50) (dk_at dk_X3_leadingGoodPieces 19 rfl) (by decide) (fun c => ?_) (fun c => ?_)
    · replace h := h.1 c
      refine G_iload_n 4 (dk_at dk_X3_leadingGoodPieces 29 rfl) rfl ?_
      exact G_iret (ty := .int) rfl rfl (dk_at dk_X3_leadingGoodPieces 30 rfl) h
    · replace h := h.2 c
      refine G_aload_n 3 (dk_at dk_X3_leadingGoodPieces 20 rfl) rfl ?_
      refine G_iload_n 1 (dk_at dk_X3_leadingGoodPieces 21 rfl) rfl ?_
      refine G_iload 0 (dk_at dk_X3_leadingGoodPieces 22 rfl) rfl ?_
      refine G_callSN (As := [.ref v1, .int i7, .int i12]) (rest := []) lk_X3_75 (dk_at dk_X3_leadingGoodPieces 23 rfl) rfl rfl (Nat.le_of_ble_eq_true rfl) (h.mono fun o17 A14 b15 c16 h => atfI h fun i18 h => ?_)
      refine G_aload_n 2 (dk_at dk_X3_leadingGoodPieces 24 rfl) rfl ?_
      refine K_gR gf_X3_28 (dk_at dk_X3_leadingGoodPieces 25 rfl) h (fun r19 h => ?_)
      refine G_iload_n 4 (dk_at dk_X3_leadingGoodPieces 26 rfl) rfl ?_
      refine G_callSN (As := [.ref r19, .int v2]) (rest := [.int i18]) lk_X3_86 (dk_at dk_X3_leadingGoodPieces 27 rfl) rfl rfl (Nat.le_of_ble_eq_true rfl) (h.mono fun o23 A20 b21 c22 h => atfI h fun i24 h => ?_)
      refine G_icmp_eq (tgt := 52) (dk_at dk_X3_leadingGoodPieces 28 rfl) (by decide) (fun c => ?_) (fun c => ?_)
      · replace h := h.1 c
        refine G_iinc (v := v2 + 1) (lv' := [(2, .int (v2 + 1)), (4, .int i12), (3, .int i7), (0, .ref v0), (1, .ref v1)]) 4 (dk_at dk_X3_leadingGoodPieces 31 rfl) rfl rfl (by decide) rfl ?_
        refine G_goto (tgt := 2) (dk_at dk_X3_leadingGoodPieces 32 rfl) (by decide) ?_
        refine G_sub [3, 4, 0] rfl ?_
        exact h
      · replace h := h.2 c
        refine G_iload_n 4 (dk_at dk_X3_leadingGoodPieces 29 rfl) rfl ?_
        exact G_iret (ty := .int) rfl rfl (dk_at dk_X3_leadingGoodPieces 30 rfl) h
theorem k_X3_isCutAt_0 {l : Launch} {X : XT} {d : Nat} {Q : Ot → AH → Prop} {A : AH} {bc bs : Nat} {v0 : Nat} {v1 : Int32} {v2 : Int32} (h : G l X M_X3_isCutAt d Q 2 [(0, .ref v0), (1, .int v1), (2, .int v2), (3, .int 0)] [] A bc bs) : G l X M_X3_isCutAt d Q 0 [(0, .ref v0), (1, .int v1), (2, .int v2)] [] A bc bs := by
  refine G_iconst (v := 0) (dk_at dk_X3_isCutAt 0 rfl) (by decide) ?_
  refine G_istore_n (lv' := [(3, .int 0), (0, .ref v0), (1, .int v1), (2, .int v2)]) (dk_at dk_X3_isCutAt 1 rfl) (by decide) rfl ?_
  refine G_sub [1, 2, 3, 0] rfl ?_
  exact h
theorem k_X3_isCutAt_2 {l : Launch} {X : XT} {d : Nat} {Q : Ot → AH → Prop} {A : AH} {bc bs : Nat} {v0 : Nat} {v1 : Int32} {v2 : Int32} {v3 : Int32} (h : gI A v0 4 15 fun i1 => (i1 ≤ v3 → Q (Ri 0) A) ∧ (¬ i1 ≤ v3 → gR A v0 4 14 fun r2 => Cal l X d bc bs M_X5_at [.ref r2, .int (2 * v3)] A fun o6 A3 b4 c5 => zI o6 fun i7 => (¬ i7 = v1 → G l X M_X3_isCutAt d Q 2 [(0, .ref v0), (1, .int v1), (2, .int v2), (3, .int (v3 + 1))] [] A3 b4 c5) ∧ (i7 = v1 → gR A3 v0 4 14 fun r8 => Cal l X d b4 c5 M_X5_at [.ref r8, .int ((2 * v3) + 1)] A3 fun o12 A9 b10 c11 => zI o12 fun i13 => (¬ i13 = v2 → G l X M_X3_isCutAt d Q 2 [(0, .ref v0), (1, .int v1), (2, .int v2), (3, .int (v3 + 1))] [] A9 b10 c11) ∧ (i13 = v2 → Q (Ri 1) A9)))) : G l X M_X3_isCutAt d Q 2 [(0, .ref v0), (1, .int v1), (2, .int v2), (3, .int v3)] [] A bc bs := by
  refine G_iload_n 3 (dk_at dk_X3_isCutAt 2 rfl) rfl ?_
  refine G_aload_n 0 (dk_at dk_X3_isCutAt 3 rfl) rfl ?_
  refine K_gI gf_X3_55 (dk_at dk_X3_isCutAt 4 rfl) h (fun i1 h => ?_)
  refine G_icmp_ge (tgt := 48) (dk_at dk_X3_isCutAt 5 rfl) (by decide) (fun c => ?_) (fun c => ?_)
  · replace h := h.1 c
    refine G_iconst (v := 0) (dk_at dk_X3_isCutAt 28 rfl) (by decide) ?_
    exact G_iret (ty := .boolean) rfl rfl (dk_at dk_X3_isCutAt 29 rfl) h
  · replace h := h.2 c
    refine G_aload_n 0 (dk_at dk_X3_isCutAt 6 rfl) rfl ?_
    refine K_gR gf_X3_52 (dk_at dk_X3_isCutAt 7 rfl) h (fun r2 h => ?_)
    refine G_iconst (v := 2) (dk_at dk_X3_isCutAt 8 rfl) (by decide) ?_
    refine G_iload_n 3 (dk_at dk_X3_isCutAt 9 rfl) rfl ?_
    refine G_imul (dk_at dk_X3_isCutAt 10 rfl) ?_
    refine G_callSN (As := [.ref r2, .int (2 * v3)]) (rest := []) lk_X3_86 (dk_at dk_X3_isCutAt 11 rfl) rfl rfl (Nat.le_of_ble_eq_true rfl) (h.mono fun o6 A3 b4 c5 h => atfI h fun i7 h => ?_)
    refine G_iload_n 1 (dk_at dk_X3_isCutAt 12 rfl) rfl ?_
    refine G_icmp_ne (tgt := 42) (dk_at dk_X3_isCutAt 13 rfl) (by decide) (fun c => ?_) (fun c => ?_)
    · replace h := h.1 c
      refine G_iinc (v := v3 + 1) (lv' := [(3, .int (v3 + 1)), (0, .ref v0), (1, .int v1), (2, .int v2)]) 3 (dk_at dk_X3_isCutAt 26 rfl) rfl rfl (by decide) rfl ?_
      refine G_goto (tgt := 2) (dk_at dk_X3_isCutAt 27 rfl) (by decide) ?_
      refine G_sub [1, 2, 3, 0] rfl ?_
      exact h
    · replace h := h.2 c
      refine G_aload_n 0 (dk_at dk_X3_isCutAt 14 rfl) rfl ?_
      refine K_gR gf_X3_52 (dk_at dk_X3_isCutAt 15 rfl) h (fun r8 h => ?_)
      refine G_iconst (v := 2) (dk_at dk_X3_isCutAt 16 rfl) (by decide) ?_
      refine G_iload_n 3 (dk_at dk_X3_isCutAt 17 rfl) rfl ?_
      refine G_imul (dk_at dk_X3_isCutAt 18 rfl) ?_
      refine G_iconst (v := 1) (dk_at dk_X3_isCutAt 19 rfl) (by decide) ?_
      refine G_iadd (dk_at dk_X3_isCutAt 20 rfl) ?_
      refine G_callSN (As := [.ref r8, .int ((2 * v3) + 1)]) (rest := []) lk_X3_86 (dk_at dk_X3_isCutAt 21 rfl) rfl rfl (Nat.le_of_ble_eq_true rfl) (h.mono fun o12 A9 b10 c11 h => atfI h fun i13 h => ?_)
      refine G_iload_n 2 (dk_at dk_X3_isCutAt 22 rfl) rfl ?_
      refine G_icmp_ne (tgt := 42) (dk_at dk_X3_isCutAt 23 rfl) (by decide) (fun c => ?_) (fun c => ?_)
      · replace h := h.1 c
        refine G_iinc (v := v3 + 1) (lv' := [(3, .int (v3 + 1)), (0, .ref v0), (1, .int v1), (2, .int v2)]) 3 (dk_at dk_X3_isCutAt 26 rfl) rfl rfl (by decide) rfl ?_
        refine G_goto (tgt := 2) (dk_at dk_X3_isCutAt 27 rfl) (by decide) ?_
        refine G_sub [1, 2, 3, 0] rfl ?_
        exact h
      · replace h := h.2 c
        refine G_iconst (v := 1) (dk_at dk_X3_isCutAt 24 rfl) (by decide) ?_
        exact G_iret (ty := .boolean) rfl rfl (dk_at dk_X3_isCutAt 25 rfl) h
