/-! blocks: what a method asks, row by row, as one formula (laid by wip/whole/gen) -/
theorem k_Jxa1e45_init_da8c8_0 {l : Launch} {X : XT} {d : Nat} {Q : Ot → AH → Prop} {A : AH} {bc bs : Nat} {v0 : Nat} (h : Q Rv A) : G l X M_Jxa1e45_init_da8c8 d Q 0 [(0, .ref v0)] [] A bc bs := by
  refine G_aload_n 0 (dk_at dk_Jxa1e45_init_da8c8 0 rfl) rfl ?_
  refine G_objInit wd_0 wo_1 wo_2 (dk_at dk_Jxa1e45_init_da8c8 1 rfl) (Nat.le_of_ble_eq_true rfl) ?_
  exact G_vret rfl (dk_at dk_Jxa1e45_init_da8c8 2 rfl) h
theorem k_Jxc12de_init_da8c8_0 {l : Launch} {X : XT} {d : Nat} {Q : Ot → AH → Prop} {A : AH} {bc bs : Nat} {v0 : Nat} (h : Cal l X d bc bs M_Jxa1e45_init_da8c8 [.ref v0] A fun o4 A1 b2 c3 => zV o4 <| pV A1 v0 0 0 (.int 0) fun A5 => Q Rv A5) : G l X M_Jxc12de_init_da8c8 d Q 0 [(0, .ref v0)] [] A bc bs := by
  refine G_aload_n 0 (dk_at dk_Jxc12de_init_da8c8 0 rfl) rfl ?_
  refine G_callI (As := []) (rest := []) lk_Jxc12de_1 (dk_at dk_Jxc12de_init_da8c8 1 rfl) rfl rfl (Nat.le_of_ble_eq_true rfl) (h.mono fun o4 A1 b2 c3 h => atfV h fun h => ?_)
  refine G_aload_n 0 (dk_at dk_Jxc12de_init_da8c8 2 rfl) rfl ?_
  refine G_iconst (v := 0) (dk_at dk_Jxc12de_init_da8c8 3 rfl) (by decide) ?_
  refine K_pI pf_Jxc12de_7 (dk_at dk_Jxc12de_init_da8c8 4 rfl) h (fun A5 h => ?_)
  exact G_vret rfl (dk_at dk_Jxc12de_init_da8c8 5 rfl) h
theorem k_Jx4a65c_init_da8c8_0 {l : Launch} {X : XT} {d : Nat} {Q : Ot → AH → Prop} {A : AH} {bc bs : Nat} {v0 : Nat} (h : Cal l X d bc bs M_Jxc12de_init_da8c8 [.ref v0] A fun o4 A1 b2 c3 => zV o4 <| pV A1 v0 0 1 (.ref (xE X)) fun A5 => Q Rv A5) : G l X M_Jx4a65c_init_da8c8 d Q 0 [(0, .ref v0)] [] A bc bs := by
  refine G_aload_n 0 (dk_at dk_Jx4a65c_init_da8c8 0 rfl) rfl ?_
  refine G_callI (As := []) (rest := []) lk_Jx4a65c_1 (dk_at dk_Jx4a65c_init_da8c8 1 rfl) rfl rfl (Nat.le_of_ble_eq_true rfl) (h.mono fun o4 A1 b2 c3 h => atfV h fun h => ?_)
  refine G_aload_n 0 (dk_at dk_Jx4a65c_init_da8c8 2 rfl) rfl ?_
  refine G_gsE rfl wd_1 (dk_at dk_Jx4a65c_init_da8c8 3 rfl) ?_
  refine K_pR pf_Jx4a65c_9 rfl rfl (dk_at dk_Jx4a65c_init_da8c8 4 rfl) h (fun A5 h => ?_)
  exact G_vret rfl (dk_at dk_Jx4a65c_init_da8c8 5 rfl) h
theorem k_Jx4a65c_grow_92f84_0 {l : Launch} {X : XT} {d : Nat} {Q : Ot → AH → Prop} {A : AH} {bc bs : Nat} {v0 : Nat} {v1 : Int32} (h : gR A v0 0 1 fun r1 => nQ_ X 4 A r1 fun i2 => (0 < i2 → G l X M_Jx4a65c_grow_92f84 d Q 20 [(0, .ref v0), (1, .int v1), (2, .int i2)] [] A bc bs) ∧ (¬ 0 < i2 → gR A v0 0 1 fun r3 => (some r3 = some (xE X) → mkA A (if 10 < v1 then v1 else 10) (fun N => ra X 4 N (fun _ => none)) bc bs fun r4 A5 b6 c7 => pV A5 v0 0 1 (.ref r4) fun A8 => Q (Ra r4) A8) ∧ (¬ some r3 = some (xE X) → G l X M_Jx4a65c_grow_92f84 d Q 20 [(0, .ref v0), (1, .int v1), (2, .int i2)] [] A bc bs))) : G l X M_Jx4a65c_grow_92f84 d Q 0 [(0, .ref v0), (1, .int v1)] [] A bc bs := by
  refine G_aload_n 0 (dk_at dk_Jx4a65c_grow_92f84 0 rfl) rfl ?_
  refine K_gR gf_Jx4a65c_9 (dk_at dk_Jx4a65c_grow_92f84 1 rfl) h (fun r1 h => ?_)
  refine K_nQ4 (dk_at dk_Jx4a65c_grow_92f84 2 rfl) h (fun i2 h => ?_)
  refine G_istore_n (lv' := [(2, .int i2), (0, .ref v0), (1, .int v1)]) (dk_at dk_Jx4a65c_grow_92f84 3 rfl) (by decide) rfl ?_
  refine G_iload_n 0 (dk_at dk_Jx4a65c_grow_92f84 4 rfl) rfl ?_
  refine G_if_gt (tgt := 20) (dk_at dk_Jx4a65c_grow_92f84 5 rfl) (by decide) (fun c => ?_) (fun c => ?_)
  · replace h := h.1 c
    refine G_sub [1, 2, 0] rfl ?_
    exact h
  · replace h := h.2 c
    refine G_aload_n 1 (dk_at dk_Jx4a65c_grow_92f84 6 rfl) rfl ?_
    refine K_gR gf_Jx4a65c_9 (dk_at dk_Jx4a65c_grow_92f84 7 rfl) h (fun r3 h => ?_)
    refine G_gsE rfl wd_1 (dk_at dk_Jx4a65c_grow_92f84 8 rfl) ?_
    refine G_acmp_eq (rx := some r3) (ry := some (xE X)) (tgt := 45) (dk_at dk_Jx4a65c_grow_92f84 9 rfl) (by decide) (fun c => ?_) (fun c => ?_)
    · replace h := h.1 c
      refine G_aload_n 1 (dk_at dk_Jx4a65c_grow_92f84 27 rfl) rfl ?_
      refine G_bipush (v := 10) (dk_at dk_Jx4a65c_grow_92f84 28 rfl) (by decide) ?_
      refine G_iload_n 2 (dk_at dk_Jx4a65c_grow_92f84 29 rfl) rfl ?_
      refine G_max wd_2 wm_max1 wm_2 wm_max3 (dk_at dk_Jx4a65c_grow_92f84 30 rfl) (Nat.le_of_ble_eq_true rfl) ?_
      refine K_newq4 wd_3 (dk_at dk_Jx4a65c_grow_92f84 31 rfl) h (fun r4 A5 b6 c7 h => ?_)
      refine G_dup_x1 (dk_at dk_Jx4a65c_grow_92f84 32 rfl) rfl rfl ?_
      refine K_pR pf_Jx4a65c_9 rfl rfl (dk_at dk_Jx4a65c_grow_92f84 33 rfl) h (fun A8 h => ?_)
      exact G_aret rfl (Or.inr ⟨_, rfl⟩) (dk_at dk_Jx4a65c_grow_92f84 34 rfl) h
    · replace h := h.2 c
      refine G_sub [1, 2, 0] rfl ?_
      exact h
theorem k_Jx4a65c_grow_92f84_20 {l : Launch} {X : XT} {d : Nat} {Q : Ot → AH → Prop} {A : AH} {bc bs : Nat} {v0 : Nat} {v1 : Int32} {v2 : Int32} (h : False) : G l X M_Jx4a65c_grow_92f84 d Q 20 [(0, .ref v0), (1, .int v1), (2, .int v2)] [] A bc bs := by
  refine G_iload_n 2 (dk_at dk_Jx4a65c_grow_92f84 10 rfl) rfl ?_
  refine G_iload_n 1 (dk_at dk_Jx4a65c_grow_92f84 11 rfl) rfl ?_
  refine G_iload_n 2 (dk_at dk_Jx4a65c_grow_92f84 12 rfl) rfl ?_
  refine G_isub (dk_at dk_Jx4a65c_grow_92f84 13 rfl) ?_
  refine G_iload_n 2 (dk_at dk_Jx4a65c_grow_92f84 14 rfl) rfl ?_
  refine G_iconst (v := 1) (dk_at dk_Jx4a65c_grow_92f84 15 rfl) (by decide) ?_
  refine G_ishr (dk_at dk_Jx4a65c_grow_92f84 16 rfl) ?_
  exact h.elim
theorem k_Jx4a65c_grow_d5877_0 {l : Launch} {X : XT} {d : Nat} {Q : Ot → AH → Prop} {A : AH} {bc bs : Nat} {v0 : Nat} (h : gI A v0 0 2 fun i1 => isO A v0 0 ∧ Cal l X d bc bs M_Jx4a65c_grow_92f84 [.ref v0, .int (i1 + 1)] A fun o5 A2 b3 c4 => rR o5 (fun E => Q (.inr E) A2) fun r6 => Q (Ra r6) A2) : G l X M_Jx4a65c_grow_d5877 d Q 0 [(0, .ref v0)] [] A bc bs := by
  refine G_aload_n 0 (dk_at dk_Jx4a65c_grow_d5877 0 rfl) rfl ?_
  refine G_aload_n 0 (dk_at dk_Jx4a65c_grow_d5877 1 rfl) rfl ?_
  refine K_gI gf_Jx4a65c_48 (dk_at dk_Jx4a65c_grow_d5877 2 rfl) h (fun i1 h => ?_)
  refine G_iconst (v := 1) (dk_at dk_Jx4a65c_grow_d5877 3 rfl) (by decide) ?_
  refine G_iadd (dk_at dk_Jx4a65c_grow_d5877 4 rfl) ?_
  obtain ⟨⟨_, ho⟩, h⟩ := h
  refine G_callV (As := [.int (i1 + 1)]) (rest := []) lk_Jx4a65c_69 rfl (dk_at dk_Jx4a65c_grow_d5877 5 rfl) rfl rfl (Nat.le_of_ble_eq_true rfl) ho (h.mono fun o5 A2 b3 c4 h => aftR h fun r6 h => ?_)
  exact G_aret rfl (Or.inr ⟨_, rfl⟩) (dk_at dk_Jx4a65c_grow_d5877 6 rfl) h
theorem k_Jx4a65c_size_8abf5_0 {l : Launch} {X : XT} {d : Nat} {Q : Ot → AH → Prop} {A : AH} {bc bs : Nat} {v0 : Nat} (h : gI A v0 0 2 fun i1 => Q (Ri i1) A) : G l X M_Jx4a65c_size_8abf5 d Q 0 [(0, .ref v0)] [] A bc bs := by
  refine G_aload_n 0 (dk_at dk_Jx4a65c_size_8abf5 0 rfl) rfl ?_
  refine K_gI gf_Jx4a65c_48 (dk_at dk_Jx4a65c_size_8abf5 1 rfl) h (fun i1 h => ?_)
  exact G_iret (ty := .int) rfl rfl (dk_at dk_Jx4a65c_size_8abf5 2 rfl) h
theorem k_Jx4a65c_elementData_915e3_0 {l : Launch} {X : XT} {d : Nat} {Q : Ot → AH → Prop} {A : AH} {bc bs : Nat} {v0 : Nat} {v1 : Int32} (h : gR A v0 0 1 fun r1 => aQ X 4 A r1 v1 fun o2 => Q (Rq o2) A) : G l X M_Jx4a65c_elementData_915e3 d Q 0 [(0, .ref v0), (1, .int v1)] [] A bc bs := by
  refine G_aload_n 0 (dk_at dk_Jx4a65c_elementData_915e3 0 rfl) rfl ?_
  refine K_gR gf_Jx4a65c_9 (dk_at dk_Jx4a65c_elementData_915e3 1 rfl) h (fun r1 h => ?_)
  refine G_iload_n 1 (dk_at dk_Jx4a65c_elementData_915e3 2 rfl) rfl ?_
  refine K_aQ4 (dk_at dk_Jx4a65c_elementData_915e3 3 rfl) h (fun o2 h => ?_)
  exact G_aretQ (r := o2) rfl (Or.inl ⟨_, rfl⟩) (dk_at dk_Jx4a65c_elementData_915e3 4 rfl) h
theorem k_Jx4a65c_get_915e3_0 {l : Launch} {X : XT} {d : Nat} {Q : Ot → AH → Prop} {A : AH} {bc bs : Nat} {v0 : Nat} {v1 : Int32} (h : gI A v0 0 2 fun i1 => Cal l X d bc bs M_J15_checkIndex_7cf53 [.int v1, .int i1] A fun o5 A2 b3 c4 => rI o5 (fun E => Q (.inr E) A2) fun i6 => isO A2 v0 0 ∧ Cal l X d b3 c4 M_Jx4a65c_elementData_915e3 [.ref v0, .int v1] A2 fun o10 A7 b8 c9 => rQ o10 (fun E => Q (.inr E) A7) fun o11 => Q (Rq o11) A7) : G l X M_Jx4a65c_get_915e3 d Q 0 [(0, .ref v0), (1, .int v1)] [] A bc bs := by
  refine G_iload_n 1 (dk_at dk_Jx4a65c_get_915e3 0 rfl) rfl ?_
  refine G_aload_n 0 (dk_at dk_Jx4a65c_get_915e3 1 rfl) rfl ?_
  refine K_gI gf_Jx4a65c_48 (dk_at dk_Jx4a65c_get_915e3 2 rfl) h (fun i1 h => ?_)
  refine G_callS (As := [.int v1, .int i1]) (rest := []) lk_Jx4a65c_118 rfl (dk_at dk_Jx4a65c_get_915e3 3 rfl) rfl rfl (Nat.le_of_ble_eq_true rfl) (h.mono fun o5 A2 b3 c4 h => aftI h fun i6 h => ?_)
  refine G_pop (dk_at dk_Jx4a65c_get_915e3 4 rfl) rfl ?_
  refine G_aload_n 0 (dk_at dk_Jx4a65c_get_915e3 5 rfl) rfl ?_
  refine G_iload_n 1 (dk_at dk_Jx4a65c_get_915e3 6 rfl) rfl ?_
  obtain ⟨⟨_, ho⟩, h⟩ := h
  refine G_callV (As := [.int v1]) (rest := []) lk_Jx4a65c_123 rfl (dk_at dk_Jx4a65c_get_915e3 7 rfl) rfl rfl (Nat.le_of_ble_eq_true rfl) ho (h.mono fun o10 A7 b8 c9 h => aftQ h fun o11 h => ?_)
  exact G_aretQ (r := o11) rfl (Or.inl ⟨_, rfl⟩) (dk_at dk_Jx4a65c_get_915e3 8 rfl) h
theorem k_Jx4a65c_set_bcc79_0 {l : Launch} {X : XT} {d : Nat} {Q : Ot → AH → Prop} {A : AH} {bc bs : Nat} {v0 : Nat} {v1 : Int32} {v2 : Nat} (h : gI A v0 0 2 fun i1 => Cal l X d bc bs M_J15_checkIndex_7cf53 [.int v1, .int i1] A fun o5 A2 b3 c4 => rI o5 (fun E => Q (.inr E) A2) fun i6 => isO A2 v0 0 ∧ Cal l X d b3 c4 M_Jx4a65c_elementData_915e3 [.ref v0, .int v1] A2 fun o10 A7 b8 c9 => rQ o10 (fun E => Q (.inr E) A7) fun o11 => gR A7 v0 0 1 fun r12 => sP X A7 r12 v1 v2 fun A13 => Q (Rq o11) A13) : G l X M_Jx4a65c_set_bcc79 d Q 0 [(0, .ref v0), (1, .int v1), (2, .ref v2)] [] A bc bs := by
  refine G_iload_n 1 (dk_at dk_Jx4a65c_set_bcc79 0 rfl) rfl ?_
  refine G_aload_n 0 (dk_at dk_Jx4a65c_set_bcc79 1 rfl) rfl ?_
  refine K_gI gf_Jx4a65c_48 (dk_at dk_Jx4a65c_set_bcc79 2 rfl) h (fun i1 h => ?_)
  refine G_callS (As := [.int v1, .int i1]) (rest := []) lk_Jx4a65c_118 rfl (dk_at dk_Jx4a65c_set_bcc79 3 rfl) rfl rfl (Nat.le_of_ble_eq_true rfl) (h.mono fun o5 A2 b3 c4 h => aftI h fun i6 h => ?_)
  refine G_pop (dk_at dk_Jx4a65c_set_bcc79 4 rfl) rfl ?_
  refine G_aload_n 0 (dk_at dk_Jx4a65c_set_bcc79 5 rfl) rfl ?_
  refine G_iload_n 1 (dk_at dk_Jx4a65c_set_bcc79 6 rfl) rfl ?_
  obtain ⟨⟨_, ho⟩, h⟩ := h
  refine G_callV (As := [.int v1]) (rest := []) lk_Jx4a65c_123 rfl (dk_at dk_Jx4a65c_set_bcc79 7 rfl) rfl rfl (Nat.le_of_ble_eq_true rfl) ho (h.mono fun o10 A7 b8 c9 h => aftQ h fun o11 h => ?_)
  refine G_astore_nQ (lv' := [(3, va_rf o11), (0, .ref v0), (1, .int v1), (2, .ref v2)]) (dk_at dk_Jx4a65c_set_bcc79 8 rfl) (by decide) (by first | (simp [rf_cat, Value.category]; done) | (simp [rf_cat, Value.category]; decide)) ?_
  refine G_aload_n 1 (dk_at dk_Jx4a65c_set_bcc79 9 rfl) rfl ?_
  refine K_gR gf_Jx4a65c_9 (dk_at dk_Jx4a65c_set_bcc79 10 rfl) h (fun r12 h => ?_)
  refine G_iload_n 2 (dk_at dk_Jx4a65c_set_bcc79 11 rfl) rfl ?_
  refine G_aload_n 3 (dk_at dk_Jx4a65c_set_bcc79 12 rfl) rfl ?_
  refine K_sP ca_P (dk_at dk_Jx4a65c_set_bcc79 13 rfl) h (fun A13 h => ?_)
  refine G_aload_nQ 0 (dk_at dk_Jx4a65c_set_bcc79 14 rfl) rfl ?_
  exact G_aretQ (r := o11) rfl (Or.inl ⟨_, rfl⟩) (dk_at dk_Jx4a65c_set_bcc79 15 rfl) h
theorem k_Jx4a65c_add_72be8_0 {l : Launch} {X : XT} {d : Nat} {Q : Ot → AH → Prop} {A : AH} {bc bs : Nat} {v0 : Nat} {v1 : Nat} {v2 : Nat} {v3 : Int32} (h : nQ_ X 4 A v2 fun i1 => (¬ v3 = i1 → G l X M_Jx4a65c_add_72be8 d Q 11 [(0, .ref v0), (1, .ref v1), (2, .ref v2), (3, .int v3)] [] A bc bs) ∧ (v3 = i1 → isO A v0 0 ∧ Cal l X d bc bs M_Jx4a65c_grow_d5877 [.ref v0] A fun o5 A2 b3 c4 => rR o5 (fun E => Q (.inr E) A2) fun r6 => G l X M_Jx4a65c_add_72be8 d Q 11 [(0, .ref v0), (1, .ref v1), (2, .ref r6), (3, .int v3)] [] A2 b3 c4)) : G l X M_Jx4a65c_add_72be8 d Q 0 [(0, .ref v0), (1, .ref v1), (2, .ref v2), (3, .int v3)] [] A bc bs := by
  refine G_iload_n 3 (dk_at dk_Jx4a65c_add_72be8 0 rfl) rfl ?_
  refine G_aload_n 2 (dk_at dk_Jx4a65c_add_72be8 1 rfl) rfl ?_
  refine K_nQ4 (dk_at dk_Jx4a65c_add_72be8 2 rfl) h (fun i1 h => ?_)
  refine G_icmp_ne (tgt := 11) (dk_at dk_Jx4a65c_add_72be8 3 rfl) (by decide) (fun c => ?_) (fun c => ?_)
  · replace h := h.1 c
    exact h
  · replace h := h.2 c
    refine G_aload_n 0 (dk_at dk_Jx4a65c_add_72be8 4 rfl) rfl ?_
    obtain ⟨⟨_, ho⟩, h⟩ := h
    refine G_callV (As := []) (rest := []) lk_Jx4a65c_129 rfl (dk_at dk_Jx4a65c_add_72be8 5 rfl) rfl rfl (Nat.le_of_ble_eq_true rfl) ho (h.mono fun o5 A2 b3 c4 h => aftR h fun r6 h => ?_)
    refine G_astore_n (lv' := [(2, .ref r6), (0, .ref v0), (1, .ref v1), (3, .int v3)]) (dk_at dk_Jx4a65c_add_72be8 6 rfl) (by decide) rfl ?_
    refine G_sub [1, 2, 0, 3] rfl ?_
    exact h
theorem k_Jx4a65c_add_72be8_11 {l : Launch} {X : XT} {d : Nat} {Q : Ot → AH → Prop} {A : AH} {bc bs : Nat} {v0 : Nat} {v1 : Nat} {v2 : Nat} {v3 : Int32} (h : sP X A v2 v3 v1 fun A1 => pV A1 v0 0 2 (.int (v3 + 1)) fun A2 => Q Rv A2) : G l X M_Jx4a65c_add_72be8 d Q 11 [(0, .ref v0), (1, .ref v1), (2, .ref v2), (3, .int v3)] [] A bc bs := by
  refine G_aload_n 2 (dk_at dk_Jx4a65c_add_72be8 7 rfl) rfl ?_
  refine G_iload_n 3 (dk_at dk_Jx4a65c_add_72be8 8 rfl) rfl ?_
  refine G_aload_n 1 (dk_at dk_Jx4a65c_add_72be8 9 rfl) rfl ?_
  refine K_sP ca_P (dk_at dk_Jx4a65c_add_72be8 10 rfl) h (fun A1 h => ?_)
  refine G_aload_n 0 (dk_at dk_Jx4a65c_add_72be8 11 rfl) rfl ?_
  refine G_iload_n 3 (dk_at dk_Jx4a65c_add_72be8 12 rfl) rfl ?_
  refine G_iconst (v := 1) (dk_at dk_Jx4a65c_add_72be8 13 rfl) (by decide) ?_
  refine G_iadd (dk_at dk_Jx4a65c_add_72be8 14 rfl) ?_
  refine K_pI pf_Jx4a65c_48 (dk_at dk_Jx4a65c_add_72be8 15 rfl) h (fun A2 h => ?_)
  exact G_vret rfl (dk_at dk_Jx4a65c_add_72be8 16 rfl) h
theorem k_Jx4a65c_add_9ea2d_0 {l : Launch} {X : XT} {d : Nat} {Q : Ot → AH → Prop} {A : AH} {bc bs : Nat} {v0 : Nat} {v1 : Nat} (h : gI A v0 0 0 fun i1 => pV A v0 0 0 (.int (i1 + 1)) fun A2 => gR A2 v0 0 1 fun r3 => gI A2 v0 0 2 fun i4 => isO A2 v0 0 ∧ Cal l X d bc bs M_Jx4a65c_add_72be8 [.ref v0, .ref v1, .ref r3, .int i4] A2 fun o8 A5 b6 c7 => rV o8 (fun E => Q (.inr E) A5) <| Q (Ri 1) A5) : G l X M_Jx4a65c_add_9ea2d d Q 0 [(0, .ref v0), (1, .ref v1)] [] A bc bs := by
  refine G_aload_n 0 (dk_at dk_Jx4a65c_add_9ea2d 0 rfl) rfl ?_
  refine G_dup (dk_at dk_Jx4a65c_add_9ea2d 1 rfl) rfl ?_
  refine K_gI gf_Jx4a65c_63 (dk_at dk_Jx4a65c_add_9ea2d 2 rfl) h (fun i1 h => ?_)
  refine G_iconst (v := 1) (dk_at dk_Jx4a65c_add_9ea2d 3 rfl) (by decide) ?_
  refine G_iadd (dk_at dk_Jx4a65c_add_9ea2d 4 rfl) ?_
  refine K_pI pf_Jx4a65c_63 (dk_at dk_Jx4a65c_add_9ea2d 5 rfl) h (fun A2 h => ?_)
  refine G_aload_n 0 (dk_at dk_Jx4a65c_add_9ea2d 6 rfl) rfl ?_
  refine G_aload_n 1 (dk_at dk_Jx4a65c_add_9ea2d 7 rfl) rfl ?_
  refine G_aload_n 0 (dk_at dk_Jx4a65c_add_9ea2d 8 rfl) rfl ?_
  refine K_gR gf_Jx4a65c_9 (dk_at dk_Jx4a65c_add_9ea2d 9 rfl) h (fun r3 h => ?_)
  refine G_aload_n 0 (dk_at dk_Jx4a65c_add_9ea2d 10 rfl) rfl ?_
  refine K_gI gf_Jx4a65c_48 (dk_at dk_Jx4a65c_add_9ea2d 11 rfl) h (fun i4 h => ?_)
  obtain ⟨⟨_, ho⟩, h⟩ := h
  refine G_callV (As := [.ref v1, .ref r3, .int i4]) (rest := []) lk_Jx4a65c_131 rfl (dk_at dk_Jx4a65c_add_9ea2d 12 rfl) rfl rfl (Nat.le_of_ble_eq_true rfl) ho (h.mono fun o8 A5 b6 c7 h => aftV h fun h => ?_)
  refine G_iconst (v := 1) (dk_at dk_Jx4a65c_add_9ea2d 13 rfl) (by decide) ?_
  exact G_iret (ty := .boolean) rfl rfl (dk_at dk_Jx4a65c_add_9ea2d 14 rfl) h
theorem k_Jx4a65c_remove_915e3_0 {l : Launch} {X : XT} {d : Nat} {Q : Ot → AH → Prop} {A : AH} {bc bs : Nat} {v0 : Nat} {v1 : Int32} (h : gI A v0 0 2 fun i1 => Cal l X d bc bs M_J15_checkIndex_7cf53 [.int v1, .int i1] A fun o5 A2 b3 c4 => rI o5 (fun E => Q (.inr E) A2) fun i6 => gR A2 v0 0 1 fun r7 => aQ X 4 A2 r7 v1 fun o8 => isO A2 v0 0 ∧ Cal l X d b3 c4 M_Jx4a65c_fastRemove_b59b0 [.ref v0, .ref r7, .int v1] A2 fun o12 A9 b10 c11 => rV o12 (fun E => Q (.inr E) A9) <| Q (Rq o8) A9) : G l X M_Jx4a65c_remove_915e3 d Q 0 [(0, .ref v0), (1, .int v1)] [] A bc bs := by
  refine G_iload_n 1 (dk_at dk_Jx4a65c_remove_915e3 0 rfl) rfl ?_
  refine G_aload_n 0 (dk_at dk_Jx4a65c_remove_915e3 1 rfl) rfl ?_
  refine K_gI gf_Jx4a65c_48 (dk_at dk_Jx4a65c_remove_915e3 2 rfl) h (fun i1 h => ?_)
  refine G_callS (As := [.int v1, .int i1]) (rest := []) lk_Jx4a65c_118 rfl (dk_at dk_Jx4a65c_remove_915e3 3 rfl) rfl rfl (Nat.le_of_ble_eq_true rfl) (h.mono fun o5 A2 b3 c4 h => aftI h fun i6 h => ?_)
  refine G_pop (dk_at dk_Jx4a65c_remove_915e3 4 rfl) rfl ?_
  refine G_aload_n 0 (dk_at dk_Jx4a65c_remove_915e3 5 rfl) rfl ?_
  refine K_gR gf_Jx4a65c_9 (dk_at dk_Jx4a65c_remove_915e3 6 rfl) h (fun r7 h => ?_)
  refine G_astore_n (lv' := [(2, .ref r7), (0, .ref v0), (1, .int v1)]) (dk_at dk_Jx4a65c_remove_915e3 7 rfl) (by decide) rfl ?_
  refine G_aload_n 0 (dk_at dk_Jx4a65c_remove_915e3 8 rfl) rfl ?_
  refine G_iload_n 2 (dk_at dk_Jx4a65c_remove_915e3 9 rfl) rfl ?_
  refine K_aQ4 (dk_at dk_Jx4a65c_remove_915e3 10 rfl) h (fun o8 h => ?_)
  refine G_astore_nQ (lv' := [(3, va_rf o8), (2, .ref r7), (0, .ref v0), (1, .int v1)]) (dk_at dk_Jx4a65c_remove_915e3 11 rfl) (by decide) (by first | (simp [rf_cat, Value.category]; done) | (simp [rf_cat, Value.category]; decide)) ?_
  refine G_aload_n 2 (dk_at dk_Jx4a65c_remove_915e3 12 rfl) rfl ?_
  refine G_aload_n 1 (dk_at dk_Jx4a65c_remove_915e3 13 rfl) rfl ?_
  refine G_iload_n 3 (dk_at dk_Jx4a65c_remove_915e3 14 rfl) rfl ?_
  obtain ⟨⟨_, ho⟩, h⟩ := h
  refine G_callV (As := [.ref r7, .int v1]) (rest := []) lk_Jx4a65c_144 rfl (dk_at dk_Jx4a65c_remove_915e3 15 rfl) rfl rfl (Nat.le_of_ble_eq_true rfl) ho (h.mono fun o12 A9 b10 c11 h => aftV h fun h => ?_)
  refine G_aload_nQ 0 (dk_at dk_Jx4a65c_remove_915e3 16 rfl) rfl ?_
  exact G_aretQ (r := o8) rfl (Or.inl ⟨_, rfl⟩) (dk_at dk_Jx4a65c_remove_915e3 17 rfl) h
theorem k_Jx4a65c_fastRemove_b59b0_0 {l : Launch} {X : XT} {d : Nat} {Q : Ot → AH → Prop} {A : AH} {bc bs : Nat} {v0 : Nat} {v1 : Nat} {v2 : Int32} (h : gI A v0 0 0 fun i1 => pV A v0 0 0 (.int (i1 + 1)) fun A2 => gI A2 v0 0 2 fun i3 => ((i3 - 1) ≤ v2 → G l X M_Jx4a65c_fastRemove_b59b0 d Q 34 [(0, .ref v0), (1, .ref v1), (3, .int (i3 - 1))] [] A2 bc bs) ∧ (¬ (i3 - 1) ≤ v2 → cpQ X A2 v1 (v2 + 1) v2 ((i3 - 1) - v2) fun A4 => G l X M_Jx4a65c_fastRemove_b59b0 d Q 34 [(0, .ref v0), (1, .ref v1), (3, .int (i3 - 1))] [] A4 bc bs)) : G l X M_Jx4a65c_fastRemove_b59b0 d Q 0 [(0, .ref v0), (1, .ref v1), (2, .int v2)] [] A bc bs := by
  refine G_aload_n 0 (dk_at dk_Jx4a65c_fastRemove_b59b0 0 rfl) rfl ?_
  refine G_dup (dk_at dk_Jx4a65c_fastRemove_b59b0 1 rfl) rfl ?_
  refine K_gI gf_Jx4a65c_63 (dk_at dk_Jx4a65c_fastRemove_b59b0 2 rfl) h (fun i1 h => ?_)
  refine G_iconst (v := 1) (dk_at dk_Jx4a65c_fastRemove_b59b0 3 rfl) (by decide) ?_
  refine G_iadd (dk_at dk_Jx4a65c_fastRemove_b59b0 4 rfl) ?_
  refine K_pI pf_Jx4a65c_63 (dk_at dk_Jx4a65c_fastRemove_b59b0 5 rfl) h (fun A2 h => ?_)
  refine G_aload_n 0 (dk_at dk_Jx4a65c_fastRemove_b59b0 6 rfl) rfl ?_
  refine K_gI gf_Jx4a65c_48 (dk_at dk_Jx4a65c_fastRemove_b59b0 7 rfl) h (fun i3 h => ?_)
  refine G_iconst (v := 1) (dk_at dk_Jx4a65c_fastRemove_b59b0 8 rfl) (by decide) ?_
  refine G_isub (dk_at dk_Jx4a65c_fastRemove_b59b0 9 rfl) ?_
  refine G_dup (dk_at dk_Jx4a65c_fastRemove_b59b0 10 rfl) rfl ?_
  refine G_istore_n (lv' := [(3, .int (i3 - 1)), (0, .ref v0), (1, .ref v1), (2, .int v2)]) (dk_at dk_Jx4a65c_fastRemove_b59b0 11 rfl) (by decide) rfl ?_
  refine G_iload_n 3 (dk_at dk_Jx4a65c_fastRemove_b59b0 12 rfl) rfl ?_
  refine G_icmp_le (tgt := 34) (dk_at dk_Jx4a65c_fastRemove_b59b0 13 rfl) (by decide) (fun c => ?_) (fun c => ?_)
  · replace h := h.1 c
    refine G_sub [1, 2, 0] rfl ?_
    exact h
  · replace h := h.2 c
    refine G_aload_n 2 (dk_at dk_Jx4a65c_fastRemove_b59b0 14 rfl) rfl ?_
    refine G_iload_n 3 (dk_at dk_Jx4a65c_fastRemove_b59b0 15 rfl) rfl ?_
    refine G_iconst (v := 1) (dk_at dk_Jx4a65c_fastRemove_b59b0 16 rfl) (by decide) ?_
    refine G_iadd (dk_at dk_Jx4a65c_fastRemove_b59b0 17 rfl) ?_
    refine G_aload_n 2 (dk_at dk_Jx4a65c_fastRemove_b59b0 18 rfl) rfl ?_
    refine G_iload_n 3 (dk_at dk_Jx4a65c_fastRemove_b59b0 19 rfl) rfl ?_
    refine G_iload_n 0 (dk_at dk_Jx4a65c_fastRemove_b59b0 20 rfl) rfl ?_
    refine G_iload_n 3 (dk_at dk_Jx4a65c_fastRemove_b59b0 21 rfl) rfl ?_
    refine G_isub (dk_at dk_Jx4a65c_fastRemove_b59b0 22 rfl) ?_
    refine K_cpQ lc_Jx4a65c_112 ca_P (dk_at dk_Jx4a65c_fastRemove_b59b0 23 rfl) (Nat.le_of_ble_eq_true rfl) h (fun A4 h => ?_)
    refine G_sub [1, 2, 0] rfl ?_
    exact h
theorem k_Jx4a65c_fastRemove_b59b0_34 {l : Launch} {X : XT} {d : Nat} {Q : Ot → AH → Prop} {A : AH} {bc bs : Nat} {v0 : Nat} {v1 : Nat} {v3 : Int32} (h : pV A v0 0 2 (.int v3) fun A1 => sN X A1 v1 v3 fun A2 => Q Rv A2) : G l X M_Jx4a65c_fastRemove_b59b0 d Q 34 [(0, .ref v0), (1, .ref v1), (3, .int v3)] [] A bc bs := by
  refine G_aload_n 1 (dk_at dk_Jx4a65c_fastRemove_b59b0 24 rfl) rfl ?_
  refine G_aload_n 0 (dk_at dk_Jx4a65c_fastRemove_b59b0 25 rfl) rfl ?_
  refine G_iload_n 2 (dk_at dk_Jx4a65c_fastRemove_b59b0 26 rfl) rfl ?_
  refine G_dup_x1 (dk_at dk_Jx4a65c_fastRemove_b59b0 27 rfl) rfl rfl ?_
  refine K_pI pf_Jx4a65c_48 (dk_at dk_Jx4a65c_fastRemove_b59b0 28 rfl) h (fun A1 h => ?_)
  refine G_null (dk_at dk_Jx4a65c_fastRemove_b59b0 29 rfl) ?_
  refine K_sN (dk_at dk_Jx4a65c_fastRemove_b59b0 30 rfl) h (fun A2 h => ?_)
  exact G_vret rfl (dk_at dk_Jx4a65c_fastRemove_b59b0 31 rfl) h
theorem k_Jx4a65c_clear_da8c8_0 {l : Launch} {X : XT} {d : Nat} {Q : Ot → AH → Prop} {A : AH} {bc bs : Nat} {v0 : Nat} (h : gI A v0 0 0 fun i1 => pV A v0 0 0 (.int (i1 + 1)) fun A2 => gR A2 v0 0 1 fun r3 => gI A2 v0 0 2 fun i4 => pV A2 v0 0 2 (.int 0) fun A5 => G l X M_Jx4a65c_clear_da8c8 d Q 27 [(1, .ref r3), (2, .int i4), (3, .int 0)] [] A5 bc bs) : G l X M_Jx4a65c_clear_da8c8 d Q 0 [(0, .ref v0)] [] A bc bs := by
  refine G_aload_n 0 (dk_at dk_Jx4a65c_clear_da8c8 0 rfl) rfl ?_
  refine G_dup (dk_at dk_Jx4a65c_clear_da8c8 1 rfl) rfl ?_
  refine K_gI gf_Jx4a65c_63 (dk_at dk_Jx4a65c_clear_da8c8 2 rfl) h (fun i1 h => ?_)
  refine G_iconst (v := 1) (dk_at dk_Jx4a65c_clear_da8c8 3 rfl) (by decide) ?_
  refine G_iadd (dk_at dk_Jx4a65c_clear_da8c8 4 rfl) ?_
  refine K_pI pf_Jx4a65c_63 (dk_at dk_Jx4a65c_clear_da8c8 5 rfl) h (fun A2 h => ?_)
  refine G_aload_n 0 (dk_at dk_Jx4a65c_clear_da8c8 6 rfl) rfl ?_
  refine K_gR gf_Jx4a65c_9 (dk_at dk_Jx4a65c_clear_da8c8 7 rfl) h (fun r3 h => ?_)
  refine G_astore_n (lv' := [(1, .ref r3), (0, .ref v0)]) (dk_at dk_Jx4a65c_clear_da8c8 8 rfl) (by decide) rfl ?_
  refine G_aload_n 1 (dk_at dk_Jx4a65c_clear_da8c8 9 rfl) rfl ?_
  refine K_gI gf_Jx4a65c_48 (dk_at dk_Jx4a65c_clear_da8c8 10 rfl) h (fun i4 h => ?_)
  refine G_istore_n (lv' := [(2, .int i4), (1, .ref r3), (0, .ref v0)]) (dk_at dk_Jx4a65c_clear_da8c8 11 rfl) (by decide) rfl ?_
  refine G_aload_n 2 (dk_at dk_Jx4a65c_clear_da8c8 12 rfl) rfl ?_
  refine G_iconst (v := 0) (dk_at dk_Jx4a65c_clear_da8c8 13 rfl) (by decide) ?_
  refine G_dup_x1 (dk_at dk_Jx4a65c_clear_da8c8 14 rfl) rfl rfl ?_
  refine K_pI pf_Jx4a65c_48 (dk_at dk_Jx4a65c_clear_da8c8 15 rfl) h (fun A5 h => ?_)
  refine G_istore_n (lv' := [(3, .int 0), (2, .int i4), (1, .ref r3), (0, .ref v0)]) (dk_at dk_Jx4a65c_clear_da8c8 16 rfl) (by decide) rfl ?_
  refine G_sub [2, 1, 0] rfl ?_
  exact h
theorem k_Jx4a65c_clear_da8c8_27 {l : Launch} {X : XT} {d : Nat} {Q : Ot → AH → Prop} {A : AH} {bc bs : Nat} {v1 : Nat} {v2 : Int32} {v3 : Int32} (h : (v2 ≤ v3 → Q Rv A) ∧ (¬ v2 ≤ v3 → sN X A v1 v3 fun A1 => G l X M_Jx4a65c_clear_da8c8 d Q 27 [(1, .ref v1), (2, .int v2), (3, .int (v3 + 1))] [] A1 bc bs)) : G l X M_Jx4a65c_clear_da8c8 d Q 27 [(1, .ref v1), (2, .int v2), (3, .int v3)] [] A bc bs := by
  refine G_iload_n 2 (dk_at dk_Jx4a65c_clear_da8c8 17 rfl) rfl ?_
  refine G_iload_n 1 (dk_at dk_Jx4a65c_clear_da8c8 18 rfl) rfl ?_
  refine G_icmp_ge (tgt := 42) (dk_at dk_Jx4a65c_clear_da8c8 19 rfl) (by decide) (fun c => ?_) (fun c => ?_)
  · replace h := h.1 c
    exact G_vret rfl (dk_at dk_Jx4a65c_clear_da8c8 26 rfl) h
  · replace h := h.2 c
    refine G_aload_n 0 (dk_at dk_Jx4a65c_clear_da8c8 20 rfl) rfl ?_
    refine G_iload_n 2 (dk_at dk_Jx4a65c_clear_da8c8 21 rfl) rfl ?_
    refine G_null (dk_at dk_Jx4a65c_clear_da8c8 22 rfl) ?_
    refine K_sN (dk_at dk_Jx4a65c_clear_da8c8 23 rfl) h (fun A1 h => ?_)
    refine G_iinc (v := v3 + 1) (lv' := [(3, .int (v3 + 1)), (1, .ref v1), (2, .int v2)]) 2 (dk_at dk_Jx4a65c_clear_da8c8 24 rfl) rfl rfl (by decide) rfl ?_
    refine G_goto (tgt := 27) (dk_at dk_Jx4a65c_clear_da8c8 25 rfl) (by decide) ?_
    refine G_sub [1, 2, 0] rfl ?_
    exact h
theorem k_J7_fill_53178_0 {l : Launch} {X : XT} {d : Nat} {Q : Ot → AH → Prop} {A : AH} {bc bs : Nat} {v0 : Nat} {v1 : Int32} (h : nI_ X A v0 fun i1 => G l X M_J7_fill_53178 d Q 5 [(0, .ref v0), (1, .int v1), (2, .int 0), (3, .int i1)] [] A bc bs) : G l X M_J7_fill_53178 d Q 0 [(0, .ref v0), (1, .int v1)] [] A bc bs := by
  refine G_iconst (v := 0) (dk_at dk_J7_fill_53178 0 rfl) (by decide) ?_
  refine G_istore_n (lv' := [(2, .int 0), (0, .ref v0), (1, .int v1)]) (dk_at dk_J7_fill_53178 1 rfl) (by decide) rfl ?_
  refine G_aload_n 1 (dk_at dk_J7_fill_53178 2 rfl) rfl ?_
  refine K_nI (dk_at dk_J7_fill_53178 3 rfl) h (fun i1 h => ?_)
  refine G_istore_n (lv' := [(3, .int i1), (2, .int 0), (0, .ref v0), (1, .int v1)]) (dk_at dk_J7_fill_53178 4 rfl) (by decide) rfl ?_
  refine G_sub [2, 3, 1, 0] rfl ?_
  exact h
theorem k_J7_fill_53178_5 {l : Launch} {X : XT} {d : Nat} {Q : Ot → AH → Prop} {A : AH} {bc bs : Nat} {v0 : Nat} {v1 : Int32} {v2 : Int32} {v3 : Int32} (h : (v3 ≤ v2 → Q Rv A) ∧ (¬ v3 ≤ v2 → sI X A v0 v2 v1 fun A1 => G l X M_J7_fill_53178 d Q 5 [(0, .ref v0), (1, .int v1), (2, .int (v2 + 1)), (3, .int v3)] [] A1 bc bs)) : G l X M_J7_fill_53178 d Q 5 [(0, .ref v0), (1, .int v1), (2, .int v2), (3, .int v3)] [] A bc bs := by
  refine G_iload_n 2 (dk_at dk_J7_fill_53178 5 rfl) rfl ?_
  refine G_iload_n 3 (dk_at dk_J7_fill_53178 6 rfl) rfl ?_
  refine G_icmp_ge (tgt := 20) (dk_at dk_J7_fill_53178 7 rfl) (by decide) (fun c => ?_) (fun c => ?_)
  · replace h := h.1 c
    exact G_vret rfl (dk_at dk_J7_fill_53178 14 rfl) h
  · replace h := h.2 c
    refine G_aload_n 0 (dk_at dk_J7_fill_53178 8 rfl) rfl ?_
    refine G_iload_n 2 (dk_at dk_J7_fill_53178 9 rfl) rfl ?_
    refine G_iload_n 1 (dk_at dk_J7_fill_53178 10 rfl) rfl ?_
    refine K_sI (dk_at dk_J7_fill_53178 11 rfl) h (fun A1 h => ?_)
    refine G_iinc (v := v2 + 1) (lv' := [(2, .int (v2 + 1)), (0, .ref v0), (1, .int v1), (3, .int v3)]) 2 (dk_at dk_J7_fill_53178 12 rfl) rfl rfl (by decide) rfl ?_
    refine G_goto (tgt := 5) (dk_at dk_J7_fill_53178 13 rfl) (by decide) ?_
    refine G_sub [1, 2, 0, 3] rfl ?_
    exact h
theorem k_J7_copyOf_59c91_0 {l : Launch} {X : XT} {d : Nat} {Q : Ot → AH → Prop} {A : AH} {bc bs : Nat} {v0 : Nat} {v1 : Int32} (h : nI_ X A v0 fun i1 => (¬ v1 = i1 → mkA A v1 (fun N => ia X N (fun _ => 0)) bc bs fun r2 A3 b4 c5 => nI_ X A3 v0 fun i6 => cpI X A3 v0 0 r2 0 (if v1 < i6 then v1 else i6) fun A7 => Q (Ra r2) A7) ∧ (v1 = i1 → cln X A v0 bc bs fun r8 A9 b10 c11 => (∃ (n : Nat) (f : Nat → Int32), A9.2 r8 = some (ia X n f)) ∧ Q (Ra r8) A9)) : G l X M_J7_copyOf_59c91 d Q 0 [(0, .ref v0), (1, .int v1)] [] A bc bs := by
  refine G_iload_n 1 (dk_at dk_J7_copyOf_59c91 0 rfl) rfl ?_
  refine G_aload_n 0 (dk_at dk_J7_copyOf_59c91 1 rfl) rfl ?_
  refine K_nI (dk_at dk_J7_copyOf_59c91 2 rfl) h (fun i1 h => ?_)
  refine G_icmp_ne (tgt := 14) (dk_at dk_J7_copyOf_59c91 3 rfl) (by decide) (fun c => ?_) (fun c => ?_)
  · replace h := h.1 c
    refine G_iload_n 1 (dk_at dk_J7_copyOf_59c91 8 rfl) rfl ?_
    refine K_newi wa_i (dk_at dk_J7_copyOf_59c91 9 rfl) h (fun r2 A3 b4 c5 h => ?_)
    refine G_astore_n (lv' := [(2, .ref r2), (0, .ref v0), (1, .int v1)]) (dk_at dk_J7_copyOf_59c91 10 rfl) (by decide) rfl ?_
    refine G_aload_n 1 (dk_at dk_J7_copyOf_59c91 11 rfl) rfl ?_
    refine G_iconst (v := 0) (dk_at dk_J7_copyOf_59c91 12 rfl) (by decide) ?_
    refine G_aload_n 0 (dk_at dk_J7_copyOf_59c91 13 rfl) rfl ?_
    refine G_iconst (v := 0) (dk_at dk_J7_copyOf_59c91 14 rfl) (by decide) ?_
    refine G_aload_n 1 (dk_at dk_J7_copyOf_59c91 15 rfl) rfl ?_
    refine K_nI (dk_at dk_J7_copyOf_59c91 16 rfl) h (fun i6 h => ?_)
    refine G_iload_n 2 (dk_at dk_J7_copyOf_59c91 17 rfl) rfl ?_
    refine G_min wd_4 wm_min1 wm_2 wm_min3 (dk_at dk_J7_copyOf_59c91 18 rfl) (Nat.le_of_ble_eq_true rfl) ?_
    refine K_cpI lc_J7_150 (dk_at dk_J7_copyOf_59c91 19 rfl) (Nat.le_of_ble_eq_true rfl) h (fun A7 h => ?_)
    refine G_aload_n 0 (dk_at dk_J7_copyOf_59c91 20 rfl) rfl ?_
    exact G_aret rfl (Or.inr ⟨_, rfl⟩) (dk_at dk_J7_copyOf_59c91 21 rfl) h
  · replace h := h.2 c
    refine G_aload_n 0 (dk_at dk_J7_copyOf_59c91 4 rfl) rfl ?_
    refine K_cln lcl_J7_316 (dk_at dk_J7_copyOf_59c91 5 rfl) (Nat.le_of_ble_eq_true rfl) h (fun r8 A9 b10 c11 h => ?_)
    refine K_castA wd_5 (dk_at dk_J7_copyOf_59c91 6 rfl) h (fun h => ?_)
    exact G_aret rfl (Or.inr ⟨_, rfl⟩) (dk_at dk_J7_copyOf_59c91 7 rfl) h
theorem k_J15_checkIndex_7cf53_0 {l : Launch} {X : XT} {d : Nat} {Q : Ot → AH → Prop} {A : AH} {bc bs : Nat} {v0 : Int32} {v1 : Int32} (h : Cal l X d bc bs M_J3_checkIndex_8e157 [.int v0, .int v1, .null] A fun o4 A1 b2 c3 => rI o4 (fun E => Q (.inr E) A1) fun i5 => Q (Ri i5) A1) : G l X M_J15_checkIndex_7cf53 d Q 0 [(0, .int v0), (1, .int v1)] [] A bc bs := by
  refine G_iload_n 0 (dk_at dk_J15_checkIndex_7cf53 0 rfl) rfl ?_
  refine G_iload_n 1 (dk_at dk_J15_checkIndex_7cf53 1 rfl) rfl ?_
  refine G_null (dk_at dk_J15_checkIndex_7cf53 2 rfl) ?_
  refine G_callS (As := [.int v0, .int v1, .null]) (rest := []) lk_J15_105 rfl (dk_at dk_J15_checkIndex_7cf53 3 rfl) rfl rfl (Nat.le_of_ble_eq_true rfl) (h.mono fun o4 A1 b2 c3 h => aftI h fun i5 h => ?_)
  exact G_iret (ty := .int) rfl rfl (dk_at dk_J15_checkIndex_7cf53 4 rfl) h
theorem k_J3_checkIndex_8e157_0 {l : Launch} {X : XT} {d : Nat} {Q : Ot → AH → Prop} {A : AH} {bc bs : Nat} {v0 : Int32} {v1 : Int32} {v2 : Option Nat} (h : (v0 < 0 → G l X M_J3_checkIndex_8e157 d Q 9 [(0, .int v0), (1, .int v1), (2, va_rf v2)] [] A bc bs) ∧ (¬ v0 < 0 → (v0 < v1 → Q (Ri v0) A) ∧ (¬ v0 < v1 → G l X M_J3_checkIndex_8e157 d Q 9 [(0, .int v0), (1, .int v1), (2, va_rf v2)] [] A bc bs))) : G l X M_J3_checkIndex_8e157 d Q 0 [(0, .int v0), (1, .int v1), (2, va_rf v2)] [] A bc bs := by
  refine G_iload_n 0 (dk_at dk_J3_checkIndex_8e157 0 rfl) rfl ?_
  refine G_if_lt (tgt := 9) (dk_at dk_J3_checkIndex_8e157 1 rfl) (by decide) (fun c => ?_) (fun c => ?_)
  · replace h := h.1 c
    exact h
  · replace h := h.2 c
    refine G_iload_n 0 (dk_at dk_J3_checkIndex_8e157 2 rfl) rfl ?_
    refine G_iload_n 1 (dk_at dk_J3_checkIndex_8e157 3 rfl) rfl ?_
    refine G_icmp_lt (tgt := 16) (dk_at dk_J3_checkIndex_8e157 4 rfl) (by decide) (fun c => ?_) (fun c => ?_)
    · replace h := h.1 c
      refine G_iload_n 0 (dk_at dk_J3_checkIndex_8e157 10 rfl) rfl ?_
      exact G_iret (ty := .int) rfl rfl (dk_at dk_J3_checkIndex_8e157 11 rfl) h
    · replace h := h.2 c
      exact h
theorem k_J3_checkIndex_8e157_9 {l : Launch} {X : XT} {d : Nat} {Q : Ot → AH → Prop} {A : AH} {bc bs : Nat} {v0 : Int32} {v1 : Int32} {v2 : Option Nat} (h : False) : G l X M_J3_checkIndex_8e157 d Q 9 [(0, .int v0), (1, .int v1), (2, va_rf v2)] [] A bc bs := by
  refine G_aload_nQ 2 (dk_at dk_J3_checkIndex_8e157 5 rfl) rfl ?_
  refine G_iload_n 0 (dk_at dk_J3_checkIndex_8e157 6 rfl) rfl ?_
  refine G_iload_n 1 (dk_at dk_J3_checkIndex_8e157 7 rfl) rfl ?_
  exact h.elim
