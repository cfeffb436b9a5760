/-! blocks: what a method asks, row by row, as one formula (laid by wip/whole/gen) -/
theorem k_L_append_0 {l : Launch} {X : XT} {d : Nat} {Q : Ot → AH → Prop} {A : AH} {bc bs : Nat} {v0 : Nat} {v1 : Int32} {v2 : Int32} {v3 : Int32} {v4 : Int32} {v5 : Int32} {v6 : Nat} (h : isO A v0 6 ∧ Cal l X d bc bs M_X5_append [.ref v0, .int v1, .int v2, .int v3, .int v4, .int v5] A fun o4 A1 b2 c3 => (∃ i5, o4 = Ri i5 ∧ sL X A1 v6 0 (Int32.toInt64 i5) fun A6 => Q (Ri 0) A6) ∨ (o4 = Th "java/lang/IllegalStateException" ∧ ∀ q : Nat, Q (Ri 1) A1)) : G l X M_L_append d Q 0 [(0, .ref v0), (1, .int v1), (2, .int v2), (3, .int v3), (4, .int v4), (5, .int v5), (6, .ref v6)] [] A bc bs := by
  refine G_aload 6 (dk_at dk_L_append 0 rfl) rfl ?_
  refine G_iconst (v := 0) (dk_at dk_L_append 1 rfl) (by decide) ?_
  refine G_aload_n 0 (dk_at dk_L_append 2 rfl) rfl ?_
  refine G_iload_n 1 (dk_at dk_L_append 3 rfl) rfl ?_
  refine G_iload_n 2 (dk_at dk_L_append 4 rfl) rfl ?_
  refine G_iload_n 3 (dk_at dk_L_append 5 rfl) rfl ?_
  refine G_iload 4 (dk_at dk_L_append 6 rfl) rfl ?_
  refine G_iload 5 (dk_at dk_L_append 7 rfl) rfl ?_
  obtain ⟨⟨_, ho⟩, h⟩ := h
  refine G_callVX (As := [.int v1, .int v2, .int v3, .int v4, .int v5]) (rest := [.int 0, .ref v6]) lk_L_7 (dk_at dk_L_append 8 rfl) rfl rfl (Nat.le_of_ble_eq_true rfl) ho (h.mono fun o4 A1 b2 c3 h => ?_)
  rcases h with ⟨i5, rfl, h⟩ | ⟨rfl, h⟩
  · change G l X M_L_append d Q _ _ _ _ _ _
    refine G_i2l (dk_at dk_L_append 9 rfl) rfl ?_
    refine K_sL (dk_at dk_L_append 10 rfl) h (fun A6 h => ?_)
    refine G_goto (tgt := 23) (dk_at dk_L_append 11 rfl) (by decide) ?_
    refine G_iconst (v := 0) (dk_at dk_L_append 15 rfl) (by decide) ?_
    exact G_iret (ty := .int) rfl rfl (dk_at dk_L_append 16 rfl) h
  · refine ⟨[], ⟨0, 16, 19, 13⟩, [], rfl, rfl, by decide, ⟨_, wd_23, wd_24⟩, fun y hy => (nomatch hy), fun q => ?_⟩
    replace h := h q
    change G l X M_L_append d Q _ _ _ _ _ _
    refine G_astore (lv' := [(7, .ref q), (0, .ref v0), (1, .int v1), (2, .int v2), (3, .int v3), (4, .int v4), (5, .int v5), (6, .ref v6)]) (dk_at dk_L_append 12 rfl) (by decide) rfl ?_
    refine G_iconst (v := 1) (dk_at dk_L_append 13 rfl) (by decide) ?_
    exact G_iret (ty := .int) rfl rfl (dk_at dk_L_append 14 rfl) h
theorem k_L_load_0 {l : Launch} {X : XT} {d : Nat} {Q : Ot → AH → Prop} {A : AH} {bc bs : Nat} {v0 : Nat} {v1 : Int32} {v2 : Nat} (h : isO A v0 6 ∧ Cal l X d bc bs M_X5_load [.ref v0, .int v1] A fun o4 A1 b2 c3 => (∃ i5, o4 = Ri i5 ∧ sL X A1 v2 0 (Int32.toInt64 i5) fun A6 => Q (Ri 0) A6) ∨ (o4 = Th "java/lang/IllegalArgumentException" ∧ ∀ q : Nat, Q (Ri 1) A1)) : G l X M_L_load d Q 0 [(0, .ref v0), (1, .int v1), (2, .ref v2)] [] A bc bs := by
  refine G_aload_n 2 (dk_at dk_L_load 0 rfl) rfl ?_
  refine G_iconst (v := 0) (dk_at dk_L_load 1 rfl) (by decide) ?_
  refine G_aload_n 0 (dk_at dk_L_load 2 rfl) rfl ?_
  refine G_iload_n 1 (dk_at dk_L_load 3 rfl) rfl ?_
  obtain ⟨⟨_, ho⟩, h⟩ := h
  refine G_callVX (As := [.int v1]) (rest := [.int 0, .ref v2]) lk_L_15 (dk_at dk_L_load 4 rfl) rfl rfl (Nat.le_of_ble_eq_true rfl) ho (h.mono fun o4 A1 b2 c3 h => ?_)
  rcases h with ⟨i5, rfl, h⟩ | ⟨rfl, h⟩
  · change G l X M_L_load d Q _ _ _ _ _ _
    refine G_i2l (dk_at dk_L_load 5 rfl) rfl ?_
    refine K_sL (dk_at dk_L_load 6 rfl) h (fun A6 h => ?_)
    refine G_goto (tgt := 15) (dk_at dk_L_load 7 rfl) (by decide) ?_
    refine G_iconst (v := 0) (dk_at dk_L_load 11 rfl) (by decide) ?_
    exact G_iret (ty := .int) rfl rfl (dk_at dk_L_load 12 rfl) h
  · refine ⟨[], ⟨0, 9, 12, 19⟩, [], rfl, rfl, by decide, ⟨_, wd_25, wd_26⟩, fun y hy => (nomatch hy), fun q => ?_⟩
    replace h := h q
    change G l X M_L_load d Q _ _ _ _ _ _
    refine G_astore_n (lv' := [(3, .ref q), (0, .ref v0), (1, .int v1), (2, .ref v2)]) (dk_at dk_L_load 8 rfl) (by decide) rfl ?_
    refine G_iconst (v := 1) (dk_at dk_L_load 9 rfl) (by decide) ?_
    exact G_iret (ty := .int) rfl rfl (dk_at dk_L_load 10 rfl) h
theorem k_L_count_0 {l : Launch} {X : XT} {d : Nat} {Q : Ot → AH → Prop} {A : AH} {bc bs : Nat} {v0 : Nat} {v1 : Int32} {v2 : Nat} (h : isO A v0 6 ∧ Cal l X d bc bs M_X5_count [.ref v0, .int v1] A fun o4 A1 b2 c3 => (∃ i5, o4 = Ri i5 ∧ sL X A1 v2 0 (Int32.toInt64 i5) fun A6 => Q (Ri 0) A6) ∨ (o4 = Th "java/lang/IllegalArgumentException" ∧ ∀ q : Nat, Q (Ri 1) A1)) : G l X M_L_count d Q 0 [(0, .ref v0), (1, .int v1), (2, .ref v2)] [] A bc bs := by
  refine G_aload_n 2 (dk_at dk_L_count 0 rfl) rfl ?_
  refine G_iconst (v := 0) (dk_at dk_L_count 1 rfl) (by decide) ?_
  refine G_aload_n 0 (dk_at dk_L_count 2 rfl) rfl ?_
  refine G_iload_n 1 (dk_at dk_L_count 3 rfl) rfl ?_
  obtain ⟨⟨_, ho⟩, h⟩ := h
  refine G_callVX (As := [.int v1]) (rest := [.int 0, .ref v2]) lk_L_21 (dk_at dk_L_count 4 rfl) rfl rfl (Nat.le_of_ble_eq_true rfl) ho (h.mono fun o4 A1 b2 c3 h => ?_)
  rcases h with ⟨i5, rfl, h⟩ | ⟨rfl, h⟩
  · change G l X M_L_count d Q _ _ _ _ _ _
    refine G_i2l (dk_at dk_L_count 5 rfl) rfl ?_
    refine K_sL (dk_at dk_L_count 6 rfl) h (fun A6 h => ?_)
    refine G_goto (tgt := 15) (dk_at dk_L_count 7 rfl) (by decide) ?_
    refine G_iconst (v := 0) (dk_at dk_L_count 11 rfl) (by decide) ?_
    exact G_iret (ty := .int) rfl rfl (dk_at dk_L_count 12 rfl) h
  · refine ⟨[], ⟨0, 9, 12, 19⟩, [], rfl, rfl, by decide, ⟨_, wd_25, wd_26⟩, fun y hy => (nomatch hy), fun q => ?_⟩
    replace h := h q
    change G l X M_L_count d Q _ _ _ _ _ _
    refine G_astore_n (lv' := [(3, .ref q), (0, .ref v0), (1, .int v1), (2, .ref v2)]) (dk_at dk_L_count 8 rfl) (by decide) rfl ?_
    refine G_iconst (v := 1) (dk_at dk_L_count 9 rfl) (by decide) ?_
    exact G_iret (ty := .int) rfl rfl (dk_at dk_L_count 10 rfl) h
theorem k_L_source_0 {l : Launch} {X : XT} {d : Nat} {Q : Ot → AH → Prop} {A : AH} {bc bs : Nat} {v0 : Nat} {v1 : Int32} {v2 : Int32} {v3 : Nat} (h : isO A v0 6 ∧ Cal l X d bc bs M_X5_source [.ref v0, .int v1, .int v2] A fun o4 A1 b2 c3 => (∃ i5, o4 = Ri i5 ∧ sL X A1 v3 0 (Int32.toInt64 i5) fun A6 => Q (Ri 0) A6) ∨ (o4 = Th "java/lang/IndexOutOfBoundsException" ∧ ∀ q : Nat, Q (Ri 1) A1) ∨ (o4 = Th "java/lang/IllegalArgumentException" ∧ ∀ q : Nat, Q (Ri 2) A1)) : G l X M_L_source d Q 0 [(0, .ref v0), (1, .int v1), (2, .int v2), (3, .ref v3)] [] A bc bs := by
  refine G_aload_n 3 (dk_at dk_L_source 0 rfl) rfl ?_
  refine G_iconst (v := 0) (dk_at dk_L_source 1 rfl) (by decide) ?_
  refine G_aload_n 0 (dk_at dk_L_source 2 rfl) rfl ?_
  refine G_iload_n 1 (dk_at dk_L_source 3 rfl) rfl ?_
  refine G_iload_n 2 (dk_at dk_L_source 4 rfl) rfl ?_
  obtain ⟨⟨_, ho⟩, h⟩ := h
  refine G_callVX (As := [.int v1, .int v2]) (rest := [.int 0, .ref v3]) lk_L_24 (dk_at dk_L_source 5 rfl) rfl rfl (Nat.le_of_ble_eq_true rfl) ho (h.mono fun o4 A1 b2 c3 h => ?_)
  rcases h with ⟨i5, rfl, h⟩ | ⟨rfl, h⟩ | ⟨rfl, h⟩
  · change G l X M_L_source d Q _ _ _ _ _ _
    refine G_i2l (dk_at dk_L_source 6 rfl) rfl ?_
    refine K_sL (dk_at dk_L_source 7 rfl) h (fun A6 h => ?_)
    refine G_goto (tgt := 21) (dk_at dk_L_source 8 rfl) (by decide) ?_
    refine G_iconst (v := 0) (dk_at dk_L_source 15 rfl) (by decide) ?_
    exact G_iret (ty := .int) rfl rfl (dk_at dk_L_source 16 rfl) h
  · refine ⟨[], ⟨0, 10, 13, 28⟩, [⟨0, 10, 17, 19⟩], rfl, rfl, by decide, ⟨_, wd_27, wd_28⟩, fun y hy => (nomatch hy), fun q => ?_⟩
    replace h := h q
    change G l X M_L_source d Q _ _ _ _ _ _
    refine G_astore (lv' := [(4, .ref q), (0, .ref v0), (1, .int v1), (2, .int v2), (3, .ref v3)]) (dk_at dk_L_source 9 rfl) (by decide) rfl ?_
    refine G_iconst (v := 1) (dk_at dk_L_source 10 rfl) (by decide) ?_
    exact G_iret (ty := .int) rfl rfl (dk_at dk_L_source 11 rfl) h
  · refine ⟨[⟨0, 10, 13, 28⟩], ⟨0, 10, 17, 19⟩, [], rfl, rfl, by decide, ⟨_, wd_25, wd_26⟩, fun y hy => by rw [List.mem_singleton.mp hy]; exact ⟨by decide, _, wd_27, by decide⟩, fun q => ?_⟩
    replace h := h q
    change G l X M_L_source d Q _ _ _ _ _ _
    refine G_astore (lv' := [(4, .ref q), (0, .ref v0), (1, .int v1), (2, .int v2), (3, .ref v3)]) (dk_at dk_L_source 12 rfl) (by decide) rfl ?_
    refine G_iconst (v := 2) (dk_at dk_L_source 13 rfl) (by decide) ?_
    exact G_iret (ty := .int) rfl rfl (dk_at dk_L_source 14 rfl) h
theorem k_L_sent_0 {l : Launch} {X : XT} {d : Nat} {Q : Ot → AH → Prop} {A : AH} {bc bs : Nat} {v0 : Nat} {v1 : Int32} {v2 : Int32} {v3 : Nat} (h : isO A v0 6 ∧ Cal l X d bc bs M_X5_sent [.ref v0, .int v1, .int v2] A fun o4 A1 b2 c3 => (∃ i5, o4 = Ri i5 ∧ sL X A1 v3 0 (Int32.toInt64 i5) fun A6 => Q (Ri 0) A6) ∨ (o4 = Th "java/lang/IndexOutOfBoundsException" ∧ ∀ q : Nat, Q (Ri 1) A1)) : G l X M_L_sent d Q 0 [(0, .ref v0), (1, .int v1), (2, .int v2), (3, .ref v3)] [] A bc bs := by
  refine G_aload_n 3 (dk_at dk_L_sent 0 rfl) rfl ?_
  refine G_iconst (v := 0) (dk_at dk_L_sent 1 rfl) (by decide) ?_
  refine G_aload_n 0 (dk_at dk_L_sent 2 rfl) rfl ?_
  refine G_iload_n 1 (dk_at dk_L_sent 3 rfl) rfl ?_
  refine G_iload_n 2 (dk_at dk_L_sent 4 rfl) rfl ?_
  obtain ⟨⟨_, ho⟩, h⟩ := h
  refine G_callVX (As := [.int v1, .int v2]) (rest := [.int 0, .ref v3]) lk_L_30 (dk_at dk_L_sent 5 rfl) rfl rfl (Nat.le_of_ble_eq_true rfl) ho (h.mono fun o4 A1 b2 c3 h => ?_)
  rcases h with ⟨i5, rfl, h⟩ | ⟨rfl, h⟩
  · change G l X M_L_sent d Q _ _ _ _ _ _
    refine G_i2l (dk_at dk_L_sent 6 rfl) rfl ?_
    refine K_sL (dk_at dk_L_sent 7 rfl) h (fun A6 h => ?_)
    refine G_goto (tgt := 17) (dk_at dk_L_sent 8 rfl) (by decide) ?_
    refine G_iconst (v := 0) (dk_at dk_L_sent 12 rfl) (by decide) ?_
    exact G_iret (ty := .int) rfl rfl (dk_at dk_L_sent 13 rfl) h
  · refine ⟨[], ⟨0, 10, 13, 28⟩, [], rfl, rfl, by decide, ⟨_, wd_27, wd_28⟩, fun y hy => (nomatch hy), fun q => ?_⟩
    replace h := h q
    change G l X M_L_sent d Q _ _ _ _ _ _
    refine G_astore (lv' := [(4, .ref q), (0, .ref v0), (1, .int v1), (2, .int v2), (3, .ref v3)]) (dk_at dk_L_sent 9 rfl) (by decide) rfl ?_
    refine G_iconst (v := 1) (dk_at dk_L_sent 10 rfl) (by decide) ?_
    exact G_iret (ty := .int) rfl rfl (dk_at dk_L_sent 11 rfl) h
theorem k_L_got_0 {l : Launch} {X : XT} {d : Nat} {Q : Ot → AH → Prop} {A : AH} {bc bs : Nat} {v0 : Nat} {v1 : Int32} {v2 : Nat} (h : isO A v0 6 ∧ Cal l X d bc bs M_X5_got [.ref v0, .int v1] A fun o4 A1 b2 c3 => (∃ i5, o4 = Ri i5 ∧ sL X A1 v2 0 (Int32.toInt64 i5) fun A6 => Q (Ri 0) A6) ∨ (o4 = Th "java/lang/IndexOutOfBoundsException" ∧ ∀ q : Nat, Q (Ri 1) A1)) : G l X M_L_got d Q 0 [(0, .ref v0), (1, .int v1), (2, .ref v2)] [] A bc bs := by
  refine G_aload_n 2 (dk_at dk_L_got 0 rfl) rfl ?_
  refine G_iconst (v := 0) (dk_at dk_L_got 1 rfl) (by decide) ?_
  refine G_aload_n 0 (dk_at dk_L_got 2 rfl) rfl ?_
  refine G_iload_n 1 (dk_at dk_L_got 3 rfl) rfl ?_
  obtain ⟨⟨_, ho⟩, h⟩ := h
  refine G_callVX (As := [.int v1]) (rest := [.int 0, .ref v2]) lk_L_33 (dk_at dk_L_got 4 rfl) rfl rfl (Nat.le_of_ble_eq_true rfl) ho (h.mono fun o4 A1 b2 c3 h => ?_)
  rcases h with ⟨i5, rfl, h⟩ | ⟨rfl, h⟩
  · change G l X M_L_got d Q _ _ _ _ _ _
    refine G_i2l (dk_at dk_L_got 5 rfl) rfl ?_
    refine K_sL (dk_at dk_L_got 6 rfl) h (fun A6 h => ?_)
    refine G_goto (tgt := 15) (dk_at dk_L_got 7 rfl) (by decide) ?_
    refine G_iconst (v := 0) (dk_at dk_L_got 11 rfl) (by decide) ?_
    exact G_iret (ty := .int) rfl rfl (dk_at dk_L_got 12 rfl) h
  · refine ⟨[], ⟨0, 9, 12, 28⟩, [], rfl, rfl, by decide, ⟨_, wd_27, wd_28⟩, fun y hy => (nomatch hy), fun q => ?_⟩
    replace h := h q
    change G l X M_L_got d Q _ _ _ _ _ _
    refine G_astore_n (lv' := [(3, .ref q), (0, .ref v0), (1, .int v1), (2, .ref v2)]) (dk_at dk_L_got 8 rfl) (by decide) rfl ?_
    refine G_iconst (v := 1) (dk_at dk_L_got 9 rfl) (by decide) ?_
    exact G_iret (ty := .int) rfl rfl (dk_at dk_L_got 10 rfl) h
theorem k_L_piece_0 {l : Launch} {X : XT} {d : Nat} {Q : Ot → AH → Prop} {A : AH} {bc bs : Nat} {v0 : Nat} {v1 : Int32} {v2 : Int32} {v3 : Nat} (h : isO A v0 6 ∧ Cal l X d bc bs M_X5_piece [.ref v0, .int v1, .int v2] A fun o4 A1 b2 c3 => (∃ i5, o4 = Ri i5 ∧ sL X A1 v3 0 (Int32.toInt64 i5) fun A6 => Q (Ri 0) A6) ∨ (o4 = Th "java/lang/IndexOutOfBoundsException" ∧ ∀ q : Nat, Q (Ri 1) A1) ∨ (o4 = Th "java/lang/IllegalArgumentException" ∧ ∀ q : Nat, Q (Ri 2) A1)) : G l X M_L_piece d Q 0 [(0, .ref v0), (1, .int v1), (2, .int v2), (3, .ref v3)] [] A bc bs := by
  refine G_aload_n 3 (dk_at dk_L_piece 0 rfl) rfl ?_
  refine G_iconst (v := 0) (dk_at dk_L_piece 1 rfl) (by decide) ?_
  refine G_aload_n 0 (dk_at dk_L_piece 2 rfl) rfl ?_
  refine G_iload_n 1 (dk_at dk_L_piece 3 rfl) rfl ?_
  refine G_iload_n 2 (dk_at dk_L_piece 4 rfl) rfl ?_
  obtain ⟨⟨_, ho⟩, h⟩ := h
  refine G_callVX (As := [.int v1, .int v2]) (rest := [.int 0, .ref v3]) lk_L_36 (dk_at dk_L_piece 5 rfl) rfl rfl (Nat.le_of_ble_eq_true rfl) ho (h.mono fun o4 A1 b2 c3 h => ?_)
  rcases h with ⟨i5, rfl, h⟩ | ⟨rfl, h⟩ | ⟨rfl, h⟩
  · change G l X M_L_piece d Q _ _ _ _ _ _
    refine G_i2l (dk_at dk_L_piece 6 rfl) rfl ?_
    refine K_sL (dk_at dk_L_piece 7 rfl) h (fun A6 h => ?_)
    refine G_goto (tgt := 21) (dk_at dk_L_piece 8 rfl) (by decide) ?_
    refine G_iconst (v := 0) (dk_at dk_L_piece 15 rfl) (by decide) ?_
    exact G_iret (ty := .int) rfl rfl (dk_at dk_L_piece 16 rfl) h
  · refine ⟨[], ⟨0, 10, 13, 28⟩, [⟨0, 10, 17, 19⟩], rfl, rfl, by decide, ⟨_, wd_27, wd_28⟩, fun y hy => (nomatch hy), fun q => ?_⟩
    replace h := h q
    change G l X M_L_piece d Q _ _ _ _ _ _
    refine G_astore (lv' := [(4, .ref q), (0, .ref v0), (1, .int v1), (2, .int v2), (3, .ref v3)]) (dk_at dk_L_piece 9 rfl) (by decide) rfl ?_
    refine G_iconst (v := 1) (dk_at dk_L_piece 10 rfl) (by decide) ?_
    exact G_iret (ty := .int) rfl rfl (dk_at dk_L_piece 11 rfl) h
  · refine ⟨[⟨0, 10, 13, 28⟩], ⟨0, 10, 17, 19⟩, [], rfl, rfl, by decide, ⟨_, wd_25, wd_26⟩, fun y hy => by rw [List.mem_singleton.mp hy]; exact ⟨by decide, _, wd_27, by decide⟩, fun q => ?_⟩
    replace h := h q
    change G l X M_L_piece d Q _ _ _ _ _ _
    refine G_astore (lv' := [(4, .ref q), (0, .ref v0), (1, .int v1), (2, .int v2), (3, .ref v3)]) (dk_at dk_L_piece 12 rfl) (by decide) rfl ?_
    refine G_iconst (v := 2) (dk_at dk_L_piece 13 rfl) (by decide) ?_
    exact G_iret (ty := .int) rfl rfl (dk_at dk_L_piece 14 rfl) h
theorem k_L_part_0 {l : Launch} {X : XT} {d : Nat} {Q : Ot → AH → Prop} {A : AH} {bc bs : Nat} {v0 : Nat} {v1 : Int32} {v2 : Int32} {v3 : Nat} (h : isO A v0 6 ∧ Cal l X d bc bs M_X5_part [.ref v0, .int v1, .int v2] A fun o4 A1 b2 c3 => (∃ i5, o4 = Ri i5 ∧ sL X A1 v3 0 (Int32.toInt64 i5) fun A6 => Q (Ri 0) A6) ∨ (o4 = Th "java/lang/IndexOutOfBoundsException" ∧ ∀ q : Nat, Q (Ri 1) A1) ∨ (o4 = Th "java/lang/IllegalArgumentException" ∧ ∀ q : Nat, Q (Ri 2) A1)) : G l X M_L_part d Q 0 [(0, .ref v0), (1, .int v1), (2, .int v2), (3, .ref v3)] [] A bc bs := by
  refine G_aload_n 3 (dk_at dk_L_part 0 rfl) rfl ?_
  refine G_iconst (v := 0) (dk_at dk_L_part 1 rfl) (by decide) ?_
  refine G_aload_n 0 (dk_at dk_L_part 2 rfl) rfl ?_
  refine G_iload_n 1 (dk_at dk_L_part 3 rfl) rfl ?_
  refine G_iload_n 2 (dk_at dk_L_part 4 rfl) rfl ?_
  obtain ⟨⟨_, ho⟩, h⟩ := h
  refine G_callVX (As := [.int v1, .int v2]) (rest := [.int 0, .ref v3]) lk_L_39 (dk_at dk_L_part 5 rfl) rfl rfl (Nat.le_of_ble_eq_true rfl) ho (h.mono fun o4 A1 b2 c3 h => ?_)
  rcases h with ⟨i5, rfl, h⟩ | ⟨rfl, h⟩ | ⟨rfl, h⟩
  · change G l X M_L_part d Q _ _ _ _ _ _
    refine G_i2l (dk_at dk_L_part 6 rfl) rfl ?_
    refine K_sL (dk_at dk_L_part 7 rfl) h (fun A6 h => ?_)
    refine G_goto (tgt := 21) (dk_at dk_L_part 8 rfl) (by decide) ?_
    refine G_iconst (v := 0) (dk_at dk_L_part 15 rfl) (by decide) ?_
    exact G_iret (ty := .int) rfl rfl (dk_at dk_L_part 16 rfl) h
  · refine ⟨[], ⟨0, 10, 13, 28⟩, [⟨0, 10, 17, 19⟩], rfl, rfl, by decide, ⟨_, wd_27, wd_28⟩, fun y hy => (nomatch hy), fun q => ?_⟩
    replace h := h q
    change G l X M_L_part d Q _ _ _ _ _ _
    refine G_astore (lv' := [(4, .ref q), (0, .ref v0), (1, .int v1), (2, .int v2), (3, .ref v3)]) (dk_at dk_L_part 9 rfl) (by decide) rfl ?_
    refine G_iconst (v := 1) (dk_at dk_L_part 10 rfl) (by decide) ?_
    exact G_iret (ty := .int) rfl rfl (dk_at dk_L_part 11 rfl) h
  · refine ⟨[⟨0, 10, 13, 28⟩], ⟨0, 10, 17, 19⟩, [], rfl, rfl, by decide, ⟨_, wd_25, wd_26⟩, fun y hy => by rw [List.mem_singleton.mp hy]; exact ⟨by decide, _, wd_27, by decide⟩, fun q => ?_⟩
    replace h := h q
    change G l X M_L_part d Q _ _ _ _ _ _
    refine G_astore (lv' := [(4, .ref q), (0, .ref v0), (1, .int v1), (2, .int v2), (3, .ref v3)]) (dk_at dk_L_part 12 rfl) (by decide) rfl ?_
    refine G_iconst (v := 2) (dk_at dk_L_part 13 rfl) (by decide) ?_
    exact G_iret (ty := .int) rfl rfl (dk_at dk_L_part 14 rfl) h
theorem k_L_checksum_0 {l : Launch} {X : XT} {d : Nat} {Q : Ot → AH → Prop} {A : AH} {bc bs : Nat} {v0 : Nat} {v1 : Int32} {v2 : Int32} {v3 : Int32} {v4 : Nat} (h : isO A v0 6 ∧ Cal l X d bc bs M_X5_checksum [.ref v0, .int v1, .int v2, .int v3] A fun o4 A1 b2 c3 => (∃ i5, o4 = Ri i5 ∧ sL X A1 v4 0 (Int32.toInt64 i5) fun A6 => Q (Ri 0) A6) ∨ (o4 = Th "java/lang/IndexOutOfBoundsException" ∧ ∀ q : Nat, Q (Ri 1) A1) ∨ (o4 = Th "java/lang/IllegalArgumentException" ∧ ∀ q : Nat, Q (Ri 2) A1)) : G l X M_L_checksum d Q 0 [(0, .ref v0), (1, .int v1), (2, .int v2), (3, .int v3), (4, .ref v4)] [] A bc bs := by
  refine G_aload 4 (dk_at dk_L_checksum 0 rfl) rfl ?_
  refine G_iconst (v := 0) (dk_at dk_L_checksum 1 rfl) (by decide) ?_
  refine G_aload_n 0 (dk_at dk_L_checksum 2 rfl) rfl ?_
  refine G_iload_n 1 (dk_at dk_L_checksum 3 rfl) rfl ?_
  refine G_iload_n 2 (dk_at dk_L_checksum 4 rfl) rfl ?_
  refine G_iload_n 3 (dk_at dk_L_checksum 5 rfl) rfl ?_
  obtain ⟨⟨_, ho⟩, h⟩ := h
  refine G_callVX (As := [.int v1, .int v2, .int v3]) (rest := [.int 0, .ref v4]) lk_L_42 (dk_at dk_L_checksum 6 rfl) rfl rfl (Nat.le_of_ble_eq_true rfl) ho (h.mono fun o4 A1 b2 c3 h => ?_)
  rcases h with ⟨i5, rfl, h⟩ | ⟨rfl, h⟩ | ⟨rfl, h⟩
  · change G l X M_L_checksum d Q _ _ _ _ _ _
    refine G_i2l (dk_at dk_L_checksum 7 rfl) rfl ?_
    refine K_sL (dk_at dk_L_checksum 8 rfl) h (fun A6 h => ?_)
    refine G_goto (tgt := 23) (dk_at dk_L_checksum 9 rfl) (by decide) ?_
    refine G_iconst (v := 0) (dk_at dk_L_checksum 16 rfl) (by decide) ?_
    exact G_iret (ty := .int) rfl rfl (dk_at dk_L_checksum 17 rfl) h
  · refine ⟨[], ⟨0, 12, 15, 28⟩, [⟨0, 12, 19, 19⟩], rfl, rfl, by decide, ⟨_, wd_27, wd_28⟩, fun y hy => (nomatch hy), fun q => ?_⟩
    replace h := h q
    change G l X M_L_checksum d Q _ _ _ _ _ _
    refine G_astore (lv' := [(5, .ref q), (0, .ref v0), (1, .int v1), (2, .int v2), (3, .int v3), (4, .ref v4)]) (dk_at dk_L_checksum 10 rfl) (by decide) rfl ?_
    refine G_iconst (v := 1) (dk_at dk_L_checksum 11 rfl) (by decide) ?_
    exact G_iret (ty := .int) rfl rfl (dk_at dk_L_checksum 12 rfl) h
  · refine ⟨[⟨0, 12, 15, 28⟩], ⟨0, 12, 19, 19⟩, [], rfl, rfl, by decide, ⟨_, wd_25, wd_26⟩, fun y hy => by rw [List.mem_singleton.mp hy]; exact ⟨by decide, _, wd_27, by decide⟩, fun q => ?_⟩
    replace h := h q
    change G l X M_L_checksum d Q _ _ _ _ _ _
    refine G_astore (lv' := [(5, .ref q), (0, .ref v0), (1, .int v1), (2, .int v2), (3, .int v3), (4, .ref v4)]) (dk_at dk_L_checksum 13 rfl) (by decide) rfl ?_
    refine G_iconst (v := 2) (dk_at dk_L_checksum 14 rfl) (by decide) ?_
    exact G_iret (ty := .int) rfl rfl (dk_at dk_L_checksum 15 rfl) h
theorem k_L_connect_0 {l : Launch} {X : XT} {d : Nat} {Q : Ot → AH → Prop} {A : AH} {bc bs : Nat} {v0 : Nat} {v1 : Int32} {v2 : Int32} {v3 : Nat} (h : isO A v0 6 ∧ Cal l X d bc bs M_X5_connect [.ref v0, .int v1, .int v2] A fun o4 A1 b2 c3 => (∃ i5, o4 = Ri i5 ∧ (i5 = 0 → G l X M_L_connect d Q 16 [] [.long 0, .int 0, .ref v3] A1 b2 c3) ∧ (¬ i5 = 0 → G l X M_L_connect d Q 16 [] [.long 1, .int 0, .ref v3] A1 b2 c3)) ∨ (o4 = Th "java/lang/IndexOutOfBoundsException" ∧ ∀ q : Nat, Q (Ri 1) A1) ∨ (o4 = Th "java/lang/IllegalStateException" ∧ ∀ q : Nat, Q (Ri 2) A1)) : G l X M_L_connect d Q 0 [(0, .ref v0), (1, .int v1), (2, .int v2), (3, .ref v3)] [] A bc bs := by
  refine G_aload_n 3 (dk_at dk_L_connect 0 rfl) rfl ?_
  refine G_iconst (v := 0) (dk_at dk_L_connect 1 rfl) (by decide) ?_
  refine G_aload_n 0 (dk_at dk_L_connect 2 rfl) rfl ?_
  refine G_iload_n 1 (dk_at dk_L_connect 3 rfl) rfl ?_
  refine G_iload_n 2 (dk_at dk_L_connect 4 rfl) rfl ?_
  obtain ⟨⟨_, ho⟩, h⟩ := h
  refine G_callVX (As := [.int v1, .int v2]) (rest := [.int 0, .ref v3]) lk_L_46 (dk_at dk_L_connect 5 rfl) rfl rfl (Nat.le_of_ble_eq_true rfl) ho (h.mono fun o4 A1 b2 c3 h => ?_)
  rcases h with ⟨i5, rfl, h⟩ | ⟨rfl, h⟩ | ⟨rfl, h⟩
  · change G l X M_L_connect d Q _ _ _ _ _ _
    refine G_if_eq (tgt := 15) (dk_at dk_L_connect 6 rfl) (by decide) (fun c => ?_) (fun c => ?_)
    · replace h := h.1 c
      refine G_lconst (v := 0) (dk_at dk_L_connect 9 rfl) (by decide) ?_
      refine G_sub [] rfl ?_
      exact h
    · replace h := h.2 c
      refine G_lconst (v := 1) (dk_at dk_L_connect 7 rfl) (by decide) ?_
      refine G_goto (tgt := 16) (dk_at dk_L_connect 8 rfl) (by decide) ?_
      refine G_sub [] rfl ?_
      exact h
  · refine ⟨[], ⟨0, 17, 20, 28⟩, [⟨0, 17, 24, 13⟩], rfl, rfl, by decide, ⟨_, wd_27, wd_28⟩, fun y hy => (nomatch hy), fun q => ?_⟩
    replace h := h q
    change G l X M_L_connect d Q _ _ _ _ _ _
    refine G_astore (lv' := [(4, .ref q), (0, .ref v0), (1, .int v1), (2, .int v2), (3, .ref v3)]) (dk_at dk_L_connect 12 rfl) (by decide) rfl ?_
    refine G_iconst (v := 1) (dk_at dk_L_connect 13 rfl) (by decide) ?_
    exact G_iret (ty := .int) rfl rfl (dk_at dk_L_connect 14 rfl) h
  · refine ⟨[⟨0, 17, 20, 28⟩], ⟨0, 17, 24, 13⟩, [], rfl, rfl, by decide, ⟨_, wd_23, wd_24⟩, fun y hy => by rw [List.mem_singleton.mp hy]; exact ⟨by decide, _, wd_27, by decide⟩, fun q => ?_⟩
    replace h := h q
    change G l X M_L_connect d Q _ _ _ _ _ _
    refine G_astore (lv' := [(4, .ref q), (0, .ref v0), (1, .int v1), (2, .int v2), (3, .ref v3)]) (dk_at dk_L_connect 15 rfl) (by decide) rfl ?_
    refine G_iconst (v := 2) (dk_at dk_L_connect 16 rfl) (by decide) ?_
    exact G_iret (ty := .int) rfl rfl (dk_at dk_L_connect 17 rfl) h
theorem k_L_connect_16 {l : Launch} {X : XT} {d : Nat} {Q : Ot → AH → Prop} {A : AH} {bc bs : Nat} {s0 : Int64} {s1 : Int32} {s2 : Nat} (h : sL X A s2 s1 s0 fun A1 => Q (Ri 0) A1) : G l X M_L_connect d Q 16 [] [.long s0, .int s1, .ref s2] A bc bs := by
  refine K_sL (dk_at dk_L_connect 10 rfl) h (fun A1 h => ?_)
  refine G_goto (tgt := 28) (dk_at dk_L_connect 11 rfl) (by decide) ?_
  refine G_iconst (v := 0) (dk_at dk_L_connect 18 rfl) (by decide) ?_
  exact G_iret (ty := .int) rfl rfl (dk_at dk_L_connect 19 rfl) h
theorem k_L_fetch_0 {l : Launch} {X : XT} {d : Nat} {Q : Ot → AH → Prop} {A : AH} {bc bs : Nat} {v0 : Nat} {v1 : Int32} {v2 : Int32} {v3 : Nat} (h : isO A v0 6 ∧ Cal l X d bc bs M_X5_fetch [.ref v0, .int v1, .int v2] A fun o4 A1 b2 c3 => (∃ i5, o4 = Ri i5 ∧ sL X A1 v3 0 (Int32.toInt64 i5) fun A6 => Q (Ri 0) A6) ∨ (o4 = Th "java/lang/IndexOutOfBoundsException" ∧ ∀ q : Nat, Q (Ri 1) A1) ∨ (o4 = Th "java/lang/IllegalStateException" ∧ ∀ q : Nat, Q (Ri 2) A1)) : G l X M_L_fetch d Q 0 [(0, .ref v0), (1, .int v1), (2, .int v2), (3, .ref v3)] [] A bc bs := by
  refine G_aload_n 3 (dk_at dk_L_fetch 0 rfl) rfl ?_
  refine G_iconst (v := 0) (dk_at dk_L_fetch 1 rfl) (by decide) ?_
  refine G_aload_n 0 (dk_at dk_L_fetch 2 rfl) rfl ?_
  refine G_iload_n 1 (dk_at dk_L_fetch 3 rfl) rfl ?_
  refine G_iload_n 2 (dk_at dk_L_fetch 4 rfl) rfl ?_
  obtain ⟨⟨_, ho⟩, h⟩ := h
  refine G_callVX (As := [.int v1, .int v2]) (rest := [.int 0, .ref v3]) lk_L_50 (dk_at dk_L_fetch 5 rfl) rfl rfl (Nat.le_of_ble_eq_true rfl) ho (h.mono fun o4 A1 b2 c3 h => ?_)
  rcases h with ⟨i5, rfl, h⟩ | ⟨rfl, h⟩ | ⟨rfl, h⟩
  · change G l X M_L_fetch d Q _ _ _ _ _ _
    refine G_i2l (dk_at dk_L_fetch 6 rfl) rfl ?_
    refine K_sL (dk_at dk_L_fetch 7 rfl) h (fun A6 h => ?_)
    refine G_goto (tgt := 21) (dk_at dk_L_fetch 8 rfl) (by decide) ?_
    refine G_iconst (v := 0) (dk_at dk_L_fetch 15 rfl) (by decide) ?_
    exact G_iret (ty := .int) rfl rfl (dk_at dk_L_fetch 16 rfl) h
  · refine ⟨[], ⟨0, 10, 13, 28⟩, [⟨0, 10, 17, 13⟩], rfl, rfl, by decide, ⟨_, wd_27, wd_28⟩, fun y hy => (nomatch hy), fun q => ?_⟩
    replace h := h q
    change G l X M_L_fetch d Q _ _ _ _ _ _
    refine G_astore (lv' := [(4, .ref q), (0, .ref v0), (1, .int v1), (2, .int v2), (3, .ref v3)]) (dk_at dk_L_fetch 9 rfl) (by decide) rfl ?_
    refine G_iconst (v := 1) (dk_at dk_L_fetch 10 rfl) (by decide) ?_
    exact G_iret (ty := .int) rfl rfl (dk_at dk_L_fetch 11 rfl) h
  · refine ⟨[⟨0, 10, 13, 28⟩], ⟨0, 10, 17, 13⟩, [], rfl, rfl, by decide, ⟨_, wd_23, wd_24⟩, fun y hy => by rw [List.mem_singleton.mp hy]; exact ⟨by decide, _, wd_27, by decide⟩, fun q => ?_⟩
    replace h := h q
    change G l X M_L_fetch d Q _ _ _ _ _ _
    refine G_astore (lv' := [(4, .ref q), (0, .ref v0), (1, .int v1), (2, .int v2), (3, .ref v3)]) (dk_at dk_L_fetch 12 rfl) (by decide) rfl ?_
    refine G_iconst (v := 2) (dk_at dk_L_fetch 13 rfl) (by decide) ?_
    exact G_iret (ty := .int) rfl rfl (dk_at dk_L_fetch 14 rfl) h
theorem k_L_search_0 {l : Launch} {X : XT} {d : Nat} {Q : Ot → AH → Prop} {A : AH} {bc bs : Nat} {v0 : Nat} {v1 : Int32} {v2 : Nat} (h : isO A v0 6 ∧ Cal l X d bc bs M_X5_search [.ref v0, .int v1] A fun o4 A1 b2 c3 => (∃ i5, o4 = Ri i5 ∧ sL X A1 v2 0 (Int32.toInt64 i5) fun A6 => Q (Ri 0) A6) ∨ (o4 = Th "java/lang/IndexOutOfBoundsException" ∧ ∀ q : Nat, Q (Ri 1) A1) ∨ (o4 = Th "java/lang/IllegalStateException" ∧ ∀ q : Nat, Q (Ri 2) A1)) : G l X M_L_search d Q 0 [(0, .ref v0), (1, .int v1), (2, .ref v2)] [] A bc bs := by
  refine G_aload_n 2 (dk_at dk_L_search 0 rfl) rfl ?_
  refine G_iconst (v := 0) (dk_at dk_L_search 1 rfl) (by decide) ?_
  refine G_aload_n 0 (dk_at dk_L_search 2 rfl) rfl ?_
  refine G_iload_n 1 (dk_at dk_L_search 3 rfl) rfl ?_
  obtain ⟨⟨_, ho⟩, h⟩ := h
  refine G_callVX (As := [.int v1]) (rest := [.int 0, .ref v2]) lk_L_53 (dk_at dk_L_search 4 rfl) rfl rfl (Nat.le_of_ble_eq_true rfl) ho (h.mono fun o4 A1 b2 c3 h => ?_)
  rcases h with ⟨i5, rfl, h⟩ | ⟨rfl, h⟩ | ⟨rfl, h⟩
  · change G l X M_L_search d Q _ _ _ _ _ _
    refine G_i2l (dk_at dk_L_search 5 rfl) rfl ?_
    refine K_sL (dk_at dk_L_search 6 rfl) h (fun A6 h => ?_)
    refine G_goto (tgt := 18) (dk_at dk_L_search 7 rfl) (by decide) ?_
    refine G_iconst (v := 0) (dk_at dk_L_search 14 rfl) (by decide) ?_
    exact G_iret (ty := .int) rfl rfl (dk_at dk_L_search 15 rfl) h
  · refine ⟨[], ⟨0, 9, 12, 28⟩, [⟨0, 9, 15, 13⟩], rfl, rfl, by decide, ⟨_, wd_27, wd_28⟩, fun y hy => (nomatch hy), fun q => ?_⟩
    replace h := h q
    change G l X M_L_search d Q _ _ _ _ _ _
    refine G_astore_n (lv' := [(3, .ref q), (0, .ref v0), (1, .int v1), (2, .ref v2)]) (dk_at dk_L_search 8 rfl) (by decide) rfl ?_
    refine G_iconst (v := 1) (dk_at dk_L_search 9 rfl) (by decide) ?_
    exact G_iret (ty := .int) rfl rfl (dk_at dk_L_search 10 rfl) h
  · refine ⟨[⟨0, 9, 12, 28⟩], ⟨0, 9, 15, 13⟩, [], rfl, rfl, by decide, ⟨_, wd_23, wd_24⟩, fun y hy => by rw [List.mem_singleton.mp hy]; exact ⟨by decide, _, wd_27, by decide⟩, fun q => ?_⟩
    replace h := h q
    change G l X M_L_search d Q _ _ _ _ _ _
    refine G_astore_n (lv' := [(3, .ref q), (0, .ref v0), (1, .int v1), (2, .ref v2)]) (dk_at dk_L_search 11 rfl) (by decide) rfl ?_
    refine G_iconst (v := 2) (dk_at dk_L_search 12 rfl) (by decide) ?_
    exact G_iret (ty := .int) rfl rfl (dk_at dk_L_search 13 rfl) h
theorem k_L_queriesFor_0 {l : Launch} {X : XT} {d : Nat} {Q : Ot → AH → Prop} {A : AH} {bc bs : Nat} {v0 : Nat} {v1 : Int32} {v2 : Nat} (h : isO A v0 6 ∧ Cal l X d bc bs M_X5_queriesFor [.ref v0, .int v1] A fun o4 A1 b2 c3 => (∃ i5, o4 = Ri i5 ∧ sL X A1 v2 0 (Int32.toInt64 i5) fun A6 => Q (Ri 0) A6) ∨ (o4 = Th "java/lang/IndexOutOfBoundsException" ∧ ∀ q : Nat, Q (Ri 1) A1) ∨ (o4 = Th "java/util/NoSuchElementException" ∧ ∀ q : Nat, Q (Ri 2) A1)) : G l X M_L_queriesFor d Q 0 [(0, .ref v0), (1, .int v1), (2, .ref v2)] [] A bc bs := by
  refine G_aload_n 2 (dk_at dk_L_queriesFor 0 rfl) rfl ?_
  refine G_iconst (v := 0) (dk_at dk_L_queriesFor 1 rfl) (by decide) ?_
  refine G_aload_n 0 (dk_at dk_L_queriesFor 2 rfl) rfl ?_
  refine G_iload_n 1 (dk_at dk_L_queriesFor 3 rfl) rfl ?_
  obtain ⟨⟨_, ho⟩, h⟩ := h
  refine G_callVX (As := [.int v1]) (rest := [.int 0, .ref v2]) lk_L_56 (dk_at dk_L_queriesFor 4 rfl) rfl rfl (Nat.le_of_ble_eq_true rfl) ho (h.mono fun o4 A1 b2 c3 h => ?_)
  rcases h with ⟨i5, rfl, h⟩ | ⟨rfl, h⟩ | ⟨rfl, h⟩
  · change G l X M_L_queriesFor d Q _ _ _ _ _ _
    refine G_i2l (dk_at dk_L_queriesFor 5 rfl) rfl ?_
    refine K_sL (dk_at dk_L_queriesFor 6 rfl) h (fun A6 h => ?_)
    refine G_goto (tgt := 18) (dk_at dk_L_queriesFor 7 rfl) (by decide) ?_
    refine G_iconst (v := 0) (dk_at dk_L_queriesFor 14 rfl) (by decide) ?_
    exact G_iret (ty := .int) rfl rfl (dk_at dk_L_queriesFor 15 rfl) h
  · refine ⟨[], ⟨0, 9, 12, 28⟩, [⟨0, 9, 15, 59⟩], rfl, rfl, by decide, ⟨_, wd_27, wd_28⟩, fun y hy => (nomatch hy), fun q => ?_⟩
    replace h := h q
    change G l X M_L_queriesFor d Q _ _ _ _ _ _
    refine G_astore_n (lv' := [(3, .ref q), (0, .ref v0), (1, .int v1), (2, .ref v2)]) (dk_at dk_L_queriesFor 8 rfl) (by decide) rfl ?_
    refine G_iconst (v := 1) (dk_at dk_L_queriesFor 9 rfl) (by decide) ?_
    exact G_iret (ty := .int) rfl rfl (dk_at dk_L_queriesFor 10 rfl) h
  · refine ⟨[⟨0, 9, 12, 28⟩], ⟨0, 9, 15, 59⟩, [], rfl, rfl, by decide, ⟨_, wd_29, wd_30⟩, fun y hy => by rw [List.mem_singleton.mp hy]; exact ⟨by decide, _, wd_27, by decide⟩, fun q => ?_⟩
    replace h := h q
    change G l X M_L_queriesFor d Q _ _ _ _ _ _
    refine G_astore_n (lv' := [(3, .ref q), (0, .ref v0), (1, .int v1), (2, .ref v2)]) (dk_at dk_L_queriesFor 11 rfl) (by decide) rfl ?_
    refine G_iconst (v := 2) (dk_at dk_L_queriesFor 12 rfl) (by decide) ?_
    exact G_iret (ty := .int) rfl rfl (dk_at dk_L_queriesFor 13 rfl) h
theorem k_L_drop_0 {l : Launch} {X : XT} {d : Nat} {Q : Ot → AH → Prop} {A : AH} {bc bs : Nat} {v0 : Nat} {v1 : Int32} {v2 : Nat} (h : isO A v0 6 ∧ Cal l X d bc bs M_X5_drop [.ref v0, .int v1] A fun o4 A1 b2 c3 => (∃ i5, o4 = Ri i5 ∧ sL X A1 v2 0 (Int32.toInt64 i5) fun A6 => Q (Ri 0) A6) ∨ (o4 = Th "java/lang/IndexOutOfBoundsException" ∧ ∀ q : Nat, Q (Ri 1) A1) ∨ (o4 = Th "java/lang/IllegalStateException" ∧ ∀ q : Nat, Q (Ri 2) A1)) : G l X M_L_drop d Q 0 [(0, .ref v0), (1, .int v1), (2, .ref v2)] [] A bc bs := by
  refine G_aload_n 2 (dk_at dk_L_drop 0 rfl) rfl ?_
  refine G_iconst (v := 0) (dk_at dk_L_drop 1 rfl) (by decide) ?_
  refine G_aload_n 0 (dk_at dk_L_drop 2 rfl) rfl ?_
  refine G_iload_n 1 (dk_at dk_L_drop 3 rfl) rfl ?_
  obtain ⟨⟨_, ho⟩, h⟩ := h
  refine G_callVX (As := [.int v1]) (rest := [.int 0, .ref v2]) lk_L_61 (dk_at dk_L_drop 4 rfl) rfl rfl (Nat.le_of_ble_eq_true rfl) ho (h.mono fun o4 A1 b2 c3 h => ?_)
  rcases h with ⟨i5, rfl, h⟩ | ⟨rfl, h⟩ | ⟨rfl, h⟩
  · change G l X M_L_drop d Q _ _ _ _ _ _
    refine G_i2l (dk_at dk_L_drop 5 rfl) rfl ?_
    refine K_sL (dk_at dk_L_drop 6 rfl) h (fun A6 h => ?_)
    refine G_goto (tgt := 18) (dk_at dk_L_drop 7 rfl) (by decide) ?_
    refine G_iconst (v := 0) (dk_at dk_L_drop 14 rfl) (by decide) ?_
    exact G_iret (ty := .int) rfl rfl (dk_at dk_L_drop 15 rfl) h
  · refine ⟨[], ⟨0, 9, 12, 28⟩, [⟨0, 9, 15, 13⟩], rfl, rfl, by decide, ⟨_, wd_27, wd_28⟩, fun y hy => (nomatch hy), fun q => ?_⟩
    replace h := h q
    change G l X M_L_drop d Q _ _ _ _ _ _
    refine G_astore_n (lv' := [(3, .ref q), (0, .ref v0), (1, .int v1), (2, .ref v2)]) (dk_at dk_L_drop 8 rfl) (by decide) rfl ?_
    refine G_iconst (v := 1) (dk_at dk_L_drop 9 rfl) (by decide) ?_
    exact G_iret (ty := .int) rfl rfl (dk_at dk_L_drop 10 rfl) h
  · refine ⟨[⟨0, 9, 12, 28⟩], ⟨0, 9, 15, 13⟩, [], rfl, rfl, by decide, ⟨_, wd_23, wd_24⟩, fun y hy => by rw [List.mem_singleton.mp hy]; exact ⟨by decide, _, wd_27, by decide⟩, fun q => ?_⟩
    replace h := h q
    change G l X M_L_drop d Q _ _ _ _ _ _
    refine G_astore_n (lv' := [(3, .ref q), (0, .ref v0), (1, .int v1), (2, .ref v2)]) (dk_at dk_L_drop 11 rfl) (by decide) rfl ?_
    refine G_iconst (v := 2) (dk_at dk_L_drop 12 rfl) (by decide) ?_
    exact G_iret (ty := .int) rfl rfl (dk_at dk_L_drop 13 rfl) h
theorem k_L_run_0 {l : Launch} {X : XT} {d : Nat} {Q : Ot → AH → Prop} {A : AH} {bc bs : Nat} {v0 : Nat} {v1 : Int32} {v2 : Nat} (h : isO A v0 6 ∧ Cal l X d bc bs M_X5_run [.ref v0, .int v1] A fun o4 A1 b2 c3 => (∃ i5, o4 = Ri i5 ∧ sL X A1 v2 0 (Int32.toInt64 i5) fun A6 => Q (Ri 0) A6) ∨ (o4 = Th "java/lang/IllegalArgumentException" ∧ ∀ q : Nat, Q (Ri 1) A1)) : G l X M_L_run d Q 0 [(0, .ref v0), (1, .int v1), (2, .ref v2)] [] A bc bs := by
  refine G_aload_n 2 (dk_at dk_L_run 0 rfl) rfl ?_
  refine G_iconst (v := 0) (dk_at dk_L_run 1 rfl) (by decide) ?_
  refine G_aload_n 0 (dk_at dk_L_run 2 rfl) rfl ?_
  refine G_iload_n 1 (dk_at dk_L_run 3 rfl) rfl ?_
  obtain ⟨⟨_, ho⟩, h⟩ := h
  refine G_callVX (As := [.int v1]) (rest := [.int 0, .ref v2]) lk_L_64 (dk_at dk_L_run 4 rfl) rfl rfl (Nat.le_of_ble_eq_true rfl) ho (h.mono fun o4 A1 b2 c3 h => ?_)
  rcases h with ⟨i5, rfl, h⟩ | ⟨rfl, h⟩
  · change G l X M_L_run d Q _ _ _ _ _ _
    refine G_i2l (dk_at dk_L_run 5 rfl) rfl ?_
    refine K_sL (dk_at dk_L_run 6 rfl) h (fun A6 h => ?_)
    refine G_goto (tgt := 15) (dk_at dk_L_run 7 rfl) (by decide) ?_
    refine G_iconst (v := 0) (dk_at dk_L_run 11 rfl) (by decide) ?_
    exact G_iret (ty := .int) rfl rfl (dk_at dk_L_run 12 rfl) h
  · refine ⟨[], ⟨0, 9, 12, 19⟩, [], rfl, rfl, by decide, ⟨_, wd_25, wd_26⟩, fun y hy => (nomatch hy), fun q => ?_⟩
    replace h := h q
    change G l X M_L_run d Q _ _ _ _ _ _
    refine G_astore_n (lv' := [(3, .ref q), (0, .ref v0), (1, .int v1), (2, .ref v2)]) (dk_at dk_L_run 8 rfl) (by decide) rfl ?_
    refine G_iconst (v := 1) (dk_at dk_L_run 9 rfl) (by decide) ?_
    exact G_iret (ty := .int) rfl rfl (dk_at dk_L_run 10 rfl) h
theorem k_L_keep_0 {l : Launch} {X : XT} {d : Nat} {Q : Ot → AH → Prop} {A : AH} {bc bs : Nat} {v0 : Nat} {v1 : Int32} {v2 : Nat} (h : isO A v0 6 ∧ Cal l X d bc bs M_X5_keep [.ref v0, .int v1] A fun o4 A1 b2 c3 => (∃ i5, o4 = Ri i5 ∧ sL X A1 v2 0 (Int32.toInt64 i5) fun A6 => Q (Ri 0) A6) ∨ (o4 = Th "java/lang/IllegalArgumentException" ∧ ∀ q : Nat, Q (Ri 1) A1) ∨ (o4 = Th "java/lang/IllegalStateException" ∧ ∀ q : Nat, Q (Ri 2) A1)) : G l X M_L_keep d Q 0 [(0, .ref v0), (1, .int v1), (2, .ref v2)] [] A bc bs := by
  refine G_aload_n 2 (dk_at dk_L_keep 0 rfl) rfl ?_
  refine G_iconst (v := 0) (dk_at dk_L_keep 1 rfl) (by decide) ?_
  refine G_aload_n 0 (dk_at dk_L_keep 2 rfl) rfl ?_
  refine G_iload_n 1 (dk_at dk_L_keep 3 rfl) rfl ?_
  obtain ⟨⟨_, ho⟩, h⟩ := h
  refine G_callVX (As := [.int v1]) (rest := [.int 0, .ref v2]) lk_L_67 (dk_at dk_L_keep 4 rfl) rfl rfl (Nat.le_of_ble_eq_true rfl) ho (h.mono fun o4 A1 b2 c3 h => ?_)
  rcases h with ⟨i5, rfl, h⟩ | ⟨rfl, h⟩ | ⟨rfl, h⟩
  · change G l X M_L_keep d Q _ _ _ _ _ _
    refine G_i2l (dk_at dk_L_keep 5 rfl) rfl ?_
    refine K_sL (dk_at dk_L_keep 6 rfl) h (fun A6 h => ?_)
    refine G_goto (tgt := 18) (dk_at dk_L_keep 7 rfl) (by decide) ?_
    refine G_iconst (v := 0) (dk_at dk_L_keep 14 rfl) (by decide) ?_
    exact G_iret (ty := .int) rfl rfl (dk_at dk_L_keep 15 rfl) h
  · refine ⟨[], ⟨0, 9, 12, 19⟩, [⟨0, 9, 15, 13⟩], rfl, rfl, by decide, ⟨_, wd_25, wd_26⟩, fun y hy => (nomatch hy), fun q => ?_⟩
    replace h := h q
    change G l X M_L_keep d Q _ _ _ _ _ _
    refine G_astore_n (lv' := [(3, .ref q), (0, .ref v0), (1, .int v1), (2, .ref v2)]) (dk_at dk_L_keep 8 rfl) (by decide) rfl ?_
    refine G_iconst (v := 1) (dk_at dk_L_keep 9 rfl) (by decide) ?_
    exact G_iret (ty := .int) rfl rfl (dk_at dk_L_keep 10 rfl) h
  · refine ⟨[⟨0, 9, 12, 19⟩], ⟨0, 9, 15, 13⟩, [], rfl, rfl, by decide, ⟨_, wd_23, wd_24⟩, fun y hy => by rw [List.mem_singleton.mp hy]; exact ⟨by decide, _, wd_25, by decide⟩, fun q => ?_⟩
    replace h := h q
    change G l X M_L_keep d Q _ _ _ _ _ _
    refine G_astore_n (lv' := [(3, .ref q), (0, .ref v0), (1, .int v1), (2, .ref v2)]) (dk_at dk_L_keep 11 rfl) (by decide) rfl ?_
    refine G_iconst (v := 2) (dk_at dk_L_keep 12 rfl) (by decide) ?_
    exact G_iret (ty := .int) rfl rfl (dk_at dk_L_keep 13 rfl) h
theorem k_L_resume_0 {l : Launch} {X : XT} {d : Nat} {Q : Ot → AH → Prop} {A : AH} {bc bs : Nat} {v0 : Nat} {v1 : Int32} {v2 : Nat} (h : isO A v0 6 ∧ Cal l X d bc bs M_X5_resume [.ref v0, .int v1] A fun o4 A1 b2 c3 => (∃ i5, o4 = Ri i5 ∧ sL X A1 v2 0 (Int32.toInt64 i5) fun A6 => Q (Ri 0) A6) ∨ (o4 = Th "java/lang/IndexOutOfBoundsException" ∧ ∀ q : Nat, Q (Ri 1) A1) ∨ (o4 = Th "java/lang/IllegalStateException" ∧ ∀ q : Nat, Q (Ri 2) A1)) : G l X M_L_resume d Q 0 [(0, .ref v0), (1, .int v1), (2, .ref v2)] [] A bc bs := by
  refine G_aload_n 2 (dk_at dk_L_resume 0 rfl) rfl ?_
  refine G_iconst (v := 0) (dk_at dk_L_resume 1 rfl) (by decide) ?_
  refine G_aload_n 0 (dk_at dk_L_resume 2 rfl) rfl ?_
  refine G_iload_n 1 (dk_at dk_L_resume 3 rfl) rfl ?_
  obtain ⟨⟨_, ho⟩, h⟩ := h
  refine G_callVX (As := [.int v1]) (rest := [.int 0, .ref v2]) lk_L_70 (dk_at dk_L_resume 4 rfl) rfl rfl (Nat.le_of_ble_eq_true rfl) ho (h.mono fun o4 A1 b2 c3 h => ?_)
  rcases h with ⟨i5, rfl, h⟩ | ⟨rfl, h⟩ | ⟨rfl, h⟩
  · change G l X M_L_resume d Q _ _ _ _ _ _
    refine G_i2l (dk_at dk_L_resume 5 rfl) rfl ?_
    refine K_sL (dk_at dk_L_resume 6 rfl) h (fun A6 h => ?_)
    refine G_goto (tgt := 18) (dk_at dk_L_resume 7 rfl) (by decide) ?_
    refine G_iconst (v := 0) (dk_at dk_L_resume 14 rfl) (by decide) ?_
    exact G_iret (ty := .int) rfl rfl (dk_at dk_L_resume 15 rfl) h
  · refine ⟨[], ⟨0, 9, 12, 28⟩, [⟨0, 9, 15, 13⟩], rfl, rfl, by decide, ⟨_, wd_27, wd_28⟩, fun y hy => (nomatch hy), fun q => ?_⟩
    replace h := h q
    change G l X M_L_resume d Q _ _ _ _ _ _
    refine G_astore_n (lv' := [(3, .ref q), (0, .ref v0), (1, .int v1), (2, .ref v2)]) (dk_at dk_L_resume 8 rfl) (by decide) rfl ?_
    refine G_iconst (v := 1) (dk_at dk_L_resume 9 rfl) (by decide) ?_
    exact G_iret (ty := .int) rfl rfl (dk_at dk_L_resume 10 rfl) h
  · refine ⟨[⟨0, 9, 12, 28⟩], ⟨0, 9, 15, 13⟩, [], rfl, rfl, by decide, ⟨_, wd_23, wd_24⟩, fun y hy => by rw [List.mem_singleton.mp hy]; exact ⟨by decide, _, wd_27, by decide⟩, fun q => ?_⟩
    replace h := h q
    change G l X M_L_resume d Q _ _ _ _ _ _
    refine G_astore_n (lv' := [(3, .ref q), (0, .ref v0), (1, .int v1), (2, .ref v2)]) (dk_at dk_L_resume 11 rfl) (by decide) rfl ?_
    refine G_iconst (v := 2) (dk_at dk_L_resume 12 rfl) (by decide) ?_
    exact G_iret (ty := .int) rfl rfl (dk_at dk_L_resume 13 rfl) h
theorem k_L_named_0 {l : Launch} {X : XT} {d : Nat} {Q : Ot → AH → Prop} {A : AH} {bc bs : Nat} {v0 : Nat} {v1 : Int32} {v2 : Nat} (h : isO A v0 6 ∧ Cal l X d bc bs M_X5_named [.ref v0, .int v1] A fun o4 A1 b2 c3 => (∃ i5, o4 = Ri i5 ∧ sL X A1 v2 0 (Int32.toInt64 i5) fun A6 => Q (Ri 0) A6) ∨ (o4 = Th "java/util/NoSuchElementException" ∧ ∀ q : Nat, Q (Ri 1) A1)) : G l X M_L_named d Q 0 [(0, .ref v0), (1, .int v1), (2, .ref v2)] [] A bc bs := by
  refine G_aload_n 2 (dk_at dk_L_named 0 rfl) rfl ?_
  refine G_iconst (v := 0) (dk_at dk_L_named 1 rfl) (by decide) ?_
  refine G_aload_n 0 (dk_at dk_L_named 2 rfl) rfl ?_
  refine G_iload_n 1 (dk_at dk_L_named 3 rfl) rfl ?_
  obtain ⟨⟨_, ho⟩, h⟩ := h
  refine G_callVX (As := [.int v1]) (rest := [.int 0, .ref v2]) lk_L_73 (dk_at dk_L_named 4 rfl) rfl rfl (Nat.le_of_ble_eq_true rfl) ho (h.mono fun o4 A1 b2 c3 h => ?_)
  rcases h with ⟨i5, rfl, h⟩ | ⟨rfl, h⟩
  · change G l X M_L_named d Q _ _ _ _ _ _
    refine G_i2l (dk_at dk_L_named 5 rfl) rfl ?_
    refine K_sL (dk_at dk_L_named 6 rfl) h (fun A6 h => ?_)
    refine G_goto (tgt := 15) (dk_at dk_L_named 7 rfl) (by decide) ?_
    refine G_iconst (v := 0) (dk_at dk_L_named 11 rfl) (by decide) ?_
    exact G_iret (ty := .int) rfl rfl (dk_at dk_L_named 12 rfl) h
  · refine ⟨[], ⟨0, 9, 12, 59⟩, [], rfl, rfl, by decide, ⟨_, wd_29, wd_30⟩, fun y hy => (nomatch hy), fun q => ?_⟩
    replace h := h q
    change G l X M_L_named d Q _ _ _ _ _ _
    refine G_astore_n (lv' := [(3, .ref q), (0, .ref v0), (1, .int v1), (2, .ref v2)]) (dk_at dk_L_named 8 rfl) (by decide) rfl ?_
    refine G_iconst (v := 1) (dk_at dk_L_named 9 rfl) (by decide) ?_
    exact G_iret (ty := .int) rfl rfl (dk_at dk_L_named 10 rfl) h
theorem k_L_sized_0 {l : Launch} {X : XT} {d : Nat} {Q : Ot → AH → Prop} {A : AH} {bc bs : Nat} {v0 : Nat} {v1 : Int32} {v2 : Nat} (h : isO A v0 6 ∧ Cal l X d bc bs M_X5_sized [.ref v0, .int v1] A fun o4 A1 b2 c3 => (∃ i5, o4 = Ri i5 ∧ sL X A1 v2 0 (Int32.toInt64 i5) fun A6 => Q (Ri 0) A6) ∨ (o4 = Th "java/util/NoSuchElementException" ∧ ∀ q : Nat, Q (Ri 1) A1)) : G l X M_L_sized d Q 0 [(0, .ref v0), (1, .int v1), (2, .ref v2)] [] A bc bs := by
  refine G_aload_n 2 (dk_at dk_L_sized 0 rfl) rfl ?_
  refine G_iconst (v := 0) (dk_at dk_L_sized 1 rfl) (by decide) ?_
  refine G_aload_n 0 (dk_at dk_L_sized 2 rfl) rfl ?_
  refine G_iload_n 1 (dk_at dk_L_sized 3 rfl) rfl ?_
  obtain ⟨⟨_, ho⟩, h⟩ := h
  refine G_callVX (As := [.int v1]) (rest := [.int 0, .ref v2]) lk_L_76 (dk_at dk_L_sized 4 rfl) rfl rfl (Nat.le_of_ble_eq_true rfl) ho (h.mono fun o4 A1 b2 c3 h => ?_)
  rcases h with ⟨i5, rfl, h⟩ | ⟨rfl, h⟩
  · change G l X M_L_sized d Q _ _ _ _ _ _
    refine G_i2l (dk_at dk_L_sized 5 rfl) rfl ?_
    refine K_sL (dk_at dk_L_sized 6 rfl) h (fun A6 h => ?_)
    refine G_goto (tgt := 15) (dk_at dk_L_sized 7 rfl) (by decide) ?_
    refine G_iconst (v := 0) (dk_at dk_L_sized 11 rfl) (by decide) ?_
    exact G_iret (ty := .int) rfl rfl (dk_at dk_L_sized 12 rfl) h
  · refine ⟨[], ⟨0, 9, 12, 59⟩, [], rfl, rfl, by decide, ⟨_, wd_29, wd_30⟩, fun y hy => (nomatch hy), fun q => ?_⟩
    replace h := h q
    change G l X M_L_sized d Q _ _ _ _ _ _
    refine G_astore_n (lv' := [(3, .ref q), (0, .ref v0), (1, .int v1), (2, .ref v2)]) (dk_at dk_L_sized 8 rfl) (by decide) rfl ?_
    refine G_iconst (v := 1) (dk_at dk_L_sized 9 rfl) (by decide) ?_
    exact G_iret (ty := .int) rfl rfl (dk_at dk_L_sized 10 rfl) h
theorem k_L_rename_0 {l : Launch} {X : XT} {d : Nat} {Q : Ot → AH → Prop} {A : AH} {bc bs : Nat} {v0 : Nat} {v1 : Int32} {v2 : Int32} {v3 : Nat} (h : isO A v0 6 ∧ Cal l X d bc bs M_X5_rename [.ref v0, .int v1, .int v2] A fun o4 A1 b2 c3 => (∃ i5, o4 = Ri i5 ∧ sL X A1 v3 0 (Int32.toInt64 i5) fun A6 => Q (Ri 0) A6) ∨ (o4 = Th "java/lang/IndexOutOfBoundsException" ∧ ∀ q : Nat, Q (Ri 1) A1) ∨ (o4 = Th "java/lang/IllegalArgumentException" ∧ ∀ q : Nat, Q (Ri 2) A1)) : G l X M_L_rename d Q 0 [(0, .ref v0), (1, .int v1), (2, .int v2), (3, .ref v3)] [] A bc bs := by
  refine G_aload_n 3 (dk_at dk_L_rename 0 rfl) rfl ?_
  refine G_iconst (v := 0) (dk_at dk_L_rename 1 rfl) (by decide) ?_
  refine G_aload_n 0 (dk_at dk_L_rename 2 rfl) rfl ?_
  refine G_iload_n 1 (dk_at dk_L_rename 3 rfl) rfl ?_
  refine G_iload_n 2 (dk_at dk_L_rename 4 rfl) rfl ?_
  obtain ⟨⟨_, ho⟩, h⟩ := h
  refine G_callVX (As := [.int v1, .int v2]) (rest := [.int 0, .ref v3]) lk_L_79 (dk_at dk_L_rename 5 rfl) rfl rfl (Nat.le_of_ble_eq_true rfl) ho (h.mono fun o4 A1 b2 c3 h => ?_)
  rcases h with ⟨i5, rfl, h⟩ | ⟨rfl, h⟩ | ⟨rfl, h⟩
  · change G l X M_L_rename d Q _ _ _ _ _ _
    refine G_i2l (dk_at dk_L_rename 6 rfl) rfl ?_
    refine K_sL (dk_at dk_L_rename 7 rfl) h (fun A6 h => ?_)
    refine G_goto (tgt := 21) (dk_at dk_L_rename 8 rfl) (by decide) ?_
    refine G_iconst (v := 0) (dk_at dk_L_rename 15 rfl) (by decide) ?_
    exact G_iret (ty := .int) rfl rfl (dk_at dk_L_rename 16 rfl) h
  · refine ⟨[], ⟨0, 10, 13, 28⟩, [⟨0, 10, 17, 19⟩], rfl, rfl, by decide, ⟨_, wd_27, wd_28⟩, fun y hy => (nomatch hy), fun q => ?_⟩
    replace h := h q
    change G l X M_L_rename d Q _ _ _ _ _ _
    refine G_astore (lv' := [(4, .ref q), (0, .ref v0), (1, .int v1), (2, .int v2), (3, .ref v3)]) (dk_at dk_L_rename 9 rfl) (by decide) rfl ?_
    refine G_iconst (v := 1) (dk_at dk_L_rename 10 rfl) (by decide) ?_
    exact G_iret (ty := .int) rfl rfl (dk_at dk_L_rename 11 rfl) h
  · refine ⟨[⟨0, 10, 13, 28⟩], ⟨0, 10, 17, 19⟩, [], rfl, rfl, by decide, ⟨_, wd_25, wd_26⟩, fun y hy => by rw [List.mem_singleton.mp hy]; exact ⟨by decide, _, wd_27, by decide⟩, fun q => ?_⟩
    replace h := h q
    change G l X M_L_rename d Q _ _ _ _ _ _
    refine G_astore (lv' := [(4, .ref q), (0, .ref v0), (1, .int v1), (2, .int v2), (3, .ref v3)]) (dk_at dk_L_rename 12 rfl) (by decide) rfl ?_
    refine G_iconst (v := 2) (dk_at dk_L_rename 13 rfl) (by decide) ?_
    exact G_iret (ty := .int) rfl rfl (dk_at dk_L_rename 14 rfl) h
theorem k_L_spoil_0 {l : Launch} {X : XT} {d : Nat} {Q : Ot → AH → Prop} {A : AH} {bc bs : Nat} {v0 : Nat} {v1 : Int32} {v2 : Int32} {v3 : Int32} {v4 : Nat} (h : isO A v0 6 ∧ Cal l X d bc bs M_X5_spoil [.ref v0, .int v1, .int v2, .int v3] A fun o4 A1 b2 c3 => (∃ i5, o4 = Ri i5 ∧ sL X A1 v4 0 (Int32.toInt64 i5) fun A6 => Q (Ri 0) A6) ∨ (o4 = Th "java/lang/IndexOutOfBoundsException" ∧ ∀ q : Nat, Q (Ri 1) A1) ∨ (o4 = Th "java/lang/IllegalArgumentException" ∧ ∀ q : Nat, Q (Ri 2) A1)) : G l X M_L_spoil d Q 0 [(0, .ref v0), (1, .int v1), (2, .int v2), (3, .int v3), (4, .ref v4)] [] A bc bs := by
  refine G_aload 4 (dk_at dk_L_spoil 0 rfl) rfl ?_
  refine G_iconst (v := 0) (dk_at dk_L_spoil 1 rfl) (by decide) ?_
  refine G_aload_n 0 (dk_at dk_L_spoil 2 rfl) rfl ?_
  refine G_iload_n 1 (dk_at dk_L_spoil 3 rfl) rfl ?_
  refine G_iload_n 2 (dk_at dk_L_spoil 4 rfl) rfl ?_
  refine G_iload_n 3 (dk_at dk_L_spoil 5 rfl) rfl ?_
  obtain ⟨⟨_, ho⟩, h⟩ := h
  refine G_callVX (As := [.int v1, .int v2, .int v3]) (rest := [.int 0, .ref v4]) lk_L_82 (dk_at dk_L_spoil 6 rfl) rfl rfl (Nat.le_of_ble_eq_true rfl) ho (h.mono fun o4 A1 b2 c3 h => ?_)
  rcases h with ⟨i5, rfl, h⟩ | ⟨rfl, h⟩ | ⟨rfl, h⟩
  · change G l X M_L_spoil d Q _ _ _ _ _ _
    refine G_i2l (dk_at dk_L_spoil 7 rfl) rfl ?_
    refine K_sL (dk_at dk_L_spoil 8 rfl) h (fun A6 h => ?_)
    refine G_goto (tgt := 23) (dk_at dk_L_spoil 9 rfl) (by decide) ?_
    refine G_iconst (v := 0) (dk_at dk_L_spoil 16 rfl) (by decide) ?_
    exact G_iret (ty := .int) rfl rfl (dk_at dk_L_spoil 17 rfl) h
  · refine ⟨[], ⟨0, 12, 15, 28⟩, [⟨0, 12, 19, 19⟩], rfl, rfl, by decide, ⟨_, wd_27, wd_28⟩, fun y hy => (nomatch hy), fun q => ?_⟩
    replace h := h q
    change G l X M_L_spoil d Q _ _ _ _ _ _
    refine G_astore (lv' := [(5, .ref q), (0, .ref v0), (1, .int v1), (2, .int v2), (3, .int v3), (4, .ref v4)]) (dk_at dk_L_spoil 10 rfl) (by decide) rfl ?_
    refine G_iconst (v := 1) (dk_at dk_L_spoil 11 rfl) (by decide) ?_
    exact G_iret (ty := .int) rfl rfl (dk_at dk_L_spoil 12 rfl) h
  · refine ⟨[⟨0, 12, 15, 28⟩], ⟨0, 12, 19, 19⟩, [], rfl, rfl, by decide, ⟨_, wd_25, wd_26⟩, fun y hy => by rw [List.mem_singleton.mp hy]; exact ⟨by decide, _, wd_27, by decide⟩, fun q => ?_⟩
    replace h := h q
    change G l X M_L_spoil d Q _ _ _ _ _ _
    refine G_astore (lv' := [(5, .ref q), (0, .ref v0), (1, .int v1), (2, .int v2), (3, .int v3), (4, .ref v4)]) (dk_at dk_L_spoil 13 rfl) (by decide) rfl ?_
    refine G_iconst (v := 2) (dk_at dk_L_spoil 14 rfl) (by decide) ?_
    exact G_iret (ty := .int) rfl rfl (dk_at dk_L_spoil 15 rfl) h
theorem k_L_discard_0 {l : Launch} {X : XT} {d : Nat} {Q : Ot → AH → Prop} {A : AH} {bc bs : Nat} {v0 : Nat} {v1 : Int32} {v2 : Nat} (h : isO A v0 6 ∧ Cal l X d bc bs M_X5_discard [.ref v0, .int v1] A fun o4 A1 b2 c3 => (∃ i5, o4 = Ri i5 ∧ sL X A1 v2 0 (Int32.toInt64 i5) fun A6 => Q (Ri 0) A6) ∨ (o4 = Th "java/lang/IndexOutOfBoundsException" ∧ ∀ q : Nat, Q (Ri 1) A1)) : G l X M_L_discard d Q 0 [(0, .ref v0), (1, .int v1), (2, .ref v2)] [] A bc bs := by
  refine G_aload_n 2 (dk_at dk_L_discard 0 rfl) rfl ?_
  refine G_iconst (v := 0) (dk_at dk_L_discard 1 rfl) (by decide) ?_
  refine G_aload_n 0 (dk_at dk_L_discard 2 rfl) rfl ?_
  refine G_iload_n 1 (dk_at dk_L_discard 3 rfl) rfl ?_
  obtain ⟨⟨_, ho⟩, h⟩ := h
  refine G_callVX (As := [.int v1]) (rest := [.int 0, .ref v2]) lk_L_85 (dk_at dk_L_discard 4 rfl) rfl rfl (Nat.le_of_ble_eq_true rfl) ho (h.mono fun o4 A1 b2 c3 h => ?_)
  rcases h with ⟨i5, rfl, h⟩ | ⟨rfl, h⟩
  · change G l X M_L_discard d Q _ _ _ _ _ _
    refine G_i2l (dk_at dk_L_discard 5 rfl) rfl ?_
    refine K_sL (dk_at dk_L_discard 6 rfl) h (fun A6 h => ?_)
    refine G_goto (tgt := 15) (dk_at dk_L_discard 7 rfl) (by decide) ?_
    refine G_iconst (v := 0) (dk_at dk_L_discard 11 rfl) (by decide) ?_
    exact G_iret (ty := .int) rfl rfl (dk_at dk_L_discard 12 rfl) h
  · refine ⟨[], ⟨0, 9, 12, 28⟩, [], rfl, rfl, by decide, ⟨_, wd_27, wd_28⟩, fun y hy => (nomatch hy), fun q => ?_⟩
    replace h := h q
    change G l X M_L_discard d Q _ _ _ _ _ _
    refine G_astore_n (lv' := [(3, .ref q), (0, .ref v0), (1, .int v1), (2, .ref v2)]) (dk_at dk_L_discard 8 rfl) (by decide) rfl ?_
    refine G_iconst (v := 1) (dk_at dk_L_discard 9 rfl) (by decide) ?_
    exact G_iret (ty := .int) rfl rfl (dk_at dk_L_discard 10 rfl) h
theorem k_L_partial_0 {l : Launch} {X : XT} {d : Nat} {Q : Ot → AH → Prop} {A : AH} {bc bs : Nat} {v0 : Nat} {v1 : Int32} {v2 : Int32} {v3 : Nat} (h : isO A v0 6 ∧ Cal l X d bc bs M_X5_partial [.ref v0, .int v1, .int v2] A fun o4 A1 b2 c3 => (∃ i5, o4 = Ri i5 ∧ sL X A1 v3 0 (Int32.toInt64 i5) fun A6 => Q (Ri 0) A6) ∨ (o4 = Th "java/lang/IndexOutOfBoundsException" ∧ ∀ q : Nat, Q (Ri 1) A1) ∨ (o4 = Th "java/lang/IllegalArgumentException" ∧ ∀ q : Nat, Q (Ri 2) A1)) : G l X M_L_partial d Q 0 [(0, .ref v0), (1, .int v1), (2, .int v2), (3, .ref v3)] [] A bc bs := by
  refine G_aload_n 3 (dk_at dk_L_partial 0 rfl) rfl ?_
  refine G_iconst (v := 0) (dk_at dk_L_partial 1 rfl) (by decide) ?_
  refine G_aload_n 0 (dk_at dk_L_partial 2 rfl) rfl ?_
  refine G_iload_n 1 (dk_at dk_L_partial 3 rfl) rfl ?_
  refine G_iload_n 2 (dk_at dk_L_partial 4 rfl) rfl ?_
  obtain ⟨⟨_, ho⟩, h⟩ := h
  refine G_callVX (As := [.int v1, .int v2]) (rest := [.int 0, .ref v3]) lk_L_88 (dk_at dk_L_partial 5 rfl) rfl rfl (Nat.le_of_ble_eq_true rfl) ho (h.mono fun o4 A1 b2 c3 h => ?_)
  rcases h with ⟨i5, rfl, h⟩ | ⟨rfl, h⟩ | ⟨rfl, h⟩
  · change G l X M_L_partial d Q _ _ _ _ _ _
    refine G_i2l (dk_at dk_L_partial 6 rfl) rfl ?_
    refine K_sL (dk_at dk_L_partial 7 rfl) h (fun A6 h => ?_)
    refine G_goto (tgt := 21) (dk_at dk_L_partial 8 rfl) (by decide) ?_
    refine G_iconst (v := 0) (dk_at dk_L_partial 15 rfl) (by decide) ?_
    exact G_iret (ty := .int) rfl rfl (dk_at dk_L_partial 16 rfl) h
  · refine ⟨[], ⟨0, 10, 13, 28⟩, [⟨0, 10, 17, 19⟩], rfl, rfl, by decide, ⟨_, wd_27, wd_28⟩, fun y hy => (nomatch hy), fun q => ?_⟩
    replace h := h q
    change G l X M_L_partial d Q _ _ _ _ _ _
    refine G_astore (lv' := [(4, .ref q), (0, .ref v0), (1, .int v1), (2, .int v2), (3, .ref v3)]) (dk_at dk_L_partial 9 rfl) (by decide) rfl ?_
    refine G_iconst (v := 1) (dk_at dk_L_partial 10 rfl) (by decide) ?_
    exact G_iret (ty := .int) rfl rfl (dk_at dk_L_partial 11 rfl) h
  · refine ⟨[⟨0, 10, 13, 28⟩], ⟨0, 10, 17, 19⟩, [], rfl, rfl, by decide, ⟨_, wd_25, wd_26⟩, fun y hy => by rw [List.mem_singleton.mp hy]; exact ⟨by decide, _, wd_27, by decide⟩, fun q => ?_⟩
    replace h := h q
    change G l X M_L_partial d Q _ _ _ _ _ _
    refine G_astore (lv' := [(4, .ref q), (0, .ref v0), (1, .int v1), (2, .int v2), (3, .ref v3)]) (dk_at dk_L_partial 12 rfl) (by decide) rfl ?_
    refine G_iconst (v := 2) (dk_at dk_L_partial 13 rfl) (by decide) ?_
    exact G_iret (ty := .int) rfl rfl (dk_at dk_L_partial 14 rfl) h
theorem k_L_event_0 {l : Launch} {X : XT} {d : Nat} {Q : Ot → AH → Prop} {A : AH} {bc bs : Nat} {v0 : Nat} {v1 : Int32} {v2 : Int32} {v3 : Nat} (h : isO A v0 6 ∧ Cal l X d bc bs M_X5_event [.ref v0, .int v1, .int v2] A fun o4 A1 b2 c3 => (∃ i5, o4 = Ri i5 ∧ sL X A1 v3 0 (Int32.toInt64 i5) fun A6 => Q (Ri 0) A6) ∨ (o4 = Th "java/lang/IndexOutOfBoundsException" ∧ ∀ q : Nat, Q (Ri 1) A1) ∨ (o4 = Th "java/lang/IllegalArgumentException" ∧ ∀ q : Nat, Q (Ri 2) A1)) : G l X M_L_event d Q 0 [(0, .ref v0), (1, .int v1), (2, .int v2), (3, .ref v3)] [] A bc bs := by
  refine G_aload_n 3 (dk_at dk_L_event 0 rfl) rfl ?_
  refine G_iconst (v := 0) (dk_at dk_L_event 1 rfl) (by decide) ?_
  refine G_aload_n 0 (dk_at dk_L_event 2 rfl) rfl ?_
  refine G_iload_n 1 (dk_at dk_L_event 3 rfl) rfl ?_
  refine G_iload_n 2 (dk_at dk_L_event 4 rfl) rfl ?_
  obtain ⟨⟨_, ho⟩, h⟩ := h
  refine G_callVX (As := [.int v1, .int v2]) (rest := [.int 0, .ref v3]) lk_L_91 (dk_at dk_L_event 5 rfl) rfl rfl (Nat.le_of_ble_eq_true rfl) ho (h.mono fun o4 A1 b2 c3 h => ?_)
  rcases h with ⟨i5, rfl, h⟩ | ⟨rfl, h⟩ | ⟨rfl, h⟩
  · change G l X M_L_event d Q _ _ _ _ _ _
    refine G_i2l (dk_at dk_L_event 6 rfl) rfl ?_
    refine K_sL (dk_at dk_L_event 7 rfl) h (fun A6 h => ?_)
    refine G_goto (tgt := 21) (dk_at dk_L_event 8 rfl) (by decide) ?_
    refine G_iconst (v := 0) (dk_at dk_L_event 15 rfl) (by decide) ?_
    exact G_iret (ty := .int) rfl rfl (dk_at dk_L_event 16 rfl) h
  · refine ⟨[], ⟨0, 10, 13, 28⟩, [⟨0, 10, 17, 19⟩], rfl, rfl, by decide, ⟨_, wd_27, wd_28⟩, fun y hy => (nomatch hy), fun q => ?_⟩
    replace h := h q
    change G l X M_L_event d Q _ _ _ _ _ _
    refine G_astore (lv' := [(4, .ref q), (0, .ref v0), (1, .int v1), (2, .int v2), (3, .ref v3)]) (dk_at dk_L_event 9 rfl) (by decide) rfl ?_
    refine G_iconst (v := 1) (dk_at dk_L_event 10 rfl) (by decide) ?_
    exact G_iret (ty := .int) rfl rfl (dk_at dk_L_event 11 rfl) h
  · refine ⟨[⟨0, 10, 13, 28⟩], ⟨0, 10, 17, 19⟩, [], rfl, rfl, by decide, ⟨_, wd_25, wd_26⟩, fun y hy => by rw [List.mem_singleton.mp hy]; exact ⟨by decide, _, wd_27, by decide⟩, fun q => ?_⟩
    replace h := h q
    change G l X M_L_event d Q _ _ _ _ _ _
    refine G_astore (lv' := [(4, .ref q), (0, .ref v0), (1, .int v1), (2, .int v2), (3, .ref v3)]) (dk_at dk_L_event 12 rfl) (by decide) rfl ?_
    refine G_iconst (v := 2) (dk_at dk_L_event 13 rfl) (by decide) ?_
    exact G_iret (ty := .int) rfl rfl (dk_at dk_L_event 14 rfl) h
theorem k_L_events_0 {l : Launch} {X : XT} {d : Nat} {Q : Ot → AH → Prop} {A : AH} {bc bs : Nat} {v0 : Nat} {v1 : Int32} {v2 : Nat} (h : isO A v0 6 ∧ Cal l X d bc bs M_X5_events [.ref v0, .int v1] A fun o4 A1 b2 c3 => (∃ i5, o4 = Ri i5 ∧ sL X A1 v2 0 (Int32.toInt64 i5) fun A6 => Q (Ri 0) A6) ∨ (o4 = Th "java/lang/IllegalArgumentException" ∧ ∀ q : Nat, Q (Ri 1) A1)) : G l X M_L_events d Q 0 [(0, .ref v0), (1, .int v1), (2, .ref v2)] [] A bc bs := by
  refine G_aload_n 2 (dk_at dk_L_events 0 rfl) rfl ?_
  refine G_iconst (v := 0) (dk_at dk_L_events 1 rfl) (by decide) ?_
  refine G_aload_n 0 (dk_at dk_L_events 2 rfl) rfl ?_
  refine G_iload_n 1 (dk_at dk_L_events 3 rfl) rfl ?_
  obtain ⟨⟨_, ho⟩, h⟩ := h
  refine G_callVX (As := [.int v1]) (rest := [.int 0, .ref v2]) lk_L_94 (dk_at dk_L_events 4 rfl) rfl rfl (Nat.le_of_ble_eq_true rfl) ho (h.mono fun o4 A1 b2 c3 h => ?_)
  rcases h with ⟨i5, rfl, h⟩ | ⟨rfl, h⟩
  · change G l X M_L_events d Q _ _ _ _ _ _
    refine G_i2l (dk_at dk_L_events 5 rfl) rfl ?_
    refine K_sL (dk_at dk_L_events 6 rfl) h (fun A6 h => ?_)
    refine G_goto (tgt := 15) (dk_at dk_L_events 7 rfl) (by decide) ?_
    refine G_iconst (v := 0) (dk_at dk_L_events 11 rfl) (by decide) ?_
    exact G_iret (ty := .int) rfl rfl (dk_at dk_L_events 12 rfl) h
  · refine ⟨[], ⟨0, 9, 12, 19⟩, [], rfl, rfl, by decide, ⟨_, wd_25, wd_26⟩, fun y hy => (nomatch hy), fun q => ?_⟩
    replace h := h q
    change G l X M_L_events d Q _ _ _ _ _ _
    refine G_astore_n (lv' := [(3, .ref q), (0, .ref v0), (1, .int v1), (2, .ref v2)]) (dk_at dk_L_events 8 rfl) (by decide) rfl ?_
    refine G_iconst (v := 1) (dk_at dk_L_events 9 rfl) (by decide) ?_
    exact G_iret (ty := .int) rfl rfl (dk_at dk_L_events 10 rfl) h
theorem k_L_writtenByte_0 {l : Launch} {X : XT} {d : Nat} {Q : Ot → AH → Prop} {A : AH} {bc bs : Nat} {v0 : Nat} {v1 : Int32} {v2 : Nat} (h : isO A v0 6 ∧ Cal l X d bc bs M_X5_writtenByte [.ref v0, .int v1] A fun o4 A1 b2 c3 => (∃ i5, o4 = Ri i5 ∧ sL X A1 v2 0 (Int32.toInt64 i5) fun A6 => Q (Ri 0) A6) ∨ (o4 = Th "java/lang/IndexOutOfBoundsException" ∧ ∀ q : Nat, Q (Ri 1) A1)) : G l X M_L_writtenByte d Q 0 [(0, .ref v0), (1, .int v1), (2, .ref v2)] [] A bc bs := by
  refine G_aload_n 2 (dk_at dk_L_writtenByte 0 rfl) rfl ?_
  refine G_iconst (v := 0) (dk_at dk_L_writtenByte 1 rfl) (by decide) ?_
  refine G_aload_n 0 (dk_at dk_L_writtenByte 2 rfl) rfl ?_
  refine G_iload_n 1 (dk_at dk_L_writtenByte 3 rfl) rfl ?_
  obtain ⟨⟨_, ho⟩, h⟩ := h
  refine G_callVX (As := [.int v1]) (rest := [.int 0, .ref v2]) lk_L_97 (dk_at dk_L_writtenByte 4 rfl) rfl rfl (Nat.le_of_ble_eq_true rfl) ho (h.mono fun o4 A1 b2 c3 h => ?_)
  rcases h with ⟨i5, rfl, h⟩ | ⟨rfl, h⟩
  · change G l X M_L_writtenByte d Q _ _ _ _ _ _
    refine G_i2l (dk_at dk_L_writtenByte 5 rfl) rfl ?_
    refine K_sL (dk_at dk_L_writtenByte 6 rfl) h (fun A6 h => ?_)
    refine G_goto (tgt := 15) (dk_at dk_L_writtenByte 7 rfl) (by decide) ?_
    refine G_iconst (v := 0) (dk_at dk_L_writtenByte 11 rfl) (by decide) ?_
    exact G_iret (ty := .int) rfl rfl (dk_at dk_L_writtenByte 12 rfl) h
  · refine ⟨[], ⟨0, 9, 12, 28⟩, [], rfl, rfl, by decide, ⟨_, wd_27, wd_28⟩, fun y hy => (nomatch hy), fun q => ?_⟩
    replace h := h q
    change G l X M_L_writtenByte d Q _ _ _ _ _ _
    refine G_astore_n (lv' := [(3, .ref q), (0, .ref v0), (1, .int v1), (2, .ref v2)]) (dk_at dk_L_writtenByte 8 rfl) (by decide) rfl ?_
    refine G_iconst (v := 1) (dk_at dk_L_writtenByte 9 rfl) (by decide) ?_
    exact G_iret (ty := .int) rfl rfl (dk_at dk_L_writtenByte 10 rfl) h
theorem k_L_undo_0 {l : Launch} {X : XT} {d : Nat} {Q : Ot → AH → Prop} {A : AH} {bc bs : Nat} {v0 : Nat} {v1 : Nat} (h : isO A v0 6 ∧ Cal l X d bc bs M_X5_undo [.ref v0] A fun o4 A1 b2 c3 => (∃ i5, o4 = Ri i5 ∧ sL X A1 v1 0 (Int32.toInt64 i5) fun A6 => Q (Ri 0) A6) ∨ (o4 = Th "java/lang/IllegalStateException" ∧ ∀ q : Nat, Q (Ri 1) A1)) : G l X M_L_undo d Q 0 [(0, .ref v0), (1, .ref v1)] [] A bc bs := by
  refine G_aload_n 1 (dk_at dk_L_undo 0 rfl) rfl ?_
  refine G_iconst (v := 0) (dk_at dk_L_undo 1 rfl) (by decide) ?_
  refine G_aload_n 0 (dk_at dk_L_undo 2 rfl) rfl ?_
  obtain ⟨⟨_, ho⟩, h⟩ := h
  refine G_callVX (As := []) (rest := [.int 0, .ref v1]) lk_L_100 (dk_at dk_L_undo 3 rfl) rfl rfl (Nat.le_of_ble_eq_true rfl) ho (h.mono fun o4 A1 b2 c3 h => ?_)
  rcases h with ⟨i5, rfl, h⟩ | ⟨rfl, h⟩
  · change G l X M_L_undo d Q _ _ _ _ _ _
    refine G_i2l (dk_at dk_L_undo 4 rfl) rfl ?_
    refine K_sL (dk_at dk_L_undo 5 rfl) h (fun A6 h => ?_)
    refine G_goto (tgt := 14) (dk_at dk_L_undo 6 rfl) (by decide) ?_
    refine G_iconst (v := 0) (dk_at dk_L_undo 10 rfl) (by decide) ?_
    exact G_iret (ty := .int) rfl rfl (dk_at dk_L_undo 11 rfl) h
  · refine ⟨[], ⟨0, 8, 11, 13⟩, [], rfl, rfl, by decide, ⟨_, wd_23, wd_24⟩, fun y hy => (nomatch hy), fun q => ?_⟩
    replace h := h q
    change G l X M_L_undo d Q _ _ _ _ _ _
    refine G_astore_n (lv' := [(2, .ref q), (0, .ref v0), (1, .ref v1)]) (dk_at dk_L_undo 7 rfl) (by decide) rfl ?_
    refine G_iconst (v := 1) (dk_at dk_L_undo 8 rfl) (by decide) ?_
    exact G_iret (ty := .int) rfl rfl (dk_at dk_L_undo 9 rfl) h
theorem k_L_law_0 {l : Launch} {X : XT} {d : Nat} {Q : Ot → AH → Prop} {A : AH} {bc bs : Nat}  (h : mk A (ob 6 df_6) 10 bc bs fun r1 A2 b3 c4 => Cal l X d b3 c4 M_X5_init [.ref r1] A2 fun o8 A5 b6 c7 => zV o8 <| mk A5 (ob 7 df_7) 24 b6 c7 fun r9 A10 b11 c12 => Cal l X d b11 c12 M_X6_init [.ref r9] A10 fun o16 A13 b14 c15 => zV o16 <| mkA A13 1 (fun N => la X N (fun _ => 0)) b14 c15 fun r17 A18 b19 c20 => G l X M_L_law d Q 23 [(0, .ref (xb X)), (1, .ref r1), (2, .ref r9), (3, .ref r17), (4, .int 0)] [] A18 b19 c20) : G l X M_L_law d Q 0 [(0, .ref (xb X))] [] A bc bs := by
  refine K_new no_L_8 (dk_at dk_L_law 0 rfl) h (fun r1 A2 b3 c4 h => ?_)
  refine G_dup (dk_at dk_L_law 1 rfl) rfl ?_
  refine G_callI (As := []) (rest := [.ref r1]) lk_L_104 (dk_at dk_L_law 2 rfl) rfl rfl (Nat.le_of_ble_eq_true rfl) (h.mono fun o8 A5 b6 c7 h => atfV h fun h => ?_)
  refine G_astore_n (lv' := [(1, .ref r1), (0, .ref (xb X))]) (dk_at dk_L_law 3 rfl) (by decide) rfl ?_
  refine K_new no_L_105 (dk_at dk_L_law 4 rfl) h (fun r9 A10 b11 c12 h => ?_)
  refine G_dup (dk_at dk_L_law 5 rfl) rfl ?_
  refine G_callI (As := []) (rest := [.ref r9]) lk_L_107 (dk_at dk_L_law 6 rfl) rfl rfl (Nat.le_of_ble_eq_true rfl) (h.mono fun o16 A13 b14 c15 h => atfV h fun h => ?_)
  refine G_astore_n (lv' := [(2, .ref r9), (1, .ref r1), (0, .ref (xb X))]) (dk_at dk_L_law 7 rfl) (by decide) rfl ?_
  refine G_iconst (v := 1) (dk_at dk_L_law 8 rfl) (by decide) ?_
  refine K_newl wa_l (dk_at dk_L_law 9 rfl) h (fun r17 A18 b19 c20 h => ?_)
  refine G_astore_n (lv' := [(3, .ref r17), (2, .ref r9), (1, .ref r1), (0, .ref (xb X))]) (dk_at dk_L_law 10 rfl) (by decide) rfl ?_
  refine G_iconst (v := 0) (dk_at dk_L_law 11 rfl) (by decide) ?_
  refine G_istore (lv' := [(4, .int 0), (3, .ref r17), (2, .ref r9), (1, .ref r1), (0, .ref (xb X))]) (dk_at dk_L_law 12 rfl) (by decide) rfl ?_
  refine G_sub [4, 3, 2, 1, 0] rfl ?_
  exact h
theorem k_L_law_23 {l : Launch} {X : XT} {d : Nat} {Q : Ot → AH → Prop} {A : AH} {bc bs : Nat} {v1 : Nat} {v2 : Nat} {v3 : Nat} {v4 : Int32} (h : (((Int32.ofNat (xL X)) - 6) < v4 → Q (Ri 1) A) ∧ (¬ ((Int32.ofNat (xL X)) - 6) < v4 → vp_in v4 (xL X) ∧ (((xs X (v4).toNatClampNeg) &&& 63) = 0 → G l X M_L_law d Q 188 [(0, .ref (xb X)), (1, .ref v1), (2, .ref v2), (3, .ref v3), (4, .int v4)] [] A bc bs) ∧ (((xs X (v4).toNatClampNeg) &&& 63) = 1 → G l X M_L_law d Q 292 [(0, .ref (xb X)), (1, .ref v1), (2, .ref v2), (3, .ref v3), (4, .int v4)] [] A bc bs) ∧ (((xs X (v4).toNatClampNeg) &&& 63) = 2 → G l X M_L_law d Q 348 [(0, .ref (xb X)), (1, .ref v1), (2, .ref v2), (3, .ref v3), (4, .int v4)] [] A bc bs) ∧ (((xs X (v4).toNatClampNeg) &&& 63) = 3 → G l X M_L_law d Q 361 [(0, .ref (xb X)), (1, .ref v1), (2, .ref v2), (3, .ref v3), (4, .int v4)] [] A bc bs) ∧ (((xs X (v4).toNatClampNeg) &&& 63) = 4 → G l X M_L_law d Q 417 [(0, .ref (xb X)), (1, .ref v1), (2, .ref v2), (3, .ref v3), (4, .int v4)] [] A bc bs) ∧ (((xs X (v4).toNatClampNeg) &&& 63) = 5 → G l X M_L_law d Q 485 [(0, .ref (xb X)), (1, .ref v1), (2, .ref v2), (3, .ref v3), (4, .int v4)] [] A bc bs) ∧ (((xs X (v4).toNatClampNeg) &&& 63) = 6 → G l X M_L_law d Q 553 [(0, .ref (xb X)), (1, .ref v1), (2, .ref v2), (3, .ref v3), (4, .int v4)] [] A bc bs) ∧ (((xs X (v4).toNatClampNeg) &&& 63) = 7 → G l X M_L_law d Q 609 [(0, .ref (xb X)), (1, .ref v1), (2, .ref v2), (3, .ref v3), (4, .int v4)] [] A bc bs) ∧ (((xs X (v4).toNatClampNeg) &&& 63) = 8 → G l X M_L_law d Q 677 [(0, .ref (xb X)), (1, .ref v1), (2, .ref v2), (3, .ref v3), (4, .int v4)] [] A bc bs) ∧ (((xs X (v4).toNatClampNeg) &&& 63) = 9 → G l X M_L_law d Q 745 [(0, .ref (xb X)), (1, .ref v1), (2, .ref v2), (3, .ref v3), (4, .int v4)] [] A bc bs) ∧ (((xs X (v4).toNatClampNeg) &&& 63) = 10 → G l X M_L_law d Q 825 [(0, .ref (xb X)), (1, .ref v1), (2, .ref v2), (3, .ref v3), (4, .int v4)] [] A bc bs) ∧ (((xs X (v4).toNatClampNeg) &&& 63) = 11 → G l X M_L_law d Q 916 [(0, .ref (xb X)), (1, .ref v1), (2, .ref v2), (3, .ref v3), (4, .int v4)] [] A bc bs) ∧ (((xs X (v4).toNatClampNeg) &&& 63) = 12 → G l X M_L_law d Q 984 [(0, .ref (xb X)), (1, .ref v1), (2, .ref v2), (3, .ref v3), (4, .int v4)] [] A bc bs) ∧ (((xs X (v4).toNatClampNeg) &&& 63) = 13 → G l X M_L_law d Q 1040 [(0, .ref (xb X)), (1, .ref v1), (2, .ref v2), (3, .ref v3), (4, .int v4)] [] A bc bs) ∧ (((xs X (v4).toNatClampNeg) &&& 63) = 14 → G l X M_L_law d Q 1096 [(0, .ref (xb X)), (1, .ref v1), (2, .ref v2), (3, .ref v3), (4, .int v4)] [] A bc bs) ∧ (((xs X (v4).toNatClampNeg) &&& 63) = 15 → G l X M_L_law d Q 1152 [(0, .ref (xb X)), (1, .ref v1), (2, .ref v2), (3, .ref v3), (4, .int v4)] [] A bc bs) ∧ (((xs X (v4).toNatClampNeg) &&& 63) = 16 → G l X M_L_law d Q 1208 [(0, .ref (xb X)), (1, .ref v1), (2, .ref v2), (3, .ref v3), (4, .int v4)] [] A bc bs) ∧ (((xs X (v4).toNatClampNeg) &&& 63) = 17 → G l X M_L_law d Q 1221 [(0, .ref (xb X)), (1, .ref v1), (2, .ref v2), (3, .ref v3), (4, .int v4)] [] A bc bs) ∧ (((xs X (v4).toNatClampNeg) &&& 63) = 18 → G l X M_L_law d Q 1277 [(0, .ref (xb X)), (1, .ref v1), (2, .ref v2), (3, .ref v3), (4, .int v4)] [] A bc bs) ∧ (((xs X (v4).toNatClampNeg) &&& 63) = 19 → G l X M_L_law d Q 1333 [(0, .ref (xb X)), (1, .ref v1), (2, .ref v2), (3, .ref v3), (4, .int v4)] [] A bc bs) ∧ (((xs X (v4).toNatClampNeg) &&& 63) = 20 → G l X M_L_law d Q 1389 [(0, .ref (xb X)), (1, .ref v1), (2, .ref v2), (3, .ref v3), (4, .int v4)] [] A bc bs) ∧ (((xs X (v4).toNatClampNeg) &&& 63) = 21 → G l X M_L_law d Q 1445 [(0, .ref (xb X)), (1, .ref v1), (2, .ref v2), (3, .ref v3), (4, .int v4)] [] A bc bs) ∧ (((xs X (v4).toNatClampNeg) &&& 63) = 22 → G l X M_L_law d Q 1513 [(0, .ref (xb X)), (1, .ref v1), (2, .ref v2), (3, .ref v3), (4, .int v4)] [] A bc bs) ∧ (((xs X (v4).toNatClampNeg) &&& 63) = 23 → G l X M_L_law d Q 1593 [(0, .ref (xb X)), (1, .ref v1), (2, .ref v2), (3, .ref v3), (4, .int v4)] [] A bc bs) ∧ (((xs X (v4).toNatClampNeg) &&& 63) = 24 → G l X M_L_law d Q 1649 [(0, .ref (xb X)), (1, .ref v1), (2, .ref v2), (3, .ref v3), (4, .int v4)] [] A bc bs) ∧ (((xs X (v4).toNatClampNeg) &&& 63) = 25 → G l X M_L_law d Q 1717 [(0, .ref (xb X)), (1, .ref v1), (2, .ref v2), (3, .ref v3), (4, .int v4)] [] A bc bs) ∧ (((xs X (v4).toNatClampNeg) &&& 63) = 26 → G l X M_L_law d Q 1730 [(0, .ref (xb X)), (1, .ref v1), (2, .ref v2), (3, .ref v3), (4, .int v4)] [] A bc bs) ∧ (((xs X (v4).toNatClampNeg) &&& 63) = 27 → G l X M_L_law d Q 1743 [(0, .ref (xb X)), (1, .ref v1), (2, .ref v2), (3, .ref v3), (4, .int v4)] [] A bc bs) ∧ (((xs X (v4).toNatClampNeg) &&& 63) = 28 → G l X M_L_law d Q 1786 [(0, .ref (xb X)), (1, .ref v1), (2, .ref v2), (3, .ref v3), (4, .int v4)] [] A bc bs) ∧ (((xs X (v4).toNatClampNeg) &&& 63) = 29 → G l X M_L_law d Q 1854 [(0, .ref (xb X)), (1, .ref v1), (2, .ref v2), (3, .ref v3), (4, .int v4)] [] A bc bs) ∧ (((xs X (v4).toNatClampNeg) &&& 63) = 30 → G l X M_L_law d Q 1910 [(0, .ref (xb X)), (1, .ref v1), (2, .ref v2), (3, .ref v3), (4, .int v4)] [] A bc bs) ∧ (((xs X (v4).toNatClampNeg) &&& 63) = 31 → G l X M_L_law d Q 1923 [(0, .ref (xb X)), (1, .ref v1), (2, .ref v2), (3, .ref v3), (4, .int v4)] [] A bc bs) ∧ (((xs X (v4).toNatClampNeg) &&& 63) = 32 → G l X M_L_law d Q 1979 [(0, .ref (xb X)), (1, .ref v1), (2, .ref v2), (3, .ref v3), (4, .int v4)] [] A bc bs) ∧ (¬ ((xs X (v4).toNatClampNeg) &&& 63) = 0 → ¬ ((xs X (v4).toNatClampNeg) &&& 63) = 1 → ¬ ((xs X (v4).toNatClampNeg) &&& 63) = 2 → ¬ ((xs X (v4).toNatClampNeg) &&& 63) = 3 → ¬ ((xs X (v4).toNatClampNeg) &&& 63) = 4 → ¬ ((xs X (v4).toNatClampNeg) &&& 63) = 5 → ¬ ((xs X (v4).toNatClampNeg) &&& 63) = 6 → ¬ ((xs X (v4).toNatClampNeg) &&& 63) = 7 → ¬ ((xs X (v4).toNatClampNeg) &&& 63) = 8 → ¬ ((xs X (v4).toNatClampNeg) &&& 63) = 9 → ¬ ((xs X (v4).toNatClampNeg) &&& 63) = 10 → ¬ ((xs X (v4).toNatClampNeg) &&& 63) = 11 → ¬ ((xs X (v4).toNatClampNeg) &&& 63) = 12 → ¬ ((xs X (v4).toNatClampNeg) &&& 63) = 13 → ¬ ((xs X (v4).toNatClampNeg) &&& 63) = 14 → ¬ ((xs X (v4).toNatClampNeg) &&& 63) = 15 → ¬ ((xs X (v4).toNatClampNeg) &&& 63) = 16 → ¬ ((xs X (v4).toNatClampNeg) &&& 63) = 17 → ¬ ((xs X (v4).toNatClampNeg) &&& 63) = 18 → ¬ ((xs X (v4).toNatClampNeg) &&& 63) = 19 → ¬ ((xs X (v4).toNatClampNeg) &&& 63) = 20 → ¬ ((xs X (v4).toNatClampNeg) &&& 63) = 21 → ¬ ((xs X (v4).toNatClampNeg) &&& 63) = 22 → ¬ ((xs X (v4).toNatClampNeg) &&& 63) = 23 → ¬ ((xs X (v4).toNatClampNeg) &&& 63) = 24 → ¬ ((xs X (v4).toNatClampNeg) &&& 63) = 25 → ¬ ((xs X (v4).toNatClampNeg) &&& 63) = 26 → ¬ ((xs X (v4).toNatClampNeg) &&& 63) = 27 → ¬ ((xs X (v4).toNatClampNeg) &&& 63) = 28 → ¬ ((xs X (v4).toNatClampNeg) &&& 63) = 29 → ¬ ((xs X (v4).toNatClampNeg) &&& 63) = 30 → ¬ ((xs X (v4).toNatClampNeg) &&& 63) = 31 → ¬ ((xs X (v4).toNatClampNeg) &&& 63) = 32 → G l X M_L_law d Q 2023 [(0, .ref (xb X)), (1, .ref v1), (2, .ref v2), (3, .ref v3), (4, .int v4)] [] A bc bs))) : G l X M_L_law d Q 23 [(0, .ref (xb X)), (1, .ref v1), (2, .ref v2), (3, .ref v3), (4, .int v4)] [] A bc bs := by
  refine G_iload 4 (dk_at dk_L_law 13 rfl) rfl ?_
  refine G_aload_n 0 (dk_at dk_L_law 14 rfl) rfl ?_
  refine G_slen (dk_at dk_L_law 15 rfl) ?_
  refine G_bipush (v := 6) (dk_at dk_L_law 16 rfl) (by decide) ?_
  refine G_isub (dk_at dk_L_law 17 rfl) ?_
  refine G_icmp_gt (tgt := 2029) (dk_at dk_L_law 18 rfl) (by decide) (fun c => ?_) (fun c => ?_)
  · replace h := h.1 c
    refine G_iconst (v := 1) (dk_at dk_L_law 1201 rfl) (by decide) ?_
    exact G_iret (ty := .boolean) rfl rfl (dk_at dk_L_law 1202 rfl) h
  · replace h := h.2 c
    refine G_aload_n 0 (dk_at dk_L_law 19 rfl) rfl ?_
    refine G_iload 4 (dk_at dk_L_law 20 rfl) rfl ?_
    obtain ⟨h0, h⟩ := h
    refine G_sld (dk_at dk_L_law 21 rfl) h0 ?_
    refine G_bipush (v := 63) (dk_at dk_L_law 22 rfl) (by decide) ?_
    refine G_iand (dk_at dk_L_law 23 rfl) ?_
    by_cases c0 : ((xs X (v4).toNatClampNeg) &&& 63) = 0
    · replace h := h.1 c0
      refine G_tcase (tgt := 188) (dk_at dk_L_law 24 rfl) (by rw [c0]; decide) (by rw [c0]; decide) (off := 148) (by rw [c0]; rfl) (by decide) ?_
      exact h
    by_cases c1 : ((xs X (v4).toNatClampNeg) &&& 63) = 1
    · replace h := h.2.1 c1
      refine G_tcase (tgt := 292) (dk_at dk_L_law 24 rfl) (by rw [c1]; decide) (by rw [c1]; decide) (off := 252) (by rw [c1]; rfl) (by decide) ?_
      exact h
    by_cases c2 : ((xs X (v4).toNatClampNeg) &&& 63) = 2
    · replace h := h.2.2.1 c2
      refine G_tcase (tgt := 348) (dk_at dk_L_law 24 rfl) (by rw [c2]; decide) (by rw [c2]; decide) (off := 308) (by rw [c2]; rfl) (by decide) ?_
      exact h
    by_cases c3 : ((xs X (v4).toNatClampNeg) &&& 63) = 3
    · replace h := h.2.2.2.1 c3
      refine G_tcase (tgt := 361) (dk_at dk_L_law 24 rfl) (by rw [c3]; decide) (by rw [c3]; decide) (off := 321) (by rw [c3]; rfl) (by decide) ?_
      exact h
    by_cases c4 : ((xs X (v4).toNatClampNeg) &&& 63) = 4
    · replace h := h.2.2.2.2.1 c4
      refine G_tcase (tgt := 417) (dk_at dk_L_law 24 rfl) (by rw [c4]; decide) (by rw [c4]; decide) (off := 377) (by rw [c4]; rfl) (by decide) ?_
      exact h
    by_cases c5 : ((xs X (v4).toNatClampNeg) &&& 63) = 5
    · replace h := h.2.2.2.2.2.1 c5
      refine G_tcase (tgt := 485) (dk_at dk_L_law 24 rfl) (by rw [c5]; decide) (by rw [c5]; decide) (off := 445) (by rw [c5]; rfl) (by decide) ?_
      exact h
    by_cases c6 : ((xs X (v4).toNatClampNeg) &&& 63) = 6
    · replace h := h.2.2.2.2.2.2.1 c6
      refine G_tcase (tgt := 553) (dk_at dk_L_law 24 rfl) (by rw [c6]; decide) (by rw [c6]; decide) (off := 513) (by rw [c6]; rfl) (by decide) ?_
      exact h
    by_cases c7 : ((xs X (v4).toNatClampNeg) &&& 63) = 7
    · replace h := h.2.2.2.2.2.2.2.1 c7
      refine G_tcase (tgt := 609) (dk_at dk_L_law 24 rfl) (by rw [c7]; decide) (by rw [c7]; decide) (off := 569) (by rw [c7]; rfl) (by decide) ?_
      exact h
    by_cases c8 : ((xs X (v4).toNatClampNeg) &&& 63) = 8
    · replace h := h.2.2.2.2.2.2.2.2.1 c8
      refine G_tcase (tgt := 677) (dk_at dk_L_law 24 rfl) (by rw [c8]; decide) (by rw [c8]; decide) (off := 637) (by rw [c8]; rfl) (by decide) ?_
      exact h
    by_cases c9 : ((xs X (v4).toNatClampNeg) &&& 63) = 9
    · replace h := h.2.2.2.2.2.2.2.2.2.1 c9
      refine G_tcase (tgt := 745) (dk_at dk_L_law 24 rfl) (by rw [c9]; decide) (by rw [c9]; decide) (off := 705) (by rw [c9]; rfl) (by decide) ?_
      exact h
    by_cases c10 : ((xs X (v4).toNatClampNeg) &&& 63) = 10
    · replace h := h.2.2.2.2.2.2.2.2.2.2.1 c10
      refine G_tcase (tgt := 825) (dk_at dk_L_law 24 rfl) (by rw [c10]; decide) (by rw [c10]; decide) (off := 785) (by rw [c10]; rfl) (by decide) ?_
      exact h
    by_cases c11 : ((xs X (v4).toNatClampNeg) &&& 63) = 11
    · replace h := h.2.2.2.2.2.2.2.2.2.2.2.1 c11
      refine G_tcase (tgt := 916) (dk_at dk_L_law 24 rfl) (by rw [c11]; decide) (by rw [c11]; decide) (off := 876) (by rw [c11]; rfl) (by decide) ?_
      exact h
    by_cases c12 : ((xs X (v4).toNatClampNeg) &&& 63) = 12
    · replace h := h.2.2.2.2.2.2.2.2.2.2.2.2.1 c12
      refine G_tcase (tgt := 984) (dk_at dk_L_law 24 rfl) (by rw [c12]; decide) (by rw [c12]; decide) (off := 944) (by rw [c12]; rfl) (by decide) ?_
      exact h
    by_cases c13 : ((xs X (v4).toNatClampNeg) &&& 63) = 13
    · replace h := h.2.2.2.2.2.2.2.2.2.2.2.2.2.1 c13
      refine G_tcase (tgt := 1040) (dk_at dk_L_law 24 rfl) (by rw [c13]; decide) (by rw [c13]; decide) (off := 1000) (by rw [c13]; rfl) (by decide) ?_
      exact h
    by_cases c14 : ((xs X (v4).toNatClampNeg) &&& 63) = 14
    · replace h := h.2.2.2.2.2.2.2.2.2.2.2.2.2.2.1 c14
      refine G_tcase (tgt := 1096) (dk_at dk_L_law 24 rfl) (by rw [c14]; decide) (by rw [c14]; decide) (off := 1056) (by rw [c14]; rfl) (by decide) ?_
      exact h
    by_cases c15 : ((xs X (v4).toNatClampNeg) &&& 63) = 15
    · replace h := h.2.2.2.2.2.2.2.2.2.2.2.2.2.2.2.1 c15
      refine G_tcase (tgt := 1152) (dk_at dk_L_law 24 rfl) (by rw [c15]; decide) (by rw [c15]; decide) (off := 1112) (by rw [c15]; rfl) (by decide) ?_
      exact h
    by_cases c16 : ((xs X (v4).toNatClampNeg) &&& 63) = 16
    · replace h := h.2.2.2.2.2.2.2.2.2.2.2.2.2.2.2.2.1 c16
      refine G_tcase (tgt := 1208) (dk_at dk_L_law 24 rfl) (by rw [c16]; decide) (by rw [c16]; decide) (off := 1168) (by rw [c16]; rfl) (by decide) ?_
      exact h
    by_cases c17 : ((xs X (v4).toNatClampNeg) &&& 63) = 17
    · replace h := h.2.2.2.2.2.2.2.2.2.2.2.2.2.2.2.2.2.1 c17
      refine G_tcase (tgt := 1221) (dk_at dk_L_law 24 rfl) (by rw [c17]; decide) (by rw [c17]; decide) (off := 1181) (by rw [c17]; rfl) (by decide) ?_
      exact h
    by_cases c18 : ((xs X (v4).toNatClampNeg) &&& 63) = 18
    · replace h := h.2.2.2.2.2.2.2.2.2.2.2.2.2.2.2.2.2.2.1 c18
      refine G_tcase (tgt := 1277) (dk_at dk_L_law 24 rfl) (by rw [c18]; decide) (by rw [c18]; decide) (off := 1237) (by rw [c18]; rfl) (by decide) ?_
      exact h
    by_cases c19 : ((xs X (v4).toNatClampNeg) &&& 63) = 19
    · replace h := h.2.2.2.2.2.2.2.2.2.2.2.2.2.2.2.2.2.2.2.1 c19
      refine G_tcase (tgt := 1333) (dk_at dk_L_law 24 rfl) (by rw [c19]; decide) (by rw [c19]; decide) (off := 1293) (by rw [c19]; rfl) (by decide) ?_
      exact h
    by_cases c20 : ((xs X (v4).toNatClampNeg) &&& 63) = 20
    · replace h := h.2.2.2.2.2.2.2.2.2.2.2.2.2.2.2.2.2.2.2.2.1 c20
      refine G_tcase (tgt := 1389) (dk_at dk_L_law 24 rfl) (by rw [c20]; decide) (by rw [c20]; decide) (off := 1349) (by rw [c20]; rfl) (by decide) ?_
      exact h
    by_cases c21 : ((xs X (v4).toNatClampNeg) &&& 63) = 21
    · replace h := h.2.2.2.2.2.2.2.2.2.2.2.2.2.2.2.2.2.2.2.2.2.1 c21
      refine G_tcase (tgt := 1445) (dk_at dk_L_law 24 rfl) (by rw [c21]; decide) (by rw [c21]; decide) (off := 1405) (by rw [c21]; rfl) (by decide) ?_
      exact h
    by_cases c22 : ((xs X (v4).toNatClampNeg) &&& 63) = 22
    · replace h := h.2.2.2.2.2.2.2.2.2.2.2.2.2.2.2.2.2.2.2.2.2.2.1 c22
      refine G_tcase (tgt := 1513) (dk_at dk_L_law 24 rfl) (by rw [c22]; decide) (by rw [c22]; decide) (off := 1473) (by rw [c22]; rfl) (by decide) ?_
      exact h
    by_cases c23 : ((xs X (v4).toNatClampNeg) &&& 63) = 23
    · replace h := h.2.2.2.2.2.2.2.2.2.2.2.2.2.2.2.2.2.2.2.2.2.2.2.1 c23
      refine G_tcase (tgt := 1593) (dk_at dk_L_law 24 rfl) (by rw [c23]; decide) (by rw [c23]; decide) (off := 1553) (by rw [c23]; rfl) (by decide) ?_
      exact h
    by_cases c24 : ((xs X (v4).toNatClampNeg) &&& 63) = 24
    · replace h := h.2.2.2.2.2.2.2.2.2.2.2.2.2.2.2.2.2.2.2.2.2.2.2.2.1 c24
      refine G_tcase (tgt := 1649) (dk_at dk_L_law 24 rfl) (by rw [c24]; decide) (by rw [c24]; decide) (off := 1609) (by rw [c24]; rfl) (by decide) ?_
      exact h
    by_cases c25 : ((xs X (v4).toNatClampNeg) &&& 63) = 25
    · replace h := h.2.2.2.2.2.2.2.2.2.2.2.2.2.2.2.2.2.2.2.2.2.2.2.2.2.1 c25
      refine G_tcase (tgt := 1717) (dk_at dk_L_law 24 rfl) (by rw [c25]; decide) (by rw [c25]; decide) (off := 1677) (by rw [c25]; rfl) (by decide) ?_
      exact h
    by_cases c26 : ((xs X (v4).toNatClampNeg) &&& 63) = 26
    · replace h := h.2.2.2.2.2.2.2.2.2.2.2.2.2.2.2.2.2.2.2.2.2.2.2.2.2.2.1 c26
      refine G_tcase (tgt := 1730) (dk_at dk_L_law 24 rfl) (by rw [c26]; decide) (by rw [c26]; decide) (off := 1690) (by rw [c26]; rfl) (by decide) ?_
      exact h
    by_cases c27 : ((xs X (v4).toNatClampNeg) &&& 63) = 27
    · replace h := h.2.2.2.2.2.2.2.2.2.2.2.2.2.2.2.2.2.2.2.2.2.2.2.2.2.2.2.1 c27
      refine G_tcase (tgt := 1743) (dk_at dk_L_law 24 rfl) (by rw [c27]; decide) (by rw [c27]; decide) (off := 1703) (by rw [c27]; rfl) (by decide) ?_
      exact h
    by_cases c28 : ((xs X (v4).toNatClampNeg) &&& 63) = 28
    · replace h := h.2.2.2.2.2.2.2.2.2.2.2.2.2.2.2.2.2.2.2.2.2.2.2.2.2.2.2.2.1 c28
      refine G_tcase (tgt := 1786) (dk_at dk_L_law 24 rfl) (by rw [c28]; decide) (by rw [c28]; decide) (off := 1746) (by rw [c28]; rfl) (by decide) ?_
      exact h
    by_cases c29 : ((xs X (v4).toNatClampNeg) &&& 63) = 29
    · replace h := h.2.2.2.2.2.2.2.2.2.2.2.2.2.2.2.2.2.2.2.2.2.2.2.2.2.2.2.2.2.1 c29
      refine G_tcase (tgt := 1854) (dk_at dk_L_law 24 rfl) (by rw [c29]; decide) (by rw [c29]; decide) (off := 1814) (by rw [c29]; rfl) (by decide) ?_
      exact h
    by_cases c30 : ((xs X (v4).toNatClampNeg) &&& 63) = 30
    · replace h := h.2.2.2.2.2.2.2.2.2.2.2.2.2.2.2.2.2.2.2.2.2.2.2.2.2.2.2.2.2.2.1 c30
      refine G_tcase (tgt := 1910) (dk_at dk_L_law 24 rfl) (by rw [c30]; decide) (by rw [c30]; decide) (off := 1870) (by rw [c30]; rfl) (by decide) ?_
      exact h
    by_cases c31 : ((xs X (v4).toNatClampNeg) &&& 63) = 31
    · replace h := h.2.2.2.2.2.2.2.2.2.2.2.2.2.2.2.2.2.2.2.2.2.2.2.2.2.2.2.2.2.2.2.1 c31
      refine G_tcase (tgt := 1923) (dk_at dk_L_law 24 rfl) (by rw [c31]; decide) (by rw [c31]; decide) (off := 1883) (by rw [c31]; rfl) (by decide) ?_
      exact h
    by_cases c32 : ((xs X (v4).toNatClampNeg) &&& 63) = 32
    · replace h := h.2.2.2.2.2.2.2.2.2.2.2.2.2.2.2.2.2.2.2.2.2.2.2.2.2.2.2.2.2.2.2.2.1 c32
      refine G_tcase (tgt := 1979) (dk_at dk_L_law 24 rfl) (by rw [c32]; decide) (by rw [c32]; decide) (off := 1939) (by rw [c32]; rfl) (by decide) ?_
      exact h
    replace h := h.2.2.2.2.2.2.2.2.2.2.2.2.2.2.2.2.2.2.2.2.2.2.2.2.2.2.2.2.2.2.2.2.2 c0 c1 c2 c3 c4 c5 c6 c7 c8 c9 c10 c11 c12 c13 c14 c15 c16 c17 c18 c19 c20 c21 c22 c23 c24 c25 c26 c27 c28 c29 c30 c31 c32
    refine G_tout (tgt := 2023) (dk_at dk_L_law 24 rfl) (tsw_out (n := 32) (fun k hk => ?_)) (by decide) ?_
    · have hk2 : k = 0 ∨ k = 1 ∨ k = 2 ∨ k = 3 ∨ k = 4 ∨ k = 5 ∨ k = 6 ∨ k = 7 ∨ k = 8 ∨ k = 9 ∨ k = 10 ∨ k = 11 ∨ k = 12 ∨ k = 13 ∨ k = 14 ∨ k = 15 ∨ k = 16 ∨ k = 17 ∨ k = 18 ∨ k = 19 ∨ k = 20 ∨ k = 21 ∨ k = 22 ∨ k = 23 ∨ k = 24 ∨ k = 25 ∨ k = 26 ∨ k = 27 ∨ k = 28 ∨ k = 29 ∨ k = 30 ∨ k = 31 ∨ k = 32 := by omega
      rcases hk2 with rfl | rfl | rfl | rfl | rfl | rfl | rfl | rfl | rfl | rfl | rfl | rfl | rfl | rfl | rfl | rfl | rfl | rfl | rfl | rfl | rfl | rfl | rfl | rfl | rfl | rfl | rfl | rfl | rfl | rfl | rfl | rfl | rfl
      · exact c0
      · exact c1
      · exact c2
      · exact c3
      · exact c4
      · exact c5
      · exact c6
      · exact c7
      · exact c8
      · exact c9
      · exact c10
      · exact c11
      · exact c12
      · exact c13
      · exact c14
      · exact c15
      · exact c16
      · exact c17
      · exact c18
      · exact c19
      · exact c20
      · exact c21
      · exact c22
      · exact c23
      · exact c24
      · exact c25
      · exact c26
      · exact c27
      · exact c28
      · exact c29
      · exact c30
      · exact c31
      · exact c32
    · exact h
theorem k_L_law_188 {l : Launch} {X : XT} {d : Nat} {Q : Ot → AH → Prop} {A : AH} {bc bs : Nat} {v1 : Nat} {v2 : Nat} {v3 : Nat} {v4 : Int32} (h : vp_in (v4 + 1) (xL X) ∧ vp_in (v4 + 2) (xL X) ∧ vp_in (v4 + 3) (xL X) ∧ vp_in (v4 + 4) (xL X) ∧ vp_in (v4 + 5) (xL X) ∧ Cal l X d bc bs M_L_append [.ref v1, .int (xs X (v4 + 1).toNatClampNeg), .int (xs X (v4 + 2).toNatClampNeg), .int (xs X (v4 + 3).toNatClampNeg), .int (xs X (v4 + 4).toNatClampNeg), .int (xs X (v4 + 5).toNatClampNeg), .ref v3] A fun o4 A1 b2 c3 => zI o4 fun i5 => vp_in (v4 + 1) (xL X) ∧ vp_in (v4 + 2) (xL X) ∧ vp_in (v4 + 3) (xL X) ∧ vp_in (v4 + 4) (xL X) ∧ vp_in (v4 + 5) (xL X) ∧ isO A1 v2 7 ∧ Cal l X d b2 c3 M_X6_append [.ref v2, .int (xs X (v4 + 1).toNatClampNeg), .int (xs X (v4 + 2).toNatClampNeg), .int (xs X (v4 + 3).toNatClampNeg), .int (xs X (v4 + 4).toNatClampNeg), .int (xs X (v4 + 5).toNatClampNeg)] A1 fun o9 A6 b7 c8 => rI o9 (fun E => Q (.inr E) A6) fun i10 => isO A6 v2 7 ∧ Cal l X d b7 c8 M_X6_thrown [.ref v2] A6 fun o14 A11 b12 c13 => rI o14 (fun E => Q (.inr E) A11) fun i15 => (i15 = i5 → (¬ i5 = 0 → G l X M_L_law d Q 2023 [(0, .ref (xb X)), (1, .ref v1), (2, .ref v2), (3, .ref v3), (4, .int v4)] [] A11 b12 c13) ∧ (i5 = 0 → aL X A11 v3 0 fun i16 => ((lg_cmp i16 (Int32.toInt64 i10)) = 0 → G l X M_L_law d Q 2023 [(0, .ref (xb X)), (1, .ref v1), (2, .ref v2), (3, .ref v3), (4, .int v4)] [] A11 b12 c13) ∧ (¬ (lg_cmp i16 (Int32.toInt64 i10)) = 0 → Q (Ri 0) A11))) ∧ (¬ i15 = i5 → Q (Ri 0) A11)) : G l X M_L_law d Q 188 [(0, .ref (xb X)), (1, .ref v1), (2, .ref v2), (3, .ref v3), (4, .int v4)] [] A bc bs := by
  refine G_aload_n 1 (dk_at dk_L_law 25 rfl) rfl ?_
  refine G_aload_n 0 (dk_at dk_L_law 26 rfl) rfl ?_
  refine G_iload 4 (dk_at dk_L_law 27 rfl) rfl ?_
  refine G_iconst (v := 1) (dk_at dk_L_law 28 rfl) (by decide) ?_
  refine G_iadd (dk_at dk_L_law 29 rfl) ?_
  obtain ⟨h0, h⟩ := h
  refine G_sld (dk_at dk_L_law 30 rfl) h0 ?_
  refine G_aload_n 0 (dk_at dk_L_law 31 rfl) rfl ?_
  refine G_iload 4 (dk_at dk_L_law 32 rfl) rfl ?_
  refine G_iconst (v := 2) (dk_at dk_L_law 33 rfl) (by decide) ?_
  refine G_iadd (dk_at dk_L_law 34 rfl) ?_
  obtain ⟨h0, h⟩ := h
  refine G_sld (dk_at dk_L_law 35 rfl) h0 ?_
  refine G_aload_n 0 (dk_at dk_L_law 36 rfl) rfl ?_
  refine G_iload 4 (dk_at dk_L_law 37 rfl) rfl ?_
  refine G_iconst (v := 3) (dk_at dk_L_law 38 rfl) (by decide) ?_
  refine G_iadd (dk_at dk_L_law 39 rfl) ?_
  obtain ⟨h0, h⟩ := h
  refine G_sld (dk_at dk_L_law 40 rfl) h0 ?_
  refine G_aload_n 0 (dk_at dk_L_law 41 rfl) rfl ?_
  refine G_iload 4 (dk_at dk_L_law 42 rfl) rfl ?_
  refine G_iconst (v := 4) (dk_at dk_L_law 43 rfl) (by decide) ?_
  refine G_iadd (dk_at dk_L_law 44 rfl) ?_
  obtain ⟨h0, h⟩ := h
  refine G_sld (dk_at dk_L_law 45 rfl) h0 ?_
  refine G_aload_n 0 (dk_at dk_L_law 46 rfl) rfl ?_
  refine G_iload 4 (dk_at dk_L_law 47 rfl) rfl ?_
  refine G_iconst (v := 5) (dk_at dk_L_law 48 rfl) (by decide) ?_
  refine G_iadd (dk_at dk_L_law 49 rfl) ?_
  obtain ⟨h0, h⟩ := h
  refine G_sld (dk_at dk_L_law 50 rfl) h0 ?_
  refine G_aload_n 3 (dk_at dk_L_law 51 rfl) rfl ?_
  refine G_callSX (As := [.ref v1, .int (xs X (v4 + 1).toNatClampNeg), .int (xs X (v4 + 2).toNatClampNeg), .int (xs X (v4 + 3).toNatClampNeg), .int (xs X (v4 + 4).toNatClampNeg), .int (xs X (v4 + 5).toNatClampNeg), .ref v3]) (rest := []) lk_L_108 (dk_at dk_L_law 52 rfl) rfl rfl (Nat.le_of_ble_eq_true rfl) (h.mono fun o4 A1 b2 c3 h => atfI h fun i5 h => ?_)
  refine G_istore (lv' := [(5, .int i5), (0, .ref (xb X)), (1, .ref v1), (2, .ref v2), (3, .ref v3), (4, .int v4)]) (dk_at dk_L_law 53 rfl) (by decide) rfl ?_
  refine G_aload_n 3 (dk_at dk_L_law 54 rfl) rfl ?_
  refine G_aload_n 1 (dk_at dk_L_law 55 rfl) rfl ?_
  refine G_iload 5 (dk_at dk_L_law 56 rfl) rfl ?_
  refine G_iconst (v := 1) (dk_at dk_L_law 57 rfl) (by decide) ?_
  refine G_iadd (dk_at dk_L_law 58 rfl) ?_
  obtain ⟨h0, h⟩ := h
  refine G_sld (dk_at dk_L_law 59 rfl) h0 ?_
  refine G_aload_n 1 (dk_at dk_L_law 60 rfl) rfl ?_
  refine G_iload 5 (dk_at dk_L_law 61 rfl) rfl ?_
  refine G_iconst (v := 2) (dk_at dk_L_law 62 rfl) (by decide) ?_
  refine G_iadd (dk_at dk_L_law 63 rfl) ?_
  obtain ⟨h0, h⟩ := h
  refine G_sld (dk_at dk_L_law 64 rfl) h0 ?_
  refine G_aload_n 1 (dk_at dk_L_law 65 rfl) rfl ?_
  refine G_iload 5 (dk_at dk_L_law 66 rfl) rfl ?_
  refine G_iconst (v := 3) (dk_at dk_L_law 67 rfl) (by decide) ?_
  refine G_iadd (dk_at dk_L_law 68 rfl) ?_
  obtain ⟨h0, h⟩ := h
  refine G_sld (dk_at dk_L_law 69 rfl) h0 ?_
  refine G_aload_n 1 (dk_at dk_L_law 70 rfl) rfl ?_
  refine G_iload 5 (dk_at dk_L_law 71 rfl) rfl ?_
  refine G_iconst (v := 4) (dk_at dk_L_law 72 rfl) (by decide) ?_
  refine G_iadd (dk_at dk_L_law 73 rfl) ?_
  obtain ⟨h0, h⟩ := h
  refine G_sld (dk_at dk_L_law 74 rfl) h0 ?_
  refine G_aload_n 1 (dk_at dk_L_law 75 rfl) rfl ?_
  refine G_iload 5 (dk_at dk_L_law 76 rfl) rfl ?_
  refine G_iconst (v := 5) (dk_at dk_L_law 77 rfl) (by decide) ?_
  refine G_iadd (dk_at dk_L_law 78 rfl) ?_
  obtain ⟨h0, h⟩ := h
  refine G_sld (dk_at dk_L_law 79 rfl) h0 ?_
  obtain ⟨⟨_, ho⟩, h⟩ := h
  refine G_callV (As := [.int (xs X (v4 + 1).toNatClampNeg), .int (xs X (v4 + 2).toNatClampNeg), .int (xs X (v4 + 3).toNatClampNeg), .int (xs X (v4 + 4).toNatClampNeg), .int (xs X (v4 + 5).toNatClampNeg)]) (rest := []) lk_L_113 rfl (dk_at dk_L_law 80 rfl) rfl rfl (Nat.le_of_ble_eq_true rfl) ho (h.mono fun o9 A6 b7 c8 h => aftI h fun i10 h => ?_)
  refine G_istore (lv' := [(6, .int i10), (5, .int i5), (0, .ref (xb X)), (1, .ref v1), (2, .ref v2), (3, .ref v3), (4, .int v4)]) (dk_at dk_L_law 81 rfl) (by decide) rfl ?_
  refine G_aload_n 4 (dk_at dk_L_law 82 rfl) rfl ?_
  obtain ⟨⟨_, ho⟩, h⟩ := h
  refine G_callV (As := []) (rest := []) lk_L_114 rfl (dk_at dk_L_law 83 rfl) rfl rfl (Nat.le_of_ble_eq_true rfl) ho (h.mono fun o14 A11 b12 c13 h => aftI h fun i15 h => ?_)
  refine G_iload 1 (dk_at dk_L_law 84 rfl) rfl ?_
  refine G_icmp_eq (tgt := 272) (dk_at dk_L_law 85 rfl) (by decide) (fun c => ?_) (fun c => ?_)
  · replace h := h.1 c
    refine G_iload 1 (dk_at dk_L_law 88 rfl) rfl ?_
    refine G_if_ne (tgt := 289) (dk_at dk_L_law 89 rfl) (by decide) (fun c => ?_) (fun c => ?_)
    · replace h := h.1 c
      refine G_goto (tgt := 2023) (dk_at dk_L_law 99 rfl) (by decide) ?_
      refine G_sub [2, 3, 4, 5, 6] rfl ?_
      exact h
    · replace h := h.2 c
      refine G_aload_n 5 (dk_at dk_L_law 90 rfl) rfl ?_
      refine G_iconst (v := 0) (dk_at dk_L_law 91 rfl) (by decide) ?_
      refine K_aL (dk_at dk_L_law 92 rfl) h (fun i16 h => ?_)
      refine G_iload 0 (dk_at dk_L_law 93 rfl) rfl ?_
      refine G_i2l (dk_at dk_L_law 94 rfl) rfl ?_
      refine G_lcmp (dk_at dk_L_law 95 rfl) ?_
      refine G_if_eq (tgt := 289) (dk_at dk_L_law 96 rfl) (by decide) (fun c => ?_) (fun c => ?_)
      · replace h := h.1 c
        refine G_goto (tgt := 2023) (dk_at dk_L_law 99 rfl) (by decide) ?_
        refine G_sub [2, 3, 4, 5, 6] rfl ?_
        exact h
      · replace h := h.2 c
        refine G_iconst (v := 0) (dk_at dk_L_law 97 rfl) (by decide) ?_
        exact G_iret (ty := .boolean) rfl rfl (dk_at dk_L_law 98 rfl) h
  · replace h := h.2 c
    refine G_iconst (v := 0) (dk_at dk_L_law 86 rfl) (by decide) ?_
    exact G_iret (ty := .boolean) rfl rfl (dk_at dk_L_law 87 rfl) h
theorem k_L_law_292 {l : Launch} {X : XT} {d : Nat} {Q : Ot → AH → Prop} {A : AH} {bc bs : Nat} {v1 : Nat} {v2 : Nat} {v3 : Nat} {v4 : Int32} (h : vp_in (v4 + 1) (xL X) ∧ Cal l X d bc bs M_L_load [.ref v1, .int (xs X (v4 + 1).toNatClampNeg), .ref v3] A fun o4 A1 b2 c3 => zI o4 fun i5 => vp_in (v4 + 1) (xL X) ∧ isO A1 v2 7 ∧ Cal l X d b2 c3 M_X6_load [.ref v2, .int (xs X (v4 + 1).toNatClampNeg)] A1 fun o9 A6 b7 c8 => rI o9 (fun E => Q (.inr E) A6) fun i10 => isO A6 v2 7 ∧ Cal l X d b7 c8 M_X6_thrown [.ref v2] A6 fun o14 A11 b12 c13 => rI o14 (fun E => Q (.inr E) A11) fun i15 => (i15 = i5 → (¬ i5 = 0 → G l X M_L_law d Q 2023 [(0, .ref (xb X)), (1, .ref v1), (2, .ref v2), (3, .ref v3), (4, .int v4)] [] A11 b12 c13) ∧ (i5 = 0 → aL X A11 v3 0 fun i16 => ((lg_cmp i16 (Int32.toInt64 i10)) = 0 → G l X M_L_law d Q 2023 [(0, .ref (xb X)), (1, .ref v1), (2, .ref v2), (3, .ref v3), (4, .int v4)] [] A11 b12 c13) ∧ (¬ (lg_cmp i16 (Int32.toInt64 i10)) = 0 → Q (Ri 0) A11))) ∧ (¬ i15 = i5 → Q (Ri 0) A11)) : G l X M_L_law d Q 292 [(0, .ref (xb X)), (1, .ref v1), (2, .ref v2), (3, .ref v3), (4, .int v4)] [] A bc bs := by
  refine G_aload_n 1 (dk_at dk_L_law 100 rfl) rfl ?_
  refine G_aload_n 0 (dk_at dk_L_law 101 rfl) rfl ?_
  refine G_iload 4 (dk_at dk_L_law 102 rfl) rfl ?_
  refine G_iconst (v := 1) (dk_at dk_L_law 103 rfl) (by decide) ?_
  refine G_iadd (dk_at dk_L_law 104 rfl) ?_
  obtain ⟨h0, h⟩ := h
  refine G_sld (dk_at dk_L_law 105 rfl) h0 ?_
  refine G_aload_n 3 (dk_at dk_L_law 106 rfl) rfl ?_
  refine G_callSX (As := [.ref v1, .int (xs X (v4 + 1).toNatClampNeg), .ref v3]) (rest := []) lk_L_117 (dk_at dk_L_law 107 rfl) rfl rfl (Nat.le_of_ble_eq_true rfl) (h.mono fun o4 A1 b2 c3 h => atfI h fun i5 h => ?_)
  refine G_istore (lv' := [(5, .int i5), (0, .ref (xb X)), (1, .ref v1), (2, .ref v2), (3, .ref v3), (4, .int v4)]) (dk_at dk_L_law 108 rfl) (by decide) rfl ?_
  refine G_aload_n 3 (dk_at dk_L_law 109 rfl) rfl ?_
  refine G_aload_n 1 (dk_at dk_L_law 110 rfl) rfl ?_
  refine G_iload 5 (dk_at dk_L_law 111 rfl) rfl ?_
  refine G_iconst (v := 1) (dk_at dk_L_law 112 rfl) (by decide) ?_
  refine G_iadd (dk_at dk_L_law 113 rfl) ?_
  obtain ⟨h0, h⟩ := h
  refine G_sld (dk_at dk_L_law 114 rfl) h0 ?_
  obtain ⟨⟨_, ho⟩, h⟩ := h
  refine G_callV (As := [.int (xs X (v4 + 1).toNatClampNeg)]) (rest := []) lk_L_120 rfl (dk_at dk_L_law 115 rfl) rfl rfl (Nat.le_of_ble_eq_true rfl) ho (h.mono fun o9 A6 b7 c8 h => aftI h fun i10 h => ?_)
  refine G_istore (lv' := [(6, .int i10), (5, .int i5), (0, .ref (xb X)), (1, .ref v1), (2, .ref v2), (3, .ref v3), (4, .int v4)]) (dk_at dk_L_law 116 rfl) (by decide) rfl ?_
  refine G_aload_n 4 (dk_at dk_L_law 117 rfl) rfl ?_
  obtain ⟨⟨_, ho⟩, h⟩ := h
  refine G_callV (As := []) (rest := []) lk_L_114 rfl (dk_at dk_L_law 118 rfl) rfl rfl (Nat.le_of_ble_eq_true rfl) ho (h.mono fun o14 A11 b12 c13 h => aftI h fun i15 h => ?_)
  refine G_iload 1 (dk_at dk_L_law 119 rfl) rfl ?_
  refine G_icmp_eq (tgt := 328) (dk_at dk_L_law 120 rfl) (by decide) (fun c => ?_) (fun c => ?_)
  · replace h := h.1 c
    refine G_iload 1 (dk_at dk_L_law 123 rfl) rfl ?_
    refine G_if_ne (tgt := 345) (dk_at dk_L_law 124 rfl) (by decide) (fun c => ?_) (fun c => ?_)
    · replace h := h.1 c
      refine G_goto (tgt := 2023) (dk_at dk_L_law 134 rfl) (by decide) ?_
      refine G_sub [2, 3, 4, 5, 6] rfl ?_
      exact h
    · replace h := h.2 c
      refine G_aload_n 5 (dk_at dk_L_law 125 rfl) rfl ?_
      refine G_iconst (v := 0) (dk_at dk_L_law 126 rfl) (by decide) ?_
      refine K_aL (dk_at dk_L_law 127 rfl) h (fun i16 h => ?_)
      refine G_iload 0 (dk_at dk_L_law 128 rfl) rfl ?_
      refine G_i2l (dk_at dk_L_law 129 rfl) rfl ?_
      refine G_lcmp (dk_at dk_L_law 130 rfl) ?_
      refine G_if_eq (tgt := 345) (dk_at dk_L_law 131 rfl) (by decide) (fun c => ?_) (fun c => ?_)
      · replace h := h.1 c
        refine G_goto (tgt := 2023) (dk_at dk_L_law 134 rfl) (by decide) ?_
        refine G_sub [2, 3, 4, 5, 6] rfl ?_
        exact h
      · replace h := h.2 c
        refine G_iconst (v := 0) (dk_at dk_L_law 132 rfl) (by decide) ?_
        exact G_iret (ty := .boolean) rfl rfl (dk_at dk_L_law 133 rfl) h
  · replace h := h.2 c
    refine G_iconst (v := 0) (dk_at dk_L_law 121 rfl) (by decide) ?_
    exact G_iret (ty := .boolean) rfl rfl (dk_at dk_L_law 122 rfl) h
theorem k_L_law_348 {l : Launch} {X : XT} {d : Nat} {Q : Ot → AH → Prop} {A : AH} {bc bs : Nat} {v1 : Nat} {v2 : Nat} {v3 : Nat} {v4 : Int32} (h : isO A v1 6 ∧ Cal l X d bc bs M_X5_errorPosition [.ref v1] A fun o4 A1 b2 c3 => rI o4 (fun E => Q (.inr E) A1) fun i5 => isO A1 v2 7 ∧ Cal l X d b2 c3 M_X6_errorPosition [.ref v2] A1 fun o9 A6 b7 c8 => rI o9 (fun E => Q (.inr E) A6) fun i10 => (i5 = i10 → G l X M_L_law d Q 2023 [(0, .ref (xb X)), (1, .ref v1), (2, .ref v2), (3, .ref v3), (4, .int v4)] [] A6 b7 c8) ∧ (¬ i5 = i10 → Q (Ri 0) A6)) : G l X M_L_law d Q 348 [(0, .ref (xb X)), (1, .ref v1), (2, .ref v2), (3, .ref v3), (4, .int v4)] [] A bc bs := by
  refine G_aload_n 1 (dk_at dk_L_law 135 rfl) rfl ?_
  obtain ⟨⟨_, ho⟩, h⟩ := h
  refine G_callV (As := []) (rest := []) lk_L_121 rfl (dk_at dk_L_law 136 rfl) rfl rfl (Nat.le_of_ble_eq_true rfl) ho (h.mono fun o4 A1 b2 c3 h => aftI h fun i5 h => ?_)
  refine G_aload_n 2 (dk_at dk_L_law 137 rfl) rfl ?_
  obtain ⟨⟨_, ho⟩, h⟩ := h
  refine G_callV (As := []) (rest := [.int i5]) lk_L_124 rfl (dk_at dk_L_law 138 rfl) rfl rfl (Nat.le_of_ble_eq_true rfl) ho (h.mono fun o9 A6 b7 c8 h => aftI h fun i10 h => ?_)
  refine G_icmp_eq (tgt := 2023) (dk_at dk_L_law 139 rfl) (by decide) (fun c => ?_) (fun c => ?_)
  · replace h := h.1 c
    exact h
  · replace h := h.2 c
    refine G_iconst (v := 0) (dk_at dk_L_law 140 rfl) (by decide) ?_
    exact G_iret (ty := .boolean) rfl rfl (dk_at dk_L_law 141 rfl) h
theorem k_L_law_361 {l : Launch} {X : XT} {d : Nat} {Q : Ot → AH → Prop} {A : AH} {bc bs : Nat} {v1 : Nat} {v2 : Nat} {v3 : Nat} {v4 : Int32} (h : vp_in (v4 + 1) (xL X) ∧ Cal l X d bc bs M_L_count [.ref v1, .int (xs X (v4 + 1).toNatClampNeg), .ref v3] A fun o4 A1 b2 c3 => zI o4 fun i5 => vp_in (v4 + 1) (xL X) ∧ isO A1 v2 7 ∧ Cal l X d b2 c3 M_X6_count [.ref v2, .int (xs X (v4 + 1).toNatClampNeg)] A1 fun o9 A6 b7 c8 => rI o9 (fun E => Q (.inr E) A6) fun i10 => isO A6 v2 7 ∧ Cal l X d b7 c8 M_X6_thrown [.ref v2] A6 fun o14 A11 b12 c13 => rI o14 (fun E => Q (.inr E) A11) fun i15 => (i15 = i5 → (¬ i5 = 0 → G l X M_L_law d Q 2023 [(0, .ref (xb X)), (1, .ref v1), (2, .ref v2), (3, .ref v3), (4, .int v4)] [] A11 b12 c13) ∧ (i5 = 0 → aL X A11 v3 0 fun i16 => ((lg_cmp i16 (Int32.toInt64 i10)) = 0 → G l X M_L_law d Q 2023 [(0, .ref (xb X)), (1, .ref v1), (2, .ref v2), (3, .ref v3), (4, .int v4)] [] A11 b12 c13) ∧ (¬ (lg_cmp i16 (Int32.toInt64 i10)) = 0 → Q (Ri 0) A11))) ∧ (¬ i15 = i5 → Q (Ri 0) A11)) : G l X M_L_law d Q 361 [(0, .ref (xb X)), (1, .ref v1), (2, .ref v2), (3, .ref v3), (4, .int v4)] [] A bc bs := by
  refine G_aload_n 1 (dk_at dk_L_law 142 rfl) rfl ?_
  refine G_aload_n 0 (dk_at dk_L_law 143 rfl) rfl ?_
  refine G_iload 4 (dk_at dk_L_law 144 rfl) rfl ?_
  refine G_iconst (v := 1) (dk_at dk_L_law 145 rfl) (by decide) ?_
  refine G_iadd (dk_at dk_L_law 146 rfl) ?_
  obtain ⟨h0, h⟩ := h
  refine G_sld (dk_at dk_L_law 147 rfl) h0 ?_
  refine G_aload_n 3 (dk_at dk_L_law 148 rfl) rfl ?_
  refine G_callSX (As := [.ref v1, .int (xs X (v4 + 1).toNatClampNeg), .ref v3]) (rest := []) lk_L_125 (dk_at dk_L_law 149 rfl) rfl rfl (Nat.le_of_ble_eq_true rfl) (h.mono fun o4 A1 b2 c3 h => atfI h fun i5 h => ?_)
  refine G_istore (lv' := [(5, .int i5), (0, .ref (xb X)), (1, .ref v1), (2, .ref v2), (3, .ref v3), (4, .int v4)]) (dk_at dk_L_law 150 rfl) (by decide) rfl ?_
  refine G_aload_n 3 (dk_at dk_L_law 151 rfl) rfl ?_
  refine G_aload_n 1 (dk_at dk_L_law 152 rfl) rfl ?_
  refine G_iload 5 (dk_at dk_L_law 153 rfl) rfl ?_
  refine G_iconst (v := 1) (dk_at dk_L_law 154 rfl) (by decide) ?_
  refine G_iadd (dk_at dk_L_law 155 rfl) ?_
  obtain ⟨h0, h⟩ := h
  refine G_sld (dk_at dk_L_law 156 rfl) h0 ?_
  obtain ⟨⟨_, ho⟩, h⟩ := h
  refine G_callV (As := [.int (xs X (v4 + 1).toNatClampNeg)]) (rest := []) lk_L_127 rfl (dk_at dk_L_law 157 rfl) rfl rfl (Nat.le_of_ble_eq_true rfl) ho (h.mono fun o9 A6 b7 c8 h => aftI h fun i10 h => ?_)
  refine G_istore (lv' := [(6, .int i10), (5, .int i5), (0, .ref (xb X)), (1, .ref v1), (2, .ref v2), (3, .ref v3), (4, .int v4)]) (dk_at dk_L_law 158 rfl) (by decide) rfl ?_
  refine G_aload_n 4 (dk_at dk_L_law 159 rfl) rfl ?_
  obtain ⟨⟨_, ho⟩, h⟩ := h
  refine G_callV (As := []) (rest := []) lk_L_114 rfl (dk_at dk_L_law 160 rfl) rfl rfl (Nat.le_of_ble_eq_true rfl) ho (h.mono fun o14 A11 b12 c13 h => aftI h fun i15 h => ?_)
  refine G_iload 1 (dk_at dk_L_law 161 rfl) rfl ?_
  refine G_icmp_eq (tgt := 397) (dk_at dk_L_law 162 rfl) (by decide) (fun c => ?_) (fun c => ?_)
  · replace h := h.1 c
    refine G_iload 1 (dk_at dk_L_law 165 rfl) rfl ?_
    refine G_if_ne (tgt := 414) (dk_at dk_L_law 166 rfl) (by decide) (fun c => ?_) (fun c => ?_)
    · replace h := h.1 c
      refine G_goto (tgt := 2023) (dk_at dk_L_law 176 rfl) (by decide) ?_
      refine G_sub [2, 3, 4, 5, 6] rfl ?_
      exact h
    · replace h := h.2 c
      refine G_aload_n 5 (dk_at dk_L_law 167 rfl) rfl ?_
      refine G_iconst (v := 0) (dk_at dk_L_law 168 rfl) (by decide) ?_
      refine K_aL (dk_at dk_L_law 169 rfl) h (fun i16 h => ?_)
      refine G_iload 0 (dk_at dk_L_law 170 rfl) rfl ?_
      refine G_i2l (dk_at dk_L_law 171 rfl) rfl ?_
      refine G_lcmp (dk_at dk_L_law 172 rfl) ?_
      refine G_if_eq (tgt := 414) (dk_at dk_L_law 173 rfl) (by decide) (fun c => ?_) (fun c => ?_)
      · replace h := h.1 c
        refine G_goto (tgt := 2023) (dk_at dk_L_law 176 rfl) (by decide) ?_
        refine G_sub [2, 3, 4, 5, 6] rfl ?_
        exact h
      · replace h := h.2 c
        refine G_iconst (v := 0) (dk_at dk_L_law 174 rfl) (by decide) ?_
        exact G_iret (ty := .boolean) rfl rfl (dk_at dk_L_law 175 rfl) h
  · replace h := h.2 c
    refine G_iconst (v := 0) (dk_at dk_L_law 163 rfl) (by decide) ?_
    exact G_iret (ty := .boolean) rfl rfl (dk_at dk_L_law 164 rfl) h
theorem k_L_law_417 {l : Launch} {X : XT} {d : Nat} {Q : Ot → AH → Prop} {A : AH} {bc bs : Nat} {v1 : Nat} {v2 : Nat} {v3 : Nat} {v4 : Int32} (h : vp_in (v4 + 1) (xL X) ∧ vp_in (v4 + 2) (xL X) ∧ Cal l X d bc bs M_L_source [.ref v1, .int (xs X (v4 + 1).toNatClampNeg), .int (xs X (v4 + 2).toNatClampNeg), .ref v3] A fun o4 A1 b2 c3 => zI o4 fun i5 => vp_in (v4 + 1) (xL X) ∧ vp_in (v4 + 2) (xL X) ∧ isO A1 v2 7 ∧ Cal l X d b2 c3 M_X6_source [.ref v2, .int (xs X (v4 + 1).toNatClampNeg), .int (xs X (v4 + 2).toNatClampNeg)] A1 fun o9 A6 b7 c8 => rI o9 (fun E => Q (.inr E) A6) fun i10 => isO A6 v2 7 ∧ Cal l X d b7 c8 M_X6_thrown [.ref v2] A6 fun o14 A11 b12 c13 => rI o14 (fun E => Q (.inr E) A11) fun i15 => (i15 = i5 → (¬ i5 = 0 → G l X M_L_law d Q 2023 [(0, .ref (xb X)), (1, .ref v1), (2, .ref v2), (3, .ref v3), (4, .int v4)] [] A11 b12 c13) ∧ (i5 = 0 → aL X A11 v3 0 fun i16 => ((lg_cmp i16 (Int32.toInt64 i10)) = 0 → G l X M_L_law d Q 2023 [(0, .ref (xb X)), (1, .ref v1), (2, .ref v2), (3, .ref v3), (4, .int v4)] [] A11 b12 c13) ∧ (¬ (lg_cmp i16 (Int32.toInt64 i10)) = 0 → Q (Ri 0) A11))) ∧ (¬ i15 = i5 → Q (Ri 0) A11)) : G l X M_L_law d Q 417 [(0, .ref (xb X)), (1, .ref v1), (2, .ref v2), (3, .ref v3), (4, .int v4)] [] A bc bs := by
  refine G_aload_n 1 (dk_at dk_L_law 177 rfl) rfl ?_
  refine G_aload_n 0 (dk_at dk_L_law 178 rfl) rfl ?_
  refine G_iload 4 (dk_at dk_L_law 179 rfl) rfl ?_
  refine G_iconst (v := 1) (dk_at dk_L_law 180 rfl) (by decide) ?_
  refine G_iadd (dk_at dk_L_law 181 rfl) ?_
  obtain ⟨h0, h⟩ := h
  refine G_sld (dk_at dk_L_law 182 rfl) h0 ?_
  refine G_aload_n 0 (dk_at dk_L_law 183 rfl) rfl ?_
  refine G_iload 4 (dk_at dk_L_law 184 rfl) rfl ?_
  refine G_iconst (v := 2) (dk_at dk_L_law 185 rfl) (by decide) ?_
  refine G_iadd (dk_at dk_L_law 186 rfl) ?_
  obtain ⟨h0, h⟩ := h
  refine G_sld (dk_at dk_L_law 187 rfl) h0 ?_
  refine G_aload_n 3 (dk_at dk_L_law 188 rfl) rfl ?_
  refine G_callSX (As := [.ref v1, .int (xs X (v4 + 1).toNatClampNeg), .int (xs X (v4 + 2).toNatClampNeg), .ref v3]) (rest := []) lk_L_128 (dk_at dk_L_law 189 rfl) rfl rfl (Nat.le_of_ble_eq_true rfl) (h.mono fun o4 A1 b2 c3 h => atfI h fun i5 h => ?_)
  refine G_istore (lv' := [(5, .int i5), (0, .ref (xb X)), (1, .ref v1), (2, .ref v2), (3, .ref v3), (4, .int v4)]) (dk_at dk_L_law 190 rfl) (by decide) rfl ?_
  refine G_aload_n 3 (dk_at dk_L_law 191 rfl) rfl ?_
  refine G_aload_n 1 (dk_at dk_L_law 192 rfl) rfl ?_
  refine G_iload 5 (dk_at dk_L_law 193 rfl) rfl ?_
  refine G_iconst (v := 1) (dk_at dk_L_law 194 rfl) (by decide) ?_
  refine G_iadd (dk_at dk_L_law 195 rfl) ?_
  obtain ⟨h0, h⟩ := h
  refine G_sld (dk_at dk_L_law 196 rfl) h0 ?_
  refine G_aload_n 1 (dk_at dk_L_law 197 rfl) rfl ?_
  refine G_iload 5 (dk_at dk_L_law 198 rfl) rfl ?_
  refine G_iconst (v := 2) (dk_at dk_L_law 199 rfl) (by decide) ?_
  refine G_iadd (dk_at dk_L_law 200 rfl) ?_
  obtain ⟨h0, h⟩ := h
  refine G_sld (dk_at dk_L_law 201 rfl) h0 ?_
  obtain ⟨⟨_, ho⟩, h⟩ := h
  refine G_callV (As := [.int (xs X (v4 + 1).toNatClampNeg), .int (xs X (v4 + 2).toNatClampNeg)]) (rest := []) lk_L_131 rfl (dk_at dk_L_law 202 rfl) rfl rfl (Nat.le_of_ble_eq_true rfl) ho (h.mono fun o9 A6 b7 c8 h => aftI h fun i10 h => ?_)
  refine G_istore (lv' := [(6, .int i10), (5, .int i5), (0, .ref (xb X)), (1, .ref v1), (2, .ref v2), (3, .ref v3), (4, .int v4)]) (dk_at dk_L_law 203 rfl) (by decide) rfl ?_
  refine G_aload_n 4 (dk_at dk_L_law 204 rfl) rfl ?_
  obtain ⟨⟨_, ho⟩, h⟩ := h
  refine G_callV (As := []) (rest := []) lk_L_114 rfl (dk_at dk_L_law 205 rfl) rfl rfl (Nat.le_of_ble_eq_true rfl) ho (h.mono fun o14 A11 b12 c13 h => aftI h fun i15 h => ?_)
  refine G_iload 1 (dk_at dk_L_law 206 rfl) rfl ?_
  refine G_icmp_eq (tgt := 465) (dk_at dk_L_law 207 rfl) (by decide) (fun c => ?_) (fun c => ?_)
  · replace h := h.1 c
    refine G_iload 1 (dk_at dk_L_law 210 rfl) rfl ?_
    refine G_if_ne (tgt := 482) (dk_at dk_L_law 211 rfl) (by decide) (fun c => ?_) (fun c => ?_)
    · replace h := h.1 c
      refine G_goto (tgt := 2023) (dk_at dk_L_law 221 rfl) (by decide) ?_
      refine G_sub [2, 3, 4, 5, 6] rfl ?_
      exact h
    · replace h := h.2 c
      refine G_aload_n 5 (dk_at dk_L_law 212 rfl) rfl ?_
      refine G_iconst (v := 0) (dk_at dk_L_law 213 rfl) (by decide) ?_
      refine K_aL (dk_at dk_L_law 214 rfl) h (fun i16 h => ?_)
      refine G_iload 0 (dk_at dk_L_law 215 rfl) rfl ?_
      refine G_i2l (dk_at dk_L_law 216 rfl) rfl ?_
      refine G_lcmp (dk_at dk_L_law 217 rfl) ?_
      refine G_if_eq (tgt := 482) (dk_at dk_L_law 218 rfl) (by decide) (fun c => ?_) (fun c => ?_)
      · replace h := h.1 c
        refine G_goto (tgt := 2023) (dk_at dk_L_law 221 rfl) (by decide) ?_
        refine G_sub [2, 3, 4, 5, 6] rfl ?_
        exact h
      · replace h := h.2 c
        refine G_iconst (v := 0) (dk_at dk_L_law 219 rfl) (by decide) ?_
        exact G_iret (ty := .boolean) rfl rfl (dk_at dk_L_law 220 rfl) h
  · replace h := h.2 c
    refine G_iconst (v := 0) (dk_at dk_L_law 208 rfl) (by decide) ?_
    exact G_iret (ty := .boolean) rfl rfl (dk_at dk_L_law 209 rfl) h
theorem k_L_law_485 {l : Launch} {X : XT} {d : Nat} {Q : Ot → AH → Prop} {A : AH} {bc bs : Nat} {v1 : Nat} {v2 : Nat} {v3 : Nat} {v4 : Int32} (h : vp_in (v4 + 1) (xL X) ∧ vp_in (v4 + 2) (xL X) ∧ Cal l X d bc bs M_L_sent [.ref v1, .int (xs X (v4 + 1).toNatClampNeg), .int (xs X (v4 + 2).toNatClampNeg), .ref v3] A fun o4 A1 b2 c3 => zI o4 fun i5 => vp_in (v4 + 1) (xL X) ∧ vp_in (v4 + 2) (xL X) ∧ isO A1 v2 7 ∧ Cal l X d b2 c3 M_X6_sent [.ref v2, .int (xs X (v4 + 1).toNatClampNeg), .int (xs X (v4 + 2).toNatClampNeg)] A1 fun o9 A6 b7 c8 => rI o9 (fun E => Q (.inr E) A6) fun i10 => isO A6 v2 7 ∧ Cal l X d b7 c8 M_X6_thrown [.ref v2] A6 fun o14 A11 b12 c13 => rI o14 (fun E => Q (.inr E) A11) fun i15 => (i15 = i5 → (¬ i5 = 0 → G l X M_L_law d Q 2023 [(0, .ref (xb X)), (1, .ref v1), (2, .ref v2), (3, .ref v3), (4, .int v4)] [] A11 b12 c13) ∧ (i5 = 0 → aL X A11 v3 0 fun i16 => ((lg_cmp i16 (Int32.toInt64 i10)) = 0 → G l X M_L_law d Q 2023 [(0, .ref (xb X)), (1, .ref v1), (2, .ref v2), (3, .ref v3), (4, .int v4)] [] A11 b12 c13) ∧ (¬ (lg_cmp i16 (Int32.toInt64 i10)) = 0 → Q (Ri 0) A11))) ∧ (¬ i15 = i5 → Q (Ri 0) A11)) : G l X M_L_law d Q 485 [(0, .ref (xb X)), (1, .ref v1), (2, .ref v2), (3, .ref v3), (4, .int v4)] [] A bc bs := by
  refine G_aload_n 1 (dk_at dk_L_law 222 rfl) rfl ?_
  refine G_aload_n 0 (dk_at dk_L_law 223 rfl) rfl ?_
  refine G_iload 4 (dk_at dk_L_law 224 rfl) rfl ?_
  refine G_iconst (v := 1) (dk_at dk_L_law 225 rfl) (by decide) ?_
  refine G_iadd (dk_at dk_L_law 226 rfl) ?_
  obtain ⟨h0, h⟩ := h
  refine G_sld (dk_at dk_L_law 227 rfl) h0 ?_
  refine G_aload_n 0 (dk_at dk_L_law 228 rfl) rfl ?_
  refine G_iload 4 (dk_at dk_L_law 229 rfl) rfl ?_
  refine G_iconst (v := 2) (dk_at dk_L_law 230 rfl) (by decide) ?_
  refine G_iadd (dk_at dk_L_law 231 rfl) ?_
  obtain ⟨h0, h⟩ := h
  refine G_sld (dk_at dk_L_law 232 rfl) h0 ?_
  refine G_aload_n 3 (dk_at dk_L_law 233 rfl) rfl ?_
  refine G_callSX (As := [.ref v1, .int (xs X (v4 + 1).toNatClampNeg), .int (xs X (v4 + 2).toNatClampNeg), .ref v3]) (rest := []) lk_L_132 (dk_at dk_L_law 234 rfl) rfl rfl (Nat.le_of_ble_eq_true rfl) (h.mono fun o4 A1 b2 c3 h => atfI h fun i5 h => ?_)
  refine G_istore (lv' := [(5, .int i5), (0, .ref (xb X)), (1, .ref v1), (2, .ref v2), (3, .ref v3), (4, .int v4)]) (dk_at dk_L_law 235 rfl) (by decide) rfl ?_
  refine G_aload_n 3 (dk_at dk_L_law 236 rfl) rfl ?_
  refine G_aload_n 1 (dk_at dk_L_law 237 rfl) rfl ?_
  refine G_iload 5 (dk_at dk_L_law 238 rfl) rfl ?_
  refine G_iconst (v := 1) (dk_at dk_L_law 239 rfl) (by decide) ?_
  refine G_iadd (dk_at dk_L_law 240 rfl) ?_
  obtain ⟨h0, h⟩ := h
  refine G_sld (dk_at dk_L_law 241 rfl) h0 ?_
  refine G_aload_n 1 (dk_at dk_L_law 242 rfl) rfl ?_
  refine G_iload 5 (dk_at dk_L_law 243 rfl) rfl ?_
  refine G_iconst (v := 2) (dk_at dk_L_law 244 rfl) (by decide) ?_
  refine G_iadd (dk_at dk_L_law 245 rfl) ?_
  obtain ⟨h0, h⟩ := h
  refine G_sld (dk_at dk_L_law 246 rfl) h0 ?_
  obtain ⟨⟨_, ho⟩, h⟩ := h
  refine G_callV (As := [.int (xs X (v4 + 1).toNatClampNeg), .int (xs X (v4 + 2).toNatClampNeg)]) (rest := []) lk_L_134 rfl (dk_at dk_L_law 247 rfl) rfl rfl (Nat.le_of_ble_eq_true rfl) ho (h.mono fun o9 A6 b7 c8 h => aftI h fun i10 h => ?_)
  refine G_istore (lv' := [(6, .int i10), (5, .int i5), (0, .ref (xb X)), (1, .ref v1), (2, .ref v2), (3, .ref v3), (4, .int v4)]) (dk_at dk_L_law 248 rfl) (by decide) rfl ?_
  refine G_aload_n 4 (dk_at dk_L_law 249 rfl) rfl ?_
  obtain ⟨⟨_, ho⟩, h⟩ := h
  refine G_callV (As := []) (rest := []) lk_L_114 rfl (dk_at dk_L_law 250 rfl) rfl rfl (Nat.le_of_ble_eq_true rfl) ho (h.mono fun o14 A11 b12 c13 h => aftI h fun i15 h => ?_)
  refine G_iload 1 (dk_at dk_L_law 251 rfl) rfl ?_
  refine G_icmp_eq (tgt := 533) (dk_at dk_L_law 252 rfl) (by decide) (fun c => ?_) (fun c => ?_)
  · replace h := h.1 c
    refine G_iload 1 (dk_at dk_L_law 255 rfl) rfl ?_
    refine G_if_ne (tgt := 550) (dk_at dk_L_law 256 rfl) (by decide) (fun c => ?_) (fun c => ?_)
    · replace h := h.1 c
      refine G_goto (tgt := 2023) (dk_at dk_L_law 266 rfl) (by decide) ?_
      refine G_sub [2, 3, 4, 5, 6] rfl ?_
      exact h
    · replace h := h.2 c
      refine G_aload_n 5 (dk_at dk_L_law 257 rfl) rfl ?_
      refine G_iconst (v := 0) (dk_at dk_L_law 258 rfl) (by decide) ?_
      refine K_aL (dk_at dk_L_law 259 rfl) h (fun i16 h => ?_)
      refine G_iload 0 (dk_at dk_L_law 260 rfl) rfl ?_
      refine G_i2l (dk_at dk_L_law 261 rfl) rfl ?_
      refine G_lcmp (dk_at dk_L_law 262 rfl) ?_
      refine G_if_eq (tgt := 550) (dk_at dk_L_law 263 rfl) (by decide) (fun c => ?_) (fun c => ?_)
      · replace h := h.1 c
        refine G_goto (tgt := 2023) (dk_at dk_L_law 266 rfl) (by decide) ?_
        refine G_sub [2, 3, 4, 5, 6] rfl ?_
        exact h
      · replace h := h.2 c
        refine G_iconst (v := 0) (dk_at dk_L_law 264 rfl) (by decide) ?_
        exact G_iret (ty := .boolean) rfl rfl (dk_at dk_L_law 265 rfl) h
  · replace h := h.2 c
    refine G_iconst (v := 0) (dk_at dk_L_law 253 rfl) (by decide) ?_
    exact G_iret (ty := .boolean) rfl rfl (dk_at dk_L_law 254 rfl) h
theorem k_L_law_553 {l : Launch} {X : XT} {d : Nat} {Q : Ot → AH → Prop} {A : AH} {bc bs : Nat} {v1 : Nat} {v2 : Nat} {v3 : Nat} {v4 : Int32} (h : vp_in (v4 + 1) (xL X) ∧ Cal l X d bc bs M_L_got [.ref v1, .int (xs X (v4 + 1).toNatClampNeg), .ref v3] A fun o4 A1 b2 c3 => zI o4 fun i5 => vp_in (v4 + 1) (xL X) ∧ isO A1 v2 7 ∧ Cal l X d b2 c3 M_X6_got [.ref v2, .int (xs X (v4 + 1).toNatClampNeg)] A1 fun o9 A6 b7 c8 => rI o9 (fun E => Q (.inr E) A6) fun i10 => isO A6 v2 7 ∧ Cal l X d b7 c8 M_X6_thrown [.ref v2] A6 fun o14 A11 b12 c13 => rI o14 (fun E => Q (.inr E) A11) fun i15 => (i15 = i5 → (¬ i5 = 0 → G l X M_L_law d Q 2023 [(0, .ref (xb X)), (1, .ref v1), (2, .ref v2), (3, .ref v3), (4, .int v4)] [] A11 b12 c13) ∧ (i5 = 0 → aL X A11 v3 0 fun i16 => ((lg_cmp i16 (Int32.toInt64 i10)) = 0 → G l X M_L_law d Q 2023 [(0, .ref (xb X)), (1, .ref v1), (2, .ref v2), (3, .ref v3), (4, .int v4)] [] A11 b12 c13) ∧ (¬ (lg_cmp i16 (Int32.toInt64 i10)) = 0 → Q (Ri 0) A11))) ∧ (¬ i15 = i5 → Q (Ri 0) A11)) : G l X M_L_law d Q 553 [(0, .ref (xb X)), (1, .ref v1), (2, .ref v2), (3, .ref v3), (4, .int v4)] [] A bc bs := by
  refine G_aload_n 1 (dk_at dk_L_law 267 rfl) rfl ?_
  refine G_aload_n 0 (dk_at dk_L_law 268 rfl) rfl ?_
  refine G_iload 4 (dk_at dk_L_law 269 rfl) rfl ?_
  refine G_iconst (v := 1) (dk_at dk_L_law 270 rfl) (by decide) ?_
  refine G_iadd (dk_at dk_L_law 271 rfl) ?_
  obtain ⟨h0, h⟩ := h
  refine G_sld (dk_at dk_L_law 272 rfl) h0 ?_
  refine G_aload_n 3 (dk_at dk_L_law 273 rfl) rfl ?_
  refine G_callSX (As := [.ref v1, .int (xs X (v4 + 1).toNatClampNeg), .ref v3]) (rest := []) lk_L_135 (dk_at dk_L_law 274 rfl) rfl rfl (Nat.le_of_ble_eq_true rfl) (h.mono fun o4 A1 b2 c3 h => atfI h fun i5 h => ?_)
  refine G_istore (lv' := [(5, .int i5), (0, .ref (xb X)), (1, .ref v1), (2, .ref v2), (3, .ref v3), (4, .int v4)]) (dk_at dk_L_law 275 rfl) (by decide) rfl ?_
  refine G_aload_n 3 (dk_at dk_L_law 276 rfl) rfl ?_
  refine G_aload_n 1 (dk_at dk_L_law 277 rfl) rfl ?_
  refine G_iload 5 (dk_at dk_L_law 278 rfl) rfl ?_
  refine G_iconst (v := 1) (dk_at dk_L_law 279 rfl) (by decide) ?_
  refine G_iadd (dk_at dk_L_law 280 rfl) ?_
  obtain ⟨h0, h⟩ := h
  refine G_sld (dk_at dk_L_law 281 rfl) h0 ?_
  obtain ⟨⟨_, ho⟩, h⟩ := h
  refine G_callV (As := [.int (xs X (v4 + 1).toNatClampNeg)]) (rest := []) lk_L_137 rfl (dk_at dk_L_law 282 rfl) rfl rfl (Nat.le_of_ble_eq_true rfl) ho (h.mono fun o9 A6 b7 c8 h => aftI h fun i10 h => ?_)
  refine G_istore (lv' := [(6, .int i10), (5, .int i5), (0, .ref (xb X)), (1, .ref v1), (2, .ref v2), (3, .ref v3), (4, .int v4)]) (dk_at dk_L_law 283 rfl) (by decide) rfl ?_
  refine G_aload_n 4 (dk_at dk_L_law 284 rfl) rfl ?_
  obtain ⟨⟨_, ho⟩, h⟩ := h
  refine G_callV (As := []) (rest := []) lk_L_114 rfl (dk_at dk_L_law 285 rfl) rfl rfl (Nat.le_of_ble_eq_true rfl) ho (h.mono fun o14 A11 b12 c13 h => aftI h fun i15 h => ?_)
  refine G_iload 1 (dk_at dk_L_law 286 rfl) rfl ?_
  refine G_icmp_eq (tgt := 589) (dk_at dk_L_law 287 rfl) (by decide) (fun c => ?_) (fun c => ?_)
  · replace h := h.1 c
    refine G_iload 1 (dk_at dk_L_law 290 rfl) rfl ?_
    refine G_if_ne (tgt := 606) (dk_at dk_L_law 291 rfl) (by decide) (fun c => ?_) (fun c => ?_)
    · replace h := h.1 c
      refine G_goto (tgt := 2023) (dk_at dk_L_law 301 rfl) (by decide) ?_
      refine G_sub [2, 3, 4, 5, 6] rfl ?_
      exact h
    · replace h := h.2 c
      refine G_aload_n 5 (dk_at dk_L_law 292 rfl) rfl ?_
      refine G_iconst (v := 0) (dk_at dk_L_law 293 rfl) (by decide) ?_
      refine K_aL (dk_at dk_L_law 294 rfl) h (fun i16 h => ?_)
      refine G_iload 0 (dk_at dk_L_law 295 rfl) rfl ?_
      refine G_i2l (dk_at dk_L_law 296 rfl) rfl ?_
      refine G_lcmp (dk_at dk_L_law 297 rfl) ?_
      refine G_if_eq (tgt := 606) (dk_at dk_L_law 298 rfl) (by decide) (fun c => ?_) (fun c => ?_)
      · replace h := h.1 c
        refine G_goto (tgt := 2023) (dk_at dk_L_law 301 rfl) (by decide) ?_
        refine G_sub [2, 3, 4, 5, 6] rfl ?_
        exact h
      · replace h := h.2 c
        refine G_iconst (v := 0) (dk_at dk_L_law 299 rfl) (by decide) ?_
        exact G_iret (ty := .boolean) rfl rfl (dk_at dk_L_law 300 rfl) h
  · replace h := h.2 c
    refine G_iconst (v := 0) (dk_at dk_L_law 288 rfl) (by decide) ?_
    exact G_iret (ty := .boolean) rfl rfl (dk_at dk_L_law 289 rfl) h
theorem k_L_law_609 {l : Launch} {X : XT} {d : Nat} {Q : Ot → AH → Prop} {A : AH} {bc bs : Nat} {v1 : Nat} {v2 : Nat} {v3 : Nat} {v4 : Int32} (h : vp_in (v4 + 1) (xL X) ∧ vp_in (v4 + 2) (xL X) ∧ Cal l X d bc bs M_L_piece [.ref v1, .int (xs X (v4 + 1).toNatClampNeg), .int (xs X (v4 + 2).toNatClampNeg), .ref v3] A fun o4 A1 b2 c3 => zI o4 fun i5 => vp_in (v4 + 1) (xL X) ∧ vp_in (v4 + 2) (xL X) ∧ isO A1 v2 7 ∧ Cal l X d b2 c3 M_X6_piece [.ref v2, .int (xs X (v4 + 1).toNatClampNeg), .int (xs X (v4 + 2).toNatClampNeg)] A1 fun o9 A6 b7 c8 => rI o9 (fun E => Q (.inr E) A6) fun i10 => isO A6 v2 7 ∧ Cal l X d b7 c8 M_X6_thrown [.ref v2] A6 fun o14 A11 b12 c13 => rI o14 (fun E => Q (.inr E) A11) fun i15 => (i15 = i5 → (¬ i5 = 0 → G l X M_L_law d Q 2023 [(0, .ref (xb X)), (1, .ref v1), (2, .ref v2), (3, .ref v3), (4, .int v4)] [] A11 b12 c13) ∧ (i5 = 0 → aL X A11 v3 0 fun i16 => ((lg_cmp i16 (Int32.toInt64 i10)) = 0 → G l X M_L_law d Q 2023 [(0, .ref (xb X)), (1, .ref v1), (2, .ref v2), (3, .ref v3), (4, .int v4)] [] A11 b12 c13) ∧ (¬ (lg_cmp i16 (Int32.toInt64 i10)) = 0 → Q (Ri 0) A11))) ∧ (¬ i15 = i5 → Q (Ri 0) A11)) : G l X M_L_law d Q 609 [(0, .ref (xb X)), (1, .ref v1), (2, .ref v2), (3, .ref v3), (4, .int v4)] [] A bc bs := by
  refine G_aload_n 1 (dk_at dk_L_law 302 rfl) rfl ?_
  refine G_aload_n 0 (dk_at dk_L_law 303 rfl) rfl ?_
  refine G_iload 4 (dk_at dk_L_law 304 rfl) rfl ?_
  refine G_iconst (v := 1) (dk_at dk_L_law 305 rfl) (by decide) ?_
  refine G_iadd (dk_at dk_L_law 306 rfl) ?_
  obtain ⟨h0, h⟩ := h
  refine G_sld (dk_at dk_L_law 307 rfl) h0 ?_
  refine G_aload_n 0 (dk_at dk_L_law 308 rfl) rfl ?_
  refine G_iload 4 (dk_at dk_L_law 309 rfl) rfl ?_
  refine G_iconst (v := 2) (dk_at dk_L_law 310 rfl) (by decide) ?_
  refine G_iadd (dk_at dk_L_law 311 rfl) ?_
  obtain ⟨h0, h⟩ := h
  refine G_sld (dk_at dk_L_law 312 rfl) h0 ?_
  refine G_aload_n 3 (dk_at dk_L_law 313 rfl) rfl ?_
  refine G_callSX (As := [.ref v1, .int (xs X (v4 + 1).toNatClampNeg), .int (xs X (v4 + 2).toNatClampNeg), .ref v3]) (rest := []) lk_L_138 (dk_at dk_L_law 314 rfl) rfl rfl (Nat.le_of_ble_eq_true rfl) (h.mono fun o4 A1 b2 c3 h => atfI h fun i5 h => ?_)
  refine G_istore (lv' := [(5, .int i5), (0, .ref (xb X)), (1, .ref v1), (2, .ref v2), (3, .ref v3), (4, .int v4)]) (dk_at dk_L_law 315 rfl) (by decide) rfl ?_
  refine G_aload_n 3 (dk_at dk_L_law 316 rfl) rfl ?_
  refine G_aload_n 1 (dk_at dk_L_law 317 rfl) rfl ?_
  refine G_iload 5 (dk_at dk_L_law 318 rfl) rfl ?_
  refine G_iconst (v := 1) (dk_at dk_L_law 319 rfl) (by decide) ?_
  refine G_iadd (dk_at dk_L_law 320 rfl) ?_
  obtain ⟨h0, h⟩ := h
  refine G_sld (dk_at dk_L_law 321 rfl) h0 ?_
  refine G_aload_n 1 (dk_at dk_L_law 322 rfl) rfl ?_
  refine G_iload 5 (dk_at dk_L_law 323 rfl) rfl ?_
  refine G_iconst (v := 2) (dk_at dk_L_law 324 rfl) (by decide) ?_
  refine G_iadd (dk_at dk_L_law 325 rfl) ?_
  obtain ⟨h0, h⟩ := h
  refine G_sld (dk_at dk_L_law 326 rfl) h0 ?_
  obtain ⟨⟨_, ho⟩, h⟩ := h
  refine G_callV (As := [.int (xs X (v4 + 1).toNatClampNeg), .int (xs X (v4 + 2).toNatClampNeg)]) (rest := []) lk_L_140 rfl (dk_at dk_L_law 327 rfl) rfl rfl (Nat.le_of_ble_eq_true rfl) ho (h.mono fun o9 A6 b7 c8 h => aftI h fun i10 h => ?_)
  refine G_istore (lv' := [(6, .int i10), (5, .int i5), (0, .ref (xb X)), (1, .ref v1), (2, .ref v2), (3, .ref v3), (4, .int v4)]) (dk_at dk_L_law 328 rfl) (by decide) rfl ?_
  refine G_aload_n 4 (dk_at dk_L_law 329 rfl) rfl ?_
  obtain ⟨⟨_, ho⟩, h⟩ := h
  refine G_callV (As := []) (rest := []) lk_L_114 rfl (dk_at dk_L_law 330 rfl) rfl rfl (Nat.le_of_ble_eq_true rfl) ho (h.mono fun o14 A11 b12 c13 h => aftI h fun i15 h => ?_)
  refine G_iload 1 (dk_at dk_L_law 331 rfl) rfl ?_
  refine G_icmp_eq (tgt := 657) (dk_at dk_L_law 332 rfl) (by decide) (fun c => ?_) (fun c => ?_)
  · replace h := h.1 c
    refine G_iload 1 (dk_at dk_L_law 335 rfl) rfl ?_
    refine G_if_ne (tgt := 674) (dk_at dk_L_law 336 rfl) (by decide) (fun c => ?_) (fun c => ?_)
    · replace h := h.1 c
      refine G_goto (tgt := 2023) (dk_at dk_L_law 346 rfl) (by decide) ?_
      refine G_sub [2, 3, 4, 5, 6] rfl ?_
      exact h
    · replace h := h.2 c
      refine G_aload_n 5 (dk_at dk_L_law 337 rfl) rfl ?_
      refine G_iconst (v := 0) (dk_at dk_L_law 338 rfl) (by decide) ?_
      refine K_aL (dk_at dk_L_law 339 rfl) h (fun i16 h => ?_)
      refine G_iload 0 (dk_at dk_L_law 340 rfl) rfl ?_
      refine G_i2l (dk_at dk_L_law 341 rfl) rfl ?_
      refine G_lcmp (dk_at dk_L_law 342 rfl) ?_
      refine G_if_eq (tgt := 674) (dk_at dk_L_law 343 rfl) (by decide) (fun c => ?_) (fun c => ?_)
      · replace h := h.1 c
        refine G_goto (tgt := 2023) (dk_at dk_L_law 346 rfl) (by decide) ?_
        refine G_sub [2, 3, 4, 5, 6] rfl ?_
        exact h
      · replace h := h.2 c
        refine G_iconst (v := 0) (dk_at dk_L_law 344 rfl) (by decide) ?_
        exact G_iret (ty := .boolean) rfl rfl (dk_at dk_L_law 345 rfl) h
  · replace h := h.2 c
    refine G_iconst (v := 0) (dk_at dk_L_law 333 rfl) (by decide) ?_
    exact G_iret (ty := .boolean) rfl rfl (dk_at dk_L_law 334 rfl) h
theorem k_L_law_677 {l : Launch} {X : XT} {d : Nat} {Q : Ot → AH → Prop} {A : AH} {bc bs : Nat} {v1 : Nat} {v2 : Nat} {v3 : Nat} {v4 : Int32} (h : vp_in (v4 + 1) (xL X) ∧ vp_in (v4 + 2) (xL X) ∧ Cal l X d bc bs M_L_part [.ref v1, .int (xs X (v4 + 1).toNatClampNeg), .int (xs X (v4 + 2).toNatClampNeg), .ref v3] A fun o4 A1 b2 c3 => zI o4 fun i5 => vp_in (v4 + 1) (xL X) ∧ vp_in (v4 + 2) (xL X) ∧ isO A1 v2 7 ∧ Cal l X d b2 c3 M_X6_part [.ref v2, .int (xs X (v4 + 1).toNatClampNeg), .int (xs X (v4 + 2).toNatClampNeg)] A1 fun o9 A6 b7 c8 => rI o9 (fun E => Q (.inr E) A6) fun i10 => isO A6 v2 7 ∧ Cal l X d b7 c8 M_X6_thrown [.ref v2] A6 fun o14 A11 b12 c13 => rI o14 (fun E => Q (.inr E) A11) fun i15 => (i15 = i5 → (¬ i5 = 0 → G l X M_L_law d Q 2023 [(0, .ref (xb X)), (1, .ref v1), (2, .ref v2), (3, .ref v3), (4, .int v4)] [] A11 b12 c13) ∧ (i5 = 0 → aL X A11 v3 0 fun i16 => ((lg_cmp i16 (Int32.toInt64 i10)) = 0 → G l X M_L_law d Q 2023 [(0, .ref (xb X)), (1, .ref v1), (2, .ref v2), (3, .ref v3), (4, .int v4)] [] A11 b12 c13) ∧ (¬ (lg_cmp i16 (Int32.toInt64 i10)) = 0 → Q (Ri 0) A11))) ∧ (¬ i15 = i5 → Q (Ri 0) A11)) : G l X M_L_law d Q 677 [(0, .ref (xb X)), (1, .ref v1), (2, .ref v2), (3, .ref v3), (4, .int v4)] [] A bc bs := by
  refine G_aload_n 1 (dk_at dk_L_law 347 rfl) rfl ?_
  refine G_aload_n 0 (dk_at dk_L_law 348 rfl) rfl ?_
  refine G_iload 4 (dk_at dk_L_law 349 rfl) rfl ?_
  refine G_iconst (v := 1) (dk_at dk_L_law 350 rfl) (by decide) ?_
  refine G_iadd (dk_at dk_L_law 351 rfl) ?_
  obtain ⟨h0, h⟩ := h
  refine G_sld (dk_at dk_L_law 352 rfl) h0 ?_
  refine G_aload_n 0 (dk_at dk_L_law 353 rfl) rfl ?_
  refine G_iload 4 (dk_at dk_L_law 354 rfl) rfl ?_
  refine G_iconst (v := 2) (dk_at dk_L_law 355 rfl) (by decide) ?_
  refine G_iadd (dk_at dk_L_law 356 rfl) ?_
  obtain ⟨h0, h⟩ := h
  refine G_sld (dk_at dk_L_law 357 rfl) h0 ?_
  refine G_aload_n 3 (dk_at dk_L_law 358 rfl) rfl ?_
  refine G_callSX (As := [.ref v1, .int (xs X (v4 + 1).toNatClampNeg), .int (xs X (v4 + 2).toNatClampNeg), .ref v3]) (rest := []) lk_L_141 (dk_at dk_L_law 359 rfl) rfl rfl (Nat.le_of_ble_eq_true rfl) (h.mono fun o4 A1 b2 c3 h => atfI h fun i5 h => ?_)
  refine G_istore (lv' := [(5, .int i5), (0, .ref (xb X)), (1, .ref v1), (2, .ref v2), (3, .ref v3), (4, .int v4)]) (dk_at dk_L_law 360 rfl) (by decide) rfl ?_
  refine G_aload_n 3 (dk_at dk_L_law 361 rfl) rfl ?_
  refine G_aload_n 1 (dk_at dk_L_law 362 rfl) rfl ?_
  refine G_iload 5 (dk_at dk_L_law 363 rfl) rfl ?_
  refine G_iconst (v := 1) (dk_at dk_L_law 364 rfl) (by decide) ?_
  refine G_iadd (dk_at dk_L_law 365 rfl) ?_
  obtain ⟨h0, h⟩ := h
  refine G_sld (dk_at dk_L_law 366 rfl) h0 ?_
  refine G_aload_n 1 (dk_at dk_L_law 367 rfl) rfl ?_
  refine G_iload 5 (dk_at dk_L_law 368 rfl) rfl ?_
  refine G_iconst (v := 2) (dk_at dk_L_law 369 rfl) (by decide) ?_
  refine G_iadd (dk_at dk_L_law 370 rfl) ?_
  obtain ⟨h0, h⟩ := h
  refine G_sld (dk_at dk_L_law 371 rfl) h0 ?_
  obtain ⟨⟨_, ho⟩, h⟩ := h
  refine G_callV (As := [.int (xs X (v4 + 1).toNatClampNeg), .int (xs X (v4 + 2).toNatClampNeg)]) (rest := []) lk_L_143 rfl (dk_at dk_L_law 372 rfl) rfl rfl (Nat.le_of_ble_eq_true rfl) ho (h.mono fun o9 A6 b7 c8 h => aftI h fun i10 h => ?_)
  refine G_istore (lv' := [(6, .int i10), (5, .int i5), (0, .ref (xb X)), (1, .ref v1), (2, .ref v2), (3, .ref v3), (4, .int v4)]) (dk_at dk_L_law 373 rfl) (by decide) rfl ?_
  refine G_aload_n 4 (dk_at dk_L_law 374 rfl) rfl ?_
  obtain ⟨⟨_, ho⟩, h⟩ := h
  refine G_callV (As := []) (rest := []) lk_L_114 rfl (dk_at dk_L_law 375 rfl) rfl rfl (Nat.le_of_ble_eq_true rfl) ho (h.mono fun o14 A11 b12 c13 h => aftI h fun i15 h => ?_)
  refine G_iload 1 (dk_at dk_L_law 376 rfl) rfl ?_
  refine G_icmp_eq (tgt := 725) (dk_at dk_L_law 377 rfl) (by decide) (fun c => ?_) (fun c => ?_)
  · replace h := h.1 c
    refine G_iload 1 (dk_at dk_L_law 380 rfl) rfl ?_
    refine G_if_ne (tgt := 742) (dk_at dk_L_law 381 rfl) (by decide) (fun c => ?_) (fun c => ?_)
    · replace h := h.1 c
      refine G_goto (tgt := 2023) (dk_at dk_L_law 391 rfl) (by decide) ?_
      refine G_sub [2, 3, 4, 5, 6] rfl ?_
      exact h
    · replace h := h.2 c
      refine G_aload_n 5 (dk_at dk_L_law 382 rfl) rfl ?_
      refine G_iconst (v := 0) (dk_at dk_L_law 383 rfl) (by decide) ?_
      refine K_aL (dk_at dk_L_law 384 rfl) h (fun i16 h => ?_)
      refine G_iload 0 (dk_at dk_L_law 385 rfl) rfl ?_
      refine G_i2l (dk_at dk_L_law 386 rfl) rfl ?_
      refine G_lcmp (dk_at dk_L_law 387 rfl) ?_
      refine G_if_eq (tgt := 742) (dk_at dk_L_law 388 rfl) (by decide) (fun c => ?_) (fun c => ?_)
      · replace h := h.1 c
        refine G_goto (tgt := 2023) (dk_at dk_L_law 391 rfl) (by decide) ?_
        refine G_sub [2, 3, 4, 5, 6] rfl ?_
        exact h
      · replace h := h.2 c
        refine G_iconst (v := 0) (dk_at dk_L_law 389 rfl) (by decide) ?_
        exact G_iret (ty := .boolean) rfl rfl (dk_at dk_L_law 390 rfl) h
  · replace h := h.2 c
    refine G_iconst (v := 0) (dk_at dk_L_law 378 rfl) (by decide) ?_
    exact G_iret (ty := .boolean) rfl rfl (dk_at dk_L_law 379 rfl) h
theorem k_L_law_745 {l : Launch} {X : XT} {d : Nat} {Q : Ot → AH → Prop} {A : AH} {bc bs : Nat} {v1 : Nat} {v2 : Nat} {v3 : Nat} {v4 : Int32} (h : vp_in (v4 + 1) (xL X) ∧ vp_in (v4 + 2) (xL X) ∧ vp_in (v4 + 3) (xL X) ∧ Cal l X d bc bs M_L_checksum [.ref v1, .int (xs X (v4 + 1).toNatClampNeg), .int (xs X (v4 + 2).toNatClampNeg), .int (xs X (v4 + 3).toNatClampNeg), .ref v3] A fun o4 A1 b2 c3 => zI o4 fun i5 => vp_in (v4 + 1) (xL X) ∧ vp_in (v4 + 2) (xL X) ∧ vp_in (v4 + 3) (xL X) ∧ isO A1 v2 7 ∧ Cal l X d b2 c3 M_X6_checksum [.ref v2, .int (xs X (v4 + 1).toNatClampNeg), .int (xs X (v4 + 2).toNatClampNeg), .int (xs X (v4 + 3).toNatClampNeg)] A1 fun o9 A6 b7 c8 => rI o9 (fun E => Q (.inr E) A6) fun i10 => isO A6 v2 7 ∧ Cal l X d b7 c8 M_X6_thrown [.ref v2] A6 fun o14 A11 b12 c13 => rI o14 (fun E => Q (.inr E) A11) fun i15 => (i15 = i5 → (¬ i5 = 0 → G l X M_L_law d Q 2023 [(0, .ref (xb X)), (1, .ref v1), (2, .ref v2), (3, .ref v3), (4, .int v4)] [] A11 b12 c13) ∧ (i5 = 0 → aL X A11 v3 0 fun i16 => ((lg_cmp i16 (Int32.toInt64 i10)) = 0 → G l X M_L_law d Q 2023 [(0, .ref (xb X)), (1, .ref v1), (2, .ref v2), (3, .ref v3), (4, .int v4)] [] A11 b12 c13) ∧ (¬ (lg_cmp i16 (Int32.toInt64 i10)) = 0 → Q (Ri 0) A11))) ∧ (¬ i15 = i5 → Q (Ri 0) A11)) : G l X M_L_law d Q 745 [(0, .ref (xb X)), (1, .ref v1), (2, .ref v2), (3, .ref v3), (4, .int v4)] [] A bc bs := by
  refine G_aload_n 1 (dk_at dk_L_law 392 rfl) rfl ?_
  refine G_aload_n 0 (dk_at dk_L_law 393 rfl) rfl ?_
  refine G_iload 4 (dk_at dk_L_law 394 rfl) rfl ?_
  refine G_iconst (v := 1) (dk_at dk_L_law 395 rfl) (by decide) ?_
  refine G_iadd (dk_at dk_L_law 396 rfl) ?_
  obtain ⟨h0, h⟩ := h
  refine G_sld (dk_at dk_L_law 397 rfl) h0 ?_
  refine G_aload_n 0 (dk_at dk_L_law 398 rfl) rfl ?_
  refine G_iload 4 (dk_at dk_L_law 399 rfl) rfl ?_
  refine G_iconst (v := 2) (dk_at dk_L_law 400 rfl) (by decide) ?_
  refine G_iadd (dk_at dk_L_law 401 rfl) ?_
  obtain ⟨h0, h⟩ := h
  refine G_sld (dk_at dk_L_law 402 rfl) h0 ?_
  refine G_aload_n 0 (dk_at dk_L_law 403 rfl) rfl ?_
  refine G_iload 4 (dk_at dk_L_law 404 rfl) rfl ?_
  refine G_iconst (v := 3) (dk_at dk_L_law 405 rfl) (by decide) ?_
  refine G_iadd (dk_at dk_L_law 406 rfl) ?_
  obtain ⟨h0, h⟩ := h
  refine G_sld (dk_at dk_L_law 407 rfl) h0 ?_
  refine G_aload_n 3 (dk_at dk_L_law 408 rfl) rfl ?_
  refine G_callSX (As := [.ref v1, .int (xs X (v4 + 1).toNatClampNeg), .int (xs X (v4 + 2).toNatClampNeg), .int (xs X (v4 + 3).toNatClampNeg), .ref v3]) (rest := []) lk_L_144 (dk_at dk_L_law 409 rfl) rfl rfl (Nat.le_of_ble_eq_true rfl) (h.mono fun o4 A1 b2 c3 h => atfI h fun i5 h => ?_)
  refine G_istore (lv' := [(5, .int i5), (0, .ref (xb X)), (1, .ref v1), (2, .ref v2), (3, .ref v3), (4, .int v4)]) (dk_at dk_L_law 410 rfl) (by decide) rfl ?_
  refine G_aload_n 3 (dk_at dk_L_law 411 rfl) rfl ?_
  refine G_aload_n 1 (dk_at dk_L_law 412 rfl) rfl ?_
  refine G_iload 5 (dk_at dk_L_law 413 rfl) rfl ?_
  refine G_iconst (v := 1) (dk_at dk_L_law 414 rfl) (by decide) ?_
  refine G_iadd (dk_at dk_L_law 415 rfl) ?_
  obtain ⟨h0, h⟩ := h
  refine G_sld (dk_at dk_L_law 416 rfl) h0 ?_
  refine G_aload_n 1 (dk_at dk_L_law 417 rfl) rfl ?_
  refine G_iload 5 (dk_at dk_L_law 418 rfl) rfl ?_
  refine G_iconst (v := 2) (dk_at dk_L_law 419 rfl) (by decide) ?_
  refine G_iadd (dk_at dk_L_law 420 rfl) ?_
  obtain ⟨h0, h⟩ := h
  refine G_sld (dk_at dk_L_law 421 rfl) h0 ?_
  refine G_aload_n 1 (dk_at dk_L_law 422 rfl) rfl ?_
  refine G_iload 5 (dk_at dk_L_law 423 rfl) rfl ?_
  refine G_iconst (v := 3) (dk_at dk_L_law 424 rfl) (by decide) ?_
  refine G_iadd (dk_at dk_L_law 425 rfl) ?_
  obtain ⟨h0, h⟩ := h
  refine G_sld (dk_at dk_L_law 426 rfl) h0 ?_
  obtain ⟨⟨_, ho⟩, h⟩ := h
  refine G_callV (As := [.int (xs X (v4 + 1).toNatClampNeg), .int (xs X (v4 + 2).toNatClampNeg), .int (xs X (v4 + 3).toNatClampNeg)]) (rest := []) lk_L_147 rfl (dk_at dk_L_law 427 rfl) rfl rfl (Nat.le_of_ble_eq_true rfl) ho (h.mono fun o9 A6 b7 c8 h => aftI h fun i10 h => ?_)
  refine G_istore (lv' := [(6, .int i10), (5, .int i5), (0, .ref (xb X)), (1, .ref v1), (2, .ref v2), (3, .ref v3), (4, .int v4)]) (dk_at dk_L_law 428 rfl) (by decide) rfl ?_
  refine G_aload_n 4 (dk_at dk_L_law 429 rfl) rfl ?_
  obtain ⟨⟨_, ho⟩, h⟩ := h
  refine G_callV (As := []) (rest := []) lk_L_114 rfl (dk_at dk_L_law 430 rfl) rfl rfl (Nat.le_of_ble_eq_true rfl) ho (h.mono fun o14 A11 b12 c13 h => aftI h fun i15 h => ?_)
  refine G_iload 1 (dk_at dk_L_law 431 rfl) rfl ?_
  refine G_icmp_eq (tgt := 805) (dk_at dk_L_law 432 rfl) (by decide) (fun c => ?_) (fun c => ?_)
  · replace h := h.1 c
    refine G_iload 1 (dk_at dk_L_law 435 rfl) rfl ?_
    refine G_if_ne (tgt := 822) (dk_at dk_L_law 436 rfl) (by decide) (fun c => ?_) (fun c => ?_)
    · replace h := h.1 c
      refine G_goto (tgt := 2023) (dk_at dk_L_law 446 rfl) (by decide) ?_
      refine G_sub [2, 3, 4, 5, 6] rfl ?_
      exact h
    · replace h := h.2 c
      refine G_aload_n 5 (dk_at dk_L_law 437 rfl) rfl ?_
      refine G_iconst (v := 0) (dk_at dk_L_law 438 rfl) (by decide) ?_
      refine K_aL (dk_at dk_L_law 439 rfl) h (fun i16 h => ?_)
      refine G_iload 0 (dk_at dk_L_law 440 rfl) rfl ?_
      refine G_i2l (dk_at dk_L_law 441 rfl) rfl ?_
      refine G_lcmp (dk_at dk_L_law 442 rfl) ?_
      refine G_if_eq (tgt := 822) (dk_at dk_L_law 443 rfl) (by decide) (fun c => ?_) (fun c => ?_)
      · replace h := h.1 c
        refine G_goto (tgt := 2023) (dk_at dk_L_law 446 rfl) (by decide) ?_
        refine G_sub [2, 3, 4, 5, 6] rfl ?_
        exact h
      · replace h := h.2 c
        refine G_iconst (v := 0) (dk_at dk_L_law 444 rfl) (by decide) ?_
        exact G_iret (ty := .boolean) rfl rfl (dk_at dk_L_law 445 rfl) h
  · replace h := h.2 c
    refine G_iconst (v := 0) (dk_at dk_L_law 433 rfl) (by decide) ?_
    exact G_iret (ty := .boolean) rfl rfl (dk_at dk_L_law 434 rfl) h
theorem k_L_law_825 {l : Launch} {X : XT} {d : Nat} {Q : Ot → AH → Prop} {A : AH} {bc bs : Nat} {v1 : Nat} {v2 : Nat} {v3 : Nat} {v4 : Int32} (h : vp_in (v4 + 1) (xL X) ∧ vp_in (v4 + 2) (xL X) ∧ ((xs X (v4 + 2).toNatClampNeg) = 0 → G l X M_L_law d Q 846 [(0, .ref (xb X)), (1, .ref v1), (2, .ref v2), (3, .ref v3), (4, .int v4)] [.int 0, .int (xs X (v4 + 1).toNatClampNeg), .ref v1] A bc bs) ∧ (¬ (xs X (v4 + 2).toNatClampNeg) = 0 → G l X M_L_law d Q 846 [(0, .ref (xb X)), (1, .ref v1), (2, .ref v2), (3, .ref v3), (4, .int v4)] [.int 1, .int (xs X (v4 + 1).toNatClampNeg), .ref v1] A bc bs)) : G l X M_L_law d Q 825 [(0, .ref (xb X)), (1, .ref v1), (2, .ref v2), (3, .ref v3), (4, .int v4)] [] A bc bs := by
  refine G_aload_n 1 (dk_at dk_L_law 447 rfl) rfl ?_
  refine G_aload_n 0 (dk_at dk_L_law 448 rfl) rfl ?_
  refine G_iload 4 (dk_at dk_L_law 449 rfl) rfl ?_
  refine G_iconst (v := 1) (dk_at dk_L_law 450 rfl) (by decide) ?_
  refine G_iadd (dk_at dk_L_law 451 rfl) ?_
  obtain ⟨h0, h⟩ := h
  refine G_sld (dk_at dk_L_law 452 rfl) h0 ?_
  refine G_aload_n 0 (dk_at dk_L_law 453 rfl) rfl ?_
  refine G_iload 4 (dk_at dk_L_law 454 rfl) rfl ?_
  refine G_iconst (v := 2) (dk_at dk_L_law 455 rfl) (by decide) ?_
  refine G_iadd (dk_at dk_L_law 456 rfl) ?_
  obtain ⟨h0, h⟩ := h
  refine G_sld (dk_at dk_L_law 457 rfl) h0 ?_
  refine G_if_eq (tgt := 845) (dk_at dk_L_law 458 rfl) (by decide) (fun c => ?_) (fun c => ?_)
  · replace h := h.1 c
    refine G_iconst (v := 0) (dk_at dk_L_law 461 rfl) (by decide) ?_
    exact h
  · replace h := h.2 c
    refine G_iconst (v := 1) (dk_at dk_L_law 459 rfl) (by decide) ?_
    refine G_goto (tgt := 846) (dk_at dk_L_law 460 rfl) (by decide) ?_
    exact h
theorem k_L_law_846 {l : Launch} {X : XT} {d : Nat} {Q : Ot → AH → Prop} {A : AH} {bc bs : Nat} {v1 : Nat} {v2 : Nat} {v3 : Nat} {v4 : Int32} {s0 : Int32} {s1 : Int32} {s2 : Nat} (h : Cal l X d bc bs M_L_connect [.ref s2, .int s1, .int s0, .ref v3] A fun o4 A1 b2 c3 => zI o4 fun i5 => vp_in (v4 + 1) (xL X) ∧ vp_in (v4 + 2) (xL X) ∧ ((xs X (v4 + 2).toNatClampNeg) = 0 → G l X M_L_law d Q 873 [(0, .ref (xb X)), (1, .ref v1), (2, .ref v2), (3, .ref v3), (4, .int v4), (5, .int i5)] [.int 0, .int (xs X (v4 + 1).toNatClampNeg), .ref v2] A1 b2 c3) ∧ (¬ (xs X (v4 + 2).toNatClampNeg) = 0 → G l X M_L_law d Q 873 [(0, .ref (xb X)), (1, .ref v1), (2, .ref v2), (3, .ref v3), (4, .int v4), (5, .int i5)] [.int 1, .int (xs X (v4 + 1).toNatClampNeg), .ref v2] A1 b2 c3)) : G l X M_L_law d Q 846 [(0, .ref (xb X)), (1, .ref v1), (2, .ref v2), (3, .ref v3), (4, .int v4)] [.int s0, .int s1, .ref s2] A bc bs := by
  refine G_aload_n 3 (dk_at dk_L_law 462 rfl) rfl ?_
  refine G_callSX (As := [.ref s2, .int s1, .int s0, .ref v3]) (rest := []) lk_L_148 (dk_at dk_L_law 463 rfl) rfl rfl (Nat.le_of_ble_eq_true rfl) (h.mono fun o4 A1 b2 c3 h => atfI h fun i5 h => ?_)
  refine G_istore (lv' := [(5, .int i5), (0, .ref (xb X)), (1, .ref v1), (2, .ref v2), (3, .ref v3), (4, .int v4)]) (dk_at dk_L_law 464 rfl) (by decide) rfl ?_
  refine G_aload_n 3 (dk_at dk_L_law 465 rfl) rfl ?_
  refine G_aload_n 1 (dk_at dk_L_law 466 rfl) rfl ?_
  refine G_iload 5 (dk_at dk_L_law 467 rfl) rfl ?_
  refine G_iconst (v := 1) (dk_at dk_L_law 468 rfl) (by decide) ?_
  refine G_iadd (dk_at dk_L_law 469 rfl) ?_
  obtain ⟨h0, h⟩ := h
  refine G_sld (dk_at dk_L_law 470 rfl) h0 ?_
  refine G_aload_n 1 (dk_at dk_L_law 471 rfl) rfl ?_
  refine G_iload 5 (dk_at dk_L_law 472 rfl) rfl ?_
  refine G_iconst (v := 2) (dk_at dk_L_law 473 rfl) (by decide) ?_
  refine G_iadd (dk_at dk_L_law 474 rfl) ?_
  obtain ⟨h0, h⟩ := h
  refine G_sld (dk_at dk_L_law 475 rfl) h0 ?_
  refine G_if_eq (tgt := 872) (dk_at dk_L_law 476 rfl) (by decide) (fun c => ?_) (fun c => ?_)
  · replace h := h.1 c
    refine G_iconst (v := 0) (dk_at dk_L_law 479 rfl) (by decide) ?_
    refine G_sub [1, 2, 3, 4, 5, 0] rfl ?_
    exact h
  · replace h := h.2 c
    refine G_iconst (v := 1) (dk_at dk_L_law 477 rfl) (by decide) ?_
    refine G_goto (tgt := 873) (dk_at dk_L_law 478 rfl) (by decide) ?_
    refine G_sub [1, 2, 3, 4, 5, 0] rfl ?_
    exact h
theorem k_L_law_873 {l : Launch} {X : XT} {d : Nat} {Q : Ot → AH → Prop} {A : AH} {bc bs : Nat} {v1 : Nat} {v2 : Nat} {v3 : Nat} {v4 : Int32} {v5 : Int32} {s0 : Int32} {s1 : Int32} {s2 : Nat} (h : isO A s2 7 ∧ Cal l X d bc bs M_X6_connect [.ref s2, .int s1, .int s0] A fun o4 A1 b2 c3 => rI o4 (fun E => Q (.inr E) A1) fun i5 => isO A1 v2 7 ∧ Cal l X d b2 c3 M_X6_thrown [.ref v2] A1 fun o9 A6 b7 c8 => rI o9 (fun E => Q (.inr E) A6) fun i10 => (i10 = v5 → (¬ v5 = 0 → G l X M_L_law d Q 2023 [(0, .ref (xb X)), (1, .ref v1), (2, .ref v2), (3, .ref v3), (4, .int v4)] [] A6 b7 c8) ∧ (v5 = 0 → aL X A6 v3 0 fun i11 => (i5 = 0 → G l X M_L_law d Q 907 [(0, .ref (xb X)), (1, .ref v1), (2, .ref v2), (3, .ref v3), (4, .int v4)] [.long 0, .long i11] A6 b7 c8) ∧ (¬ i5 = 0 → G l X M_L_law d Q 907 [(0, .ref (xb X)), (1, .ref v1), (2, .ref v2), (3, .ref v3), (4, .int v4)] [.long 1, .long i11] A6 b7 c8))) ∧ (¬ i10 = v5 → Q (Ri 0) A6)) : G l X M_L_law d Q 873 [(0, .ref (xb X)), (1, .ref v1), (2, .ref v2), (3, .ref v3), (4, .int v4), (5, .int v5)] [.int s0, .int s1, .ref s2] A bc bs := by
  obtain ⟨⟨_, ho⟩, h⟩ := h
  refine G_callV (As := [.int s1, .int s0]) (rest := []) lk_L_151 rfl (dk_at dk_L_law 480 rfl) rfl rfl (Nat.le_of_ble_eq_true rfl) ho (h.mono fun o4 A1 b2 c3 h => aftI h fun i5 h => ?_)
  refine G_istore (lv' := [(6, .int i5), (0, .ref (xb X)), (1, .ref v1), (2, .ref v2), (3, .ref v3), (4, .int v4), (5, .int v5)]) (dk_at dk_L_law 481 rfl) (by decide) rfl ?_
  refine G_aload_n 3 (dk_at dk_L_law 482 rfl) rfl ?_
  obtain ⟨⟨_, ho⟩, h⟩ := h
  refine G_callV (As := []) (rest := []) lk_L_114 rfl (dk_at dk_L_law 483 rfl) rfl rfl (Nat.le_of_ble_eq_true rfl) ho (h.mono fun o9 A6 b7 c8 h => aftI h fun i10 h => ?_)
  refine G_iload 6 (dk_at dk_L_law 484 rfl) rfl ?_
  refine G_icmp_eq (tgt := 889) (dk_at dk_L_law 485 rfl) (by decide) (fun c => ?_) (fun c => ?_)
  · replace h := h.1 c
    refine G_iload 6 (dk_at dk_L_law 488 rfl) rfl ?_
    refine G_if_ne (tgt := 913) (dk_at dk_L_law 489 rfl) (by decide) (fun c => ?_) (fun c => ?_)
    · replace h := h.1 c
      refine G_goto (tgt := 2023) (dk_at dk_L_law 502 rfl) (by decide) ?_
      refine G_sub [1, 2, 3, 4, 5] rfl ?_
      exact h
    · replace h := h.2 c
      refine G_aload_n 4 (dk_at dk_L_law 490 rfl) rfl ?_
      refine G_iconst (v := 0) (dk_at dk_L_law 491 rfl) (by decide) ?_
      refine K_aL (dk_at dk_L_law 492 rfl) h (fun i11 h => ?_)
      refine G_iload 0 (dk_at dk_L_law 493 rfl) rfl ?_
      refine G_if_eq (tgt := 906) (dk_at dk_L_law 494 rfl) (by decide) (fun c => ?_) (fun c => ?_)
      · replace h := h.1 c
        refine G_lconst (v := 0) (dk_at dk_L_law 497 rfl) (by decide) ?_
        refine G_sub [1, 2, 3, 4, 5] rfl ?_
        exact h
      · replace h := h.2 c
        refine G_lconst (v := 1) (dk_at dk_L_law 495 rfl) (by decide) ?_
        refine G_goto (tgt := 907) (dk_at dk_L_law 496 rfl) (by decide) ?_
        refine G_sub [1, 2, 3, 4, 5] rfl ?_
        exact h
  · replace h := h.2 c
    refine G_iconst (v := 0) (dk_at dk_L_law 486 rfl) (by decide) ?_
    exact G_iret (ty := .boolean) rfl rfl (dk_at dk_L_law 487 rfl) h
theorem k_L_law_907 {l : Launch} {X : XT} {d : Nat} {Q : Ot → AH → Prop} {A : AH} {bc bs : Nat} {v1 : Nat} {v2 : Nat} {v3 : Nat} {v4 : Int32} {s0 : Int64} {s1 : Int64} (h : ((lg_cmp s1 s0) = 0 → G l X M_L_law d Q 2023 [(0, .ref (xb X)), (1, .ref v1), (2, .ref v2), (3, .ref v3), (4, .int v4)] [] A bc bs) ∧ (¬ (lg_cmp s1 s0) = 0 → Q (Ri 0) A)) : G l X M_L_law d Q 907 [(0, .ref (xb X)), (1, .ref v1), (2, .ref v2), (3, .ref v3), (4, .int v4)] [.long s0, .long s1] A bc bs := by
  refine G_lcmp (dk_at dk_L_law 498 rfl) ?_
  refine G_if_eq (tgt := 913) (dk_at dk_L_law 499 rfl) (by decide) (fun c => ?_) (fun c => ?_)
  · replace h := h.1 c
    refine G_goto (tgt := 2023) (dk_at dk_L_law 502 rfl) (by decide) ?_
    exact h
  · replace h := h.2 c
    refine G_iconst (v := 0) (dk_at dk_L_law 500 rfl) (by decide) ?_
    exact G_iret (ty := .boolean) rfl rfl (dk_at dk_L_law 501 rfl) h
theorem k_L_law_916 {l : Launch} {X : XT} {d : Nat} {Q : Ot → AH → Prop} {A : AH} {bc bs : Nat} {v1 : Nat} {v2 : Nat} {v3 : Nat} {v4 : Int32} (h : vp_in (v4 + 1) (xL X) ∧ vp_in (v4 + 2) (xL X) ∧ Cal l X d bc bs M_L_fetch [.ref v1, .int (xs X (v4 + 1).toNatClampNeg), .int (xs X (v4 + 2).toNatClampNeg), .ref v3] A fun o4 A1 b2 c3 => zI o4 fun i5 => vp_in (v4 + 1) (xL X) ∧ vp_in (v4 + 2) (xL X) ∧ isO A1 v2 7 ∧ Cal l X d b2 c3 M_X6_fetch [.ref v2, .int (xs X (v4 + 1).toNatClampNeg), .int (xs X (v4 + 2).toNatClampNeg)] A1 fun o9 A6 b7 c8 => rI o9 (fun E => Q (.inr E) A6) fun i10 => isO A6 v2 7 ∧ Cal l X d b7 c8 M_X6_thrown [.ref v2] A6 fun o14 A11 b12 c13 => rI o14 (fun E => Q (.inr E) A11) fun i15 => (i15 = i5 → (¬ i5 = 0 → G l X M_L_law d Q 2023 [(0, .ref (xb X)), (1, .ref v1), (2, .ref v2), (3, .ref v3), (4, .int v4)] [] A11 b12 c13) ∧ (i5 = 0 → aL X A11 v3 0 fun i16 => ((lg_cmp i16 (Int32.toInt64 i10)) = 0 → G l X M_L_law d Q 2023 [(0, .ref (xb X)), (1, .ref v1), (2, .ref v2), (3, .ref v3), (4, .int v4)] [] A11 b12 c13) ∧ (¬ (lg_cmp i16 (Int32.toInt64 i10)) = 0 → Q (Ri 0) A11))) ∧ (¬ i15 = i5 → Q (Ri 0) A11)) : G l X M_L_law d Q 916 [(0, .ref (xb X)), (1, .ref v1), (2, .ref v2), (3, .ref v3), (4, .int v4)] [] A bc bs := by
  refine G_aload_n 1 (dk_at dk_L_law 503 rfl) rfl ?_
  refine G_aload_n 0 (dk_at dk_L_law 504 rfl) rfl ?_
  refine G_iload 4 (dk_at dk_L_law 505 rfl) rfl ?_
  refine G_iconst (v := 1) (dk_at dk_L_law 506 rfl) (by decide) ?_
  refine G_iadd (dk_at dk_L_law 507 rfl) ?_
  obtain ⟨h0, h⟩ := h
  refine G_sld (dk_at dk_L_law 508 rfl) h0 ?_
  refine G_aload_n 0 (dk_at dk_L_law 509 rfl) rfl ?_
  refine G_iload 4 (dk_at dk_L_law 510 rfl) rfl ?_
  refine G_iconst (v := 2) (dk_at dk_L_law 511 rfl) (by decide) ?_
  refine G_iadd (dk_at dk_L_law 512 rfl) ?_
  obtain ⟨h0, h⟩ := h
  refine G_sld (dk_at dk_L_law 513 rfl) h0 ?_
  refine G_aload_n 3 (dk_at dk_L_law 514 rfl) rfl ?_
  refine G_callSX (As := [.ref v1, .int (xs X (v4 + 1).toNatClampNeg), .int (xs X (v4 + 2).toNatClampNeg), .ref v3]) (rest := []) lk_L_152 (dk_at dk_L_law 515 rfl) rfl rfl (Nat.le_of_ble_eq_true rfl) (h.mono fun o4 A1 b2 c3 h => atfI h fun i5 h => ?_)
  refine G_istore (lv' := [(5, .int i5), (0, .ref (xb X)), (1, .ref v1), (2, .ref v2), (3, .ref v3), (4, .int v4)]) (dk_at dk_L_law 516 rfl) (by decide) rfl ?_
  refine G_aload_n 3 (dk_at dk_L_law 517 rfl) rfl ?_
  refine G_aload_n 1 (dk_at dk_L_law 518 rfl) rfl ?_
  refine G_iload 5 (dk_at dk_L_law 519 rfl) rfl ?_
  refine G_iconst (v := 1) (dk_at dk_L_law 520 rfl) (by decide) ?_
  refine G_iadd (dk_at dk_L_law 521 rfl) ?_
  obtain ⟨h0, h⟩ := h
  refine G_sld (dk_at dk_L_law 522 rfl) h0 ?_
  refine G_aload_n 1 (dk_at dk_L_law 523 rfl) rfl ?_
  refine G_iload 5 (dk_at dk_L_law 524 rfl) rfl ?_
  refine G_iconst (v := 2) (dk_at dk_L_law 525 rfl) (by decide) ?_
  refine G_iadd (dk_at dk_L_law 526 rfl) ?_
  obtain ⟨h0, h⟩ := h
  refine G_sld (dk_at dk_L_law 527 rfl) h0 ?_
  obtain ⟨⟨_, ho⟩, h⟩ := h
  refine G_callV (As := [.int (xs X (v4 + 1).toNatClampNeg), .int (xs X (v4 + 2).toNatClampNeg)]) (rest := []) lk_L_154 rfl (dk_at dk_L_law 528 rfl) rfl rfl (Nat.le_of_ble_eq_true rfl) ho (h.mono fun o9 A6 b7 c8 h => aftI h fun i10 h => ?_)
  refine G_istore (lv' := [(6, .int i10), (5, .int i5), (0, .ref (xb X)), (1, .ref v1), (2, .ref v2), (3, .ref v3), (4, .int v4)]) (dk_at dk_L_law 529 rfl) (by decide) rfl ?_
  refine G_aload_n 4 (dk_at dk_L_law 530 rfl) rfl ?_
  obtain ⟨⟨_, ho⟩, h⟩ := h
  refine G_callV (As := []) (rest := []) lk_L_114 rfl (dk_at dk_L_law 531 rfl) rfl rfl (Nat.le_of_ble_eq_true rfl) ho (h.mono fun o14 A11 b12 c13 h => aftI h fun i15 h => ?_)
  refine G_iload 1 (dk_at dk_L_law 532 rfl) rfl ?_
  refine G_icmp_eq (tgt := 964) (dk_at dk_L_law 533 rfl) (by decide) (fun c => ?_) (fun c => ?_)
  · replace h := h.1 c
    refine G_iload 1 (dk_at dk_L_law 536 rfl) rfl ?_
    refine G_if_ne (tgt := 981) (dk_at dk_L_law 537 rfl) (by decide) (fun c => ?_) (fun c => ?_)
    · replace h := h.1 c
      refine G_goto (tgt := 2023) (dk_at dk_L_law 547 rfl) (by decide) ?_
      refine G_sub [2, 3, 4, 5, 6] rfl ?_
      exact h
    · replace h := h.2 c
      refine G_aload_n 5 (dk_at dk_L_law 538 rfl) rfl ?_
      refine G_iconst (v := 0) (dk_at dk_L_law 539 rfl) (by decide) ?_
      refine K_aL (dk_at dk_L_law 540 rfl) h (fun i16 h => ?_)
      refine G_iload 0 (dk_at dk_L_law 541 rfl) rfl ?_
      refine G_i2l (dk_at dk_L_law 542 rfl) rfl ?_
      refine G_lcmp (dk_at dk_L_law 543 rfl) ?_
      refine G_if_eq (tgt := 981) (dk_at dk_L_law 544 rfl) (by decide) (fun c => ?_) (fun c => ?_)
      · replace h := h.1 c
        refine G_goto (tgt := 2023) (dk_at dk_L_law 547 rfl) (by decide) ?_
        refine G_sub [2, 3, 4, 5, 6] rfl ?_
        exact h
      · replace h := h.2 c
        refine G_iconst (v := 0) (dk_at dk_L_law 545 rfl) (by decide) ?_
        exact G_iret (ty := .boolean) rfl rfl (dk_at dk_L_law 546 rfl) h
  · replace h := h.2 c
    refine G_iconst (v := 0) (dk_at dk_L_law 534 rfl) (by decide) ?_
    exact G_iret (ty := .boolean) rfl rfl (dk_at dk_L_law 535 rfl) h
theorem k_L_law_984 {l : Launch} {X : XT} {d : Nat} {Q : Ot → AH → Prop} {A : AH} {bc bs : Nat} {v1 : Nat} {v2 : Nat} {v3 : Nat} {v4 : Int32} (h : vp_in (v4 + 1) (xL X) ∧ Cal l X d bc bs M_L_search [.ref v1, .int (xs X (v4 + 1).toNatClampNeg), .ref v3] A fun o4 A1 b2 c3 => zI o4 fun i5 => vp_in (v4 + 1) (xL X) ∧ isO A1 v2 7 ∧ Cal l X d b2 c3 M_X6_search [.ref v2, .int (xs X (v4 + 1).toNatClampNeg)] A1 fun o9 A6 b7 c8 => rI o9 (fun E => Q (.inr E) A6) fun i10 => isO A6 v2 7 ∧ Cal l X d b7 c8 M_X6_thrown [.ref v2] A6 fun o14 A11 b12 c13 => rI o14 (fun E => Q (.inr E) A11) fun i15 => (i15 = i5 → (¬ i5 = 0 → G l X M_L_law d Q 2023 [(0, .ref (xb X)), (1, .ref v1), (2, .ref v2), (3, .ref v3), (4, .int v4)] [] A11 b12 c13) ∧ (i5 = 0 → aL X A11 v3 0 fun i16 => ((lg_cmp i16 (Int32.toInt64 i10)) = 0 → G l X M_L_law d Q 2023 [(0, .ref (xb X)), (1, .ref v1), (2, .ref v2), (3, .ref v3), (4, .int v4)] [] A11 b12 c13) ∧ (¬ (lg_cmp i16 (Int32.toInt64 i10)) = 0 → Q (Ri 0) A11))) ∧ (¬ i15 = i5 → Q (Ri 0) A11)) : G l X M_L_law d Q 984 [(0, .ref (xb X)), (1, .ref v1), (2, .ref v2), (3, .ref v3), (4, .int v4)] [] A bc bs := by
  refine G_aload_n 1 (dk_at dk_L_law 548 rfl) rfl ?_
  refine G_aload_n 0 (dk_at dk_L_law 549 rfl) rfl ?_
  refine G_iload 4 (dk_at dk_L_law 550 rfl) rfl ?_
  refine G_iconst (v := 1) (dk_at dk_L_law 551 rfl) (by decide) ?_
  refine G_iadd (dk_at dk_L_law 552 rfl) ?_
  obtain ⟨h0, h⟩ := h
  refine G_sld (dk_at dk_L_law 553 rfl) h0 ?_
  refine G_aload_n 3 (dk_at dk_L_law 554 rfl) rfl ?_
  refine G_callSX (As := [.ref v1, .int (xs X (v4 + 1).toNatClampNeg), .ref v3]) (rest := []) lk_L_155 (dk_at dk_L_law 555 rfl) rfl rfl (Nat.le_of_ble_eq_true rfl) (h.mono fun o4 A1 b2 c3 h => atfI h fun i5 h => ?_)
  refine G_istore (lv' := [(5, .int i5), (0, .ref (xb X)), (1, .ref v1), (2, .ref v2), (3, .ref v3), (4, .int v4)]) (dk_at dk_L_law 556 rfl) (by decide) rfl ?_
  refine G_aload_n 3 (dk_at dk_L_law 557 rfl) rfl ?_
  refine G_aload_n 1 (dk_at dk_L_law 558 rfl) rfl ?_
  refine G_iload 5 (dk_at dk_L_law 559 rfl) rfl ?_
  refine G_iconst (v := 1) (dk_at dk_L_law 560 rfl) (by decide) ?_
  refine G_iadd (dk_at dk_L_law 561 rfl) ?_
  obtain ⟨h0, h⟩ := h
  refine G_sld (dk_at dk_L_law 562 rfl) h0 ?_
  obtain ⟨⟨_, ho⟩, h⟩ := h
  refine G_callV (As := [.int (xs X (v4 + 1).toNatClampNeg)]) (rest := []) lk_L_157 rfl (dk_at dk_L_law 563 rfl) rfl rfl (Nat.le_of_ble_eq_true rfl) ho (h.mono fun o9 A6 b7 c8 h => aftI h fun i10 h => ?_)
  refine G_istore (lv' := [(6, .int i10), (5, .int i5), (0, .ref (xb X)), (1, .ref v1), (2, .ref v2), (3, .ref v3), (4, .int v4)]) (dk_at dk_L_law 564 rfl) (by decide) rfl ?_
  refine G_aload_n 4 (dk_at dk_L_law 565 rfl) rfl ?_
  obtain ⟨⟨_, ho⟩, h⟩ := h
  refine G_callV (As := []) (rest := []) lk_L_114 rfl (dk_at dk_L_law 566 rfl) rfl rfl (Nat.le_of_ble_eq_true rfl) ho (h.mono fun o14 A11 b12 c13 h => aftI h fun i15 h => ?_)
  refine G_iload 1 (dk_at dk_L_law 567 rfl) rfl ?_
  refine G_icmp_eq (tgt := 1020) (dk_at dk_L_law 568 rfl) (by decide) (fun c => ?_) (fun c => ?_)
  · replace h := h.1 c
    refine G_iload 1 (dk_at dk_L_law 571 rfl) rfl ?_
    refine G_if_ne (tgt := 1037) (dk_at dk_L_law 572 rfl) (by decide) (fun c => ?_) (fun c => ?_)
    · replace h := h.1 c
      refine G_goto (tgt := 2023) (dk_at dk_L_law 582 rfl) (by decide) ?_
      refine G_sub [2, 3, 4, 5, 6] rfl ?_
      exact h
    · replace h := h.2 c
      refine G_aload_n 5 (dk_at dk_L_law 573 rfl) rfl ?_
      refine G_iconst (v := 0) (dk_at dk_L_law 574 rfl) (by decide) ?_
      refine K_aL (dk_at dk_L_law 575 rfl) h (fun i16 h => ?_)
      refine G_iload 0 (dk_at dk_L_law 576 rfl) rfl ?_
      refine G_i2l (dk_at dk_L_law 577 rfl) rfl ?_
      refine G_lcmp (dk_at dk_L_law 578 rfl) ?_
      refine G_if_eq (tgt := 1037) (dk_at dk_L_law 579 rfl) (by decide) (fun c => ?_) (fun c => ?_)
      · replace h := h.1 c
        refine G_goto (tgt := 2023) (dk_at dk_L_law 582 rfl) (by decide) ?_
        refine G_sub [2, 3, 4, 5, 6] rfl ?_
        exact h
      · replace h := h.2 c
        refine G_iconst (v := 0) (dk_at dk_L_law 580 rfl) (by decide) ?_
        exact G_iret (ty := .boolean) rfl rfl (dk_at dk_L_law 581 rfl) h
  · replace h := h.2 c
    refine G_iconst (v := 0) (dk_at dk_L_law 569 rfl) (by decide) ?_
    exact G_iret (ty := .boolean) rfl rfl (dk_at dk_L_law 570 rfl) h
theorem k_L_law_1040 {l : Launch} {X : XT} {d : Nat} {Q : Ot → AH → Prop} {A : AH} {bc bs : Nat} {v1 : Nat} {v2 : Nat} {v3 : Nat} {v4 : Int32} (h : vp_in (v4 + 1) (xL X) ∧ Cal l X d bc bs M_L_queriesFor [.ref v1, .int (xs X (v4 + 1).toNatClampNeg), .ref v3] A fun o4 A1 b2 c3 => zI o4 fun i5 => vp_in (v4 + 1) (xL X) ∧ isO A1 v2 7 ∧ Cal l X d b2 c3 M_X6_queriesFor [.ref v2, .int (xs X (v4 + 1).toNatClampNeg)] A1 fun o9 A6 b7 c8 => rI o9 (fun E => Q (.inr E) A6) fun i10 => isO A6 v2 7 ∧ Cal l X d b7 c8 M_X6_thrown [.ref v2] A6 fun o14 A11 b12 c13 => rI o14 (fun E => Q (.inr E) A11) fun i15 => (i15 = i5 → (¬ i5 = 0 → G l X M_L_law d Q 2023 [(0, .ref (xb X)), (1, .ref v1), (2, .ref v2), (3, .ref v3), (4, .int v4)] [] A11 b12 c13) ∧ (i5 = 0 → aL X A11 v3 0 fun i16 => ((lg_cmp i16 (Int32.toInt64 i10)) = 0 → G l X M_L_law d Q 2023 [(0, .ref (xb X)), (1, .ref v1), (2, .ref v2), (3, .ref v3), (4, .int v4)] [] A11 b12 c13) ∧ (¬ (lg_cmp i16 (Int32.toInt64 i10)) = 0 → Q (Ri 0) A11))) ∧ (¬ i15 = i5 → Q (Ri 0) A11)) : G l X M_L_law d Q 1040 [(0, .ref (xb X)), (1, .ref v1), (2, .ref v2), (3, .ref v3), (4, .int v4)] [] A bc bs := by
  refine G_aload_n 1 (dk_at dk_L_law 583 rfl) rfl ?_
  refine G_aload_n 0 (dk_at dk_L_law 584 rfl) rfl ?_
  refine G_iload 4 (dk_at dk_L_law 585 rfl) rfl ?_
  refine G_iconst (v := 1) (dk_at dk_L_law 586 rfl) (by decide) ?_
  refine G_iadd (dk_at dk_L_law 587 rfl) ?_
  obtain ⟨h0, h⟩ := h
  refine G_sld (dk_at dk_L_law 588 rfl) h0 ?_
  refine G_aload_n 3 (dk_at dk_L_law 589 rfl) rfl ?_
  refine G_callSX (As := [.ref v1, .int (xs X (v4 + 1).toNatClampNeg), .ref v3]) (rest := []) lk_L_158 (dk_at dk_L_law 590 rfl) rfl rfl (Nat.le_of_ble_eq_true rfl) (h.mono fun o4 A1 b2 c3 h => atfI h fun i5 h => ?_)
  refine G_istore (lv' := [(5, .int i5), (0, .ref (xb X)), (1, .ref v1), (2, .ref v2), (3, .ref v3), (4, .int v4)]) (dk_at dk_L_law 591 rfl) (by decide) rfl ?_
  refine G_aload_n 3 (dk_at dk_L_law 592 rfl) rfl ?_
  refine G_aload_n 1 (dk_at dk_L_law 593 rfl) rfl ?_
  refine G_iload 5 (dk_at dk_L_law 594 rfl) rfl ?_
  refine G_iconst (v := 1) (dk_at dk_L_law 595 rfl) (by decide) ?_
  refine G_iadd (dk_at dk_L_law 596 rfl) ?_
  obtain ⟨h0, h⟩ := h
  refine G_sld (dk_at dk_L_law 597 rfl) h0 ?_
  obtain ⟨⟨_, ho⟩, h⟩ := h
  refine G_callV (As := [.int (xs X (v4 + 1).toNatClampNeg)]) (rest := []) lk_L_160 rfl (dk_at dk_L_law 598 rfl) rfl rfl (Nat.le_of_ble_eq_true rfl) ho (h.mono fun o9 A6 b7 c8 h => aftI h fun i10 h => ?_)
  refine G_istore (lv' := [(6, .int i10), (5, .int i5), (0, .ref (xb X)), (1, .ref v1), (2, .ref v2), (3, .ref v3), (4, .int v4)]) (dk_at dk_L_law 599 rfl) (by decide) rfl ?_
  refine G_aload_n 4 (dk_at dk_L_law 600 rfl) rfl ?_
  obtain ⟨⟨_, ho⟩, h⟩ := h
  refine G_callV (As := []) (rest := []) lk_L_114 rfl (dk_at dk_L_law 601 rfl) rfl rfl (Nat.le_of_ble_eq_true rfl) ho (h.mono fun o14 A11 b12 c13 h => aftI h fun i15 h => ?_)
  refine G_iload 1 (dk_at dk_L_law 602 rfl) rfl ?_
  refine G_icmp_eq (tgt := 1076) (dk_at dk_L_law 603 rfl) (by decide) (fun c => ?_) (fun c => ?_)
  · replace h := h.1 c
    refine G_iload 1 (dk_at dk_L_law 606 rfl) rfl ?_
    refine G_if_ne (tgt := 1093) (dk_at dk_L_law 607 rfl) (by decide) (fun c => ?_) (fun c => ?_)
    · replace h := h.1 c
      refine G_goto (tgt := 2023) (dk_at dk_L_law 617 rfl) (by decide) ?_
      refine G_sub [2, 3, 4, 5, 6] rfl ?_
      exact h
    · replace h := h.2 c
      refine G_aload_n 5 (dk_at dk_L_law 608 rfl) rfl ?_
      refine G_iconst (v := 0) (dk_at dk_L_law 609 rfl) (by decide) ?_
      refine K_aL (dk_at dk_L_law 610 rfl) h (fun i16 h => ?_)
      refine G_iload 0 (dk_at dk_L_law 611 rfl) rfl ?_
      refine G_i2l (dk_at dk_L_law 612 rfl) rfl ?_
      refine G_lcmp (dk_at dk_L_law 613 rfl) ?_
      refine G_if_eq (tgt := 1093) (dk_at dk_L_law 614 rfl) (by decide) (fun c => ?_) (fun c => ?_)
      · replace h := h.1 c
        refine G_goto (tgt := 2023) (dk_at dk_L_law 617 rfl) (by decide) ?_
        refine G_sub [2, 3, 4, 5, 6] rfl ?_
        exact h
      · replace h := h.2 c
        refine G_iconst (v := 0) (dk_at dk_L_law 615 rfl) (by decide) ?_
        exact G_iret (ty := .boolean) rfl rfl (dk_at dk_L_law 616 rfl) h
  · replace h := h.2 c
    refine G_iconst (v := 0) (dk_at dk_L_law 604 rfl) (by decide) ?_
    exact G_iret (ty := .boolean) rfl rfl (dk_at dk_L_law 605 rfl) h
theorem k_L_law_1096 {l : Launch} {X : XT} {d : Nat} {Q : Ot → AH → Prop} {A : AH} {bc bs : Nat} {v1 : Nat} {v2 : Nat} {v3 : Nat} {v4 : Int32} (h : vp_in (v4 + 1) (xL X) ∧ Cal l X d bc bs M_L_drop [.ref v1, .int (xs X (v4 + 1).toNatClampNeg), .ref v3] A fun o4 A1 b2 c3 => zI o4 fun i5 => vp_in (v4 + 1) (xL X) ∧ isO A1 v2 7 ∧ Cal l X d b2 c3 M_X6_drop [.ref v2, .int (xs X (v4 + 1).toNatClampNeg)] A1 fun o9 A6 b7 c8 => rI o9 (fun E => Q (.inr E) A6) fun i10 => isO A6 v2 7 ∧ Cal l X d b7 c8 M_X6_thrown [.ref v2] A6 fun o14 A11 b12 c13 => rI o14 (fun E => Q (.inr E) A11) fun i15 => (i15 = i5 → (¬ i5 = 0 → G l X M_L_law d Q 2023 [(0, .ref (xb X)), (1, .ref v1), (2, .ref v2), (3, .ref v3), (4, .int v4)] [] A11 b12 c13) ∧ (i5 = 0 → aL X A11 v3 0 fun i16 => ((lg_cmp i16 (Int32.toInt64 i10)) = 0 → G l X M_L_law d Q 2023 [(0, .ref (xb X)), (1, .ref v1), (2, .ref v2), (3, .ref v3), (4, .int v4)] [] A11 b12 c13) ∧ (¬ (lg_cmp i16 (Int32.toInt64 i10)) = 0 → Q (Ri 0) A11))) ∧ (¬ i15 = i5 → Q (Ri 0) A11)) : G l X M_L_law d Q 1096 [(0, .ref (xb X)), (1, .ref v1), (2, .ref v2), (3, .ref v3), (4, .int v4)] [] A bc bs := by
  refine G_aload_n 1 (dk_at dk_L_law 618 rfl) rfl ?_
  refine G_aload_n 0 (dk_at dk_L_law 619 rfl) rfl ?_
  refine G_iload 4 (dk_at dk_L_law 620 rfl) rfl ?_
  refine G_iconst (v := 1) (dk_at dk_L_law 621 rfl) (by decide) ?_
  refine G_iadd (dk_at dk_L_law 622 rfl) ?_
  obtain ⟨h0, h⟩ := h
  refine G_sld (dk_at dk_L_law 623 rfl) h0 ?_
  refine G_aload_n 3 (dk_at dk_L_law 624 rfl) rfl ?_
  refine G_callSX (As := [.ref v1, .int (xs X (v4 + 1).toNatClampNeg), .ref v3]) (rest := []) lk_L_161 (dk_at dk_L_law 625 rfl) rfl rfl (Nat.le_of_ble_eq_true rfl) (h.mono fun o4 A1 b2 c3 h => atfI h fun i5 h => ?_)
  refine G_istore (lv' := [(5, .int i5), (0, .ref (xb X)), (1, .ref v1), (2, .ref v2), (3, .ref v3), (4, .int v4)]) (dk_at dk_L_law 626 rfl) (by decide) rfl ?_
  refine G_aload_n 3 (dk_at dk_L_law 627 rfl) rfl ?_
  refine G_aload_n 1 (dk_at dk_L_law 628 rfl) rfl ?_
  refine G_iload 5 (dk_at dk_L_law 629 rfl) rfl ?_
  refine G_iconst (v := 1) (dk_at dk_L_law 630 rfl) (by decide) ?_
  refine G_iadd (dk_at dk_L_law 631 rfl) ?_
  obtain ⟨h0, h⟩ := h
  refine G_sld (dk_at dk_L_law 632 rfl) h0 ?_
  obtain ⟨⟨_, ho⟩, h⟩ := h
  refine G_callV (As := [.int (xs X (v4 + 1).toNatClampNeg)]) (rest := []) lk_L_163 rfl (dk_at dk_L_law 633 rfl) rfl rfl (Nat.le_of_ble_eq_true rfl) ho (h.mono fun o9 A6 b7 c8 h => aftI h fun i10 h => ?_)
  refine G_istore (lv' := [(6, .int i10), (5, .int i5), (0, .ref (xb X)), (1, .ref v1), (2, .ref v2), (3, .ref v3), (4, .int v4)]) (dk_at dk_L_law 634 rfl) (by decide) rfl ?_
  refine G_aload_n 4 (dk_at dk_L_law 635 rfl) rfl ?_
  obtain ⟨⟨_, ho⟩, h⟩ := h
  refine G_callV (As := []) (rest := []) lk_L_114 rfl (dk_at dk_L_law 636 rfl) rfl rfl (Nat.le_of_ble_eq_true rfl) ho (h.mono fun o14 A11 b12 c13 h => aftI h fun i15 h => ?_)
  refine G_iload 1 (dk_at dk_L_law 637 rfl) rfl ?_
  refine G_icmp_eq (tgt := 1132) (dk_at dk_L_law 638 rfl) (by decide) (fun c => ?_) (fun c => ?_)
  · replace h := h.1 c
    refine G_iload 1 (dk_at dk_L_law 641 rfl) rfl ?_
    refine G_if_ne (tgt := 1149) (dk_at dk_L_law 642 rfl) (by decide) (fun c => ?_) (fun c => ?_)
    · replace h := h.1 c
      refine G_goto (tgt := 2023) (dk_at dk_L_law 652 rfl) (by decide) ?_
      refine G_sub [2, 3, 4, 5, 6] rfl ?_
      exact h
    · replace h := h.2 c
      refine G_aload_n 5 (dk_at dk_L_law 643 rfl) rfl ?_
      refine G_iconst (v := 0) (dk_at dk_L_law 644 rfl) (by decide) ?_
      refine K_aL (dk_at dk_L_law 645 rfl) h (fun i16 h => ?_)
      refine G_iload 0 (dk_at dk_L_law 646 rfl) rfl ?_
      refine G_i2l (dk_at dk_L_law 647 rfl) rfl ?_
      refine G_lcmp (dk_at dk_L_law 648 rfl) ?_
      refine G_if_eq (tgt := 1149) (dk_at dk_L_law 649 rfl) (by decide) (fun c => ?_) (fun c => ?_)
      · replace h := h.1 c
        refine G_goto (tgt := 2023) (dk_at dk_L_law 652 rfl) (by decide) ?_
        refine G_sub [2, 3, 4, 5, 6] rfl ?_
        exact h
      · replace h := h.2 c
        refine G_iconst (v := 0) (dk_at dk_L_law 650 rfl) (by decide) ?_
        exact G_iret (ty := .boolean) rfl rfl (dk_at dk_L_law 651 rfl) h
  · replace h := h.2 c
    refine G_iconst (v := 0) (dk_at dk_L_law 639 rfl) (by decide) ?_
    exact G_iret (ty := .boolean) rfl rfl (dk_at dk_L_law 640 rfl) h
theorem k_L_law_1152 {l : Launch} {X : XT} {d : Nat} {Q : Ot → AH → Prop} {A : AH} {bc bs : Nat} {v1 : Nat} {v2 : Nat} {v3 : Nat} {v4 : Int32} (h : vp_in (v4 + 1) (xL X) ∧ Cal l X d bc bs M_L_run [.ref v1, .int (xs X (v4 + 1).toNatClampNeg), .ref v3] A fun o4 A1 b2 c3 => zI o4 fun i5 => vp_in (v4 + 1) (xL X) ∧ isO A1 v2 7 ∧ Cal l X d b2 c3 M_X6_run [.ref v2, .int (xs X (v4 + 1).toNatClampNeg)] A1 fun o9 A6 b7 c8 => rI o9 (fun E => Q (.inr E) A6) fun i10 => isO A6 v2 7 ∧ Cal l X d b7 c8 M_X6_thrown [.ref v2] A6 fun o14 A11 b12 c13 => rI o14 (fun E => Q (.inr E) A11) fun i15 => (i15 = i5 → (¬ i5 = 0 → G l X M_L_law d Q 2023 [(0, .ref (xb X)), (1, .ref v1), (2, .ref v2), (3, .ref v3), (4, .int v4)] [] A11 b12 c13) ∧ (i5 = 0 → aL X A11 v3 0 fun i16 => ((lg_cmp i16 (Int32.toInt64 i10)) = 0 → G l X M_L_law d Q 2023 [(0, .ref (xb X)), (1, .ref v1), (2, .ref v2), (3, .ref v3), (4, .int v4)] [] A11 b12 c13) ∧ (¬ (lg_cmp i16 (Int32.toInt64 i10)) = 0 → Q (Ri 0) A11))) ∧ (¬ i15 = i5 → Q (Ri 0) A11)) : G l X M_L_law d Q 1152 [(0, .ref (xb X)), (1, .ref v1), (2, .ref v2), (3, .ref v3), (4, .int v4)] [] A bc bs := by
  refine G_aload_n 1 (dk_at dk_L_law 653 rfl) rfl ?_
  refine G_aload_n 0 (dk_at dk_L_law 654 rfl) rfl ?_
  refine G_iload 4 (dk_at dk_L_law 655 rfl) rfl ?_
  refine G_iconst (v := 1) (dk_at dk_L_law 656 rfl) (by decide) ?_
  refine G_iadd (dk_at dk_L_law 657 rfl) ?_
  obtain ⟨h0, h⟩ := h
  refine G_sld (dk_at dk_L_law 658 rfl) h0 ?_
  refine G_aload_n 3 (dk_at dk_L_law 659 rfl) rfl ?_
  refine G_callSX (As := [.ref v1, .int (xs X (v4 + 1).toNatClampNeg), .ref v3]) (rest := []) lk_L_164 (dk_at dk_L_law 660 rfl) rfl rfl (Nat.le_of_ble_eq_true rfl) (h.mono fun o4 A1 b2 c3 h => atfI h fun i5 h => ?_)
  refine G_istore (lv' := [(5, .int i5), (0, .ref (xb X)), (1, .ref v1), (2, .ref v2), (3, .ref v3), (4, .int v4)]) (dk_at dk_L_law 661 rfl) (by decide) rfl ?_
  refine G_aload_n 3 (dk_at dk_L_law 662 rfl) rfl ?_
  refine G_aload_n 1 (dk_at dk_L_law 663 rfl) rfl ?_
  refine G_iload 5 (dk_at dk_L_law 664 rfl) rfl ?_
  refine G_iconst (v := 1) (dk_at dk_L_law 665 rfl) (by decide) ?_
  refine G_iadd (dk_at dk_L_law 666 rfl) ?_
  obtain ⟨h0, h⟩ := h
  refine G_sld (dk_at dk_L_law 667 rfl) h0 ?_
  obtain ⟨⟨_, ho⟩, h⟩ := h
  refine G_callV (As := [.int (xs X (v4 + 1).toNatClampNeg)]) (rest := []) lk_L_166 rfl (dk_at dk_L_law 668 rfl) rfl rfl (Nat.le_of_ble_eq_true rfl) ho (h.mono fun o9 A6 b7 c8 h => aftI h fun i10 h => ?_)
  refine G_istore (lv' := [(6, .int i10), (5, .int i5), (0, .ref (xb X)), (1, .ref v1), (2, .ref v2), (3, .ref v3), (4, .int v4)]) (dk_at dk_L_law 669 rfl) (by decide) rfl ?_
  refine G_aload_n 4 (dk_at dk_L_law 670 rfl) rfl ?_
  obtain ⟨⟨_, ho⟩, h⟩ := h
  refine G_callV (As := []) (rest := []) lk_L_114 rfl (dk_at dk_L_law 671 rfl) rfl rfl (Nat.le_of_ble_eq_true rfl) ho (h.mono fun o14 A11 b12 c13 h => aftI h fun i15 h => ?_)
  refine G_iload 1 (dk_at dk_L_law 672 rfl) rfl ?_
  refine G_icmp_eq (tgt := 1188) (dk_at dk_L_law 673 rfl) (by decide) (fun c => ?_) (fun c => ?_)
  · replace h := h.1 c
    refine G_iload 1 (dk_at dk_L_law 676 rfl) rfl ?_
    refine G_if_ne (tgt := 1205) (dk_at dk_L_law 677 rfl) (by decide) (fun c => ?_) (fun c => ?_)
    · replace h := h.1 c
      refine G_goto (tgt := 2023) (dk_at dk_L_law 687 rfl) (by decide) ?_
      refine G_sub [2, 3, 4, 5, 6] rfl ?_
      exact h
    · replace h := h.2 c
      refine G_aload_n 5 (dk_at dk_L_law 678 rfl) rfl ?_
      refine G_iconst (v := 0) (dk_at dk_L_law 679 rfl) (by decide) ?_
      refine K_aL (dk_at dk_L_law 680 rfl) h (fun i16 h => ?_)
      refine G_iload 0 (dk_at dk_L_law 681 rfl) rfl ?_
      refine G_i2l (dk_at dk_L_law 682 rfl) rfl ?_
      refine G_lcmp (dk_at dk_L_law 683 rfl) ?_
      refine G_if_eq (tgt := 1205) (dk_at dk_L_law 684 rfl) (by decide) (fun c => ?_) (fun c => ?_)
      · replace h := h.1 c
        refine G_goto (tgt := 2023) (dk_at dk_L_law 687 rfl) (by decide) ?_
        refine G_sub [2, 3, 4, 5, 6] rfl ?_
        exact h
      · replace h := h.2 c
        refine G_iconst (v := 0) (dk_at dk_L_law 685 rfl) (by decide) ?_
        exact G_iret (ty := .boolean) rfl rfl (dk_at dk_L_law 686 rfl) h
  · replace h := h.2 c
    refine G_iconst (v := 0) (dk_at dk_L_law 674 rfl) (by decide) ?_
    exact G_iret (ty := .boolean) rfl rfl (dk_at dk_L_law 675 rfl) h
theorem k_L_law_1208 {l : Launch} {X : XT} {d : Nat} {Q : Ot → AH → Prop} {A : AH} {bc bs : Nat} {v1 : Nat} {v2 : Nat} {v3 : Nat} {v4 : Int32} (h : isO A v1 6 ∧ Cal l X d bc bs M_X5_ticksLeft [.ref v1] A fun o4 A1 b2 c3 => rI o4 (fun E => Q (.inr E) A1) fun i5 => isO A1 v2 7 ∧ Cal l X d b2 c3 M_X6_ticksLeft [.ref v2] A1 fun o9 A6 b7 c8 => rI o9 (fun E => Q (.inr E) A6) fun i10 => (i5 = i10 → G l X M_L_law d Q 2023 [(0, .ref (xb X)), (1, .ref v1), (2, .ref v2), (3, .ref v3), (4, .int v4)] [] A6 b7 c8) ∧ (¬ i5 = i10 → Q (Ri 0) A6)) : G l X M_L_law d Q 1208 [(0, .ref (xb X)), (1, .ref v1), (2, .ref v2), (3, .ref v3), (4, .int v4)] [] A bc bs := by
  refine G_aload_n 1 (dk_at dk_L_law 688 rfl) rfl ?_
  obtain ⟨⟨_, ho⟩, h⟩ := h
  refine G_callV (As := []) (rest := []) lk_L_167 rfl (dk_at dk_L_law 689 rfl) rfl rfl (Nat.le_of_ble_eq_true rfl) ho (h.mono fun o4 A1 b2 c3 h => aftI h fun i5 h => ?_)
  refine G_aload_n 2 (dk_at dk_L_law 690 rfl) rfl ?_
  obtain ⟨⟨_, ho⟩, h⟩ := h
  refine G_callV (As := []) (rest := [.int i5]) lk_L_170 rfl (dk_at dk_L_law 691 rfl) rfl rfl (Nat.le_of_ble_eq_true rfl) ho (h.mono fun o9 A6 b7 c8 h => aftI h fun i10 h => ?_)
  refine G_icmp_eq (tgt := 2023) (dk_at dk_L_law 692 rfl) (by decide) (fun c => ?_) (fun c => ?_)
  · replace h := h.1 c
    exact h
  · replace h := h.2 c
    refine G_iconst (v := 0) (dk_at dk_L_law 693 rfl) (by decide) ?_
    exact G_iret (ty := .boolean) rfl rfl (dk_at dk_L_law 694 rfl) h
theorem k_L_law_1221 {l : Launch} {X : XT} {d : Nat} {Q : Ot → AH → Prop} {A : AH} {bc bs : Nat} {v1 : Nat} {v2 : Nat} {v3 : Nat} {v4 : Int32} (h : vp_in (v4 + 1) (xL X) ∧ Cal l X d bc bs M_L_keep [.ref v1, .int (xs X (v4 + 1).toNatClampNeg), .ref v3] A fun o4 A1 b2 c3 => zI o4 fun i5 => vp_in (v4 + 1) (xL X) ∧ isO A1 v2 7 ∧ Cal l X d b2 c3 M_X6_keep [.ref v2, .int (xs X (v4 + 1).toNatClampNeg)] A1 fun o9 A6 b7 c8 => rI o9 (fun E => Q (.inr E) A6) fun i10 => isO A6 v2 7 ∧ Cal l X d b7 c8 M_X6_thrown [.ref v2] A6 fun o14 A11 b12 c13 => rI o14 (fun E => Q (.inr E) A11) fun i15 => (i15 = i5 → (¬ i5 = 0 → G l X M_L_law d Q 2023 [(0, .ref (xb X)), (1, .ref v1), (2, .ref v2), (3, .ref v3), (4, .int v4)] [] A11 b12 c13) ∧ (i5 = 0 → aL X A11 v3 0 fun i16 => ((lg_cmp i16 (Int32.toInt64 i10)) = 0 → G l X M_L_law d Q 2023 [(0, .ref (xb X)), (1, .ref v1), (2, .ref v2), (3, .ref v3), (4, .int v4)] [] A11 b12 c13) ∧ (¬ (lg_cmp i16 (Int32.toInt64 i10)) = 0 → Q (Ri 0) A11))) ∧ (¬ i15 = i5 → Q (Ri 0) A11)) : G l X M_L_law d Q 1221 [(0, .ref (xb X)), (1, .ref v1), (2, .ref v2), (3, .ref v3), (4, .int v4)] [] A bc bs := by
  refine G_aload_n 1 (dk_at dk_L_law 695 rfl) rfl ?_
  refine G_aload_n 0 (dk_at dk_L_law 696 rfl) rfl ?_
  refine G_iload 4 (dk_at dk_L_law 697 rfl) rfl ?_
  refine G_iconst (v := 1) (dk_at dk_L_law 698 rfl) (by decide) ?_
  refine G_iadd (dk_at dk_L_law 699 rfl) ?_
  obtain ⟨h0, h⟩ := h
  refine G_sld (dk_at dk_L_law 700 rfl) h0 ?_
  refine G_aload_n 3 (dk_at dk_L_law 701 rfl) rfl ?_
  refine G_callSX (As := [.ref v1, .int (xs X (v4 + 1).toNatClampNeg), .ref v3]) (rest := []) lk_L_171 (dk_at dk_L_law 702 rfl) rfl rfl (Nat.le_of_ble_eq_true rfl) (h.mono fun o4 A1 b2 c3 h => atfI h fun i5 h => ?_)
  refine G_istore (lv' := [(5, .int i5), (0, .ref (xb X)), (1, .ref v1), (2, .ref v2), (3, .ref v3), (4, .int v4)]) (dk_at dk_L_law 703 rfl) (by decide) rfl ?_
  refine G_aload_n 3 (dk_at dk_L_law 704 rfl) rfl ?_
  refine G_aload_n 1 (dk_at dk_L_law 705 rfl) rfl ?_
  refine G_iload 5 (dk_at dk_L_law 706 rfl) rfl ?_
  refine G_iconst (v := 1) (dk_at dk_L_law 707 rfl) (by decide) ?_
  refine G_iadd (dk_at dk_L_law 708 rfl) ?_
  obtain ⟨h0, h⟩ := h
  refine G_sld (dk_at dk_L_law 709 rfl) h0 ?_
  obtain ⟨⟨_, ho⟩, h⟩ := h
  refine G_callV (As := [.int (xs X (v4 + 1).toNatClampNeg)]) (rest := []) lk_L_173 rfl (dk_at dk_L_law 710 rfl) rfl rfl (Nat.le_of_ble_eq_true rfl) ho (h.mono fun o9 A6 b7 c8 h => aftI h fun i10 h => ?_)
  refine G_istore (lv' := [(6, .int i10), (5, .int i5), (0, .ref (xb X)), (1, .ref v1), (2, .ref v2), (3, .ref v3), (4, .int v4)]) (dk_at dk_L_law 711 rfl) (by decide) rfl ?_
  refine G_aload_n 4 (dk_at dk_L_law 712 rfl) rfl ?_
  obtain ⟨⟨_, ho⟩, h⟩ := h
  refine G_callV (As := []) (rest := []) lk_L_114 rfl (dk_at dk_L_law 713 rfl) rfl rfl (Nat.le_of_ble_eq_true rfl) ho (h.mono fun o14 A11 b12 c13 h => aftI h fun i15 h => ?_)
  refine G_iload 1 (dk_at dk_L_law 714 rfl) rfl ?_
  refine G_icmp_eq (tgt := 1257) (dk_at dk_L_law 715 rfl) (by decide) (fun c => ?_) (fun c => ?_)
  · replace h := h.1 c
    refine G_iload 1 (dk_at dk_L_law 718 rfl) rfl ?_
    refine G_if_ne (tgt := 1274) (dk_at dk_L_law 719 rfl) (by decide) (fun c => ?_) (fun c => ?_)
    · replace h := h.1 c
      refine G_goto (tgt := 2023) (dk_at dk_L_law 729 rfl) (by decide) ?_
      refine G_sub [2, 3, 4, 5, 6] rfl ?_
      exact h
    · replace h := h.2 c
      refine G_aload_n 5 (dk_at dk_L_law 720 rfl) rfl ?_
      refine G_iconst (v := 0) (dk_at dk_L_law 721 rfl) (by decide) ?_
      refine K_aL (dk_at dk_L_law 722 rfl) h (fun i16 h => ?_)
      refine G_iload 0 (dk_at dk_L_law 723 rfl) rfl ?_
      refine G_i2l (dk_at dk_L_law 724 rfl) rfl ?_
      refine G_lcmp (dk_at dk_L_law 725 rfl) ?_
      refine G_if_eq (tgt := 1274) (dk_at dk_L_law 726 rfl) (by decide) (fun c => ?_) (fun c => ?_)
      · replace h := h.1 c
        refine G_goto (tgt := 2023) (dk_at dk_L_law 729 rfl) (by decide) ?_
        refine G_sub [2, 3, 4, 5, 6] rfl ?_
        exact h
      · replace h := h.2 c
        refine G_iconst (v := 0) (dk_at dk_L_law 727 rfl) (by decide) ?_
        exact G_iret (ty := .boolean) rfl rfl (dk_at dk_L_law 728 rfl) h
  · replace h := h.2 c
    refine G_iconst (v := 0) (dk_at dk_L_law 716 rfl) (by decide) ?_
    exact G_iret (ty := .boolean) rfl rfl (dk_at dk_L_law 717 rfl) h
theorem k_L_law_1277 {l : Launch} {X : XT} {d : Nat} {Q : Ot → AH → Prop} {A : AH} {bc bs : Nat} {v1 : Nat} {v2 : Nat} {v3 : Nat} {v4 : Int32} (h : vp_in (v4 + 1) (xL X) ∧ Cal l X d bc bs M_L_resume [.ref v1, .int (xs X (v4 + 1).toNatClampNeg), .ref v3] A fun o4 A1 b2 c3 => zI o4 fun i5 => vp_in (v4 + 1) (xL X) ∧ isO A1 v2 7 ∧ Cal l X d b2 c3 M_X6_resume [.ref v2, .int (xs X (v4 + 1).toNatClampNeg)] A1 fun o9 A6 b7 c8 => rI o9 (fun E => Q (.inr E) A6) fun i10 => isO A6 v2 7 ∧ Cal l X d b7 c8 M_X6_thrown [.ref v2] A6 fun o14 A11 b12 c13 => rI o14 (fun E => Q (.inr E) A11) fun i15 => (i15 = i5 → (¬ i5 = 0 → G l X M_L_law d Q 2023 [(0, .ref (xb X)), (1, .ref v1), (2, .ref v2), (3, .ref v3), (4, .int v4)] [] A11 b12 c13) ∧ (i5 = 0 → aL X A11 v3 0 fun i16 => ((lg_cmp i16 (Int32.toInt64 i10)) = 0 → G l X M_L_law d Q 2023 [(0, .ref (xb X)), (1, .ref v1), (2, .ref v2), (3, .ref v3), (4, .int v4)] [] A11 b12 c13) ∧ (¬ (lg_cmp i16 (Int32.toInt64 i10)) = 0 → Q (Ri 0) A11))) ∧ (¬ i15 = i5 → Q (Ri 0) A11)) : G l X M_L_law d Q 1277 [(0, .ref (xb X)), (1, .ref v1), (2, .ref v2), (3, .ref v3), (4, .int v4)] [] A bc bs := by
  refine G_aload_n 1 (dk_at dk_L_law 730 rfl) rfl ?_
  refine G_aload_n 0 (dk_at dk_L_law 731 rfl) rfl ?_
  refine G_iload 4 (dk_at dk_L_law 732 rfl) rfl ?_
  refine G_iconst (v := 1) (dk_at dk_L_law 733 rfl) (by decide) ?_
  refine G_iadd (dk_at dk_L_law 734 rfl) ?_
  obtain ⟨h0, h⟩ := h
  refine G_sld (dk_at dk_L_law 735 rfl) h0 ?_
  refine G_aload_n 3 (dk_at dk_L_law 736 rfl) rfl ?_
  refine G_callSX (As := [.ref v1, .int (xs X (v4 + 1).toNatClampNeg), .ref v3]) (rest := []) lk_L_174 (dk_at dk_L_law 737 rfl) rfl rfl (Nat.le_of_ble_eq_true rfl) (h.mono fun o4 A1 b2 c3 h => atfI h fun i5 h => ?_)
  refine G_istore (lv' := [(5, .int i5), (0, .ref (xb X)), (1, .ref v1), (2, .ref v2), (3, .ref v3), (4, .int v4)]) (dk_at dk_L_law 738 rfl) (by decide) rfl ?_
  refine G_aload_n 3 (dk_at dk_L_law 739 rfl) rfl ?_
  refine G_aload_n 1 (dk_at dk_L_law 740 rfl) rfl ?_
  refine G_iload 5 (dk_at dk_L_law 741 rfl) rfl ?_
  refine G_iconst (v := 1) (dk_at dk_L_law 742 rfl) (by decide) ?_
  refine G_iadd (dk_at dk_L_law 743 rfl) ?_
  obtain ⟨h0, h⟩ := h
  refine G_sld (dk_at dk_L_law 744 rfl) h0 ?_
  obtain ⟨⟨_, ho⟩, h⟩ := h
  refine G_callV (As := [.int (xs X (v4 + 1).toNatClampNeg)]) (rest := []) lk_L_176 rfl (dk_at dk_L_law 745 rfl) rfl rfl (Nat.le_of_ble_eq_true rfl) ho (h.mono fun o9 A6 b7 c8 h => aftI h fun i10 h => ?_)
  refine G_istore (lv' := [(6, .int i10), (5, .int i5), (0, .ref (xb X)), (1, .ref v1), (2, .ref v2), (3, .ref v3), (4, .int v4)]) (dk_at dk_L_law 746 rfl) (by decide) rfl ?_
  refine G_aload_n 4 (dk_at dk_L_law 747 rfl) rfl ?_
  obtain ⟨⟨_, ho⟩, h⟩ := h
  refine G_callV (As := []) (rest := []) lk_L_114 rfl (dk_at dk_L_law 748 rfl) rfl rfl (Nat.le_of_ble_eq_true rfl) ho (h.mono fun o14 A11 b12 c13 h => aftI h fun i15 h => ?_)
  refine G_iload 1 (dk_at dk_L_law 749 rfl) rfl ?_
  refine G_icmp_eq (tgt := 1313) (dk_at dk_L_law 750 rfl) (by decide) (fun c => ?_) (fun c => ?_)
  · replace h := h.1 c
    refine G_iload 1 (dk_at dk_L_law 753 rfl) rfl ?_
    refine G_if_ne (tgt := 1330) (dk_at dk_L_law 754 rfl) (by decide) (fun c => ?_) (fun c => ?_)
    · replace h := h.1 c
      refine G_goto (tgt := 2023) (dk_at dk_L_law 764 rfl) (by decide) ?_
      refine G_sub [2, 3, 4, 5, 6] rfl ?_
      exact h
    · replace h := h.2 c
      refine G_aload_n 5 (dk_at dk_L_law 755 rfl) rfl ?_
      refine G_iconst (v := 0) (dk_at dk_L_law 756 rfl) (by decide) ?_
      refine K_aL (dk_at dk_L_law 757 rfl) h (fun i16 h => ?_)
      refine G_iload 0 (dk_at dk_L_law 758 rfl) rfl ?_
      refine G_i2l (dk_at dk_L_law 759 rfl) rfl ?_
      refine G_lcmp (dk_at dk_L_law 760 rfl) ?_
      refine G_if_eq (tgt := 1330) (dk_at dk_L_law 761 rfl) (by decide) (fun c => ?_) (fun c => ?_)
      · replace h := h.1 c
        refine G_goto (tgt := 2023) (dk_at dk_L_law 764 rfl) (by decide) ?_
        refine G_sub [2, 3, 4, 5, 6] rfl ?_
        exact h
      · replace h := h.2 c
        refine G_iconst (v := 0) (dk_at dk_L_law 762 rfl) (by decide) ?_
        exact G_iret (ty := .boolean) rfl rfl (dk_at dk_L_law 763 rfl) h
  · replace h := h.2 c
    refine G_iconst (v := 0) (dk_at dk_L_law 751 rfl) (by decide) ?_
    exact G_iret (ty := .boolean) rfl rfl (dk_at dk_L_law 752 rfl) h
theorem k_L_law_1333 {l : Launch} {X : XT} {d : Nat} {Q : Ot → AH → Prop} {A : AH} {bc bs : Nat} {v1 : Nat} {v2 : Nat} {v3 : Nat} {v4 : Int32} (h : vp_in (v4 + 1) (xL X) ∧ Cal l X d bc bs M_L_named [.ref v1, .int (xs X (v4 + 1).toNatClampNeg), .ref v3] A fun o4 A1 b2 c3 => zI o4 fun i5 => vp_in (v4 + 1) (xL X) ∧ isO A1 v2 7 ∧ Cal l X d b2 c3 M_X6_named [.ref v2, .int (xs X (v4 + 1).toNatClampNeg)] A1 fun o9 A6 b7 c8 => rI o9 (fun E => Q (.inr E) A6) fun i10 => isO A6 v2 7 ∧ Cal l X d b7 c8 M_X6_thrown [.ref v2] A6 fun o14 A11 b12 c13 => rI o14 (fun E => Q (.inr E) A11) fun i15 => (i15 = i5 → (¬ i5 = 0 → G l X M_L_law d Q 2023 [(0, .ref (xb X)), (1, .ref v1), (2, .ref v2), (3, .ref v3), (4, .int v4)] [] A11 b12 c13) ∧ (i5 = 0 → aL X A11 v3 0 fun i16 => ((lg_cmp i16 (Int32.toInt64 i10)) = 0 → G l X M_L_law d Q 2023 [(0, .ref (xb X)), (1, .ref v1), (2, .ref v2), (3, .ref v3), (4, .int v4)] [] A11 b12 c13) ∧ (¬ (lg_cmp i16 (Int32.toInt64 i10)) = 0 → Q (Ri 0) A11))) ∧ (¬ i15 = i5 → Q (Ri 0) A11)) : G l X M_L_law d Q 1333 [(0, .ref (xb X)), (1, .ref v1), (2, .ref v2), (3, .ref v3), (4, .int v4)] [] A bc bs := by
  refine G_aload_n 1 (dk_at dk_L_law 765 rfl) rfl ?_
  refine G_aload_n 0 (dk_at dk_L_law 766 rfl) rfl ?_
  refine G_iload 4 (dk_at dk_L_law 767 rfl) rfl ?_
  refine G_iconst (v := 1) (dk_at dk_L_law 768 rfl) (by decide) ?_
  refine G_iadd (dk_at dk_L_law 769 rfl) ?_
  obtain ⟨h0, h⟩ := h
  refine G_sld (dk_at dk_L_law 770 rfl) h0 ?_
  refine G_aload_n 3 (dk_at dk_L_law 771 rfl) rfl ?_
  refine G_callSX (As := [.ref v1, .int (xs X (v4 + 1).toNatClampNeg), .ref v3]) (rest := []) lk_L_177 (dk_at dk_L_law 772 rfl) rfl rfl (Nat.le_of_ble_eq_true rfl) (h.mono fun o4 A1 b2 c3 h => atfI h fun i5 h => ?_)
  refine G_istore (lv' := [(5, .int i5), (0, .ref (xb X)), (1, .ref v1), (2, .ref v2), (3, .ref v3), (4, .int v4)]) (dk_at dk_L_law 773 rfl) (by decide) rfl ?_
  refine G_aload_n 3 (dk_at dk_L_law 774 rfl) rfl ?_
  refine G_aload_n 1 (dk_at dk_L_law 775 rfl) rfl ?_
  refine G_iload 5 (dk_at dk_L_law 776 rfl) rfl ?_
  refine G_iconst (v := 1) (dk_at dk_L_law 777 rfl) (by decide) ?_
  refine G_iadd (dk_at dk_L_law 778 rfl) ?_
  obtain ⟨h0, h⟩ := h
  refine G_sld (dk_at dk_L_law 779 rfl) h0 ?_
  obtain ⟨⟨_, ho⟩, h⟩ := h
  refine G_callV (As := [.int (xs X (v4 + 1).toNatClampNeg)]) (rest := []) lk_L_179 rfl (dk_at dk_L_law 780 rfl) rfl rfl (Nat.le_of_ble_eq_true rfl) ho (h.mono fun o9 A6 b7 c8 h => aftI h fun i10 h => ?_)
  refine G_istore (lv' := [(6, .int i10), (5, .int i5), (0, .ref (xb X)), (1, .ref v1), (2, .ref v2), (3, .ref v3), (4, .int v4)]) (dk_at dk_L_law 781 rfl) (by decide) rfl ?_
  refine G_aload_n 4 (dk_at dk_L_law 782 rfl) rfl ?_
  obtain ⟨⟨_, ho⟩, h⟩ := h
  refine G_callV (As := []) (rest := []) lk_L_114 rfl (dk_at dk_L_law 783 rfl) rfl rfl (Nat.le_of_ble_eq_true rfl) ho (h.mono fun o14 A11 b12 c13 h => aftI h fun i15 h => ?_)
  refine G_iload 1 (dk_at dk_L_law 784 rfl) rfl ?_
  refine G_icmp_eq (tgt := 1369) (dk_at dk_L_law 785 rfl) (by decide) (fun c => ?_) (fun c => ?_)
  · replace h := h.1 c
    refine G_iload 1 (dk_at dk_L_law 788 rfl) rfl ?_
    refine G_if_ne (tgt := 1386) (dk_at dk_L_law 789 rfl) (by decide) (fun c => ?_) (fun c => ?_)
    · replace h := h.1 c
      refine G_goto (tgt := 2023) (dk_at dk_L_law 799 rfl) (by decide) ?_
      refine G_sub [2, 3, 4, 5, 6] rfl ?_
      exact h
    · replace h := h.2 c
      refine G_aload_n 5 (dk_at dk_L_law 790 rfl) rfl ?_
      refine G_iconst (v := 0) (dk_at dk_L_law 791 rfl) (by decide) ?_
      refine K_aL (dk_at dk_L_law 792 rfl) h (fun i16 h => ?_)
      refine G_iload 0 (dk_at dk_L_law 793 rfl) rfl ?_
      refine G_i2l (dk_at dk_L_law 794 rfl) rfl ?_
      refine G_lcmp (dk_at dk_L_law 795 rfl) ?_
      refine G_if_eq (tgt := 1386) (dk_at dk_L_law 796 rfl) (by decide) (fun c => ?_) (fun c => ?_)
      · replace h := h.1 c
        refine G_goto (tgt := 2023) (dk_at dk_L_law 799 rfl) (by decide) ?_
        refine G_sub [2, 3, 4, 5, 6] rfl ?_
        exact h
      · replace h := h.2 c
        refine G_iconst (v := 0) (dk_at dk_L_law 797 rfl) (by decide) ?_
        exact G_iret (ty := .boolean) rfl rfl (dk_at dk_L_law 798 rfl) h
  · replace h := h.2 c
    refine G_iconst (v := 0) (dk_at dk_L_law 786 rfl) (by decide) ?_
    exact G_iret (ty := .boolean) rfl rfl (dk_at dk_L_law 787 rfl) h
theorem k_L_law_1389 {l : Launch} {X : XT} {d : Nat} {Q : Ot → AH → Prop} {A : AH} {bc bs : Nat} {v1 : Nat} {v2 : Nat} {v3 : Nat} {v4 : Int32} (h : vp_in (v4 + 1) (xL X) ∧ Cal l X d bc bs M_L_sized [.ref v1, .int (xs X (v4 + 1).toNatClampNeg), .ref v3] A fun o4 A1 b2 c3 => zI o4 fun i5 => vp_in (v4 + 1) (xL X) ∧ isO A1 v2 7 ∧ Cal l X d b2 c3 M_X6_sized [.ref v2, .int (xs X (v4 + 1).toNatClampNeg)] A1 fun o9 A6 b7 c8 => rI o9 (fun E => Q (.inr E) A6) fun i10 => isO A6 v2 7 ∧ Cal l X d b7 c8 M_X6_thrown [.ref v2] A6 fun o14 A11 b12 c13 => rI o14 (fun E => Q (.inr E) A11) fun i15 => (i15 = i5 → (¬ i5 = 0 → G l X M_L_law d Q 2023 [(0, .ref (xb X)), (1, .ref v1), (2, .ref v2), (3, .ref v3), (4, .int v4)] [] A11 b12 c13) ∧ (i5 = 0 → aL X A11 v3 0 fun i16 => ((lg_cmp i16 (Int32.toInt64 i10)) = 0 → G l X M_L_law d Q 2023 [(0, .ref (xb X)), (1, .ref v1), (2, .ref v2), (3, .ref v3), (4, .int v4)] [] A11 b12 c13) ∧ (¬ (lg_cmp i16 (Int32.toInt64 i10)) = 0 → Q (Ri 0) A11))) ∧ (¬ i15 = i5 → Q (Ri 0) A11)) : G l X M_L_law d Q 1389 [(0, .ref (xb X)), (1, .ref v1), (2, .ref v2), (3, .ref v3), (4, .int v4)] [] A bc bs := by
  refine G_aload_n 1 (dk_at dk_L_law 800 rfl) rfl ?_
  refine G_aload_n 0 (dk_at dk_L_law 801 rfl) rfl ?_
  refine G_iload 4 (dk_at dk_L_law 802 rfl) rfl ?_
  refine G_iconst (v := 1) (dk_at dk_L_law 803 rfl) (by decide) ?_
  refine G_iadd (dk_at dk_L_law 804 rfl) ?_
  obtain ⟨h0, h⟩ := h
  refine G_sld (dk_at dk_L_law 805 rfl) h0 ?_
  refine G_aload_n 3 (dk_at dk_L_law 806 rfl) rfl ?_
  refine G_callSX (As := [.ref v1, .int (xs X (v4 + 1).toNatClampNeg), .ref v3]) (rest := []) lk_L_180 (dk_at dk_L_law 807 rfl) rfl rfl (Nat.le_of_ble_eq_true rfl) (h.mono fun o4 A1 b2 c3 h => atfI h fun i5 h => ?_)
  refine G_istore (lv' := [(5, .int i5), (0, .ref (xb X)), (1, .ref v1), (2, .ref v2), (3, .ref v3), (4, .int v4)]) (dk_at dk_L_law 808 rfl) (by decide) rfl ?_
  refine G_aload_n 3 (dk_at dk_L_law 809 rfl) rfl ?_
  refine G_aload_n 1 (dk_at dk_L_law 810 rfl) rfl ?_
  refine G_iload 5 (dk_at dk_L_law 811 rfl) rfl ?_
  refine G_iconst (v := 1) (dk_at dk_L_law 812 rfl) (by decide) ?_
  refine G_iadd (dk_at dk_L_law 813 rfl) ?_
  obtain ⟨h0, h⟩ := h
  refine G_sld (dk_at dk_L_law 814 rfl) h0 ?_
  obtain ⟨⟨_, ho⟩, h⟩ := h
  refine G_callV (As := [.int (xs X (v4 + 1).toNatClampNeg)]) (rest := []) lk_L_182 rfl (dk_at dk_L_law 815 rfl) rfl rfl (Nat.le_of_ble_eq_true rfl) ho (h.mono fun o9 A6 b7 c8 h => aftI h fun i10 h => ?_)
  refine G_istore (lv' := [(6, .int i10), (5, .int i5), (0, .ref (xb X)), (1, .ref v1), (2, .ref v2), (3, .ref v3), (4, .int v4)]) (dk_at dk_L_law 816 rfl) (by decide) rfl ?_
  refine G_aload_n 4 (dk_at dk_L_law 817 rfl) rfl ?_
  obtain ⟨⟨_, ho⟩, h⟩ := h
  refine G_callV (As := []) (rest := []) lk_L_114 rfl (dk_at dk_L_law 818 rfl) rfl rfl (Nat.le_of_ble_eq_true rfl) ho (h.mono fun o14 A11 b12 c13 h => aftI h fun i15 h => ?_)
  refine G_iload 1 (dk_at dk_L_law 819 rfl) rfl ?_
  refine G_icmp_eq (tgt := 1425) (dk_at dk_L_law 820 rfl) (by decide) (fun c => ?_) (fun c => ?_)
  · replace h := h.1 c
    refine G_iload 1 (dk_at dk_L_law 823 rfl) rfl ?_
    refine G_if_ne (tgt := 1442) (dk_at dk_L_law 824 rfl) (by decide) (fun c => ?_) (fun c => ?_)
    · replace h := h.1 c
      refine G_goto (tgt := 2023) (dk_at dk_L_law 834 rfl) (by decide) ?_
      refine G_sub [2, 3, 4, 5, 6] rfl ?_
      exact h
    · replace h := h.2 c
      refine G_aload_n 5 (dk_at dk_L_law 825 rfl) rfl ?_
      refine G_iconst (v := 0) (dk_at dk_L_law 826 rfl) (by decide) ?_
      refine K_aL (dk_at dk_L_law 827 rfl) h (fun i16 h => ?_)
      refine G_iload 0 (dk_at dk_L_law 828 rfl) rfl ?_
      refine G_i2l (dk_at dk_L_law 829 rfl) rfl ?_
      refine G_lcmp (dk_at dk_L_law 830 rfl) ?_
      refine G_if_eq (tgt := 1442) (dk_at dk_L_law 831 rfl) (by decide) (fun c => ?_) (fun c => ?_)
      · replace h := h.1 c
        refine G_goto (tgt := 2023) (dk_at dk_L_law 834 rfl) (by decide) ?_
        refine G_sub [2, 3, 4, 5, 6] rfl ?_
        exact h
      · replace h := h.2 c
        refine G_iconst (v := 0) (dk_at dk_L_law 832 rfl) (by decide) ?_
        exact G_iret (ty := .boolean) rfl rfl (dk_at dk_L_law 833 rfl) h
  · replace h := h.2 c
    refine G_iconst (v := 0) (dk_at dk_L_law 821 rfl) (by decide) ?_
    exact G_iret (ty := .boolean) rfl rfl (dk_at dk_L_law 822 rfl) h
theorem k_L_law_1445 {l : Launch} {X : XT} {d : Nat} {Q : Ot → AH → Prop} {A : AH} {bc bs : Nat} {v1 : Nat} {v2 : Nat} {v3 : Nat} {v4 : Int32} (h : vp_in (v4 + 1) (xL X) ∧ vp_in (v4 + 2) (xL X) ∧ Cal l X d bc bs M_L_rename [.ref v1, .int (xs X (v4 + 1).toNatClampNeg), .int (xs X (v4 + 2).toNatClampNeg), .ref v3] A fun o4 A1 b2 c3 => zI o4 fun i5 => vp_in (v4 + 1) (xL X) ∧ vp_in (v4 + 2) (xL X) ∧ isO A1 v2 7 ∧ Cal l X d b2 c3 M_X6_rename [.ref v2, .int (xs X (v4 + 1).toNatClampNeg), .int (xs X (v4 + 2).toNatClampNeg)] A1 fun o9 A6 b7 c8 => rI o9 (fun E => Q (.inr E) A6) fun i10 => isO A6 v2 7 ∧ Cal l X d b7 c8 M_X6_thrown [.ref v2] A6 fun o14 A11 b12 c13 => rI o14 (fun E => Q (.inr E) A11) fun i15 => (i15 = i5 → (¬ i5 = 0 → G l X M_L_law d Q 2023 [(0, .ref (xb X)), (1, .ref v1), (2, .ref v2), (3, .ref v3), (4, .int v4)] [] A11 b12 c13) ∧ (i5 = 0 → aL X A11 v3 0 fun i16 => ((lg_cmp i16 (Int32.toInt64 i10)) = 0 → G l X M_L_law d Q 2023 [(0, .ref (xb X)), (1, .ref v1), (2, .ref v2), (3, .ref v3), (4, .int v4)] [] A11 b12 c13) ∧ (¬ (lg_cmp i16 (Int32.toInt64 i10)) = 0 → Q (Ri 0) A11))) ∧ (¬ i15 = i5 → Q (Ri 0) A11)) : G l X M_L_law d Q 1445 [(0, .ref (xb X)), (1, .ref v1), (2, .ref v2), (3, .ref v3), (4, .int v4)] [] A bc bs := by
  refine G_aload_n 1 (dk_at dk_L_law 835 rfl) rfl ?_
  refine G_aload_n 0 (dk_at dk_L_law 836 rfl) rfl ?_
  refine G_iload 4 (dk_at dk_L_law 837 rfl) rfl ?_
  refine G_iconst (v := 1) (dk_at dk_L_law 838 rfl) (by decide) ?_
  refine G_iadd (dk_at dk_L_law 839 rfl) ?_
  obtain ⟨h0, h⟩ := h
  refine G_sld (dk_at dk_L_law 840 rfl) h0 ?_
  refine G_aload_n 0 (dk_at dk_L_law 841 rfl) rfl ?_
  refine G_iload 4 (dk_at dk_L_law 842 rfl) rfl ?_
  refine G_iconst (v := 2) (dk_at dk_L_law 843 rfl) (by decide) ?_
  refine G_iadd (dk_at dk_L_law 844 rfl) ?_
  obtain ⟨h0, h⟩ := h
  refine G_sld (dk_at dk_L_law 845 rfl) h0 ?_
  refine G_aload_n 3 (dk_at dk_L_law 846 rfl) rfl ?_
  refine G_callSX (As := [.ref v1, .int (xs X (v4 + 1).toNatClampNeg), .int (xs X (v4 + 2).toNatClampNeg), .ref v3]) (rest := []) lk_L_183 (dk_at dk_L_law 847 rfl) rfl rfl (Nat.le_of_ble_eq_true rfl) (h.mono fun o4 A1 b2 c3 h => atfI h fun i5 h => ?_)
  refine G_istore (lv' := [(5, .int i5), (0, .ref (xb X)), (1, .ref v1), (2, .ref v2), (3, .ref v3), (4, .int v4)]) (dk_at dk_L_law 848 rfl) (by decide) rfl ?_
  refine G_aload_n 3 (dk_at dk_L_law 849 rfl) rfl ?_
  refine G_aload_n 1 (dk_at dk_L_law 850 rfl) rfl ?_
  refine G_iload 5 (dk_at dk_L_law 851 rfl) rfl ?_
  refine G_iconst (v := 1) (dk_at dk_L_law 852 rfl) (by decide) ?_
  refine G_iadd (dk_at dk_L_law 853 rfl) ?_
  obtain ⟨h0, h⟩ := h
  refine G_sld (dk_at dk_L_law 854 rfl) h0 ?_
  refine G_aload_n 1 (dk_at dk_L_law 855 rfl) rfl ?_
  refine G_iload 5 (dk_at dk_L_law 856 rfl) rfl ?_
  refine G_iconst (v := 2) (dk_at dk_L_law 857 rfl) (by decide) ?_
  refine G_iadd (dk_at dk_L_law 858 rfl) ?_
  obtain ⟨h0, h⟩ := h
  refine G_sld (dk_at dk_L_law 859 rfl) h0 ?_
  obtain ⟨⟨_, ho⟩, h⟩ := h
  refine G_callV (As := [.int (xs X (v4 + 1).toNatClampNeg), .int (xs X (v4 + 2).toNatClampNeg)]) (rest := []) lk_L_185 rfl (dk_at dk_L_law 860 rfl) rfl rfl (Nat.le_of_ble_eq_true rfl) ho (h.mono fun o9 A6 b7 c8 h => aftI h fun i10 h => ?_)
  refine G_istore (lv' := [(6, .int i10), (5, .int i5), (0, .ref (xb X)), (1, .ref v1), (2, .ref v2), (3, .ref v3), (4, .int v4)]) (dk_at dk_L_law 861 rfl) (by decide) rfl ?_
  refine G_aload_n 4 (dk_at dk_L_law 862 rfl) rfl ?_
  obtain ⟨⟨_, ho⟩, h⟩ := h
  refine G_callV (As := []) (rest := []) lk_L_114 rfl (dk_at dk_L_law 863 rfl) rfl rfl (Nat.le_of_ble_eq_true rfl) ho (h.mono fun o14 A11 b12 c13 h => aftI h fun i15 h => ?_)
  refine G_iload 1 (dk_at dk_L_law 864 rfl) rfl ?_
  refine G_icmp_eq (tgt := 1493) (dk_at dk_L_law 865 rfl) (by decide) (fun c => ?_) (fun c => ?_)
  · replace h := h.1 c
    refine G_iload 1 (dk_at dk_L_law 868 rfl) rfl ?_
    refine G_if_ne (tgt := 1510) (dk_at dk_L_law 869 rfl) (by decide) (fun c => ?_) (fun c => ?_)
    · replace h := h.1 c
      refine G_goto (tgt := 2023) (dk_at dk_L_law 879 rfl) (by decide) ?_
      refine G_sub [2, 3, 4, 5, 6] rfl ?_
      exact h
    · replace h := h.2 c
      refine G_aload_n 5 (dk_at dk_L_law 870 rfl) rfl ?_
      refine G_iconst (v := 0) (dk_at dk_L_law 871 rfl) (by decide) ?_
      refine K_aL (dk_at dk_L_law 872 rfl) h (fun i16 h => ?_)
      refine G_iload 0 (dk_at dk_L_law 873 rfl) rfl ?_
      refine G_i2l (dk_at dk_L_law 874 rfl) rfl ?_
      refine G_lcmp (dk_at dk_L_law 875 rfl) ?_
      refine G_if_eq (tgt := 1510) (dk_at dk_L_law 876 rfl) (by decide) (fun c => ?_) (fun c => ?_)
      · replace h := h.1 c
        refine G_goto (tgt := 2023) (dk_at dk_L_law 879 rfl) (by decide) ?_
        refine G_sub [2, 3, 4, 5, 6] rfl ?_
        exact h
      · replace h := h.2 c
        refine G_iconst (v := 0) (dk_at dk_L_law 877 rfl) (by decide) ?_
        exact G_iret (ty := .boolean) rfl rfl (dk_at dk_L_law 878 rfl) h
  · replace h := h.2 c
    refine G_iconst (v := 0) (dk_at dk_L_law 866 rfl) (by decide) ?_
    exact G_iret (ty := .boolean) rfl rfl (dk_at dk_L_law 867 rfl) h
theorem k_L_law_1513 {l : Launch} {X : XT} {d : Nat} {Q : Ot → AH → Prop} {A : AH} {bc bs : Nat} {v1 : Nat} {v2 : Nat} {v3 : Nat} {v4 : Int32} (h : vp_in (v4 + 1) (xL X) ∧ vp_in (v4 + 2) (xL X) ∧ vp_in (v4 + 3) (xL X) ∧ Cal l X d bc bs M_L_spoil [.ref v1, .int (xs X (v4 + 1).toNatClampNeg), .int (xs X (v4 + 2).toNatClampNeg), .int (xs X (v4 + 3).toNatClampNeg), .ref v3] A fun o4 A1 b2 c3 => zI o4 fun i5 => vp_in (v4 + 1) (xL X) ∧ vp_in (v4 + 2) (xL X) ∧ vp_in (v4 + 3) (xL X) ∧ isO A1 v2 7 ∧ Cal l X d b2 c3 M_X6_spoil [.ref v2, .int (xs X (v4 + 1).toNatClampNeg), .int (xs X (v4 + 2).toNatClampNeg), .int (xs X (v4 + 3).toNatClampNeg)] A1 fun o9 A6 b7 c8 => rI o9 (fun E => Q (.inr E) A6) fun i10 => isO A6 v2 7 ∧ Cal l X d b7 c8 M_X6_thrown [.ref v2] A6 fun o14 A11 b12 c13 => rI o14 (fun E => Q (.inr E) A11) fun i15 => (i15 = i5 → (¬ i5 = 0 → G l X M_L_law d Q 2023 [(0, .ref (xb X)), (1, .ref v1), (2, .ref v2), (3, .ref v3), (4, .int v4)] [] A11 b12 c13) ∧ (i5 = 0 → aL X A11 v3 0 fun i16 => ((lg_cmp i16 (Int32.toInt64 i10)) = 0 → G l X M_L_law d Q 2023 [(0, .ref (xb X)), (1, .ref v1), (2, .ref v2), (3, .ref v3), (4, .int v4)] [] A11 b12 c13) ∧ (¬ (lg_cmp i16 (Int32.toInt64 i10)) = 0 → Q (Ri 0) A11))) ∧ (¬ i15 = i5 → Q (Ri 0) A11)) : G l X M_L_law d Q 1513 [(0, .ref (xb X)), (1, .ref v1), (2, .ref v2), (3, .ref v3), (4, .int v4)] [] A bc bs := by
  refine G_aload_n 1 (dk_at dk_L_law 880 rfl) rfl ?_
  refine G_aload_n 0 (dk_at dk_L_law 881 rfl) rfl ?_
  refine G_iload 4 (dk_at dk_L_law 882 rfl) rfl ?_
  refine G_iconst (v := 1) (dk_at dk_L_law 883 rfl) (by decide) ?_
  refine G_iadd (dk_at dk_L_law 884 rfl) ?_
  obtain ⟨h0, h⟩ := h
  refine G_sld (dk_at dk_L_law 885 rfl) h0 ?_
  refine G_aload_n 0 (dk_at dk_L_law 886 rfl) rfl ?_
  refine G_iload 4 (dk_at dk_L_law 887 rfl) rfl ?_
  refine G_iconst (v := 2) (dk_at dk_L_law 888 rfl) (by decide) ?_
  refine G_iadd (dk_at dk_L_law 889 rfl) ?_
  obtain ⟨h0, h⟩ := h
  refine G_sld (dk_at dk_L_law 890 rfl) h0 ?_
  refine G_aload_n 0 (dk_at dk_L_law 891 rfl) rfl ?_
  refine G_iload 4 (dk_at dk_L_law 892 rfl) rfl ?_
  refine G_iconst (v := 3) (dk_at dk_L_law 893 rfl) (by decide) ?_
  refine G_iadd (dk_at dk_L_law 894 rfl) ?_
  obtain ⟨h0, h⟩ := h
  refine G_sld (dk_at dk_L_law 895 rfl) h0 ?_
  refine G_aload_n 3 (dk_at dk_L_law 896 rfl) rfl ?_
  refine G_callSX (As := [.ref v1, .int (xs X (v4 + 1).toNatClampNeg), .int (xs X (v4 + 2).toNatClampNeg), .int (xs X (v4 + 3).toNatClampNeg), .ref v3]) (rest := []) lk_L_186 (dk_at dk_L_law 897 rfl) rfl rfl (Nat.le_of_ble_eq_true rfl) (h.mono fun o4 A1 b2 c3 h => atfI h fun i5 h => ?_)
  refine G_istore (lv' := [(5, .int i5), (0, .ref (xb X)), (1, .ref v1), (2, .ref v2), (3, .ref v3), (4, .int v4)]) (dk_at dk_L_law 898 rfl) (by decide) rfl ?_
  refine G_aload_n 3 (dk_at dk_L_law 899 rfl) rfl ?_
  refine G_aload_n 1 (dk_at dk_L_law 900 rfl) rfl ?_
  refine G_iload 5 (dk_at dk_L_law 901 rfl) rfl ?_
  refine G_iconst (v := 1) (dk_at dk_L_law 902 rfl) (by decide) ?_
  refine G_iadd (dk_at dk_L_law 903 rfl) ?_
  obtain ⟨h0, h⟩ := h
  refine G_sld (dk_at dk_L_law 904 rfl) h0 ?_
  refine G_aload_n 1 (dk_at dk_L_law 905 rfl) rfl ?_
  refine G_iload 5 (dk_at dk_L_law 906 rfl) rfl ?_
  refine G_iconst (v := 2) (dk_at dk_L_law 907 rfl) (by decide) ?_
  refine G_iadd (dk_at dk_L_law 908 rfl) ?_
  obtain ⟨h0, h⟩ := h
  refine G_sld (dk_at dk_L_law 909 rfl) h0 ?_
  refine G_aload_n 1 (dk_at dk_L_law 910 rfl) rfl ?_
  refine G_iload 5 (dk_at dk_L_law 911 rfl) rfl ?_
  refine G_iconst (v := 3) (dk_at dk_L_law 912 rfl) (by decide) ?_
  refine G_iadd (dk_at dk_L_law 913 rfl) ?_
  obtain ⟨h0, h⟩ := h
  refine G_sld (dk_at dk_L_law 914 rfl) h0 ?_
  obtain ⟨⟨_, ho⟩, h⟩ := h
  refine G_callV (As := [.int (xs X (v4 + 1).toNatClampNeg), .int (xs X (v4 + 2).toNatClampNeg), .int (xs X (v4 + 3).toNatClampNeg)]) (rest := []) lk_L_188 rfl (dk_at dk_L_law 915 rfl) rfl rfl (Nat.le_of_ble_eq_true rfl) ho (h.mono fun o9 A6 b7 c8 h => aftI h fun i10 h => ?_)
  refine G_istore (lv' := [(6, .int i10), (5, .int i5), (0, .ref (xb X)), (1, .ref v1), (2, .ref v2), (3, .ref v3), (4, .int v4)]) (dk_at dk_L_law 916 rfl) (by decide) rfl ?_
  refine G_aload_n 4 (dk_at dk_L_law 917 rfl) rfl ?_
  obtain ⟨⟨_, ho⟩, h⟩ := h
  refine G_callV (As := []) (rest := []) lk_L_114 rfl (dk_at dk_L_law 918 rfl) rfl rfl (Nat.le_of_ble_eq_true rfl) ho (h.mono fun o14 A11 b12 c13 h => aftI h fun i15 h => ?_)
  refine G_iload 1 (dk_at dk_L_law 919 rfl) rfl ?_
  refine G_icmp_eq (tgt := 1573) (dk_at dk_L_law 920 rfl) (by decide) (fun c => ?_) (fun c => ?_)
  · replace h := h.1 c
    refine G_iload 1 (dk_at dk_L_law 923 rfl) rfl ?_
    refine G_if_ne (tgt := 1590) (dk_at dk_L_law 924 rfl) (by decide) (fun c => ?_) (fun c => ?_)
    · replace h := h.1 c
      refine G_goto (tgt := 2023) (dk_at dk_L_law 934 rfl) (by decide) ?_
      refine G_sub [2, 3, 4, 5, 6] rfl ?_
      exact h
    · replace h := h.2 c
      refine G_aload_n 5 (dk_at dk_L_law 925 rfl) rfl ?_
      refine G_iconst (v := 0) (dk_at dk_L_law 926 rfl) (by decide) ?_
      refine K_aL (dk_at dk_L_law 927 rfl) h (fun i16 h => ?_)
      refine G_iload 0 (dk_at dk_L_law 928 rfl) rfl ?_
      refine G_i2l (dk_at dk_L_law 929 rfl) rfl ?_
      refine G_lcmp (dk_at dk_L_law 930 rfl) ?_
      refine G_if_eq (tgt := 1590) (dk_at dk_L_law 931 rfl) (by decide) (fun c => ?_) (fun c => ?_)
      · replace h := h.1 c
        refine G_goto (tgt := 2023) (dk_at dk_L_law 934 rfl) (by decide) ?_
        refine G_sub [2, 3, 4, 5, 6] rfl ?_
        exact h
      · replace h := h.2 c
        refine G_iconst (v := 0) (dk_at dk_L_law 932 rfl) (by decide) ?_
        exact G_iret (ty := .boolean) rfl rfl (dk_at dk_L_law 933 rfl) h
  · replace h := h.2 c
    refine G_iconst (v := 0) (dk_at dk_L_law 921 rfl) (by decide) ?_
    exact G_iret (ty := .boolean) rfl rfl (dk_at dk_L_law 922 rfl) h
theorem k_L_law_1593 {l : Launch} {X : XT} {d : Nat} {Q : Ot → AH → Prop} {A : AH} {bc bs : Nat} {v1 : Nat} {v2 : Nat} {v3 : Nat} {v4 : Int32} (h : vp_in (v4 + 1) (xL X) ∧ Cal l X d bc bs M_L_discard [.ref v1, .int (xs X (v4 + 1).toNatClampNeg), .ref v3] A fun o4 A1 b2 c3 => zI o4 fun i5 => vp_in (v4 + 1) (xL X) ∧ isO A1 v2 7 ∧ Cal l X d b2 c3 M_X6_discard [.ref v2, .int (xs X (v4 + 1).toNatClampNeg)] A1 fun o9 A6 b7 c8 => rI o9 (fun E => Q (.inr E) A6) fun i10 => isO A6 v2 7 ∧ Cal l X d b7 c8 M_X6_thrown [.ref v2] A6 fun o14 A11 b12 c13 => rI o14 (fun E => Q (.inr E) A11) fun i15 => (i15 = i5 → (¬ i5 = 0 → G l X M_L_law d Q 2023 [(0, .ref (xb X)), (1, .ref v1), (2, .ref v2), (3, .ref v3), (4, .int v4)] [] A11 b12 c13) ∧ (i5 = 0 → aL X A11 v3 0 fun i16 => ((lg_cmp i16 (Int32.toInt64 i10)) = 0 → G l X M_L_law d Q 2023 [(0, .ref (xb X)), (1, .ref v1), (2, .ref v2), (3, .ref v3), (4, .int v4)] [] A11 b12 c13) ∧ (¬ (lg_cmp i16 (Int32.toInt64 i10)) = 0 → Q (Ri 0) A11))) ∧ (¬ i15 = i5 → Q (Ri 0) A11)) : G l X M_L_law d Q 1593 [(0, .ref (xb X)), (1, .ref v1), (2, .ref v2), (3, .ref v3), (4, .int v4)] [] A bc bs := by
  refine G_aload_n 1 (dk_at dk_L_law 935 rfl) rfl ?_
  refine G_aload_n 0 (dk_at dk_L_law 936 rfl) rfl ?_
  refine G_iload 4 (dk_at dk_L_law 937 rfl) rfl ?_
  refine G_iconst (v := 1) (dk_at dk_L_law 938 rfl) (by decide) ?_
  refine G_iadd (dk_at dk_L_law 939 rfl) ?_
  obtain ⟨h0, h⟩ := h
  refine G_sld (dk_at dk_L_law 940 rfl) h0 ?_
  refine G_aload_n 3 (dk_at dk_L_law 941 rfl) rfl ?_
  refine G_callSX (As := [.ref v1, .int (xs X (v4 + 1).toNatClampNeg), .ref v3]) (rest := []) lk_L_189 (dk_at dk_L_law 942 rfl) rfl rfl (Nat.le_of_ble_eq_true rfl) (h.mono fun o4 A1 b2 c3 h => atfI h fun i5 h => ?_)
  refine G_istore (lv' := [(5, .int i5), (0, .ref (xb X)), (1, .ref v1), (2, .ref v2), (3, .ref v3), (4, .int v4)]) (dk_at dk_L_law 943 rfl) (by decide) rfl ?_
  refine G_aload_n 3 (dk_at dk_L_law 944 rfl) rfl ?_
  refine G_aload_n 1 (dk_at dk_L_law 945 rfl) rfl ?_
  refine G_iload 5 (dk_at dk_L_law 946 rfl) rfl ?_
  refine G_iconst (v := 1) (dk_at dk_L_law 947 rfl) (by decide) ?_
  refine G_iadd (dk_at dk_L_law 948 rfl) ?_
  obtain ⟨h0, h⟩ := h
  refine G_sld (dk_at dk_L_law 949 rfl) h0 ?_
  obtain ⟨⟨_, ho⟩, h⟩ := h
  refine G_callV (As := [.int (xs X (v4 + 1).toNatClampNeg)]) (rest := []) lk_L_191 rfl (dk_at dk_L_law 950 rfl) rfl rfl (Nat.le_of_ble_eq_true rfl) ho (h.mono fun o9 A6 b7 c8 h => aftI h fun i10 h => ?_)
  refine G_istore (lv' := [(6, .int i10), (5, .int i5), (0, .ref (xb X)), (1, .ref v1), (2, .ref v2), (3, .ref v3), (4, .int v4)]) (dk_at dk_L_law 951 rfl) (by decide) rfl ?_
  refine G_aload_n 4 (dk_at dk_L_law 952 rfl) rfl ?_
  obtain ⟨⟨_, ho⟩, h⟩ := h
  refine G_callV (As := []) (rest := []) lk_L_114 rfl (dk_at dk_L_law 953 rfl) rfl rfl (Nat.le_of_ble_eq_true rfl) ho (h.mono fun o14 A11 b12 c13 h => aftI h fun i15 h => ?_)
  refine G_iload 1 (dk_at dk_L_law 954 rfl) rfl ?_
  refine G_icmp_eq (tgt := 1629) (dk_at dk_L_law 955 rfl) (by decide) (fun c => ?_) (fun c => ?_)
  · replace h := h.1 c
    refine G_iload 1 (dk_at dk_L_law 958 rfl) rfl ?_
    refine G_if_ne (tgt := 1646) (dk_at dk_L_law 959 rfl) (by decide) (fun c => ?_) (fun c => ?_)
    · replace h := h.1 c
      refine G_goto (tgt := 2023) (dk_at dk_L_law 969 rfl) (by decide) ?_
      refine G_sub [2, 3, 4, 5, 6] rfl ?_
      exact h
    · replace h := h.2 c
      refine G_aload_n 5 (dk_at dk_L_law 960 rfl) rfl ?_
      refine G_iconst (v := 0) (dk_at dk_L_law 961 rfl) (by decide) ?_
      refine K_aL (dk_at dk_L_law 962 rfl) h (fun i16 h => ?_)
      refine G_iload 0 (dk_at dk_L_law 963 rfl) rfl ?_
      refine G_i2l (dk_at dk_L_law 964 rfl) rfl ?_
      refine G_lcmp (dk_at dk_L_law 965 rfl) ?_
      refine G_if_eq (tgt := 1646) (dk_at dk_L_law 966 rfl) (by decide) (fun c => ?_) (fun c => ?_)
      · replace h := h.1 c
        refine G_goto (tgt := 2023) (dk_at dk_L_law 969 rfl) (by decide) ?_
        refine G_sub [2, 3, 4, 5, 6] rfl ?_
        exact h
      · replace h := h.2 c
        refine G_iconst (v := 0) (dk_at dk_L_law 967 rfl) (by decide) ?_
        exact G_iret (ty := .boolean) rfl rfl (dk_at dk_L_law 968 rfl) h
  · replace h := h.2 c
    refine G_iconst (v := 0) (dk_at dk_L_law 956 rfl) (by decide) ?_
    exact G_iret (ty := .boolean) rfl rfl (dk_at dk_L_law 957 rfl) h
theorem k_L_law_1649 {l : Launch} {X : XT} {d : Nat} {Q : Ot → AH → Prop} {A : AH} {bc bs : Nat} {v1 : Nat} {v2 : Nat} {v3 : Nat} {v4 : Int32} (h : vp_in (v4 + 1) (xL X) ∧ vp_in (v4 + 2) (xL X) ∧ Cal l X d bc bs M_L_partial [.ref v1, .int (xs X (v4 + 1).toNatClampNeg), .int (xs X (v4 + 2).toNatClampNeg), .ref v3] A fun o4 A1 b2 c3 => zI o4 fun i5 => vp_in (v4 + 1) (xL X) ∧ vp_in (v4 + 2) (xL X) ∧ isO A1 v2 7 ∧ Cal l X d b2 c3 M_X6_partial [.ref v2, .int (xs X (v4 + 1).toNatClampNeg), .int (xs X (v4 + 2).toNatClampNeg)] A1 fun o9 A6 b7 c8 => rI o9 (fun E => Q (.inr E) A6) fun i10 => isO A6 v2 7 ∧ Cal l X d b7 c8 M_X6_thrown [.ref v2] A6 fun o14 A11 b12 c13 => rI o14 (fun E => Q (.inr E) A11) fun i15 => (i15 = i5 → (¬ i5 = 0 → G l X M_L_law d Q 2023 [(0, .ref (xb X)), (1, .ref v1), (2, .ref v2), (3, .ref v3), (4, .int v4)] [] A11 b12 c13) ∧ (i5 = 0 → aL X A11 v3 0 fun i16 => ((lg_cmp i16 (Int32.toInt64 i10)) = 0 → G l X M_L_law d Q 2023 [(0, .ref (xb X)), (1, .ref v1), (2, .ref v2), (3, .ref v3), (4, .int v4)] [] A11 b12 c13) ∧ (¬ (lg_cmp i16 (Int32.toInt64 i10)) = 0 → Q (Ri 0) A11))) ∧ (¬ i15 = i5 → Q (Ri 0) A11)) : G l X M_L_law d Q 1649 [(0, .ref (xb X)), (1, .ref v1), (2, .ref v2), (3, .ref v3), (4, .int v4)] [] A bc bs := by
  refine G_aload_n 1 (dk_at dk_L_law 970 rfl) rfl ?_
  refine G_aload_n 0 (dk_at dk_L_law 971 rfl) rfl ?_
  refine G_iload 4 (dk_at dk_L_law 972 rfl) rfl ?_
  refine G_iconst (v := 1) (dk_at dk_L_law 973 rfl) (by decide) ?_
  refine G_iadd (dk_at dk_L_law 974 rfl) ?_
  obtain ⟨h0, h⟩ := h
  refine G_sld (dk_at dk_L_law 975 rfl) h0 ?_
  refine G_aload_n 0 (dk_at dk_L_law 976 rfl) rfl ?_
  refine G_iload 4 (dk_at dk_L_law 977 rfl) rfl ?_
  refine G_iconst (v := 2) (dk_at dk_L_law 978 rfl) (by decide) ?_
  refine G_iadd (dk_at dk_L_law 979 rfl) ?_
  obtain ⟨h0, h⟩ := h
  refine G_sld (dk_at dk_L_law 980 rfl) h0 ?_
  refine G_aload_n 3 (dk_at dk_L_law 981 rfl) rfl ?_
  refine G_callSX (As := [.ref v1, .int (xs X (v4 + 1).toNatClampNeg), .int (xs X (v4 + 2).toNatClampNeg), .ref v3]) (rest := []) lk_L_192 (dk_at dk_L_law 982 rfl) rfl rfl (Nat.le_of_ble_eq_true rfl) (h.mono fun o4 A1 b2 c3 h => atfI h fun i5 h => ?_)
  refine G_istore (lv' := [(5, .int i5), (0, .ref (xb X)), (1, .ref v1), (2, .ref v2), (3, .ref v3), (4, .int v4)]) (dk_at dk_L_law 983 rfl) (by decide) rfl ?_
  refine G_aload_n 3 (dk_at dk_L_law 984 rfl) rfl ?_
  refine G_aload_n 1 (dk_at dk_L_law 985 rfl) rfl ?_
  refine G_iload 5 (dk_at dk_L_law 986 rfl) rfl ?_
  refine G_iconst (v := 1) (dk_at dk_L_law 987 rfl) (by decide) ?_
  refine G_iadd (dk_at dk_L_law 988 rfl) ?_
  obtain ⟨h0, h⟩ := h
  refine G_sld (dk_at dk_L_law 989 rfl) h0 ?_
  refine G_aload_n 1 (dk_at dk_L_law 990 rfl) rfl ?_
  refine G_iload 5 (dk_at dk_L_law 991 rfl) rfl ?_
  refine G_iconst (v := 2) (dk_at dk_L_law 992 rfl) (by decide) ?_
  refine G_iadd (dk_at dk_L_law 993 rfl) ?_
  obtain ⟨h0, h⟩ := h
  refine G_sld (dk_at dk_L_law 994 rfl) h0 ?_
  obtain ⟨⟨_, ho⟩, h⟩ := h
  refine G_callV (As := [.int (xs X (v4 + 1).toNatClampNeg), .int (xs X (v4 + 2).toNatClampNeg)]) (rest := []) lk_L_194 rfl (dk_at dk_L_law 995 rfl) rfl rfl (Nat.le_of_ble_eq_true rfl) ho (h.mono fun o9 A6 b7 c8 h => aftI h fun i10 h => ?_)
  refine G_istore (lv' := [(6, .int i10), (5, .int i5), (0, .ref (xb X)), (1, .ref v1), (2, .ref v2), (3, .ref v3), (4, .int v4)]) (dk_at dk_L_law 996 rfl) (by decide) rfl ?_
  refine G_aload_n 4 (dk_at dk_L_law 997 rfl) rfl ?_
  obtain ⟨⟨_, ho⟩, h⟩ := h
  refine G_callV (As := []) (rest := []) lk_L_114 rfl (dk_at dk_L_law 998 rfl) rfl rfl (Nat.le_of_ble_eq_true rfl) ho (h.mono fun o14 A11 b12 c13 h => aftI h fun i15 h => ?_)
  refine G_iload 1 (dk_at dk_L_law 999 rfl) rfl ?_
  refine G_icmp_eq (tgt := 1697) (dk_at dk_L_law 1000 rfl) (by decide) (fun c => ?_) (fun c => ?_)
  · replace h := h.1 c
    refine G_iload 1 (dk_at dk_L_law 1003 rfl) rfl ?_
    refine G_if_ne (tgt := 1714) (dk_at dk_L_law 1004 rfl) (by decide) (fun c => ?_) (fun c => ?_)
    · replace h := h.1 c
      refine G_goto (tgt := 2023) (dk_at dk_L_law 1014 rfl) (by decide) ?_
      refine G_sub [2, 3, 4, 5, 6] rfl ?_
      exact h
    · replace h := h.2 c
      refine G_aload_n 5 (dk_at dk_L_law 1005 rfl) rfl ?_
      refine G_iconst (v := 0) (dk_at dk_L_law 1006 rfl) (by decide) ?_
      refine K_aL (dk_at dk_L_law 1007 rfl) h (fun i16 h => ?_)
      refine G_iload 0 (dk_at dk_L_law 1008 rfl) rfl ?_
      refine G_i2l (dk_at dk_L_law 1009 rfl) rfl ?_
      refine G_lcmp (dk_at dk_L_law 1010 rfl) ?_
      refine G_if_eq (tgt := 1714) (dk_at dk_L_law 1011 rfl) (by decide) (fun c => ?_) (fun c => ?_)
      · replace h := h.1 c
        refine G_goto (tgt := 2023) (dk_at dk_L_law 1014 rfl) (by decide) ?_
        refine G_sub [2, 3, 4, 5, 6] rfl ?_
        exact h
      · replace h := h.2 c
        refine G_iconst (v := 0) (dk_at dk_L_law 1012 rfl) (by decide) ?_
        exact G_iret (ty := .boolean) rfl rfl (dk_at dk_L_law 1013 rfl) h
  · replace h := h.2 c
    refine G_iconst (v := 0) (dk_at dk_L_law 1001 rfl) (by decide) ?_
    exact G_iret (ty := .boolean) rfl rfl (dk_at dk_L_law 1002 rfl) h
theorem k_L_law_1717 {l : Launch} {X : XT} {d : Nat} {Q : Ot → AH → Prop} {A : AH} {bc bs : Nat} {v1 : Nat} {v2 : Nat} {v3 : Nat} {v4 : Int32} (h : isO A v1 6 ∧ Cal l X d bc bs M_X5_wrongBytes [.ref v1] A fun o4 A1 b2 c3 => rI o4 (fun E => Q (.inr E) A1) fun i5 => isO A1 v2 7 ∧ Cal l X d b2 c3 M_X6_wrongBytes [.ref v2] A1 fun o9 A6 b7 c8 => rI o9 (fun E => Q (.inr E) A6) fun i10 => (i5 = i10 → G l X M_L_law d Q 2023 [(0, .ref (xb X)), (1, .ref v1), (2, .ref v2), (3, .ref v3), (4, .int v4)] [] A6 b7 c8) ∧ (¬ i5 = i10 → Q (Ri 0) A6)) : G l X M_L_law d Q 1717 [(0, .ref (xb X)), (1, .ref v1), (2, .ref v2), (3, .ref v3), (4, .int v4)] [] A bc bs := by
  refine G_aload_n 1 (dk_at dk_L_law 1015 rfl) rfl ?_
  obtain ⟨⟨_, ho⟩, h⟩ := h
  refine G_callV (As := []) (rest := []) lk_L_195 rfl (dk_at dk_L_law 1016 rfl) rfl rfl (Nat.le_of_ble_eq_true rfl) ho (h.mono fun o4 A1 b2 c3 h => aftI h fun i5 h => ?_)
  refine G_aload_n 2 (dk_at dk_L_law 1017 rfl) rfl ?_
  obtain ⟨⟨_, ho⟩, h⟩ := h
  refine G_callV (As := []) (rest := [.int i5]) lk_L_198 rfl (dk_at dk_L_law 1018 rfl) rfl rfl (Nat.le_of_ble_eq_true rfl) ho (h.mono fun o9 A6 b7 c8 h => aftI h fun i10 h => ?_)
  refine G_icmp_eq (tgt := 2023) (dk_at dk_L_law 1019 rfl) (by decide) (fun c => ?_) (fun c => ?_)
  · replace h := h.1 c
    exact h
  · replace h := h.2 c
    refine G_iconst (v := 0) (dk_at dk_L_law 1020 rfl) (by decide) ?_
    exact G_iret (ty := .boolean) rfl rfl (dk_at dk_L_law 1021 rfl) h
theorem k_L_law_1730 {l : Launch} {X : XT} {d : Nat} {Q : Ot → AH → Prop} {A : AH} {bc bs : Nat} {v1 : Nat} {v2 : Nat} {v3 : Nat} {v4 : Int32} (h : isO A v1 6 ∧ Cal l X d bc bs M_X5_differingParts [.ref v1] A fun o4 A1 b2 c3 => rI o4 (fun E => Q (.inr E) A1) fun i5 => isO A1 v2 7 ∧ Cal l X d b2 c3 M_X6_differingParts [.ref v2] A1 fun o9 A6 b7 c8 => rI o9 (fun E => Q (.inr E) A6) fun i10 => (i5 = i10 → G l X M_L_law d Q 2023 [(0, .ref (xb X)), (1, .ref v1), (2, .ref v2), (3, .ref v3), (4, .int v4)] [] A6 b7 c8) ∧ (¬ i5 = i10 → Q (Ri 0) A6)) : G l X M_L_law d Q 1730 [(0, .ref (xb X)), (1, .ref v1), (2, .ref v2), (3, .ref v3), (4, .int v4)] [] A bc bs := by
  refine G_aload_n 1 (dk_at dk_L_law 1022 rfl) rfl ?_
  obtain ⟨⟨_, ho⟩, h⟩ := h
  refine G_callV (As := []) (rest := []) lk_L_199 rfl (dk_at dk_L_law 1023 rfl) rfl rfl (Nat.le_of_ble_eq_true rfl) ho (h.mono fun o4 A1 b2 c3 h => aftI h fun i5 h => ?_)
  refine G_aload_n 2 (dk_at dk_L_law 1024 rfl) rfl ?_
  obtain ⟨⟨_, ho⟩, h⟩ := h
  refine G_callV (As := []) (rest := [.int i5]) lk_L_202 rfl (dk_at dk_L_law 1025 rfl) rfl rfl (Nat.le_of_ble_eq_true rfl) ho (h.mono fun o9 A6 b7 c8 h => aftI h fun i10 h => ?_)
  refine G_icmp_eq (tgt := 2023) (dk_at dk_L_law 1026 rfl) (by decide) (fun c => ?_) (fun c => ?_)
  · replace h := h.1 c
    exact h
  · replace h := h.2 c
    refine G_iconst (v := 0) (dk_at dk_L_law 1027 rfl) (by decide) ?_
    exact G_iret (ty := .boolean) rfl rfl (dk_at dk_L_law 1028 rfl) h
theorem k_L_law_1743 {l : Launch} {X : XT} {d : Nat} {Q : Ot → AH → Prop} {A : AH} {bc bs : Nat} {v1 : Nat} {v2 : Nat} {v3 : Nat} {v4 : Int32} (h : isO A v1 6 ∧ Cal l X d bc bs M_X5_progress [.ref v1] A fun o4 A1 b2 c3 => rF o4 (fun E => Q (.inr E) A1) fun x5 => vf_n64 (FP.f2d x5) ∧ isO A1 v2 7 ∧ Cal l X d b2 c3 M_X6_progress [.ref v2] A1 fun o9 A6 b7 c8 => rF o9 (fun E => Q (.inr E) A6) fun x10 => vf_n64 (FP.f2d x10) ∧ ((Op.cmpValue (FP.dcmp (FP.f2d x5) (FP.f2d x10)) CmpOp.l) = 0 → G l X M_L_law d Q 2023 [(0, .ref (xb X)), (1, .ref v1), (2, .ref v2), (3, .ref v3), (4, .int v4)] [] A6 b7 c8) ∧ (¬ (Op.cmpValue (FP.dcmp (FP.f2d x5) (FP.f2d x10)) CmpOp.l) = 0 → ((Op.cmpValue (FP.dcmp (FP.f2d x5) (FP.f2d x5)) CmpOp.l) = 0 → Q (Ri 0) A6) ∧ (¬ (Op.cmpValue (FP.dcmp (FP.f2d x5) (FP.f2d x5)) CmpOp.l) = 0 → (¬ (Op.cmpValue (FP.dcmp (FP.f2d x10) (FP.f2d x10)) CmpOp.l) = 0 → G l X M_L_law d Q 2023 [(0, .ref (xb X)), (1, .ref v1), (2, .ref v2), (3, .ref v3), (4, .int v4)] [] A6 b7 c8) ∧ ((Op.cmpValue (FP.dcmp (FP.f2d x10) (FP.f2d x10)) CmpOp.l) = 0 → Q (Ri 0) A6)))) : G l X M_L_law d Q 1743 [(0, .ref (xb X)), (1, .ref v1), (2, .ref v2), (3, .ref v3), (4, .int v4)] [] A bc bs := by
  refine G_aload_n 1 (dk_at dk_L_law 1029 rfl) rfl ?_
  obtain ⟨⟨_, ho⟩, h⟩ := h
  refine G_callV (As := []) (rest := []) lk_L_203 rfl (dk_at dk_L_law 1030 rfl) rfl rfl (Nat.le_of_ble_eq_true rfl) ho (h.mono fun o4 A1 b2 c3 h => aftF h fun x5 h => ?_)
  obtain ⟨h0, h⟩ := h
  refine G_f2d (dk_at dk_L_law 1031 rfl) h0 ?_
  refine G_dstore (lv' := [(5, .double (FP.f2d x5)), (0, .ref (xb X)), (1, .ref v1), (2, .ref v2), (3, .ref v3), (4, .int v4)]) (dk_at dk_L_law 1032 rfl) (by decide) rfl ?_
  refine G_aload_n 3 (dk_at dk_L_law 1033 rfl) rfl ?_
  obtain ⟨⟨_, ho⟩, h⟩ := h
  refine G_callV (As := []) (rest := []) lk_L_207 rfl (dk_at dk_L_law 1034 rfl) rfl rfl (Nat.le_of_ble_eq_true rfl) ho (h.mono fun o9 A6 b7 c8 h => aftF h fun x10 h => ?_)
  obtain ⟨h0, h⟩ := h
  refine G_f2d (dk_at dk_L_law 1035 rfl) h0 ?_
  refine G_dstore (lv' := [(7, .double (FP.f2d x10)), (5, .double (FP.f2d x5)), (0, .ref (xb X)), (1, .ref v1), (2, .ref v2), (3, .ref v3), (4, .int v4)]) (dk_at dk_L_law 1036 rfl) (by decide) rfl ?_
  refine G_dload 1 (dk_at dk_L_law 1037 rfl) rfl ?_
  refine G_dload 0 (dk_at dk_L_law 1038 rfl) rfl ?_
  refine G_dcmp (dk_at dk_L_law 1039 rfl) ?_
  refine G_if_eq (tgt := 1783) (dk_at dk_L_law 1040 rfl) (by decide) (fun c => ?_) (fun c => ?_)
  · replace h := h.1 c
    refine G_goto (tgt := 2023) (dk_at dk_L_law 1051 rfl) (by decide) ?_
    refine G_sub [2, 3, 4, 5, 6] rfl ?_
    exact h
  · replace h := h.2 c
    refine G_dload 1 (dk_at dk_L_law 1041 rfl) rfl ?_
    refine G_dload 1 (dk_at dk_L_law 1042 rfl) rfl ?_
    refine G_dcmp (dk_at dk_L_law 1043 rfl) ?_
    refine G_if_eq (tgt := 1781) (dk_at dk_L_law 1044 rfl) (by decide) (fun c => ?_) (fun c => ?_)
    · replace h := h.1 c
      refine G_iconst (v := 0) (dk_at dk_L_law 1049 rfl) (by decide) ?_
      exact G_iret (ty := .boolean) rfl rfl (dk_at dk_L_law 1050 rfl) h
    · replace h := h.2 c
      refine G_dload 0 (dk_at dk_L_law 1045 rfl) rfl ?_
      refine G_dload 0 (dk_at dk_L_law 1046 rfl) rfl ?_
      refine G_dcmp (dk_at dk_L_law 1047 rfl) ?_
      refine G_if_ne (tgt := 1783) (dk_at dk_L_law 1048 rfl) (by decide) (fun c => ?_) (fun c => ?_)
      · replace h := h.1 c
        refine G_goto (tgt := 2023) (dk_at dk_L_law 1051 rfl) (by decide) ?_
        refine G_sub [2, 3, 4, 5, 6] rfl ?_
        exact h
      · replace h := h.2 c
        refine G_iconst (v := 0) (dk_at dk_L_law 1049 rfl) (by decide) ?_
        exact G_iret (ty := .boolean) rfl rfl (dk_at dk_L_law 1050 rfl) h
theorem k_L_law_1786 {l : Launch} {X : XT} {d : Nat} {Q : Ot → AH → Prop} {A : AH} {bc bs : Nat} {v1 : Nat} {v2 : Nat} {v3 : Nat} {v4 : Int32} (h : vp_in (v4 + 1) (xL X) ∧ vp_in (v4 + 2) (xL X) ∧ Cal l X d bc bs M_L_event [.ref v1, .int (xs X (v4 + 1).toNatClampNeg), .int (xs X (v4 + 2).toNatClampNeg), .ref v3] A fun o4 A1 b2 c3 => zI o4 fun i5 => vp_in (v4 + 1) (xL X) ∧ vp_in (v4 + 2) (xL X) ∧ isO A1 v2 7 ∧ Cal l X d b2 c3 M_X6_event [.ref v2, .int (xs X (v4 + 1).toNatClampNeg), .int (xs X (v4 + 2).toNatClampNeg)] A1 fun o9 A6 b7 c8 => rI o9 (fun E => Q (.inr E) A6) fun i10 => isO A6 v2 7 ∧ Cal l X d b7 c8 M_X6_thrown [.ref v2] A6 fun o14 A11 b12 c13 => rI o14 (fun E => Q (.inr E) A11) fun i15 => (i15 = i5 → (¬ i5 = 0 → G l X M_L_law d Q 2023 [(0, .ref (xb X)), (1, .ref v1), (2, .ref v2), (3, .ref v3), (4, .int v4)] [] A11 b12 c13) ∧ (i5 = 0 → aL X A11 v3 0 fun i16 => ((lg_cmp i16 (Int32.toInt64 i10)) = 0 → G l X M_L_law d Q 2023 [(0, .ref (xb X)), (1, .ref v1), (2, .ref v2), (3, .ref v3), (4, .int v4)] [] A11 b12 c13) ∧ (¬ (lg_cmp i16 (Int32.toInt64 i10)) = 0 → Q (Ri 0) A11))) ∧ (¬ i15 = i5 → Q (Ri 0) A11)) : G l X M_L_law d Q 1786 [(0, .ref (xb X)), (1, .ref v1), (2, .ref v2), (3, .ref v3), (4, .int v4)] [] A bc bs := by
  refine G_aload_n 1 (dk_at dk_L_law 1052 rfl) rfl ?_
  refine G_aload_n 0 (dk_at dk_L_law 1053 rfl) rfl ?_
  refine G_iload 4 (dk_at dk_L_law 1054 rfl) rfl ?_
  refine G_iconst (v := 1) (dk_at dk_L_law 1055 rfl) (by decide) ?_
  refine G_iadd (dk_at dk_L_law 1056 rfl) ?_
  obtain ⟨h0, h⟩ := h
  refine G_sld (dk_at dk_L_law 1057 rfl) h0 ?_
  refine G_aload_n 0 (dk_at dk_L_law 1058 rfl) rfl ?_
  refine G_iload 4 (dk_at dk_L_law 1059 rfl) rfl ?_
  refine G_iconst (v := 2) (dk_at dk_L_law 1060 rfl) (by decide) ?_
  refine G_iadd (dk_at dk_L_law 1061 rfl) ?_
  obtain ⟨h0, h⟩ := h
  refine G_sld (dk_at dk_L_law 1062 rfl) h0 ?_
  refine G_aload_n 3 (dk_at dk_L_law 1063 rfl) rfl ?_
  refine G_callSX (As := [.ref v1, .int (xs X (v4 + 1).toNatClampNeg), .int (xs X (v4 + 2).toNatClampNeg), .ref v3]) (rest := []) lk_L_208 (dk_at dk_L_law 1064 rfl) rfl rfl (Nat.le_of_ble_eq_true rfl) (h.mono fun o4 A1 b2 c3 h => atfI h fun i5 h => ?_)
  refine G_istore (lv' := [(5, .int i5), (0, .ref (xb X)), (1, .ref v1), (2, .ref v2), (3, .ref v3), (4, .int v4)]) (dk_at dk_L_law 1065 rfl) (by decide) rfl ?_
  refine G_aload_n 3 (dk_at dk_L_law 1066 rfl) rfl ?_
  refine G_aload_n 1 (dk_at dk_L_law 1067 rfl) rfl ?_
  refine G_iload 5 (dk_at dk_L_law 1068 rfl) rfl ?_
  refine G_iconst (v := 1) (dk_at dk_L_law 1069 rfl) (by decide) ?_
  refine G_iadd (dk_at dk_L_law 1070 rfl) ?_
  obtain ⟨h0, h⟩ := h
  refine G_sld (dk_at dk_L_law 1071 rfl) h0 ?_
  refine G_aload_n 1 (dk_at dk_L_law 1072 rfl) rfl ?_
  refine G_iload 5 (dk_at dk_L_law 1073 rfl) rfl ?_
  refine G_iconst (v := 2) (dk_at dk_L_law 1074 rfl) (by decide) ?_
  refine G_iadd (dk_at dk_L_law 1075 rfl) ?_
  obtain ⟨h0, h⟩ := h
  refine G_sld (dk_at dk_L_law 1076 rfl) h0 ?_
  obtain ⟨⟨_, ho⟩, h⟩ := h
  refine G_callV (As := [.int (xs X (v4 + 1).toNatClampNeg), .int (xs X (v4 + 2).toNatClampNeg)]) (rest := []) lk_L_210 rfl (dk_at dk_L_law 1077 rfl) rfl rfl (Nat.le_of_ble_eq_true rfl) ho (h.mono fun o9 A6 b7 c8 h => aftI h fun i10 h => ?_)
  refine G_istore (lv' := [(6, .int i10), (5, .int i5), (0, .ref (xb X)), (1, .ref v1), (2, .ref v2), (3, .ref v3), (4, .int v4)]) (dk_at dk_L_law 1078 rfl) (by decide) rfl ?_
  refine G_aload_n 4 (dk_at dk_L_law 1079 rfl) rfl ?_
  obtain ⟨⟨_, ho⟩, h⟩ := h
  refine G_callV (As := []) (rest := []) lk_L_114 rfl (dk_at dk_L_law 1080 rfl) rfl rfl (Nat.le_of_ble_eq_true rfl) ho (h.mono fun o14 A11 b12 c13 h => aftI h fun i15 h => ?_)
  refine G_iload 1 (dk_at dk_L_law 1081 rfl) rfl ?_
  refine G_icmp_eq (tgt := 1834) (dk_at dk_L_law 1082 rfl) (by decide) (fun c => ?_) (fun c => ?_)
  · replace h := h.1 c
    refine G_iload 1 (dk_at dk_L_law 1085 rfl) rfl ?_
    refine G_if_ne (tgt := 1851) (dk_at dk_L_law 1086 rfl) (by decide) (fun c => ?_) (fun c => ?_)
    · replace h := h.1 c
      refine G_goto (tgt := 2023) (dk_at dk_L_law 1096 rfl) (by decide) ?_
      refine G_sub [2, 3, 4, 5, 6] rfl ?_
      exact h
    · replace h := h.2 c
      refine G_aload_n 5 (dk_at dk_L_law 1087 rfl) rfl ?_
      refine G_iconst (v := 0) (dk_at dk_L_law 1088 rfl) (by decide) ?_
      refine K_aL (dk_at dk_L_law 1089 rfl) h (fun i16 h => ?_)
      refine G_iload 0 (dk_at dk_L_law 1090 rfl) rfl ?_
      refine G_i2l (dk_at dk_L_law 1091 rfl) rfl ?_
      refine G_lcmp (dk_at dk_L_law 1092 rfl) ?_
      refine G_if_eq (tgt := 1851) (dk_at dk_L_law 1093 rfl) (by decide) (fun c => ?_) (fun c => ?_)
      · replace h := h.1 c
        refine G_goto (tgt := 2023) (dk_at dk_L_law 1096 rfl) (by decide) ?_
        refine G_sub [2, 3, 4, 5, 6] rfl ?_
        exact h
      · replace h := h.2 c
        refine G_iconst (v := 0) (dk_at dk_L_law 1094 rfl) (by decide) ?_
        exact G_iret (ty := .boolean) rfl rfl (dk_at dk_L_law 1095 rfl) h
  · replace h := h.2 c
    refine G_iconst (v := 0) (dk_at dk_L_law 1083 rfl) (by decide) ?_
    exact G_iret (ty := .boolean) rfl rfl (dk_at dk_L_law 1084 rfl) h
theorem k_L_law_1854 {l : Launch} {X : XT} {d : Nat} {Q : Ot → AH → Prop} {A : AH} {bc bs : Nat} {v1 : Nat} {v2 : Nat} {v3 : Nat} {v4 : Int32} (h : vp_in (v4 + 1) (xL X) ∧ Cal l X d bc bs M_L_events [.ref v1, .int (xs X (v4 + 1).toNatClampNeg), .ref v3] A fun o4 A1 b2 c3 => zI o4 fun i5 => vp_in (v4 + 1) (xL X) ∧ isO A1 v2 7 ∧ Cal l X d b2 c3 M_X6_events [.ref v2, .int (xs X (v4 + 1).toNatClampNeg)] A1 fun o9 A6 b7 c8 => rI o9 (fun E => Q (.inr E) A6) fun i10 => isO A6 v2 7 ∧ Cal l X d b7 c8 M_X6_thrown [.ref v2] A6 fun o14 A11 b12 c13 => rI o14 (fun E => Q (.inr E) A11) fun i15 => (i15 = i5 → (¬ i5 = 0 → G l X M_L_law d Q 2023 [(0, .ref (xb X)), (1, .ref v1), (2, .ref v2), (3, .ref v3), (4, .int v4)] [] A11 b12 c13) ∧ (i5 = 0 → aL X A11 v3 0 fun i16 => ((lg_cmp i16 (Int32.toInt64 i10)) = 0 → G l X M_L_law d Q 2023 [(0, .ref (xb X)), (1, .ref v1), (2, .ref v2), (3, .ref v3), (4, .int v4)] [] A11 b12 c13) ∧ (¬ (lg_cmp i16 (Int32.toInt64 i10)) = 0 → Q (Ri 0) A11))) ∧ (¬ i15 = i5 → Q (Ri 0) A11)) : G l X M_L_law d Q 1854 [(0, .ref (xb X)), (1, .ref v1), (2, .ref v2), (3, .ref v3), (4, .int v4)] [] A bc bs := by
  refine G_aload_n 1 (dk_at dk_L_law 1097 rfl) rfl ?_
  refine G_aload_n 0 (dk_at dk_L_law 1098 rfl) rfl ?_
  refine G_iload 4 (dk_at dk_L_law 1099 rfl) rfl ?_
  refine G_iconst (v := 1) (dk_at dk_L_law 1100 rfl) (by decide) ?_
  refine G_iadd (dk_at dk_L_law 1101 rfl) ?_
  obtain ⟨h0, h⟩ := h
  refine G_sld (dk_at dk_L_law 1102 rfl) h0 ?_
  refine G_aload_n 3 (dk_at dk_L_law 1103 rfl) rfl ?_
  refine G_callSX (As := [.ref v1, .int (xs X (v4 + 1).toNatClampNeg), .ref v3]) (rest := []) lk_L_211 (dk_at dk_L_law 1104 rfl) rfl rfl (Nat.le_of_ble_eq_true rfl) (h.mono fun o4 A1 b2 c3 h => atfI h fun i5 h => ?_)
  refine G_istore (lv' := [(5, .int i5), (0, .ref (xb X)), (1, .ref v1), (2, .ref v2), (3, .ref v3), (4, .int v4)]) (dk_at dk_L_law 1105 rfl) (by decide) rfl ?_
  refine G_aload_n 3 (dk_at dk_L_law 1106 rfl) rfl ?_
  refine G_aload_n 1 (dk_at dk_L_law 1107 rfl) rfl ?_
  refine G_iload 5 (dk_at dk_L_law 1108 rfl) rfl ?_
  refine G_iconst (v := 1) (dk_at dk_L_law 1109 rfl) (by decide) ?_
  refine G_iadd (dk_at dk_L_law 1110 rfl) ?_
  obtain ⟨h0, h⟩ := h
  refine G_sld (dk_at dk_L_law 1111 rfl) h0 ?_
  obtain ⟨⟨_, ho⟩, h⟩ := h
  refine G_callV (As := [.int (xs X (v4 + 1).toNatClampNeg)]) (rest := []) lk_L_213 rfl (dk_at dk_L_law 1112 rfl) rfl rfl (Nat.le_of_ble_eq_true rfl) ho (h.mono fun o9 A6 b7 c8 h => aftI h fun i10 h => ?_)
  refine G_istore (lv' := [(6, .int i10), (5, .int i5), (0, .ref (xb X)), (1, .ref v1), (2, .ref v2), (3, .ref v3), (4, .int v4)]) (dk_at dk_L_law 1113 rfl) (by decide) rfl ?_
  refine G_aload_n 4 (dk_at dk_L_law 1114 rfl) rfl ?_
  obtain ⟨⟨_, ho⟩, h⟩ := h
  refine G_callV (As := []) (rest := []) lk_L_114 rfl (dk_at dk_L_law 1115 rfl) rfl rfl (Nat.le_of_ble_eq_true rfl) ho (h.mono fun o14 A11 b12 c13 h => aftI h fun i15 h => ?_)
  refine G_iload 1 (dk_at dk_L_law 1116 rfl) rfl ?_
  refine G_icmp_eq (tgt := 1890) (dk_at dk_L_law 1117 rfl) (by decide) (fun c => ?_) (fun c => ?_)
  · replace h := h.1 c
    refine G_iload 1 (dk_at dk_L_law 1120 rfl) rfl ?_
    refine G_if_ne (tgt := 1907) (dk_at dk_L_law 1121 rfl) (by decide) (fun c => ?_) (fun c => ?_)
    · replace h := h.1 c
      refine G_goto (tgt := 2023) (dk_at dk_L_law 1131 rfl) (by decide) ?_
      refine G_sub [2, 3, 4, 5, 6] rfl ?_
      exact h
    · replace h := h.2 c
      refine G_aload_n 5 (dk_at dk_L_law 1122 rfl) rfl ?_
      refine G_iconst (v := 0) (dk_at dk_L_law 1123 rfl) (by decide) ?_
      refine K_aL (dk_at dk_L_law 1124 rfl) h (fun i16 h => ?_)
      refine G_iload 0 (dk_at dk_L_law 1125 rfl) rfl ?_
      refine G_i2l (dk_at dk_L_law 1126 rfl) rfl ?_
      refine G_lcmp (dk_at dk_L_law 1127 rfl) ?_
      refine G_if_eq (tgt := 1907) (dk_at dk_L_law 1128 rfl) (by decide) (fun c => ?_) (fun c => ?_)
      · replace h := h.1 c
        refine G_goto (tgt := 2023) (dk_at dk_L_law 1131 rfl) (by decide) ?_
        refine G_sub [2, 3, 4, 5, 6] rfl ?_
        exact h
      · replace h := h.2 c
        refine G_iconst (v := 0) (dk_at dk_L_law 1129 rfl) (by decide) ?_
        exact G_iret (ty := .boolean) rfl rfl (dk_at dk_L_law 1130 rfl) h
  · replace h := h.2 c
    refine G_iconst (v := 0) (dk_at dk_L_law 1118 rfl) (by decide) ?_
    exact G_iret (ty := .boolean) rfl rfl (dk_at dk_L_law 1119 rfl) h
theorem k_L_law_1910 {l : Launch} {X : XT} {d : Nat} {Q : Ot → AH → Prop} {A : AH} {bc bs : Nat} {v1 : Nat} {v2 : Nat} {v3 : Nat} {v4 : Int32} (h : isO A v1 6 ∧ Cal l X d bc bs M_X5_writeMap [.ref v1] A fun o4 A1 b2 c3 => rI o4 (fun E => Q (.inr E) A1) fun i5 => isO A1 v2 7 ∧ Cal l X d b2 c3 M_X6_writeMap [.ref v2] A1 fun o9 A6 b7 c8 => rI o9 (fun E => Q (.inr E) A6) fun i10 => (i5 = i10 → G l X M_L_law d Q 2023 [(0, .ref (xb X)), (1, .ref v1), (2, .ref v2), (3, .ref v3), (4, .int v4)] [] A6 b7 c8) ∧ (¬ i5 = i10 → Q (Ri 0) A6)) : G l X M_L_law d Q 1910 [(0, .ref (xb X)), (1, .ref v1), (2, .ref v2), (3, .ref v3), (4, .int v4)] [] A bc bs := by
  refine G_aload_n 1 (dk_at dk_L_law 1132 rfl) rfl ?_
  obtain ⟨⟨_, ho⟩, h⟩ := h
  refine G_callV (As := []) (rest := []) lk_L_214 rfl (dk_at dk_L_law 1133 rfl) rfl rfl (Nat.le_of_ble_eq_true rfl) ho (h.mono fun o4 A1 b2 c3 h => aftI h fun i5 h => ?_)
  refine G_aload_n 2 (dk_at dk_L_law 1134 rfl) rfl ?_
  obtain ⟨⟨_, ho⟩, h⟩ := h
  refine G_callV (As := []) (rest := [.int i5]) lk_L_217 rfl (dk_at dk_L_law 1135 rfl) rfl rfl (Nat.le_of_ble_eq_true rfl) ho (h.mono fun o9 A6 b7 c8 h => aftI h fun i10 h => ?_)
  refine G_icmp_eq (tgt := 2023) (dk_at dk_L_law 1136 rfl) (by decide) (fun c => ?_) (fun c => ?_)
  · replace h := h.1 c
    exact h
  · replace h := h.2 c
    refine G_iconst (v := 0) (dk_at dk_L_law 1137 rfl) (by decide) ?_
    exact G_iret (ty := .boolean) rfl rfl (dk_at dk_L_law 1138 rfl) h
theorem k_L_law_1923 {l : Launch} {X : XT} {d : Nat} {Q : Ot → AH → Prop} {A : AH} {bc bs : Nat} {v1 : Nat} {v2 : Nat} {v3 : Nat} {v4 : Int32} (h : vp_in (v4 + 1) (xL X) ∧ Cal l X d bc bs M_L_writtenByte [.ref v1, .int (xs X (v4 + 1).toNatClampNeg), .ref v3] A fun o4 A1 b2 c3 => zI o4 fun i5 => vp_in (v4 + 1) (xL X) ∧ isO A1 v2 7 ∧ Cal l X d b2 c3 M_X6_writtenByte [.ref v2, .int (xs X (v4 + 1).toNatClampNeg)] A1 fun o9 A6 b7 c8 => rI o9 (fun E => Q (.inr E) A6) fun i10 => isO A6 v2 7 ∧ Cal l X d b7 c8 M_X6_thrown [.ref v2] A6 fun o14 A11 b12 c13 => rI o14 (fun E => Q (.inr E) A11) fun i15 => (i15 = i5 → (¬ i5 = 0 → G l X M_L_law d Q 2023 [(0, .ref (xb X)), (1, .ref v1), (2, .ref v2), (3, .ref v3), (4, .int v4)] [] A11 b12 c13) ∧ (i5 = 0 → aL X A11 v3 0 fun i16 => ((lg_cmp i16 (Int32.toInt64 i10)) = 0 → G l X M_L_law d Q 2023 [(0, .ref (xb X)), (1, .ref v1), (2, .ref v2), (3, .ref v3), (4, .int v4)] [] A11 b12 c13) ∧ (¬ (lg_cmp i16 (Int32.toInt64 i10)) = 0 → Q (Ri 0) A11))) ∧ (¬ i15 = i5 → Q (Ri 0) A11)) : G l X M_L_law d Q 1923 [(0, .ref (xb X)), (1, .ref v1), (2, .ref v2), (3, .ref v3), (4, .int v4)] [] A bc bs := by
  refine G_aload_n 1 (dk_at dk_L_law 1139 rfl) rfl ?_
  refine G_aload_n 0 (dk_at dk_L_law 1140 rfl) rfl ?_
  refine G_iload 4 (dk_at dk_L_law 1141 rfl) rfl ?_
  refine G_iconst (v := 1) (dk_at dk_L_law 1142 rfl) (by decide) ?_
  refine G_iadd (dk_at dk_L_law 1143 rfl) ?_
  obtain ⟨h0, h⟩ := h
  refine G_sld (dk_at dk_L_law 1144 rfl) h0 ?_
  refine G_aload_n 3 (dk_at dk_L_law 1145 rfl) rfl ?_
  refine G_callSX (As := [.ref v1, .int (xs X (v4 + 1).toNatClampNeg), .ref v3]) (rest := []) lk_L_218 (dk_at dk_L_law 1146 rfl) rfl rfl (Nat.le_of_ble_eq_true rfl) (h.mono fun o4 A1 b2 c3 h => atfI h fun i5 h => ?_)
  refine G_istore (lv' := [(5, .int i5), (0, .ref (xb X)), (1, .ref v1), (2, .ref v2), (3, .ref v3), (4, .int v4)]) (dk_at dk_L_law 1147 rfl) (by decide) rfl ?_
  refine G_aload_n 3 (dk_at dk_L_law 1148 rfl) rfl ?_
  refine G_aload_n 1 (dk_at dk_L_law 1149 rfl) rfl ?_
  refine G_iload 5 (dk_at dk_L_law 1150 rfl) rfl ?_
  refine G_iconst (v := 1) (dk_at dk_L_law 1151 rfl) (by decide) ?_
  refine G_iadd (dk_at dk_L_law 1152 rfl) ?_
  obtain ⟨h0, h⟩ := h
  refine G_sld (dk_at dk_L_law 1153 rfl) h0 ?_
  obtain ⟨⟨_, ho⟩, h⟩ := h
  refine G_callV (As := [.int (xs X (v4 + 1).toNatClampNeg)]) (rest := []) lk_L_220 rfl (dk_at dk_L_law 1154 rfl) rfl rfl (Nat.le_of_ble_eq_true rfl) ho (h.mono fun o9 A6 b7 c8 h => aftI h fun i10 h => ?_)
  refine G_istore (lv' := [(6, .int i10), (5, .int i5), (0, .ref (xb X)), (1, .ref v1), (2, .ref v2), (3, .ref v3), (4, .int v4)]) (dk_at dk_L_law 1155 rfl) (by decide) rfl ?_
  refine G_aload_n 4 (dk_at dk_L_law 1156 rfl) rfl ?_
  obtain ⟨⟨_, ho⟩, h⟩ := h
  refine G_callV (As := []) (rest := []) lk_L_114 rfl (dk_at dk_L_law 1157 rfl) rfl rfl (Nat.le_of_ble_eq_true rfl) ho (h.mono fun o14 A11 b12 c13 h => aftI h fun i15 h => ?_)
  refine G_iload 1 (dk_at dk_L_law 1158 rfl) rfl ?_
  refine G_icmp_eq (tgt := 1959) (dk_at dk_L_law 1159 rfl) (by decide) (fun c => ?_) (fun c => ?_)
  · replace h := h.1 c
    refine G_iload 1 (dk_at dk_L_law 1162 rfl) rfl ?_
    refine G_if_ne (tgt := 1976) (dk_at dk_L_law 1163 rfl) (by decide) (fun c => ?_) (fun c => ?_)
    · replace h := h.1 c
      refine G_goto (tgt := 2023) (dk_at dk_L_law 1173 rfl) (by decide) ?_
      refine G_sub [2, 3, 4, 5, 6] rfl ?_
      exact h
    · replace h := h.2 c
      refine G_aload_n 5 (dk_at dk_L_law 1164 rfl) rfl ?_
      refine G_iconst (v := 0) (dk_at dk_L_law 1165 rfl) (by decide) ?_
      refine K_aL (dk_at dk_L_law 1166 rfl) h (fun i16 h => ?_)
      refine G_iload 0 (dk_at dk_L_law 1167 rfl) rfl ?_
      refine G_i2l (dk_at dk_L_law 1168 rfl) rfl ?_
      refine G_lcmp (dk_at dk_L_law 1169 rfl) ?_
      refine G_if_eq (tgt := 1976) (dk_at dk_L_law 1170 rfl) (by decide) (fun c => ?_) (fun c => ?_)
      · replace h := h.1 c
        refine G_goto (tgt := 2023) (dk_at dk_L_law 1173 rfl) (by decide) ?_
        refine G_sub [2, 3, 4, 5, 6] rfl ?_
        exact h
      · replace h := h.2 c
        refine G_iconst (v := 0) (dk_at dk_L_law 1171 rfl) (by decide) ?_
        exact G_iret (ty := .boolean) rfl rfl (dk_at dk_L_law 1172 rfl) h
  · replace h := h.2 c
    refine G_iconst (v := 0) (dk_at dk_L_law 1160 rfl) (by decide) ?_
    exact G_iret (ty := .boolean) rfl rfl (dk_at dk_L_law 1161 rfl) h
theorem k_L_law_1979 {l : Launch} {X : XT} {d : Nat} {Q : Ot → AH → Prop} {A : AH} {bc bs : Nat} {v1 : Nat} {v2 : Nat} {v3 : Nat} {v4 : Int32} (h : Cal l X d bc bs M_L_undo [.ref v1, .ref v3] A fun o4 A1 b2 c3 => zI o4 fun i5 => isO A1 v2 7 ∧ Cal l X d b2 c3 M_X6_undo [.ref v2] A1 fun o9 A6 b7 c8 => rI o9 (fun E => Q (.inr E) A6) fun i10 => isO A6 v2 7 ∧ Cal l X d b7 c8 M_X6_thrown [.ref v2] A6 fun o14 A11 b12 c13 => rI o14 (fun E => Q (.inr E) A11) fun i15 => (i15 = i5 → (¬ i5 = 0 → G l X M_L_law d Q 2023 [(0, .ref (xb X)), (1, .ref v1), (2, .ref v2), (3, .ref v3), (4, .int v4)] [] A11 b12 c13) ∧ (i5 = 0 → aL X A11 v3 0 fun i16 => ((lg_cmp i16 (Int32.toInt64 i10)) = 0 → G l X M_L_law d Q 2023 [(0, .ref (xb X)), (1, .ref v1), (2, .ref v2), (3, .ref v3), (4, .int v4)] [] A11 b12 c13) ∧ (¬ (lg_cmp i16 (Int32.toInt64 i10)) = 0 → Q (Ri 0) A11))) ∧ (¬ i15 = i5 → Q (Ri 0) A11)) : G l X M_L_law d Q 1979 [(0, .ref (xb X)), (1, .ref v1), (2, .ref v2), (3, .ref v3), (4, .int v4)] [] A bc bs := by
  refine G_aload_n 1 (dk_at dk_L_law 1174 rfl) rfl ?_
  refine G_aload_n 3 (dk_at dk_L_law 1175 rfl) rfl ?_
  refine G_callSX (As := [.ref v1, .ref v3]) (rest := []) lk_L_221 (dk_at dk_L_law 1176 rfl) rfl rfl (Nat.le_of_ble_eq_true rfl) (h.mono fun o4 A1 b2 c3 h => atfI h fun i5 h => ?_)
  refine G_istore (lv' := [(5, .int i5), (0, .ref (xb X)), (1, .ref v1), (2, .ref v2), (3, .ref v3), (4, .int v4)]) (dk_at dk_L_law 1177 rfl) (by decide) rfl ?_
  refine G_aload_n 3 (dk_at dk_L_law 1178 rfl) rfl ?_
  obtain ⟨⟨_, ho⟩, h⟩ := h
  refine G_callV (As := []) (rest := []) lk_L_224 rfl (dk_at dk_L_law 1179 rfl) rfl rfl (Nat.le_of_ble_eq_true rfl) ho (h.mono fun o9 A6 b7 c8 h => aftI h fun i10 h => ?_)
  refine G_istore (lv' := [(6, .int i10), (5, .int i5), (0, .ref (xb X)), (1, .ref v1), (2, .ref v2), (3, .ref v3), (4, .int v4)]) (dk_at dk_L_law 1180 rfl) (by decide) rfl ?_
  refine G_aload_n 4 (dk_at dk_L_law 1181 rfl) rfl ?_
  obtain ⟨⟨_, ho⟩, h⟩ := h
  refine G_callV (As := []) (rest := []) lk_L_114 rfl (dk_at dk_L_law 1182 rfl) rfl rfl (Nat.le_of_ble_eq_true rfl) ho (h.mono fun o14 A11 b12 c13 h => aftI h fun i15 h => ?_)
  refine G_iload 1 (dk_at dk_L_law 1183 rfl) rfl ?_
  refine G_icmp_eq (tgt := 2003) (dk_at dk_L_law 1184 rfl) (by decide) (fun c => ?_) (fun c => ?_)
  · replace h := h.1 c
    refine G_iload 1 (dk_at dk_L_law 1187 rfl) rfl ?_
    refine G_if_ne (tgt := 2020) (dk_at dk_L_law 1188 rfl) (by decide) (fun c => ?_) (fun c => ?_)
    · replace h := h.1 c
      refine G_goto (tgt := 2023) (dk_at dk_L_law 1198 rfl) (by decide) ?_
      refine G_sub [2, 3, 4, 5, 6] rfl ?_
      exact h
    · replace h := h.2 c
      refine G_aload_n 5 (dk_at dk_L_law 1189 rfl) rfl ?_
      refine G_iconst (v := 0) (dk_at dk_L_law 1190 rfl) (by decide) ?_
      refine K_aL (dk_at dk_L_law 1191 rfl) h (fun i16 h => ?_)
      refine G_iload 0 (dk_at dk_L_law 1192 rfl) rfl ?_
      refine G_i2l (dk_at dk_L_law 1193 rfl) rfl ?_
      refine G_lcmp (dk_at dk_L_law 1194 rfl) ?_
      refine G_if_eq (tgt := 2020) (dk_at dk_L_law 1195 rfl) (by decide) (fun c => ?_) (fun c => ?_)
      · replace h := h.1 c
        refine G_goto (tgt := 2023) (dk_at dk_L_law 1198 rfl) (by decide) ?_
        refine G_sub [2, 3, 4, 5, 6] rfl ?_
        exact h
      · replace h := h.2 c
        refine G_iconst (v := 0) (dk_at dk_L_law 1196 rfl) (by decide) ?_
        exact G_iret (ty := .boolean) rfl rfl (dk_at dk_L_law 1197 rfl) h
  · replace h := h.2 c
    refine G_iconst (v := 0) (dk_at dk_L_law 1185 rfl) (by decide) ?_
    exact G_iret (ty := .boolean) rfl rfl (dk_at dk_L_law 1186 rfl) h
theorem k_L_law_2023 {l : Launch} {X : XT} {d : Nat} {Q : Ot → AH → Prop} {A : AH} {bc bs : Nat} {v1 : Nat} {v2 : Nat} {v3 : Nat} {v4 : Int32} (h : G l X M_L_law d Q 23 [(0, .ref (xb X)), (1, .ref v1), (2, .ref v2), (3, .ref v3), (4, .int (v4 + 6))] [] A bc bs) : G l X M_L_law d Q 2023 [(0, .ref (xb X)), (1, .ref v1), (2, .ref v2), (3, .ref v3), (4, .int v4)] [] A bc bs := by
  refine G_iinc (v := v4 + 6) (lv' := [(4, .int (v4 + 6)), (0, .ref (xb X)), (1, .ref v1), (2, .ref v2), (3, .ref v3)]) 4 (dk_at dk_L_law 1199 rfl) rfl rfl (by decide) rfl ?_
  refine G_goto (tgt := 23) (dk_at dk_L_law 1200 rfl) (by decide) ?_
  refine G_sub [1, 2, 3, 4, 0] rfl ?_
  exact h
