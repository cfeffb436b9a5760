/-! blocks: what a method asks, row by row, as one formula (laid by wip/whole/gen) -/
theorem k_L_append_0 {l : Launch} {X : XT} {d : Nat} {Q : Ot → AH → Prop} {A : AH} {bc bs : Nat} {v0 : Nat} {v1 : Int32} {v2 : Int32} {v3 : Int32} {v4 : Int32} {v5 : Int32} {v6 : Nat} (h : isO A v0 6 ∧ Cal l X d bc bs M_X5_append [.ref v0, .int v1, .int v2, .int v3, .int v4, .int v5] A fun o4 A1 b2 c3 => (∃ i5, o4 = Ri i5 ∧ sL X A1 v6 0 (Int32.toInt64 i5) fun A6 => Q (Ri 0) A6) ∨ (o4 = Th "java/lang/IllegalStateException" ∧ ∀ q : Nat, Q (Ri 1) A1)) : G l X M_L_append d Q 0 [(0, .ref v0), (1, .int v1), (2, .int v2), (3, .int v3), (4, .int v4), (5, .int v5), (6, .ref v6)] [] A bc bs := by
  refine G_aload 6 (dk_at dk_L_append 0 rfl) rfl ?_
  refine G_iconst (v := 0) (dk_at dk_L_append 1 rfl) (by decide) ?_
  refine G_aload_n 0 (dk_at dk_L_append 2 rfl) rfl ?_
  refine G_iload_n 1 (dk_at dk_L_append 3 rfl) rfl ?_
  refine G_iload_n 2 (dk_at dk_L_append 4 rfl) rfl ?_
  refine G_iload_n 3 (dk_at dk_L_append 5 rfl) rfl ?_
  refine G_iload 4 (dk_at dk_L_append 6 rfl) rfl ?_
  refine G_iload 5 (dk_at dk_L_append 7 rfl) rfl ?_
  obtain ⟨⟨_, ho⟩, h⟩ := h
  refine G_callVX (As := [.int v1, .int v2, .int v3, .int v4, .int v5]) (rest := [.int 0, .ref v6]) lk_L_7 (dk_at dk_L_append 8 rfl) rfl rfl (Nat.le_of_ble_eq_true rfl) ho (h.mono fun o4 A1 b2 c3 h => ?_)
  rcases h with ⟨i5, rfl, h⟩ | ⟨rfl, h⟩
  · change G l X M_L_append d Q _ _ _ _ _ _
    refine G_i2l (dk_at dk_L_append 9 rfl) rfl ?_
    refine K_sL (dk_at dk_L_append 10 rfl) h (fun A6 h => ?_)
    refine G_goto (tgt := 23) (dk_at dk_L_append 11 rfl) (by decide) ?_
    refine G_iconst (v := 0) (dk_at dk_L_append 15 rfl) (by decide) ?_
    exact G_iret (ty := .int) rfl rfl (dk_at dk_L_append 16 rfl) h
  · refine ⟨[], ⟨0, 16, 19, 13⟩, [], rfl, rfl, by decide, ⟨_, wd_23, wd_24⟩, fun y hy => (nomatch hy), fun q => ?_⟩
    replace h := h q
    change G l X M_L_append d Q _ _ _ _ _ _
    refine G_astore (lv' := [(7, .ref q), (0, .ref v0), (1, .int v1), (2, .int v2), (3, .int v3), (4, .int v4), (5, .int v5), (6, .ref v6)]) (dk_at dk_L_append 12 rfl) (by decide) rfl ?_
    refine G_iconst (v := 1) (dk_at dk_L_append 13 rfl) (by decide) ?_
    exact G_iret (ty := .int) rfl rfl (dk_at dk_L_append 14 rfl) h
theorem k_L_load_0 {l : Launch} {X : XT} {d : Nat} {Q : Ot → AH → Prop} {A : AH} {bc bs : Nat} {v0 : Nat} {v1 : Int32} {v2 : Nat} (h : isO A v0 6 ∧ Cal l X d bc bs M_X5_load [.ref v0, .int v1] A fun o4 A1 b2 c3 => (∃ i5, o4 = Ri i5 ∧ sL X A1 v2 0 (Int32.toInt64 i5) fun A6 => Q (Ri 0) A6) ∨ (o4 = Th "java/lang/IllegalArgumentException" ∧ ∀ q : Nat, Q (Ri 1) A1)) : G l X M_L_load d Q 0 [(0, .ref v0), (1, .int v1), (2, .ref v2)] [] A bc bs := by
  refine G_aload_n 2 (dk_at dk_L_load 0 rfl) rfl ?_
  refine G_iconst (v := 0) (dk_at dk_L_load 1 rfl) (by decide) ?_
  refine G_aload_n 0 (dk_at dk_L_load 2 rfl) rfl ?_
  refine G_iload_n 1 (dk_at dk_L_load 3 rfl) rfl ?_
  obtain ⟨⟨_, ho⟩, h⟩ := h
  refine G_callVX (As := [.int v1]) (rest := [.int 0, .ref v2]) lk_L_15 (dk_at dk_L_load 4 rfl) rfl rfl (Nat.le_of_ble_eq_true rfl) ho (h.mono fun o4 A1 b2 c3 h => ?_)
  rcases h with ⟨i5, rfl, h⟩ | ⟨rfl, h⟩
  · change G l X M_L_load d Q _ _ _ _ _ _
    refine G_i2l (dk_at dk_L_load 5 rfl) rfl ?_
    refine K_sL (dk_at dk_L_load 6 rfl) h (fun A6 h => ?_)
    refine G_goto (tgt := 15) (dk_at dk_L_load 7 rfl) (by decide) ?_
    refine G_iconst (v := 0) (dk_at dk_L_load 11 rfl) (by decide) ?_
    exact G_iret (ty := .int) rfl rfl (dk_at dk_L_load 12 rfl) h
  · refine ⟨[], ⟨0, 9, 12, 19⟩, [], rfl, rfl, by decide, ⟨_, wd_25, wd_26⟩, fun y hy => (nomatch hy), fun q => ?_⟩
    replace h := h q
    change G l X M_L_load d Q _ _ _ _ _ _
    refine G_astore_n (lv' := [(3, .ref q), (0, .ref v0), (1, .int v1), (2, .ref v2)]) (dk_at dk_L_load 8 rfl) (by decide) rfl ?_
    refine G_iconst (v := 1) (dk_at dk_L_load 9 rfl) (by decide) ?_
    exact G_iret (ty := .int) rfl rfl (dk_at dk_L_load 10 rfl) h
theorem k_L_count_0 {l : Launch} {X : XT} {d : Nat} {Q : Ot → AH → Prop} {A : AH} {bc bs : Nat} {v0 : Nat} {v1 : Int32} {v2 : Nat} (h : isO A v0 6 ∧ Cal l X d bc bs M_X5_count [.ref v0, .int v1] A fun o4 A1 b2 c3 => (∃ i5, o4 = Ri i5 ∧ sL X A1 v2 0 (Int32.toInt64 i5) fun A6 => Q (Ri 0) A6) ∨ (o4 = Th "java/lang/IllegalArgumentException" ∧ ∀ q : Nat, Q (Ri 1) A1)) : G l X M_L_count d Q 0 [(0, .ref v0), (1, .int v1), (2, .ref v2)] [] A bc bs := by
  refine G_aload_n 2 (dk_at dk_L_count 0 rfl) rfl ?_
  refine G_iconst (v := 0) (dk_at dk_L_count 1 rfl) (by decide) ?_
  refine G_aload_n 0 (dk_at dk_L_count 2 rfl) rfl ?_
  refine G_iload_n 1 (dk_at dk_L_count 3 rfl) rfl ?_
  obtain ⟨⟨_, ho⟩, h⟩ := h
  refine G_callVX (As := [.int v1]) (rest := [.int 0, .ref v2]) lk_L_21 (dk_at dk_L_count 4 rfl) rfl rfl (Nat.le_of_ble_eq_true rfl) ho (h.mono fun o4 A1 b2 c3 h => ?_)
  rcases h with ⟨i5, rfl, h⟩ | ⟨rfl, h⟩
  · change G l X M_L_count d Q _ _ _ _ _ _
    refine G_i2l (dk_at dk_L_count 5 rfl) rfl ?_
    refine K_sL (dk_at dk_L_count 6 rfl) h (fun A6 h => ?_)
    refine G_goto (tgt := 15) (dk_at dk_L_count 7 rfl) (by decide) ?_
    refine G_iconst (v := 0) (dk_at dk_L_count 11 rfl) (by decide) ?_
    exact G_iret (ty := .int) rfl rfl (dk_at dk_L_count 12 rfl) h
  · refine ⟨[], ⟨0, 9, 12, 19⟩, [], rfl, rfl, by decide, ⟨_, wd_25, wd_26⟩, fun y hy => (nomatch hy), fun q => ?_⟩
    replace h := h q
    change G l X M_L_count d Q _ _ _ _ _ _
    refine G_astore_n (lv' := [(3, .ref q), (0, .ref v0), (1, .int v1), (2, .ref v2)]) (dk_at dk_L_count 8 rfl) (by decide) rfl ?_
    refine G_iconst (v := 1) (dk_at dk_L_count 9 rfl) (by decide) ?_
    exact G_iret (ty := .int) rfl rfl (dk_at dk_L_count 10 rfl) h
theorem k_L_source_0 {l : Launch} {X : XT} {d : Nat} {Q : Ot → AH → Prop} {A : AH} {bc bs : Nat} {v0 : Nat} {v1 : Int32} {v2 : Int32} {v3 : Nat} (h : isO A v0 6 ∧ Cal l X d bc bs M_X5_source [.ref v0, .int v1, .int v2] A fun o4 A1 b2 c3 => (∃ i5, o4 = Ri i5 ∧ sL X A1 v3 0 (Int32.toInt64 i5) fun A6 => Q (Ri 0) A6) ∨ (o4 = Th "java/lang/IndexOutOfBoundsException" ∧ ∀ q : Nat, Q (Ri 1) A1) ∨ (o4 = Th "java/lang/IllegalArgumentException" ∧ ∀ q : Nat, Q (Ri 2) A1)) : G l X M_L_source d Q 0 [(0, .ref v0), (1, .int v1), (2, .int v2), (3, .ref v3)] [] A bc bs := by
  refine G_aload_n 3 (dk_at dk_L_source 0 rfl) rfl ?_
  refine G_iconst (v := 0) (dk_at dk_L_source 1 rfl) (by decide) ?_
  refine G_aload_n 0 (dk_at dk_L_source 2 rfl) rfl ?_
  refine G_iload_n 1 (dk_at dk_L_source 3 rfl) rfl ?_
  refine G_iload_n 2 (dk_at dk_L_source 4 rfl) rfl ?_
  obtain ⟨⟨_, ho⟩, h⟩ := h
  refine G_callVX (As := [.int v1, .int v2]) (rest := [.int 0, .ref v3]) lk_L_24 (dk_at dk_L_source 5 rfl) rfl rfl (Nat.le_of_ble_eq_true rfl) ho (h.mono fun o4 A1 b2 c3 h => ?_)
  rcases h with ⟨i5, rfl, h⟩ | ⟨rfl, h⟩ | ⟨rfl, h⟩
  · change G l X M_L_source d Q _ _ _ _ _ _
    refine G_i2l (dk_at dk_L_source 6 rfl) rfl ?_
    refine K_sL (dk_at dk_L_source 7 rfl) h (fun A6 h => ?_)
    refine G_goto (tgt := 21) (dk_at dk_L_source 8 rfl) (by decide) ?_
    refine G_iconst (v := 0) (dk_at dk_L_source 15 rfl) (by decide) ?_
    exact G_iret (ty := .int) rfl rfl (dk_at dk_L_source 16 rfl) h
  · refine ⟨[], ⟨0, 10, 13, 28⟩, [⟨0, 10, 17, 19⟩], rfl, rfl, by decide, ⟨_, wd_27, wd_28⟩, fun y hy => (nomatch hy), fun q => ?_⟩
    replace h := h q
    change G l X M_L_source d Q _ _ _ _ _ _
    refine G_astore (lv' := [(4, .ref q), (0, .ref v0), (1, .int v1), (2, .int v2), (3, .ref v3)]) (dk_at dk_L_source 9 rfl) (by decide) rfl ?_
    refine G_iconst (v := 1) (dk_at dk_L_source 10 rfl) (by decide) ?_
    exact G_iret (ty := .int) rfl rfl (dk_at dk_L_source 11 rfl) h
  · refine ⟨[⟨0, 10, 13, 28⟩], ⟨0, 10, 17, 19⟩, [], rfl, rfl, by decide, ⟨_, wd_25, wd_26⟩, fun y hy => by rw [List.mem_singleton.mp hy]; exact ⟨by decide, _, wd_27, by decide⟩, fun q => ?_⟩
    replace h := h q
    change G l X M_L_source d Q _ _ _ _ _ _
    refine G_astore (lv' := [(4, .ref q), (0, .ref v0), (1, .int v1), (2, .int v2), (3, .ref v3)]) (dk_at dk_L_source 12 rfl) (by decide) rfl ?_
    refine G_iconst (v := 2) (dk_at dk_L_source 13 rfl) (by decide) ?_
    exact G_iret (ty := .int) rfl rfl (dk_at dk_L_source 14 rfl) h
theorem k_L_sent_0 {l : Launch} {X : XT} {d : Nat} {Q : Ot → AH → Prop} {A : AH} {bc bs : Nat} {v0 : Nat} {v1 : Int32} {v2 : Int32} {v3 : Nat} (h : isO A v0 6 ∧ Cal l X d bc bs M_X5_sent [.ref v0, .int v1, .int v2] A fun o4 A1 b2 c3 => (∃ i5, o4 = Ri i5 ∧ sL X A1 v3 0 (Int32.toInt64 i5) fun A6 => Q (Ri 0) A6) ∨ (o4 = Th "java/lang/IndexOutOfBoundsException" ∧ ∀ q : Nat, Q (Ri 1) A1)) : G l X M_L_sent d Q 0 [(0, .ref v0), (1, .int v1), (2, .int v2), (3, .ref v3)] [] A bc bs := by
  refine G_aload_n 3 (dk_at dk_L_sent 0 rfl) rfl ?_
  refine G_iconst (v := 0) (dk_at dk_L_sent 1 rfl) (by decide) ?_
  refine G_aload_n 0 (dk_at dk_L_sent 2 rfl) rfl ?_
  refine G_iload_n 1 (dk_at dk_L_sent 3 rfl) rfl ?_
  refine G_iload_n 2 (dk_at dk_L_sent 4 rfl) rfl ?_
  obtain ⟨⟨_, ho⟩, h⟩ := h
  refine G_callVX (As := [.int v1, .int v2]) (rest := [.int 0, .ref v3]) lk_L_30 (dk_at dk_L_sent 5 rfl) rfl rfl (Nat.le_of_ble_eq_true rfl) ho (h.mono fun o4 A1 b2 c3 h => ?_)
  rcases h with ⟨i5, rfl, h⟩ | ⟨rfl, h⟩
  · change G l X M_L_sent d Q _ _ _ _ _ _
    refine G_i2l (dk_at dk_L_sent 6 rfl) rfl ?_
    refine K_sL (dk_at dk_L_sent 7 rfl) h (fun A6 h => ?_)
    refine G_goto (tgt := 17) (dk_at dk_L_sent 8 rfl) (by decide) ?_
    refine G_iconst (v := 0) (dk_at dk_L_sent 12 rfl) (by decide) ?_
    exact G_iret (ty := .int) rfl rfl (dk_at dk_L_sent 13 rfl) h
  · refine ⟨[], ⟨0, 10, 13, 28⟩, [], rfl, rfl, by decide, ⟨_, wd_27, wd_28⟩, fun y hy => (nomatch hy), fun q => ?_⟩
    replace h := h q
    change G l X M_L_sent d Q _ _ _ _ _ _
    refine G_astore (lv' := [(4, .ref q), (0, .ref v0), (1, .int v1), (2, .int v2), (3, .ref v3)]) (dk_at dk_L_sent 9 rfl) (by decide) rfl ?_
    refine G_iconst (v := 1) (dk_at dk_L_sent 10 rfl) (by decide) ?_
    exact G_iret (ty := .int) rfl rfl (dk_at dk_L_sent 11 rfl) h
theorem k_L_got_0 {l : Launch} {X : XT} {d : Nat} {Q : Ot → AH → Prop} {A : AH} {bc bs : Nat} {v0 : Nat} {v1 : Int32} {v2 : Nat} (h : isO A v0 6 ∧ Cal l X d bc bs M_X5_got [.ref v0, .int v1] A fun o4 A1 b2 c3 => (∃ i5, o4 = Ri i5 ∧ sL X A1 v2 0 (Int32.toInt64 i5) fun A6 => Q (Ri 0) A6) ∨ (o4 = Th "java/lang/IndexOutOfBoundsException" ∧ ∀ q : Nat, Q (Ri 1) A1)) : G l X M_L_got d Q 0 [(0, .ref v0), (1, .int v1), (2, .ref v2)] [] A bc bs := by
  refine G_aload_n 2 (dk_at dk_L_got 0 rfl) rfl ?_
  refine G_iconst (v := 0) (dk_at dk_L_got 1 rfl) (by decide) ?_
  refine G_aload_n 0 (dk_at dk_L_got 2 rfl) rfl ?_
  refine G_iload_n 1 (dk_at dk_L_got 3 rfl) rfl ?_
  obtain ⟨⟨_, ho⟩, h⟩ := h
  refine G_callVX (As := [.int v1]) (rest := [.int 0, .ref v2]) lk_L_33 (dk_at dk_L_got 4 rfl) rfl rfl (Nat.le_of_ble_eq_true rfl) ho (h.mono fun o4 A1 b2 c3 h => ?_)
  rcases h with ⟨i5, rfl, h⟩ | ⟨rfl, h⟩
  · change G l X M_L_got d Q _ _ _ _ _ _
    refine G_i2l (dk_at dk_L_got 5 rfl) rfl ?_
    refine K_sL (dk_at dk_L_got 6 rfl) h (fun A6 h => ?_)
    refine G_goto (tgt := 15) (dk_at dk_L_got 7 rfl) (by decide) ?_
    refine G_iconst (v := 0) (dk_at dk_L_got 11 rfl) (by decide) ?_
    exact G_iret (ty := .int) rfl rfl (dk_at dk_L_got 12 rfl) h
  · refine ⟨[], ⟨0, 9, 12, 28⟩, [], rfl, rfl, by decide, ⟨_, wd_27, wd_28⟩, fun y hy => (nomatch hy), fun q => ?_⟩
    replace h := h q
    change G l X M_L_got d Q _ _ _ _ _ _
    refine G_astore_n (lv' := [(3, .ref q), (0, .ref v0), (1, .int v1), (2, .ref v2)]) (dk_at dk_L_got 8 rfl) (by decide) rfl ?_
    refine G_iconst (v := 1) (dk_at dk_L_got 9 rfl) (by decide) ?_
    exact G_iret (ty := .int) rfl rfl (dk_at dk_L_got 10 rfl) h
theorem k_L_piece_0 {l : Launch} {X : XT} {d : Nat} {Q : Ot → AH → Prop} {A : AH} {bc bs : Nat} {v0 : Nat} {v1 : Int32} {v2 : Int32} {v3 : Nat} (h : isO A v0 6 ∧ Cal l X d bc bs M_X5_piece [.ref v0, .int v1, .int v2] A fun o4 A1 b2 c3 => (∃ i5, o4 = Ri i5 ∧ sL X A1 v3 0 (Int32.toInt64 i5) fun A6 => Q (Ri 0) A6) ∨ (o4 = Th "java/lang/IndexOutOfBoundsException" ∧ ∀ q : Nat, Q (Ri 1) A1) ∨ (o4 = Th "java/lang/IllegalArgumentException" ∧ ∀ q : Nat, Q (Ri 2) A1)) : G l X M_L_piece d Q 0 [(0, .ref v0), (1, .int v1), (2, .int v2), (3, .ref v3)] [] A bc bs := by
  refine G_aload_n 3 (dk_at dk_L_piece 0 rfl) rfl ?_
  refine G_iconst (v := 0) (dk_at dk_L_piece 1 rfl) (by decide) ?_
  refine G_aload_n 0 (dk_at dk_L_piece 2 rfl) rfl ?_
  refine G_iload_n 1 (dk_at dk_L_piece 3 rfl) rfl ?_
  refine G_iload_n 2 (dk_at dk_L_piece 4 rfl) rfl ?_
  obtain ⟨⟨_, ho⟩, h⟩ := h
  refine G_callVX (As := [.int v1, .int v2]) (rest := [.int 0, .ref v3]) lk_L_36 (dk_at dk_L_piece 5 rfl) rfl rfl (Nat.le_of_ble_eq_true rfl) ho (h.mono fun o4 A1 b2 c3 h => ?_)
  rcases h with ⟨i5, rfl, h⟩ | ⟨rfl, h⟩ | ⟨rfl, h⟩
  · change G l X M_L_piece d Q _ _ _ _ _ _
    refine G_i2l (dk_at dk_L_piece 6 rfl) rfl ?_
    refine K_sL (dk_at dk_L_piece 7 rfl) h (fun A6 h => ?_)
    refine G_goto (tgt := 21) (dk_at dk_L_piece 8 rfl) (by decide) ?_
    refine G_iconst (v := 0) (dk_at dk_L_piece 15 rfl) (by decide) ?_
    exact G_iret (ty := .int) rfl rfl (dk_at dk_L_piece 16 rfl) h
  · refine ⟨[], ⟨0, 10, 13, 28⟩, [⟨0, 10, 17, 19⟩], rfl, rfl, by decide, ⟨_, wd_27, wd_28⟩, fun y hy => (nomatch hy), fun q => ?_⟩
    replace h := h q
    change G l X M_L_piece d Q _ _ _ _ _ _
    refine G_astore (lv' := [(4, .ref q), (0, .ref v0), (1, .int v1), (2, .int v2), (3, .ref v3)]) (dk_at dk_L_piece 9 rfl) (by decide) rfl ?_
    refine G_iconst (v := 1) (dk_at dk_L_piece 10 rfl) (by decide) ?_
    exact G_iret (ty := .int) rfl rfl (dk_at dk_L_piece 11 rfl) h
  · refine ⟨[⟨0, 10, 13, 28⟩], ⟨0, 10, 17, 19⟩, [], rfl, rfl, by decide, ⟨_, wd_25, wd_26⟩, fun y hy => by rw [List.mem_singleton.mp hy]; exact ⟨by decide, _, wd_27, by decide⟩, fun q => ?_⟩
    replace h := h q
    change G l X M_L_piece d Q _ _ _ _ _ _
    refine G_astore (lv' := [(4, .ref q), (0, .ref v0), (1, .int v1), (2, .int v2), (3, .ref v3)]) (dk_at dk_L_piece 12 rfl) (by decide) rfl ?_
    refine G_iconst (v := 2) (dk_at dk_L_piece 13 rfl) (by decide) ?_
    exact G_iret (ty := .int) rfl rfl (dk_at dk_L_piece 14 rfl) h
theorem k_L_part_0 {l : Launch} {X : XT} {d : Nat} {Q : Ot → AH → Prop} {A : AH} {bc bs : Nat} {v0 : Nat} {v1 : Int32} {v2 : Int32} {v3 : Nat} (h : isO A v0 6 ∧ Cal l X d bc bs M_X5_part [.ref v0, .int v1, .int v2] A fun o4 A1 b2 c3 => (∃ i5, o4 = Ri i5 ∧ sL X A1 v3 0 (Int32.toInt64 i5) fun A6 => Q (Ri 0) A6) ∨ (o4 = Th "java/lang/IndexOutOfBoundsException" ∧ ∀ q : Nat, Q (Ri 1) A1) ∨ (o4 = Th "java/lang/IllegalArgumentException" ∧ ∀ q : Nat, Q (Ri 2) A1)) : G l X M_L_part d Q 0 [(0, .ref v0), (1, .int v1), (2, .int v2), (3, .ref v3)] [] A bc bs := by
  refine G_aload_n 3 (dk_at dk_L_part 0 rfl) rfl ?_
  refine G_iconst (v := 0) (dk_at dk_L_part 1 rfl) (by decide) ?_
  refine G_aload_n 0 (dk_at dk_L_part 2 rfl) rfl ?_
  refine G_iload_n 1 (dk_at dk_L_part 3 rfl) rfl ?_
  refine G_iload_n 2 (dk_at dk_L_part 4 rfl) rfl ?_
  obtain ⟨⟨_, ho⟩, h⟩ := h
  refine G_callVX (As := [.int v1, .int v2]) (rest := [.int 0, .ref v3]) lk_L_39 (dk_at dk_L_part 5 rfl) rfl rfl (Nat.le_of_ble_eq_true rfl) ho (h.mono fun o4 A1 b2 c3 h => ?_)
  rcases h with ⟨i5, rfl, h⟩ | ⟨rfl, h⟩ | ⟨rfl, h⟩
  · change G l X M_L_part d Q _ _ _ _ _ _
    refine G_i2l (dk_at dk_L_part 6 rfl) rfl ?_
    refine K_sL (dk_at dk_L_part 7 rfl) h (fun A6 h => ?_)
    refine G_goto (tgt := 21) (dk_at dk_L_part 8 rfl) (by decide) ?_
    refine G_iconst (v := 0) (dk_at dk_L_part 15 rfl) (by decide) ?_
    exact G_iret (ty := .int) rfl rfl (dk_at dk_L_part 16 rfl) h
  · refine ⟨[], ⟨0, 10, 13, 28⟩, [⟨0, 10, 17, 19⟩], rfl, rfl, by decide, ⟨_, wd_27, wd_28⟩, fun y hy => (nomatch hy), fun q => ?_⟩
    replace h := h q
    change G l X M_L_part d Q _ _ _ _ _ _
    refine G_astore (lv' := [(4, .ref q), (0, .ref v0), (1, .int v1), (2, .int v2), (3, .ref v3)]) (dk_at dk_L_part 9 rfl) (by decide) rfl ?_
    refine G_iconst (v := 1) (dk_at dk_L_part 10 rfl) (by decide) ?_
    exact G_iret (ty := .int) rfl rfl (dk_at dk_L_part 11 rfl) h
  · refine ⟨[⟨0, 10, 13, 28⟩], ⟨0, 10, 17, 19⟩, [], rfl, rfl, by decide, ⟨_, wd_25, wd_26⟩, fun y hy => by rw [List.mem_singleton.mp hy]; exact ⟨by decide, _, wd_27, by decide⟩, fun q => ?_⟩
    replace h := h q
    change G l X M_L_part d Q _ _ _ _ _ _
    refine G_astore (lv' := [(4, .ref q), (0, .ref v0), (1, .int v1), (2, .int v2), (3, .ref v3)]) (dk_at dk_L_part 12 rfl) (by decide) rfl ?_
    refine G_iconst (v := 2) (dk_at dk_L_part 13 rfl) (by decide) ?_
    exact G_iret (ty := .int) rfl rfl (dk_at dk_L_part 14 rfl) h
theorem k_L_checksum_0 {l : Launch} {X : XT} {d : Nat} {Q : Ot → AH → Prop} {A : AH} {bc bs : Nat} {v0 : Nat} {v1 : Int32} {v2 : Int32} {v3 : Int32} {v4 : Nat} (h : isO A v0 6 ∧ Cal l X d bc bs M_X5_checksum [.ref v0, .int v1, .int v2, .int v3] A fun o4 A1 b2 c3 => (∃ i5, o4 = Ri i5 ∧ sL X A1 v4 0 (Int32.toInt64 i5) fun A6 => Q (Ri 0) A6) ∨ (o4 = Th "java/lang/IndexOutOfBoundsException" ∧ ∀ q : Nat, Q (Ri 1) A1) ∨ (o4 = Th "java/lang/IllegalArgumentException" ∧ ∀ q : Nat, Q (Ri 2) A1)) : G l X M_L_checksum d Q 0 [(0, .ref v0), (1, .int v1), (2, .int v2), (3, .int v3), (4, .ref v4)] [] A bc bs := by
  refine G_aload 4 (dk_at dk_L_checksum 0 rfl) rfl ?_
  refine G_iconst (v := 0) (dk_at dk_L_checksum 1 rfl) (by decide) ?_
  refine G_aload_n 0 (dk_at dk_L_checksum 2 rfl) rfl ?_
  refine G_iload_n 1 (dk_at dk_L_checksum 3 rfl) rfl ?_
  refine G_iload_n 2 (dk_at dk_L_checksum 4 rfl) rfl ?_
  refine G_iload_n 3 (dk_at dk_L_checksum 5 rfl) rfl ?_
  obtain ⟨⟨_, ho⟩, h⟩ := h
  refine G_callVX (As := [.int v1, .int v2, .int v3]) (rest := [.int 0, .ref v4]) lk_L_42 (dk_at dk_L_checksum 6 rfl) rfl rfl (Nat.le_of_ble_eq_true rfl) ho (h.mono fun o4 A1 b2 c3 h => ?_)
  rcases h with ⟨i5, rfl, h⟩ | ⟨rfl, h⟩ | ⟨rfl, h⟩
  · change G l X M_L_checksum d Q _ _ _ _ _ _
    refine G_i2l (dk_at dk_L_checksum 7 rfl) rfl ?_
    refine K_sL (dk_at dk_L_checksum 8 rfl) h (fun A6 h => ?_)
    refine G_goto (tgt := 23) (dk_at dk_L_checksum 9 rfl) (by decide) ?_
    refine G_iconst (v := 0) (dk_at dk_L_checksum 16 rfl) (by decide) ?_
    exact G_iret (ty := .int) rfl rfl (dk_at dk_L_checksum 17 rfl) h
  · refine ⟨[], ⟨0, 12, 15, 28⟩, [⟨0, 12, 19, 19⟩], rfl, rfl, by decide, ⟨_, wd_27, wd_28⟩, fun y hy => (nomatch hy), fun q => ?_⟩
    replace h := h q
    change G l X M_L_checksum d Q _ _ _ _ _ _
    refine G_astore (lv' := [(5, .ref q), (0, .ref v0), (1, .int v1), (2, .int v2), (3, .int v3), (4, .ref v4)]) (dk_at dk_L_checksum 10 rfl) (by decide) rfl ?_
    refine G_iconst (v := 1) (dk_at dk_L_checksum 11 rfl) (by decide) ?_
    exact G_iret (ty := .int) rfl rfl (dk_at dk_L_checksum 12 rfl) h
  · refine ⟨[⟨0, 12, 15, 28⟩], ⟨0, 12, 19, 19⟩, [], rfl, rfl, by decide, ⟨_, wd_25, wd_26⟩, fun y hy => by rw [List.mem_singleton.mp hy]; exact ⟨by decide, _, wd_27, by decide⟩, fun q => ?_⟩
    replace h := h q
    change G l X M_L_checksum d Q _ _ _ _ _ _
    refine G_astore (lv' := [(5, .ref q), (0, .ref v0), (1, .int v1), (2, .int v2), (3, .int v3), (4, .ref v4)]) (dk_at dk_L_checksum 13 rfl) (by decide) rfl ?_
    refine G_iconst (v := 2) (dk_at dk_L_checksum 14 rfl) (by decide) ?_
    exact G_iret (ty := .int) rfl rfl (dk_at dk_L_checksum 15 rfl) h
theorem k_L_connect_0 {l : Launch} {X : XT} {d : Nat} {Q : Ot → AH → Prop} {A : AH} {bc bs : Nat} {v0 : Nat} {v1 : Int32} {v2 : Int32} {v3 : Nat} (h : isO A v0 6 ∧ Cal l X d bc bs M_X5_connect [.ref v0, .int v1, .int v2] A fun o4 A1 b2 c3 => (∃ i5, o4 = Ri i5 ∧ (i5 = 0 → G l X M_L_connect d Q 16 [] [.long 0, .int 0, .ref v3] A1 b2 c3) ∧ (¬ i5 = 0 → G l X M_L_connect d Q 16 [] [.long 1, .int 0, .ref v3] A1 b2 c3)) ∨ (o4 = Th "java/lang/IndexOutOfBoundsException" ∧ ∀ q : Nat, Q (Ri 1) A1) ∨ (o4 = Th "java/lang/IllegalStateException" ∧ ∀ q : Nat, Q (Ri 2) A1)) : G l X M_L_connect d Q 0 [(0, .ref v0), (1, .int v1), (2, .int v2), (3, .ref v3)] [] A bc bs := by
  refine G_aload_n 3 (dk_at dk_L_connect 0 rfl) rfl ?_
  refine G_iconst (v := 0) (dk_at dk_L_connect 1 rfl) (by decide) ?_
  refine G_aload_n 0 (dk_at dk_L_connect 2 rfl) rfl ?_
  refine G_iload_n 1 (dk_at dk_L_connect 3 rfl) rfl ?_
  refine G_iload_n 2 (dk_at dk_L_connect 4 rfl) rfl ?_
  obtain ⟨⟨_, ho⟩, h⟩ := h
  refine G_callVX (As := [.int v1, .int v2]) (rest := [.int 0, .ref v3]) lk_L_46 (dk_at dk_L_connect 5 rfl) rfl rfl (Nat.le_of_ble_eq_true rfl) ho (h.mono fun o4 A1 b2 c3 h => ?_)
  rcases h with ⟨i5, rfl, h⟩ | ⟨rfl, h⟩ | ⟨rfl, h⟩
  · change G l X M_L_connect d Q _ _ _ _ _ _
    refine G_if_eq (tgt := 15) (dk_at dk_L_connect 6 rfl) (by decide) (fun c => ?_) (fun c => ?_)
    · replace h := h.1 c
      refine G_lconst (v := 0) (dk_at dk_L_connect 9 rfl) (by decide) ?_
      refine G_sub [] rfl ?_
      exact h
    · replace h := h.2 c
      refine G_lconst (v := 1) (dk_at dk_L_connect 7 rfl) (by decide) ?_
      refine G_goto (tgt := 16) (dk_at dk_L_connect 8 rfl) (by decide) ?_
      refine G_sub [] rfl ?_
      exact h
  · refine ⟨[], ⟨0, 17, 20, 28⟩, [⟨0, 17, 24, 13⟩], rfl, rfl, by decide, ⟨_, wd_27, wd_28⟩, fun y hy => (nomatch hy), fun q => ?_⟩
    replace h := h q
    change G l X M_L_connect d Q _ _ _ _ _ _
    refine G_astore (lv' := [(4, .ref q), (0, .ref v0), (1, .int v1), (2, .int v2), (3, .ref v3)]) (dk_at dk_L_connect 12 rfl) (by decide) rfl ?_
    refine G_iconst (v := 1) (dk_at dk_L_connect 13 rfl) (by decide) ?_
    exact G_iret (ty := .int) rfl rfl (dk_at dk_L_connect 14 rfl) h
  · refine ⟨[⟨0, 17, 20, 28⟩], ⟨0, 17, 24, 13⟩, [], rfl, rfl, by decide, ⟨_, wd_23, wd_24⟩, fun y hy => by rw [List.mem_singleton.mp hy]; exact ⟨by decide, _, wd_27, by decide⟩, fun q => ?_⟩
    replace h := h q
    change G l X M_L_connect d Q _ _ _ _ _ _
    refine G_astore (lv' := [(4, .ref q), (0, .ref v0), (1, .int v1), (2, .int v2), (3, .ref v3)]) (dk_at dk_L_connect 15 rfl) (by decide) rfl ?_
    refine G_iconst (v := 2) (dk_at dk_L_connect 16 rfl) (by decide) ?_
    exact G_iret (ty := .int) rfl rfl (dk_at dk_L_connect 17 rfl) h
theorem k_L_connect_16 {l : Launch} {X : XT} {d : Nat} {Q : Ot → AH → Prop} {A : AH} {bc bs : Nat} {s0 : Int64} {s1 : Int32} {s2 : Nat} (h : sL X A s2 s1 s0 fun A1 => Q (Ri 0) A1) : G l X M_L_connect d Q 16 [] [.long s0, .int s1, .ref s2] A bc bs := by
  refine K_sL (dk_at dk_L_connect 10 rfl) h (fun A1 h => ?_)
  refine G_goto (tgt := 28) (dk_at dk_L_connect 11 rfl) (by decide) ?_
  refine G_iconst (v := 0) (dk_at dk_L_connect 18 rfl) (by decide) ?_
  exact G_iret (ty := .int) rfl rfl (dk_at dk_L_connect 19 rfl) h
theorem k_L_fetch_0 {l : Launch} {X : XT} {d : Nat} {Q : Ot → AH → Prop} {A : AH} {bc bs : Nat} {v0 : Nat} {v1 : Int32} {v2 : Int32} {v3 : Nat} (h : isO A v0 6 ∧ Cal l X d bc bs M_X5_fetch [.ref v0, .int v1, .int v2] A fun o4 A1 b2 c3 => (∃ i5, o4 = Ri i5 ∧ sL X A1 v3 0 (Int32.toInt64 i5) fun A6 => Q (Ri 0) A6) ∨ (o4 = Th "java/lang/IndexOutOfBoundsException" ∧ ∀ q : Nat, Q (Ri 1) A1) ∨ (o4 = Th "java/lang/IllegalStateException" ∧ ∀ q : Nat, Q (Ri 2) A1)) : G l X M_L_fetch d Q 0 [(0, .ref v0), (1, .int v1), (2, .int v2), (3, .ref v3)] [] A bc bs := by
  refine G_aload_n 3 (dk_at dk_L_fetch 0 rfl) rfl ?_
  refine G_iconst (v := 0) (dk_at dk_L_fetch 1 rfl) (by decide) ?_
  refine G_aload_n 0 (dk_at dk_L_fetch 2 rfl) rfl ?_
  refine G_iload_n 1 (dk_at dk_L_fetch 3 rfl) rfl ?_
  refine G_iload_n 2 (dk_at dk_L_fetch 4 rfl) rfl ?_
  obtain ⟨⟨_, ho⟩, h⟩ := h
  refine G_callVX (As := [.int v1, .int v2]) (rest := [.int 0, .ref v3]) lk_L_50 (dk_at dk_L_fetch 5 rfl) rfl rfl (Nat.le_of_ble_eq_true rfl) ho (h.mono fun o4 A1 b2 c3 h => ?_)
  rcases h with ⟨i5, rfl, h⟩ | ⟨rfl, h⟩ | ⟨rfl, h⟩
  · change G l X M_L_fetch d Q _ _ _ _ _ _
    refine G_i2l (dk_at dk_L_fetch 6 rfl) rfl ?_
    refine K_sL (dk_at dk_L_fetch 7 rfl) h (fun A6 h => ?_)
    refine G_goto (tgt := 21) (dk_at dk_L_fetch 8 rfl) (by decide) ?_
    refine G_iconst (v := 0) (dk_at dk_L_fetch 15 rfl) (by decide) ?_
    exact G_iret (ty := .int) rfl rfl (dk_at dk_L_fetch 16 rfl) h
  · refine ⟨[], ⟨0, 10, 13, 28⟩, [⟨0, 10, 17, 13⟩], rfl, rfl, by decide, ⟨_, wd_27, wd_28⟩, fun y hy => (nomatch hy), fun q => ?_⟩
    replace h := h q
    change G l X M_L_fetch d Q _ _ _ _ _ _
    refine G_astore (lv' := [(4, .ref q), (0, .ref v0), (1, .int v1), (2, .int v2), (3, .ref v3)]) (dk_at dk_L_fetch 9 rfl) (by decide) rfl ?_
    refine G_iconst (v := 1) (dk_at dk_L_fetch 10 rfl) (by decide) ?_
    exact G_iret (ty := .int) rfl rfl (dk_at dk_L_fetch 11 rfl) h
  · refine ⟨[⟨0, 10, 13, 28⟩], ⟨0, 10, 17, 13⟩, [], rfl, rfl, by decide, ⟨_, wd_23, wd_24⟩, fun y hy => by rw [List.mem_singleton.mp hy]; exact ⟨by decide, _, wd_27, by decide⟩, fun q => ?_⟩
    replace h := h q
    change G l X M_L_fetch d Q _ _ _ _ _ _
    refine G_astore (lv' := [(4, .ref q), (0, .ref v0), (1, .int v1), (2, .int v2), (3, .ref v3)]) (dk_at dk_L_fetch 12 rfl) (by decide) rfl ?_
    refine G_iconst (v := 2) (dk_at dk_L_fetch 13 rfl) (by decide) ?_
    exact G_iret (ty := .int) rfl rfl (dk_at dk_L_fetch 14 rfl) h
theorem k_L_search_0 {l : Launch} {X : XT} {d : Nat} {Q : Ot → AH → Prop} {A : AH} {bc bs : Nat} {v0 : Nat} {v1 : Int32} {v2 : Nat} (h : isO A v0 6 ∧ Cal l X d bc bs M_X5_search [.ref v0, .int v1] A fun o4 A1 b2 c3 => (∃ i5, o4 = Ri i5 ∧ sL X A1 v2 0 (Int32.toInt64 i5) fun A6 => Q (Ri 0) A6) ∨ (o4 = Th "java/lang/IndexOutOfBoundsException" ∧ ∀ q : Nat, Q (Ri 1) A1) ∨ (o4 = Th "java/lang/IllegalStateException" ∧ ∀ q : Nat, Q (Ri 2) A1)) : G l X M_L_search d Q 0 [(0, .ref v0), (1, .int v1), (2, .ref v2)] [] A bc bs := by
  refine G_aload_n 2 (dk_at dk_L_search 0 rfl) rfl ?_
  refine G_iconst (v := 0) (dk_at dk_L_search 1 rfl) (by decide) ?_
  refine G_aload_n 0 (dk_at dk_L_search 2 rfl) rfl ?_
  refine G_iload_n 1 (dk_at dk_L_search 3 rfl) rfl ?_
  obtain ⟨⟨_, ho⟩, h⟩ := h
  refine G_callVX (As := [.int v1]) (rest := [.int 0, .ref v2]) lk_L_53 (dk_at dk_L_search 4 rfl) rfl rfl (Nat.le_of_ble_eq_true rfl) ho (h.mono fun o4 A1 b2 c3 h => ?_)
  rcases h with ⟨i5, rfl, h⟩ | ⟨rfl, h⟩ | ⟨rfl, h⟩
  · change G l X M_L_search d Q _ _ _ _ _ _
    refine G_i2l (dk_at dk_L_search 5 rfl) rfl ?_
    refine K_sL (dk_at dk_L_search 6 rfl) h (fun A6 h => ?_)
    refine G_goto (tgt := 18) (dk_at dk_L_search 7 rfl) (by decide) ?_
    refine G_iconst (v := 0) (dk_at dk_L_search 14 rfl) (by decide) ?_
    exact G_iret (ty := .int) rfl rfl (dk_at dk_L_search 15 rfl) h
  · refine ⟨[], ⟨0, 9, 12, 28⟩, [⟨0, 9, 15, 13⟩], rfl, rfl, by decide, ⟨_, wd_27, wd_28⟩, fun y hy => (nomatch hy), fun q => ?_⟩
    replace h := h q
    change G l X M_L_search d Q _ _ _ _ _ _
    refine G_astore_n (lv' := [(3, .ref q), (0, .ref v0), (1, .int v1), (2, .ref v2)]) (dk_at dk_L_search 8 rfl) (by decide) rfl ?_
    refine G_iconst (v := 1) (dk_at dk_L_search 9 rfl) (by decide) ?_
    exact G_iret (ty := .int) rfl rfl (dk_at dk_L_search 10 rfl) h
  · refine ⟨[⟨0, 9, 12, 28⟩], ⟨0, 9, 15, 13⟩, [], rfl, rfl, by decide, ⟨_, wd_23, wd_24⟩, fun y hy => by rw [List.mem_singleton.mp hy]; exact ⟨by decide, _, wd_27, by decide⟩, fun q => ?_⟩
    replace h := h q
    change G l X M_L_search d Q _ _ _ _ _ _
    refine G_astore_n (lv' := [(3, .ref q), (0, .ref v0), (1, .int v1), (2, .ref v2)]) (dk_at dk_L_search 11 rfl) (by decide) rfl ?_
    refine G_iconst (v := 2) (dk_at dk_L_search 12 rfl) (by decide) ?_
    exact G_iret (ty := .int) rfl rfl (dk_at dk_L_search 13 rfl) h
theorem k_L_queriesFor_0 {l : Launch} {X : XT} {d : Nat} {Q : Ot → AH → Prop} {A : AH} {bc bs : Nat} {v0 : Nat} {v1 : Int32} {v2 : Nat} (h : isO A v0 6 ∧ Cal l X d bc bs M_X5_queriesFor [.ref v0, .int v1] A fun o4 A1 b2 c3 => (∃ i5, o4 = Ri i5 ∧ sL X A1 v2 0 (Int32.toInt64 i5) fun A6 => Q (Ri 0) A6) ∨ (o4 = Th "java/lang/IndexOutOfBoundsException" ∧ ∀ q : Nat, Q (Ri 1) A1) ∨ (o4 = Th "java/util/NoSuchElementException" ∧ ∀ q : Nat, Q (Ri 2) A1)) : G l X M_L_queriesFor d Q 0 [(0, .ref v0), (1, .int v1), (2, .ref v2)] [] A bc bs := by
  refine G_aload_n 2 (dk_at dk_L_queriesFor 0 rfl) rfl ?_
  refine G_iconst (v := 0) (dk_at dk_L_queriesFor 1 rfl) (by decide) ?_
  refine G_aload_n 0 (dk_at dk_L_queriesFor 2 rfl) rfl ?_
  refine G_iload_n 1 (dk_at dk_L_queriesFor 3 rfl) rfl ?_
  obtain ⟨⟨_, ho⟩, h⟩ := h
  refine G_callVX (As := [.int v1]) (rest := [.int 0, .ref v2]) lk_L_56 (dk_at dk_L_queriesFor 4 rfl) rfl rfl (Nat.le_of_ble_eq_true rfl) ho (h.mono fun o4 A1 b2 c3 h => ?_)
  rcases h with ⟨i5, rfl, h⟩ | ⟨rfl, h⟩ | ⟨rfl, h⟩
  · change G l X M_L_queriesFor d Q _ _ _ _ _ _
    refine G_i2l (dk_at dk_L_queriesFor 5 rfl) rfl ?_
    refine K_sL (dk_at dk_L_queriesFor 6 rfl) h (fun A6 h => ?_)
    refine G_goto (tgt := 18) (dk_at dk_L_queriesFor 7 rfl) (by decide) ?_
    refine G_iconst (v := 0) (dk_at dk_L_queriesFor 14 rfl) (by decide) ?_
    exact G_iret (ty := .int) rfl rfl (dk_at dk_L_queriesFor 15 rfl) h
  · refine ⟨[], ⟨0, 9, 12, 28⟩, [⟨0, 9, 15, 59⟩], rfl, rfl, by decide, ⟨_, wd_27, wd_28⟩, fun y hy => (nomatch hy), fun q => ?_⟩
    replace h := h q
    change G l X M_L_queriesFor d Q _ _ _ _ _ _
    refine G_astore_n (lv' := [(3, .ref q), (0, .ref v0), (1, .int v1), (2, .ref v2)]) (dk_at dk_L_queriesFor 8 rfl) (by decide) rfl ?_
    refine G_iconst (v := 1) (dk_at dk_L_queriesFor 9 rfl) (by decide) ?_
    exact G_iret (ty := .int) rfl rfl (dk_at dk_L_queriesFor 10 rfl) h
  · refine ⟨[⟨0, 9, 12, 28⟩], ⟨0, 9, 15, 59⟩, [], rfl, rfl, by decide, ⟨_, wd_29, wd_30⟩, fun y hy => by rw [List.mem_singleton.mp hy]; exact ⟨by decide, _, wd_27, by decide⟩, fun q => ?_⟩
    replace h := h q
    change G l X M_L_queriesFor d Q _ _ _ _ _ _
    refine G_astore_n (lv' := [(3, .ref q), (0, .ref v0), (1, .int v1), (2, .ref v2)]) (dk_at dk_L_queriesFor 11 rfl) (by decide) rfl ?_
    refine G_iconst (v := 2) (dk_at dk_L_queriesFor 12 rfl) (by decide) ?_
    exact G_iret (ty := .int) rfl rfl (dk_at dk_L_queriesFor 13 rfl) h
theorem k_L_drop_0 {l : Launch} {X : XT} {d : Nat} {Q : Ot → AH → Prop} {A : AH} {bc bs : Nat} {v0 : Nat} {v1 : Int32} {v2 : Nat} (h : isO A v0 6 ∧ Cal l X d bc bs M_X5_drop [.ref v0, .int v1] A fun o4 A1 b2 c3 => (∃ i5, o4 = Ri i5 ∧ sL X A1 v2 0 (Int32.toInt64 i5) fun A6 => Q (Ri 0) A6) ∨ (o4 = Th "java/lang/IndexOutOfBoundsException" ∧ ∀ q : Nat, Q (Ri 1) A1) ∨ (o4 = Th "java/lang/IllegalStateException" ∧ ∀ q : Nat, Q (Ri 2) A1)) : G l X M_L_drop d Q 0 [(0, .ref v0), (1, .int v1), (2, .ref v2)] [] A bc bs := by
  refine G_aload_n 2 (dk_at dk_L_drop 0 rfl) rfl ?_
  refine G_iconst (v := 0) (dk_at dk_L_drop 1 rfl) (by decide) ?_
  refine G_aload_n 0 (dk_at dk_L_drop 2 rfl) rfl ?_
  refine G_iload_n 1 (dk_at dk_L_drop 3 rfl) rfl ?_
  obtain ⟨⟨_, ho⟩, h⟩ := h
  refine G_callVX (As := [.int v1]) (rest := [.int 0, .ref v2]) lk_L_61 (dk_at dk_L_drop 4 rfl) rfl rfl (Nat.le_of_ble_eq_true rfl) ho (h.mono fun o4 A1 b2 c3 h => ?_)
  rcases h with ⟨i5, rfl, h⟩ | ⟨rfl, h⟩ | ⟨rfl, h⟩
  · change G l X M_L_drop d Q _ _ _ _ _ _
    refine G_i2l (dk_at dk_L_drop 5 rfl) rfl ?_
    refine K_sL (dk_at dk_L_drop 6 rfl) h (fun A6 h => ?_)
    refine G_goto (tgt := 18) (dk_at dk_L_drop 7 rfl) (by decide) ?_
    refine G_iconst (v := 0) (dk_at dk_L_drop 14 rfl) (by decide) ?_
    exact G_iret (ty := .int) rfl rfl (dk_at dk_L_drop 15 rfl) h
  · refine ⟨[], ⟨0, 9, 12, 28⟩, [⟨0, 9, 15, 13⟩], rfl, rfl, by decide, ⟨_, wd_27, wd_28⟩, fun y hy => (nomatch hy), fun q => ?_⟩
    replace h := h q
    change G l X M_L_drop d Q _ _ _ _ _ _
    refine G_astore_n (lv' := [(3, .ref q), (0, .ref v0), (1, .int v1), (2, .ref v2)]) (dk_at dk_L_drop 8 rfl) (by decide) rfl ?_
    refine G_iconst (v := 1) (dk_at dk_L_drop 9 rfl) (by decide) ?_
    exact G_iret (ty := .int) rfl rfl (dk_at dk_L_drop 10 rfl) h
  · refine ⟨[⟨0, 9, 12, 28⟩], ⟨0, 9, 15, 13⟩, [], rfl, rfl, by decide, ⟨_, wd_23, wd_24⟩, fun y hy => by rw [List.mem_singleton.mp hy]; exact ⟨by decide, _, wd_27, by decide⟩, fun q => ?_⟩
    replace h := h q
    change G l X M_L_drop d Q _ _ _ _ _ _
    refine G_astore_n (lv' := [(3, .ref q), (0, .ref v0), (1, .int v1), (2, .ref v2)]) (dk_at dk_L_drop 11 rfl) (by decide) rfl ?_
    refine G_iconst (v := 2) (dk_at dk_L_drop 12 rfl) (by decide) ?_
    exact G_iret (ty := .int) rfl rfl (dk_at dk_L_drop 13 rfl) h
theorem k_L_run_0 {l : Launch} {X : XT} {d : Nat} {Q : Ot → AH → Prop} {A : AH} {bc bs : Nat} {v0 : Nat} {v1 : Int32} {v2 : Nat} (h : isO A v0 6 ∧ Cal l X d bc bs M_X5_run [.ref v0, .int v1] A fun o4 A1 b2 c3 => (∃ i5, o4 = Ri i5 ∧ sL X A1 v2 0 (Int32.toInt64 i5) fun A6 => Q (Ri 0) A6) ∨ (o4 = Th "java/lang/IllegalArgumentException" ∧ ∀ q : Nat, Q (Ri 1) A1)) : G l X M_L_run d Q 0 [(0, .ref v0), (1, .int v1), (2, .ref v2)] [] A bc bs := by
  refine G_aload_n 2 (dk_at dk_L_run 0 rfl) rfl ?_
  refine G_iconst (v := 0) (dk_at dk_L_run 1 rfl) (by decide) ?_
  refine G_aload_n 0 (dk_at dk_L_run 2 rfl) rfl ?_
  refine G_iload_n 1 (dk_at dk_L_run 3 rfl) rfl ?_
  obtain ⟨⟨_, ho⟩, h⟩ := h
  refine G_callVX (As := [.int v1]) (rest := [.int 0, .ref v2]) lk_L_64 (dk_at dk_L_run 4 rfl) rfl rfl (Nat.le_of_ble_eq_true rfl) ho (h.mono fun o4 A1 b2 c3 h => ?_)
  rcases h with ⟨i5, rfl, h⟩ | ⟨rfl, h⟩
  · change G l X M_L_run d Q _ _ _ _ _ _
    refine G_i2l (dk_at dk_L_run 5 rfl) rfl ?_
    refine K_sL (dk_at dk_L_run 6 rfl) h (fun A6 h => ?_)
    refine G_goto (tgt := 15) (dk_at dk_L_run 7 rfl) (by decide) ?_
    refine G_iconst (v := 0) (dk_at dk_L_run 11 rfl) (by decide) ?_
    exact G_iret (ty := .int) rfl rfl (dk_at dk_L_run 12 rfl) h
  · refine ⟨[], ⟨0, 9, 12, 19⟩, [], rfl, rfl, by decide, ⟨_, wd_25, wd_26⟩, fun y hy => (nomatch hy), fun q => ?_⟩
    replace h := h q
    change G l X M_L_run d Q _ _ _ _ _ _
    refine G_astore_n (lv' := [(3, .ref q), (0, .ref v0), (1, .int v1), (2, .ref v2)]) (dk_at dk_L_run 8 rfl) (by decide) rfl ?_
    refine G_iconst (v := 1) (dk_at dk_L_run 9 rfl) (by decide) ?_
    exact G_iret (ty := .int) rfl rfl (dk_at dk_L_run 10 rfl) h
theorem k_L_keep_0 {l : Launch} {X : XT} {d : Nat} {Q : Ot → AH → Prop} {A : AH} {bc bs : Nat} {v0 : Nat} {v1 : Int32} {v2 : Nat} (h : isO A v0 6 ∧ Cal l X d bc bs M_X5_keep [.ref v0, .int v1] A fun o4 A1 b2 c3 => (∃ i5, o4 = Ri i5 ∧ sL X A1 v2 0 (Int32.toInt64 i5) fun A6 => Q (Ri 0) A6) ∨ (o4 = Th "java/lang/IllegalArgumentException" ∧ ∀ q : Nat, Q (Ri 1) A1) ∨ (o4 = Th "java/lang/IllegalStateException" ∧ ∀ q : Nat, Q (Ri 2) A1)) : G l X M_L_keep d Q 0 [(0, .ref v0), (1, .int v1), (2, .ref v2)] [] A bc bs := by
  refine G_aload_n 2 (dk_at dk_L_keep 0 rfl) rfl ?_
  refine G_iconst (v := 0) (dk_at dk_L_keep 1 rfl) (by decide) ?_
  refine G_aload_n 0 (dk_at dk_L_keep 2 rfl) rfl ?_
  refine G_iload_n 1 (dk_at dk_L_keep 3 rfl) rfl ?_
  obtain ⟨⟨_, ho⟩, h⟩ := h
  refine G_callVX (As := [.int v1]) (rest := [.int 0, .ref v2]) lk_L_67 (dk_at dk_L_keep 4 rfl) rfl rfl (Nat.le_of_ble_eq_true rfl) ho (h.mono fun o4 A1 b2 c3 h => ?_)
  rcases h with ⟨i5, rfl, h⟩ | ⟨rfl, h⟩ | ⟨rfl, h⟩
  · change G l X M_L_keep d Q _ _ _ _ _ _
    refine G_i2l (dk_at dk_L_keep 5 rfl) rfl ?_
    refine K_sL (dk_at dk_L_keep 6 rfl) h (fun A6 h => ?_)
    refine G_goto (tgt := 18) (dk_at dk_L_keep 7 rfl) (by decide) ?_
    refine G_iconst (v := 0) (dk_at dk_L_keep 14 rfl) (by decide) ?_
    exact G_iret (ty := .int) rfl rfl (dk_at dk_L_keep 15 rfl) h
  · refine ⟨[], ⟨0, 9, 12, 19⟩, [⟨0, 9, 15, 13⟩], rfl, rfl, by decide, ⟨_, wd_25, wd_26⟩, fun y hy => (nomatch hy), fun q => ?_⟩
    replace h := h q
    change G l X M_L_keep d Q _ _ _ _ _ _
    refine G_astore_n (lv' := [(3, .ref q), (0, .ref v0), (1, .int v1), (2, .ref v2)]) (dk_at dk_L_keep 8 rfl) (by decide) rfl ?_
    refine G_iconst (v := 1) (dk_at dk_L_keep 9 rfl) (by decide) ?_
    exact G_iret (ty := .int) rfl rfl (dk_at dk_L_keep 10 rfl) h
  · refine ⟨[⟨0, 9, 12, 19⟩], ⟨0, 9, 15, 13⟩, [], rfl, rfl, by decide, ⟨_, wd_23, wd_24⟩, fun y hy => by rw [List.mem_singleton.mp hy]; exact ⟨by decide, _, wd_25, by decide⟩, fun q => ?_⟩
    replace h := h q
    change G l X M_L_keep d Q _ _ _ _ _ _
    refine G_astore_n (lv' := [(3, .ref q), (0, .ref v0), (1, .int v1), (2, .ref v2)]) (dk_at dk_L_keep 11 rfl) (by decide) rfl ?_
    refine G_iconst (v := 2) (dk_at dk_L_keep 12 rfl) (by decide) ?_
    exact G_iret (ty := .int) rfl rfl (dk_at dk_L_keep 13 rfl) h
theorem k_L_resume_0 {l : Launch} {X : XT} {d : Nat} {Q : Ot → AH → Prop} {A : AH} {bc bs : Nat} {v0 : Nat} {v1 : Int32} {v2 : Nat} (h : isO A v0 6 ∧ Cal l X d bc bs M_X5_resume [.ref v0, .int v1] A fun o4 A1 b2 c3 => (∃ i5, o4 = Ri i5 ∧ sL X A1 v2 0 (Int32.toInt64 i5) fun A6 => Q (Ri 0) A6) ∨ (o4 = Th "java/lang/IndexOutOfBoundsException" ∧ ∀ q : Nat, Q (Ri 1) A1) ∨ (o4 = Th "java/lang/IllegalStateException" ∧ ∀ q : Nat, Q (Ri 2) A1)) : G l X M_L_resume d Q 0 [(0, .ref v0), (1, .int v1), (2, .ref v2)] [] A bc bs := by
  refine G_aload_n 2 (dk_at dk_L_resume 0 rfl) rfl ?_
  refine G_iconst (v := 0) (dk_at dk_L_resume 1 rfl) (by decide) ?_
  refine G_aload_n 0 (dk_at dk_L_resume 2 rfl) rfl ?_
  refine G_iload_n 1 (dk_at dk_L_resume 3 rfl) rfl ?_
  obtain ⟨⟨_, ho⟩, h⟩ := h
  refine G_callVX (As := [.int v1]) (rest := [.int 0, .ref v2]) lk_L_70 (dk_at dk_L_resume 4 rfl) rfl rfl (Nat.le_of_ble_eq_true rfl) ho (h.mono fun o4 A1 b2 c3 h => ?_)
  rcases h with ⟨i5, rfl, h⟩ | ⟨rfl, h⟩ | ⟨rfl, h⟩
  · change G l X M_L_resume d Q _ _ _ _ _ _
    refine G_i2l (dk_at dk_L_resume 5 rfl) rfl ?_
    refine K_sL (dk_at dk_L_resume 6 rfl) h (fun A6 h => ?_)
    refine G_goto (tgt := 18) (dk_at dk_L_resume 7 rfl) (by decide) ?_
    refine G_iconst (v := 0) (dk_at dk_L_resume 14 rfl) (by decide) ?_
    exact G_iret (ty := .int) rfl rfl (dk_at dk_L_resume 15 rfl) h
  · refine ⟨[], ⟨0, 9, 12, 28⟩, [⟨0, 9, 15, 13⟩], rfl, rfl, by decide, ⟨_, wd_27, wd_28⟩, fun y hy => (nomatch hy), fun q => ?_⟩
    replace h := h q
    change G l X M_L_resume d Q _ _ _ _ _ _
    refine G_astore_n (lv' := [(3, .ref q), (0, .ref v0), (1, .int v1), (2, .ref v2)]) (dk_at dk_L_resume 8 rfl) (by decide) rfl ?_
    refine G_iconst (v := 1) (dk_at dk_L_resume 9 rfl) (by decide) ?_
    exact G_iret (ty := .int) rfl rfl (dk_at dk_L_resume 10 rfl) h
  · refine ⟨[⟨0, 9, 12, 28⟩], ⟨0, 9, 15, 13⟩, [], rfl, rfl, by decide, ⟨_, wd_23, wd_24⟩, fun y hy => by rw [List.mem_singleton.mp hy]; exact ⟨by decide, _, wd_27, by decide⟩, fun q => ?_⟩
    replace h := h q
    change G l X M_L_resume d Q _ _ _ _ _ _
    refine G_astore_n (lv' := [(3, .ref q), (0, .ref v0), (1, .int v1), (2, .ref v2)]) (dk_at dk_L_resume 11 rfl) (by decide) rfl ?_
    refine G_iconst (v := 2) (dk_at dk_L_resume 12 rfl) (by decide) ?_
    exact G_iret (ty := .int) rfl rfl (dk_at dk_L_resume 13 rfl) h
theorem k_L_named_0 {l : Launch} {X : XT} {d : Nat} {Q : Ot → AH → Prop} {A : AH} {bc bs : Nat} {v0 : Nat} {v1 : Int32} {v2 : Nat} (h : isO A v0 6 ∧ Cal l X d bc bs M_X5_named [.ref v0, .int v1] A fun o4 A1 b2 c3 => (∃ i5, o4 = Ri i5 ∧ sL X A1 v2 0 (Int32.toInt64 i5) fun A6 => Q (Ri 0) A6) ∨ (o4 = Th "java/util/NoSuchElementException" ∧ ∀ q : Nat, Q (Ri 1) A1)) : G l X M_L_named d Q 0 [(0, .ref v0), (1, .int v1), (2, .ref v2)] [] A bc bs := by
  refine G_aload_n 2 (dk_at dk_L_named 0 rfl) rfl ?_
  refine G_iconst (v := 0) (dk_at dk_L_named 1 rfl) (by decide) ?_
  refine G_aload_n 0 (dk_at dk_L_named 2 rfl) rfl ?_
  refine G_iload_n 1 (dk_at dk_L_named 3 rfl) rfl ?_
  obtain ⟨⟨_, ho⟩, h⟩ := h
  refine G_callVX (As := [.int v1]) (rest := [.int 0, .ref v2]) lk_L_73 (dk_at dk_L_named 4 rfl) rfl rfl (Nat.le_of_ble_eq_true rfl) ho (h.mono fun o4 A1 b2 c3 h => ?_)
  rcases h with ⟨i5, rfl, h⟩ | ⟨rfl, h⟩
  · change G l X M_L_named d Q _ _ _ _ _ _
    refine G_i2l (dk_at dk_L_named 5 rfl) rfl ?_
    refine K_sL (dk_at dk_L_named 6 rfl) h (fun A6 h => ?_)
    refine G_goto (tgt := 15) (dk_at dk_L_named 7 rfl) (by decide) ?_
    refine G_iconst (v := 0) (dk_at dk_L_named 11 rfl) (by decide) ?_
    exact G_iret (ty := .int) rfl rfl (dk_at dk_L_named 12 rfl) h
  · refine ⟨[], ⟨0, 9, 12, 59⟩, [], rfl, rfl, by decide, ⟨_, wd_29, wd_30⟩, fun y hy => (nomatch hy), fun q => ?_⟩
    replace h := h q
    change G l X M_L_named d Q _ _ _ _ _ _
    refine G_astore_n (lv' := [(3, .ref q), (0, .ref v0), (1, .int v1), (2, .ref v2)]) (dk_at dk_L_named 8 rfl) (by decide) rfl ?_
    refine G_iconst (v := 1) (dk_at dk_L_named 9 rfl) (by decide) ?_
    exact G_iret (ty := .int) rfl rfl (dk_at dk_L_named 10 rfl) h
theorem k_L_sized_0 {l : Launch} {X : XT} {d : Nat} {Q : Ot → AH → Prop} {A : AH} {bc bs : Nat} {v0 : Nat} {v1 : Int32} {v2 : Nat} (h : isO A v0 6 ∧ Cal l X d bc bs M_X5_sized [.ref v0, .int v1] A fun o4 A1 b2 c3 => (∃ i5, o4 = Ri i5 ∧ sL X A1 v2 0 (Int32.toInt64 i5) fun A6 => Q (Ri 0) A6) ∨ (o4 = Th "java/util/NoSuchElementException" ∧ ∀ q : Nat, Q (Ri 1) A1)) : G l X M_L_sized d Q 0 [(0, .ref v0), (1, .int v1), (2, .ref v2)] [] A bc bs := by
  refine G_aload_n 2 (dk_at dk_L_sized 0 rfl) rfl ?_
  refine G_iconst (v := 0) (dk_at dk_L_sized 1 rfl) (by decide) ?_
  refine G_aload_n 0 (dk_at dk_L_sized 2 rfl) rfl ?_
  refine G_iload_n 1 (dk_at dk_L_sized 3 rfl) rfl ?_
  obtain ⟨⟨_, ho⟩, h⟩ := h
  refine G_callVX (As := [.int v1]) (rest := [.int 0, .ref v2]) lk_L_76 (dk_at dk_L_sized 4 rfl) rfl rfl (Nat.le_of_ble_eq_true rfl) ho (h.mono fun o4 A1 b2 c3 h => ?_)
  rcases h with ⟨i5, rfl, h⟩ | ⟨rfl, h⟩
  · change G l X M_L_sized d Q _ _ _ _ _ _
    refine G_i2l (dk_at dk_L_sized 5 rfl) rfl ?_
    refine K_sL (dk_at dk_L_sized 6 rfl) h (fun A6 h => ?_)
    refine G_goto (tgt := 15) (dk_at dk_L_sized 7 rfl) (by decide) ?_
    refine G_iconst (v := 0) (dk_at dk_L_sized 11 rfl) (by decide) ?_
    exact G_iret (ty := .int) rfl rfl (dk_at dk_L_sized 12 rfl) h
  · refine ⟨[], ⟨0, 9, 12, 59⟩, [], rfl, rfl, by decide, ⟨_, wd_29, wd_30⟩, fun y hy => (nomatch hy), fun q => ?_⟩
    replace h := h q
    change G l X M_L_sized d Q _ _ _ _ _ _
    refine G_astore_n (lv' := [(3, .ref q), (0, .ref v0), (1, .int v1), (2, .ref v2)]) (dk_at dk_L_sized 8 rfl) (by decide) rfl ?_
    refine G_iconst (v := 1) (dk_at dk_L_sized 9 rfl) (by decide) ?_
    exact G_iret (ty := .int) rfl rfl (dk_at dk_L_sized 10 rfl) h
theorem k_L_rename_0 {l : Launch} {X : XT} {d : Nat} {Q : Ot → AH → Prop} {A : AH} {bc bs : Nat} {v0 : Nat} {v1 : Int32} {v2 : Int32} {v3 : Nat} (h : isO A v0 6 ∧ Cal l X d bc bs M_X5_rename [.ref v0, .int v1, .int v2] A fun o4 A1 b2 c3 => (∃ i5, o4 = Ri i5 ∧ sL X A1 v3 0 (Int32.toInt64 i5) fun A6 => Q (Ri 0) A6) ∨ (o4 = Th "java/lang/IndexOutOfBoundsException" ∧ ∀ q : Nat, Q (Ri 1) A1) ∨ (o4 = Th "java/lang/IllegalArgumentException" ∧ ∀ q : Nat, Q (Ri 2) A1)) : G l X M_L_rename d Q 0 [(0, .ref v0), (1, .int v1), (2, .int v2), (3, .ref v3)] [] A bc bs := by
  refine G_aload_n 3 (dk_at dk_L_rename 0 rfl) rfl ?_
  refine G_iconst (v := 0) (dk_at dk_L_rename 1 rfl) (by decide) ?_
  refine G_aload_n 0 (dk_at dk_L_rename 2 rfl) rfl ?_
  refine G_iload_n 1 (dk_at dk_L_rename 3 rfl) rfl ?_
  refine G_iload_n 2 (dk_at dk_L_rename 4 rfl) rfl ?_
  obtain ⟨⟨_, ho⟩, h⟩ := h
  refine G_callVX (As := [.int v1, .int v2]) (rest := [.int 0, .ref v3]) lk_L_79 (dk_at dk_L_rename 5 rfl) rfl rfl (Nat.le_of_ble_eq_true rfl) ho (h.mono fun o4 A1 b2 c3 h => ?_)
  rcases h with ⟨i5, rfl, h⟩ | ⟨rfl, h⟩ | ⟨rfl, h⟩
  · change G l X M_L_rename d Q _ _ _ _ _ _
    refine G_i2l (dk_at dk_L_rename 6 rfl) rfl ?_
    refine K_sL (dk_at dk_L_rename 7 rfl) h (fun A6 h => ?_)
    refine G_goto (tgt := 21) (dk_at dk_L_rename 8 rfl) (by decide) ?_
    refine G_iconst (v := 0) (dk_at dk_L_rename 15 rfl) (by decide) ?_
    exact G_iret (ty := .int) rfl rfl (dk_at dk_L_rename 16 rfl) h
  · refine ⟨[], ⟨0, 10, 13, 28⟩, [⟨0, 10, 17, 19⟩], rfl, rfl, by decide, ⟨_, wd_27, wd_28⟩, fun y hy => (nomatch hy), fun q => ?_⟩
    replace h := h q
    change G l X M_L_rename d Q _ _ _ _ _ _
    refine G_astore (lv' := [(4, .ref q), (0, .ref v0), (1, .int v1), (2, .int v2), (3, .ref v3)]) (dk_at dk_L_rename 9 rfl) (by decide) rfl ?_
    refine G_iconst (v := 1) (dk_at dk_L_rename 10 rfl) (by decide) ?_
    exact G_iret (ty := .int) rfl rfl (dk_at dk_L_rename 11 rfl) h
  · refine ⟨[⟨0, 10, 13, 28⟩], ⟨0, 10, 17, 19⟩, [], rfl, rfl, by decide, ⟨_, wd_25, wd_26⟩, fun y hy => by rw [List.mem_singleton.mp hy]; exact ⟨by decide, _, wd_27, by decide⟩, fun q => ?_⟩
    replace h := h q
    change G l X M_L_rename d Q _ _ _ _ _ _
    refine G_astore (lv' := [(4, .ref q), (0, .ref v0), (1, .int v1), (2, .int v2), (3, .ref v3)]) (dk_at dk_L_rename 12 rfl) (by decide) rfl ?_
    refine G_iconst (v := 2) (dk_at dk_L_rename 13 rfl) (by decide) ?_
    exact G_iret (ty := .int) rfl rfl (dk_at dk_L_rename 14 rfl) h
theorem k_L_spoil_0 {l : Launch} {X : XT} {d : Nat} {Q : Ot → AH → Prop} {A : AH} {bc bs : Nat} {v0 : Nat} {v1 : Int32} {v2 : Int32} {v3 : Int32} {v4 : Nat} (h : isO A v0 6 ∧ Cal l X d bc bs M_X5_spoil [.ref v0, .int v1, .int v2, .int v3] A fun o4 A1 b2 c3 => (∃ i5, o4 = Ri i5 ∧ sL X A1 v4 0 (Int32.toInt64 i5) fun A6 => Q (Ri 0) A6) ∨ (o4 = Th "java/lang/IndexOutOfBoundsException" ∧ ∀ q : Nat, Q (Ri 1) A1) ∨ (o4 = Th "java/lang/IllegalArgumentException" ∧ ∀ q : Nat, Q (Ri 2) A1)) : G l X M_L_spoil d Q 0 [(0, .ref v0), (1, .int v1), (2, .int v2), (3, .int v3), (4, .ref v4)] [] A bc bs := by
  refine G_aload 4 (dk_at dk_L_spoil 0 rfl) rfl ?_
  refine G_iconst (v := 0) (dk_at dk_L_spoil 1 rfl) (by decide) ?_
  refine G_aload_n 0 (dk_at dk_L_spoil 2 rfl) rfl ?_
  refine G_iload_n 1 (dk_at dk_L_spoil 3 rfl) rfl ?_
  refine G_iload_n 2 (dk_at dk_L_spoil 4 rfl) rfl ?_
  refine G_iload_n 3 (dk_at dk_L_spoil 5 rfl) rfl ?_
  obtain ⟨⟨_, ho⟩, h⟩ := h
  refine G_callVX (As := [.int v1, .int v2, .int v3]) (rest := [.int 0, .ref v4]) lk_L_82 (dk_at dk_L_spoil 6 rfl) rfl rfl (Nat.le_of_ble_eq_true rfl) ho (h.mono fun o4 A1 b2 c3 h => ?_)
  rcases h with ⟨i5, rfl, h⟩ | ⟨rfl, h⟩ | ⟨rfl, h⟩
  · change G l X M_L_spoil d Q _ _ _ _ _ _
    refine G_i2l (dk_at dk_L_spoil 7 rfl) rfl ?_
    refine K_sL (dk_at dk_L_spoil 8 rfl) h (fun A6 h => ?_)
    refine G_goto (tgt := 23) (dk_at dk_L_spoil 9 rfl) (by decide) ?_
    refine G_iconst (v := 0) (dk_at dk_L_spoil 16 rfl) (by decide) ?_
    exact G_iret (ty := .int) rfl rfl (dk_at dk_L_spoil 17 rfl) h
  · refine ⟨[], ⟨0, 12, 15, 28⟩, [⟨0, 12, 19, 19⟩], rfl, rfl, by decide, ⟨_, wd_27, wd_28⟩, fun y hy => (nomatch hy), fun q => ?_⟩
    replace h := h q
    change G l X M_L_spoil d Q _ _ _ _ _ _
    refine G_astore (lv' := [(5, .ref q), (0, .ref v0), (1, .int v1), (2, .int v2), (3, .int v3), (4, .ref v4)]) (dk_at dk_L_spoil 10 rfl) (by decide) rfl ?_
    refine G_iconst (v := 1) (dk_at dk_L_spoil 11 rfl) (by decide) ?_
    exact G_iret (ty := .int) rfl rfl (dk_at dk_L_spoil 12 rfl) h
  · refine ⟨[⟨0, 12, 15, 28⟩], ⟨0, 12, 19, 19⟩, [], rfl, rfl, by decide, ⟨_, wd_25, wd_26⟩, fun y hy => by rw [List.mem_singleton.mp hy]; exact ⟨by decide, _, wd_27, by decide⟩, fun q => ?_⟩
    replace h := h q
    change G l X M_L_spoil d Q _ _ _ _ _ _
    refine G_astore (lv' := [(5, .ref q), (0, .ref v0), (1, .int v1), (2, .int v2), (3, .int v3), (4, .ref v4)]) (dk_at dk_L_spoil 13 rfl) (by decide) rfl ?_
    refine G_iconst (v := 2) (dk_at dk_L_spoil 14 rfl) (by decide) ?_
    exact G_iret (ty := .int) rfl rfl (dk_at dk_L_spoil 15 rfl) h
theorem k_L_discard_0 {l : Launch} {X : XT} {d : Nat} {Q : Ot → AH → Prop} {A : AH} {bc bs : Nat} {v0 : Nat} {v1 : Int32} {v2 : Nat} (h : isO A v0 6 ∧ Cal l X d bc bs M_X5_discard [.ref v0, .int v1] A fun o4 A1 b2 c3 => (∃ i5, o4 = Ri i5 ∧ sL X A1 v2 0 (Int32.toInt64 i5) fun A6 => Q (Ri 0) A6) ∨ (o4 = Th "java/lang/IndexOutOfBoundsException" ∧ ∀ q : Nat, Q (Ri 1) A1)) : G l X M_L_discard d Q 0 [(0, .ref v0), (1, .int v1), (2, .ref v2)] [] A bc bs := by
  refine G_aload_n 2 (dk_at dk_L_discard 0 rfl) rfl ?_
  refine G_iconst (v := 0) (dk_at dk_L_discard 1 rfl) (by decide) ?_
  refine G_aload_n 0 (dk_at dk_L_discard 2 rfl) rfl ?_
  refine G_iload_n 1 (dk_at dk_L_discard 3 rfl) rfl ?_
  obtain ⟨⟨_, ho⟩, h⟩ := h
  refine G_callVX (As := [.int v1]) (rest := [.int 0, .ref v2]) lk_L_85 (dk_at dk_L_discard 4 rfl) rfl rfl (Nat.le_of_ble_eq_true rfl) ho (h.mono fun o4 A1 b2 c3 h => ?_)
  rcases h with ⟨i5, rfl, h⟩ | ⟨rfl, h⟩
  · change G l X M_L_discard d Q _ _ _ _ _ _
    refine G_i2l (dk_at dk_L_discard 5 rfl) rfl ?_
    refine K_sL (dk_at dk_L_discard 6 rfl) h (fun A6 h => ?_)
    refine G_goto (tgt := 15) (dk_at dk_L_discard 7 rfl) (by decide) ?_
    refine G_iconst (v := 0) (dk_at dk_L_discard 11 rfl) (by decide) ?_
    exact G_iret (ty := .int) rfl rfl (dk_at dk_L_discard 12 rfl) h
  · refine ⟨[], ⟨0, 9, 12, 28⟩, [], rfl, rfl, by decide, ⟨_, wd_27, wd_28⟩, fun y hy => (nomatch hy), fun q => ?_⟩
    replace h := h q
    change G l X M_L_discard d Q _ _ _ _ _ _
    refine G_astore_n (lv' := [(3, .ref q), (0, .ref v0), (1, .int v1), (2, .ref v2)]) (dk_at dk_L_discard 8 rfl) (by decide) rfl ?_
    refine G_iconst (v := 1) (dk_at dk_L_discard 9 rfl) (by decide) ?_
    exact G_iret (ty := .int) rfl rfl (dk_at dk_L_discard 10 rfl) h
theorem k_L_partial_0 {l : Launch} {X : XT} {d : Nat} {Q : Ot → AH → Prop} {A : AH} {bc bs : Nat} {v0 : Nat} {v1 : Int32} {v2 : Int32} {v3 : Nat} (h : isO A v0 6 ∧ Cal l X d bc bs M_X5_partial [.ref v0, .int v1, .int v2] A fun o4 A1 b2 c3 => (∃ i5, o4 = Ri i5 ∧ sL X A1 v3 0 (Int32.toInt64 i5) fun A6 => Q (Ri 0) A6) ∨ (o4 = Th "java/lang/IndexOutOfBoundsException" ∧ ∀ q : Nat, Q (Ri 1) A1) ∨ (o4 = Th "java/lang/IllegalArgumentException" ∧ ∀ q : Nat, Q (Ri 2) A1)) : G l X M_L_partial d Q 0 [(0, .ref v0), (1, .int v1), (2, .int v2), (3, .ref v3)] [] A bc bs := by
  refine G_aload_n 3 (dk_at dk_L_partial 0 rfl) rfl ?_
  refine G_iconst (v := 0) (dk_at dk_L_partial 1 rfl) (by decide) ?_
  refine G_aload_n 0 (dk_at dk_L_partial 2 rfl) rfl ?_
  refine G_iload_n 1 (dk_at dk_L_partial 3 rfl) rfl ?_
  refine G_iload_n 2 (dk_at dk_L_partial 4 rfl) rfl ?_
  obtain ⟨⟨_, ho⟩, h⟩ := h
  refine G_callVX (As := [.int v1, .int v2]) (rest := [.int 0, .ref v3]) lk_L_88 (dk_at dk_L_partial 5 rfl) rfl rfl (Nat.le_of_ble_eq_true rfl) ho (h.mono fun o4 A1 b2 c3 h => ?_)
  rcases h with ⟨i5, rfl, h⟩ | ⟨rfl, h⟩ | ⟨rfl, h⟩
  · change G l X M_L_partial d Q _ _ _ _ _ _
    refine G_i2l (dk_at dk_L_partial 6 rfl) rfl ?_
    refine K_sL (dk_at dk_L_partial 7 rfl) h (fun A6 h => ?_)
    refine G_goto (tgt := 21) (dk_at dk_L_partial 8 rfl) (by decide) ?_
    refine G_iconst (v := 0) (dk_at dk_L_partial 15 rfl) (by decide) ?_
    exact G_iret (ty := .int) rfl rfl (dk_at dk_L_partial 16 rfl) h
  · refine ⟨[], ⟨0, 10, 13, 28⟩, [⟨0, 10, 17, 19⟩], rfl, rfl, by decide, ⟨_, wd_27, wd_28⟩, fun y hy => (nomatch hy), fun q => ?_⟩
    replace h := h q
    change G l X M_L_partial d Q _ _ _ _ _ _
    refine G_astore (lv' := [(4, .ref q), (0, .ref v0), (1, .int v1), (2, .int v2), (3, .ref v3)]) (dk_at dk_L_partial 9 rfl) (by decide) rfl ?_
    refine G_iconst (v := 1) (dk_at dk_L_partial 10 rfl) (by decide) ?_
    exact G_iret (ty := .int) rfl rfl (dk_at dk_L_partial 11 rfl) h
  · refine ⟨[⟨0, 10, 13, 28⟩], ⟨0, 10, 17, 19⟩, [], rfl, rfl, by decide, ⟨_, wd_25, wd_26⟩, fun y hy => by rw [List.mem_singleton.mp hy]; exact ⟨by decide, _, wd_27, by decide⟩, fun q => ?_⟩
    replace h := h q
    change G l X M_L_partial d Q _ _ _ _ _ _
    refine G_astore (lv' := [(4, .ref q), (0, .ref v0), (1, .int v1), (2, .int v2), (3, .ref v3)]) (dk_at dk_L_partial 12 rfl) (by decide) rfl ?_
    refine G_iconst (v := 2) (dk_at dk_L_partial 13 rfl) (by decide) ?_
    exact G_iret (ty := .int) rfl rfl (dk_at dk_L_partial 14 rfl) h
theorem k_L_event_0 {l : Launch} {X : XT} {d : Nat} {Q : Ot → AH → Prop} {A : AH} {bc bs : Nat} {v0 : Nat} {v1 : Int32} {v2 : Int32} {v3 : Nat} (h : isO A v0 6 ∧ Cal l X d bc bs M_X5_event [.ref v0, .int v1, .int v2] A fun o4 A1 b2 c3 => (∃ i5, o4 = Ri i5 ∧ sL X A1 v3 0 (Int32.toInt64 i5) fun A6 => Q (Ri 0) A6) ∨ (o4 = Th "java/lang/IndexOutOfBoundsException" ∧ ∀ q : Nat, Q (Ri 1) A1) ∨ (o4 = Th "java/lang/IllegalArgumentException" ∧ ∀ q : Nat, Q (Ri 2) A1)) : G l X M_L_event d Q 0 [(0, .ref v0), (1, .int v1), (2, .int v2), (3, .ref v3)] [] A bc bs := by
  refine G_aload_n 3 (dk_at dk_L_event 0 rfl) rfl ?_
  refine G_iconst (v := 0) (dk_at dk_L_event 1 rfl) (by decide) ?_
  refine G_aload_n 0 (dk_at dk_L_event 2 rfl) rfl ?_
  refine G_iload_n 1 (dk_at dk_L_event 3 rfl) rfl ?_
  refine G_iload_n 2 (dk_at dk_L_event 4 rfl) rfl ?_
  obtain ⟨⟨_, ho⟩, h⟩ := h
  refine G_callVX (As := [.int v1, .int v2]) (rest := [.int 0, .ref v3]) lk_L_91 (dk_at dk_L_event 5 rfl) rfl rfl (Nat.le_of_ble_eq_true rfl) ho (h.mono fun o4 A1 b2 c3 h => ?_)
  rcases h with ⟨i5, rfl, h⟩ | ⟨rfl, h⟩ | ⟨rfl, h⟩
  · change G l X M_L_event d Q _ _ _ _ _ _
    refine G_i2l (dk_at dk_L_event 6 rfl) rfl ?_
    refine K_sL (dk_at dk_L_event 7 rfl) h (fun A6 h => ?_)
    refine G_goto (tgt := 21) (dk_at dk_L_event 8 rfl) (by decide) ?_
    refine G_iconst (v := 0) (dk_at dk_L_event 15 rfl) (by decide) ?_
    exact G_iret (ty := .int) rfl rfl (dk_at dk_L_event 16 rfl) h
  · refine ⟨[], ⟨0, 10, 13, 28⟩, [⟨0, 10, 17, 19⟩], rfl, rfl, by decide, ⟨_, wd_27, wd_28⟩, fun y hy => (nomatch hy), fun q => ?_⟩
    replace h := h q
    change G l X M_L_event d Q _ _ _ _ _ _
    refine G_astore (lv' := [(4, .ref q), (0, .ref v0), (1, .int v1), (2, .int v2), (3, .ref v3)]) (dk_at dk_L_event 9 rfl) (by decide) rfl ?_
    refine G_iconst (v := 1) (dk_at dk_L_event 10 rfl) (by decide) ?_
    exact G_iret (ty := .int) rfl rfl (dk_at dk_L_event 11 rfl) h
  · refine ⟨[⟨0, 10, 13, 28⟩], ⟨0, 10, 17, 19⟩, [], rfl, rfl, by decide, ⟨_, wd_25, wd_26⟩, fun y hy => by rw [List.mem_singleton.mp hy]; exact ⟨by decide, _, wd_27, by decide⟩, fun q => ?_⟩
    replace h := h q
    change G l X M_L_event d Q _ _ _ _ _ _
    refine G_astore (lv' := [(4, .ref q), (0, .ref v0), (1, .int v1), (2, .int v2), (3, .ref v3)]) (dk_at dk_L_event 12 rfl) (by decide) rfl ?_
    refine G_iconst (v := 2) (dk_at dk_L_event 13 rfl) (by decide) ?_
    exact G_iret (ty := .int) rfl rfl (dk_at dk_L_event 14 rfl) h
theorem k_L_events_0 {l : Launch} {X : XT} {d : Nat} {Q : Ot → AH → Prop} {A : AH} {bc bs : Nat} {v0 : Nat} {v1 : Int32} {v2 : Nat} (h : isO A v0 6 ∧ Cal l X d bc bs M_X5_events [.ref v0, .int v1] A fun o4 A1 b2 c3 => (∃ i5, o4 = Ri i5 ∧ sL X A1 v2 0 (Int32.toInt64 i5) fun A6 => Q (Ri 0) A6) ∨ (o4 = Th "java/lang/IllegalArgumentException" ∧ ∀ q : Nat, Q (Ri 1) A1)) : G l X M_L_events d Q 0 [(0, .ref v0), (1, .int v1), (2, .ref v2)] [] A bc bs := by
  refine G_aload_n 2 (dk_at dk_L_events 0 rfl) rfl ?_
  refine G_iconst (v := 0) (dk_at dk_L_events 1 rfl) (by decide) ?_
  refine G_aload_n 0 (dk_at dk_L_events 2 rfl) rfl ?_
  refine G_iload_n 1 (dk_at dk_L_events 3 rfl) rfl ?_
  obtain ⟨⟨_, ho⟩, h⟩ := h
  refine G_callVX (As := [.int v1]) (rest := [.int 0, .ref v2]) lk_L_94 (dk_at dk_L_events 4 rfl) rfl rfl (Nat.le_of_ble_eq_true rfl) ho (h.mono fun o4 A1 b2 c3 h => ?_)
  rcases h with ⟨i5, rfl, h⟩ | ⟨rfl, h⟩
  · change G l X M_L_events d Q _ _ _ _ _ _
    refine G_i2l (dk_at dk_L_events 5 rfl) rfl ?_
    refine K_sL (dk_at dk_L_events 6 rfl) h (fun A6 h => ?_)
    refine G_goto (tgt := 15) (dk_at dk_L_events 7 rfl) (by decide) ?_
    refine G_iconst (v := 0) (dk_at dk_L_events 11 rfl) (by decide) ?_
    exact G_iret (ty := .int) rfl rfl (dk_at dk_L_events 12 rfl) h
  · refine ⟨[], ⟨0, 9, 12, 19⟩, [], rfl, rfl, by decide, ⟨_, wd_25, wd_26⟩, fun y hy => (nomatch hy), fun q => ?_⟩
    replace h := h q
    change G l X M_L_events d Q _ _ _ _ _ _
    refine G_astore_n (lv' := [(3, .ref q), (0, .ref v0), (1, .int v1), (2, .ref v2)]) (dk_at dk_L_events 8 rfl) (by decide) rfl ?_
    refine G_iconst (v := 1) (dk_at dk_L_events 9 rfl) (by decide) ?_
    exact G_iret (ty := .int) rfl rfl (dk_at dk_L_events 10 rfl) h
theorem k_L_writtenByte_0 {l : Launch} {X : XT} {d : Nat} {Q : Ot → AH → Prop} {A : AH} {bc bs : Nat} {v0 : Nat} {v1 : Int32} {v2 : Nat} (h : isO A v0 6 ∧ Cal l X d bc bs M_X5_writtenByte [.ref v0, .int v1] A fun o4 A1 b2 c3 => (∃ i5, o4 = Ri i5 ∧ sL X A1 v2 0 (Int32.toInt64 i5) fun A6 => Q (Ri 0) A6) ∨ (o4 = Th "java/lang/IndexOutOfBoundsException" ∧ ∀ q : Nat, Q (Ri 1) A1)) : G l X M_L_writtenByte d Q 0 [(0, .ref v0), (1, .int v1), (2, .ref v2)] [] A bc bs := by
  refine G_aload_n 2 (dk_at dk_L_writtenByte 0 rfl) rfl ?_
  refine G_iconst (v := 0) (dk_at dk_L_writtenByte 1 rfl) (by decide) ?_
  refine G_aload_n 0 (dk_at dk_L_writtenByte 2 rfl) rfl ?_
  refine G_iload_n 1 (dk_at dk_L_writtenByte 3 rfl) rfl ?_
  obtain ⟨⟨_, ho⟩, h⟩ := h
  refine G_callVX (As := [.int v1]) (rest := [.int 0, .ref v2]) lk_L_97 (dk_at dk_L_writtenByte 4 rfl) rfl rfl (Nat.le_of_ble_eq_true rfl) ho (h.mono fun o4 A1 b2 c3 h => ?_)
  rcases h with ⟨i5, rfl, h⟩ | ⟨rfl, h⟩
  · change G l X M_L_writtenByte d Q _ _ _ _ _ _
    refine G_i2l (dk_at dk_L_writtenByte 5 rfl) rfl ?_
    refine K_sL (dk_at dk_L_writtenByte 6 rfl) h (fun A6 h => ?_)
    refine G_goto (tgt := 15) (dk_at dk_L_writtenByte 7 rfl) (by decide) ?_
    refine G_iconst (v := 0) (dk_at dk_L_writtenByte 11 rfl) (by decide) ?_
    exact G_iret (ty := .int) rfl rfl (dk_at dk_L_writtenByte 12 rfl) h
  · refine ⟨[], ⟨0, 9, 12, 28⟩, [], rfl, rfl, by decide, ⟨_, wd_27, wd_28⟩, fun y hy => (nomatch hy), fun q => ?_⟩
    replace h := h q
    change G l X M_L_writtenByte d Q _ _ _ _ _ _
    refine G_astore_n (lv' := [(3, .ref q), (0, .ref v0), (1, .int v1), (2, .ref v2)]) (dk_at dk_L_writtenByte 8 rfl) (by decide) rfl ?_
    refine G_iconst (v := 1) (dk_at dk_L_writtenByte 9 rfl) (by decide) ?_
    exact G_iret (ty := .int) rfl rfl (dk_at dk_L_writtenByte 10 rfl) h
theorem k_L_undo_0 {l : Launch} {X : XT} {d : Nat} {Q : Ot → AH → Prop} {A : AH} {bc bs : Nat} {v0 : Nat} {v1 : Nat} (h : isO A v0 6 ∧ Cal l X d bc bs M_X5_undo [.ref v0] A fun o4 A1 b2 c3 => (∃ i5, o4 = Ri i5 ∧ sL X A1 v1 0 (Int32.toInt64 i5) fun A6 => Q (Ri 0) A6) ∨ (o4 = Th "java/lang/IllegalStateException" ∧ ∀ q : Nat, Q (Ri 1) A1)) : G l X M_L_undo d Q 0 [(0, .ref v0), (1, .ref v1)] [] A bc bs := by
  refine G_aload_n 1 (dk_at dk_L_undo 0 rfl) rfl ?_
  refine G_iconst (v := 0) (dk_at dk_L_undo 1 rfl) (by decide) ?_
  refine G_aload_n 0 (dk_at dk_L_undo 2 rfl) rfl ?_
  obtain ⟨⟨_, ho⟩, h⟩ := h
  refine G_callVX (As := []) (rest := [.int 0, .ref v1]) lk_L_100 (dk_at dk_L_undo 3 rfl) rfl rfl (Nat.le_of_ble_eq_true rfl) ho (h.mono fun o4 A1 b2 c3 h => ?_)
  rcases h with ⟨i5, rfl, h⟩ | ⟨rfl, h⟩
  · change G l X M_L_undo d Q _ _ _ _ _ _
    refine G_i2l (dk_at dk_L_undo 4 rfl) rfl ?_
    refine K_sL (dk_at dk_L_undo 5 rfl) h (fun A6 h => ?_)
    refine G_goto (tgt := 14) (dk_at dk_L_undo 6 rfl) (by decide) ?_
    refine G_iconst (v := 0) (dk_at dk_L_undo 10 rfl) (by decide) ?_
    exact G_iret (ty := .int) rfl rfl (dk_at dk_L_undo 11 rfl) h
  · refine ⟨[], ⟨0, 8, 11, 13⟩, [], rfl, rfl, by decide, ⟨_, wd_23, wd_24⟩, fun y hy => (nomatch hy), fun q => ?_⟩
    replace h := h q
    change G l X M_L_undo d Q _ _ _ _ _ _
    refine G_astore_n (lv' := [(2, .ref q), (0, .ref v0), (1, .ref v1)]) (dk_at dk_L_undo 7 rfl) (by decide) rfl ?_
    refine G_iconst (v := 1) (dk_at dk_L_undo 8 rfl) (by decide) ?_
    exact G_iret (ty := .int) rfl rfl (dk_at dk_L_undo 9 rfl) h
theorem k_L_law_0 {l : Launch} {X : XT} {d : Nat} {Q : Ot → AH → Prop} {A : AH} {bc bs : Nat}  (h : mk A (ob 6 df_6) 10 bc bs fun r1 A2 b3 c4 => Cal l X d b3 c4 M_X5_init [.ref r1] A2 fun o8 A5 b6 c7 => zV o8 <| mk A5 (ob 7 df_7) 24 b6 c7 fun r9 A10 b11 c12 => Cal l X d b11 c12 M_X6_init [.ref r9] A10 fun o16 A13 b14 c15 => zV o16 <| mkA A13 1 (fun N => la X N (fun _ => 0)) b14 c15 fun r17 A18 b19 c20 => G l X M_L_law d Q 23 [(0, .ref (xb X)), (1, .ref r1), (2, .ref r9), (3, .ref r17), (4, .int 0)] [] A18 b19 c20) : G l X M_L_law d Q 0 [(0, .ref (xb X))] [] A bc bs := by
  refine K_new no_L_8 (dk_at dk_L_law_0 0 rfl) h (fun r1 A2 b3 c4 h => ?_)
  refine G_dup (dk_at dk_L_law_0 1 rfl) rfl ?_
  refine G_callI (As := []) (rest := [.ref r1]) lk_L_104 (dk_at dk_L_law_0 2 rfl) rfl rfl (Nat.le_of_ble_eq_true rfl) (h.mono fun o8 A5 b6 c7 h => atfV h fun h => ?_)
  refine G_astore_n (lv' := [(1, .ref r1), (0, .ref (xb X))]) (dk_at dk_L_law_0 3 rfl) (by decide) rfl ?_
  refine K_new no_L_105 (dk_at dk_L_law_0 4 rfl) h (fun r9 A10 b11 c12 h => ?_)
  refine G_dup (dk_at dk_L_law_0 5 rfl) rfl ?_
  refine G_callI (As := []) (rest := [.ref r9]) lk_L_107 (dk_at dk_L_law_0 6 rfl) rfl rfl (Nat.le_of_ble_eq_true rfl) (h.mono fun o16 A13 b14 c15 h => atfV h fun h => ?_)
  refine G_astore_n (lv' := [(2, .ref r9), (1, .ref r1), (0, .ref (xb X))]) (dk_at dk_L_law_0 7 rfl) (by decide) rfl ?_
  refine G_iconst (v := 1) (dk_at dk_L_law_0 8 rfl) (by decide) ?_
  refine K_newl wa_l (dk_at dk_L_law_0 9 rfl) h (fun r17 A18 b19 c20 h => ?_)
  refine G_astore_n (lv' := [(3, .ref r17), (2, .ref r9), (1, .ref r1), (0, .ref (xb X))]) (dk_at dk_L_law_0 10 rfl) (by decide) rfl ?_
  refine G_iconst (v := 0) (dk_at dk_L_law_0 11 rfl) (by decide) ?_
  refine G_istore (lv' := [(4, .int 0), (3, .ref r17), (2, .ref r9), (1, .ref r1), (0, .ref (xb X))]) (dk_at dk_L_law_0 12 rfl) (by decide) rfl ?_
  refine G_sub [4, 3, 2, 1, 0] rfl ?_
  exact h
theorem k_L_law_23 {l : Launch} {X : XT} {d : Nat} {Q : Ot → AH → Prop} {A : AH} {bc bs : Nat} {v1 : Nat} {v2 : Nat} {v3 : Nat} {v4 : Int32} (h : (((Int32.ofNat (xL X)) - 6) < v4 → Q (Ri 1) A) ∧ (¬ ((Int32.ofNat (xL X)) - 6) < v4 → vp_in v4 (xL X) ∧ (((xs X (v4).toNatClampNeg) &&& 63) = 0 → G l X M_L_law d Q 188 [(0, .ref (xb X)), (1, .ref v1), (2, .ref v2), (3, .ref v3), (4, .int v4)] [] A bc bs) ∧ (((xs X (v4).toNatClampNeg) &&& 63) = 1 → G l X M_L_law d Q 292 [(0, .ref (xb X)), (1, .ref v1), (2, .ref v2), (3, .ref v3), (4, .int v4)] [] A bc bs) ∧ (((xs X (v4).toNatClampNeg) &&& 63) = 2 → G l X M_L_law d Q 348 [(0, .ref (xb X)), (1, .ref v1), (2, .ref v2), (3, .ref v3), (4, .int v4)] [] A bc bs) ∧ (((xs X (v4).toNatClampNeg) &&& 63) = 3 → G l X M_L_law d Q 361 [(0, .ref (xb X)), (1, .ref v1), (2, .ref v2), (3, .ref v3), (4, .int v4)] [] A bc bs) ∧ (((xs X (v4).toNatClampNeg) &&& 63) = 4 → G l X M_L_law d Q 417 [(0, .ref (xb X)), (1, .ref v1), (2, .ref v2), (3, .ref v3), (4, .int v4)] [] A bc bs) ∧ (((xs X (v4).toNatClampNeg) &&& 63) = 5 → G l X M_L_law d Q 485 [(0, .ref (xb X)), (1, .ref v1), (2, .ref v2), (3, .ref v3), (4, .int v4)] [] A bc bs) ∧ (((xs X (v4).toNatClampNeg) &&& 63) = 6 → G l X M_L_law d Q 553 [(0, .ref (xb X)), (1, .ref v1), (2, .ref v2), (3, .ref v3), (4, .int v4)] [] A bc bs) ∧ (((xs X (v4).toNatClampNeg) &&& 63) = 7 → G l X M_L_law d Q 609 [(0, .ref (xb X)), (1, .ref v1), (2, .ref v2), (3, .ref v3), (4, .int v4)] [] A bc bs) ∧ (((xs X (v4).toNatClampNeg) &&& 63) = 8 → G l X M_L_law d Q 677 [(0, .ref (xb X)), (1, .ref v1), (2, .ref v2), (3, .ref v3), (4, .int v4)] [] A bc bs) ∧ (((xs X (v4).toNatClampNeg) &&& 63) = 9 → G l X M_L_law d Q 745 [(0, .ref (xb X)), (1, .ref v1), (2, .ref v2), (3, .ref v3), (4, .int v4)] [] A bc bs) ∧ (((xs X (v4).toNatClampNeg) &&& 63) = 10 → G l X M_L_law d Q 825 [(0, .ref (xb X)), (1, .ref v1), (2, .ref v2), (3, .ref v3), (4, .int v4)] [] A bc bs) ∧ (((xs X (v4).toNatClampNeg) &&& 63) = 11 → G l X M_L_law d Q 916 [(0, .ref (xb X)), (1, .ref v1), (2, .ref v2), (3, .ref v3), (4, .int v4)] [] A bc bs) ∧ (((xs X (v4).toNatClampNeg) &&& 63) = 12 → G l X M_L_law d Q 984 [(0, .ref (xb X)), (1, .ref v1), (2, .ref v2), (3, .ref v3), (4, .int v4)] [] A bc bs) ∧ (((xs X (v4).toNatClampNeg) &&& 63) = 13 → G l X M_L_law d Q 1040 [(0, .ref (xb X)), (1, .ref v1), (2, .ref v2), (3, .ref v3), (4, .int v4)] [] A bc bs) ∧ (((xs X (v4).toNatClampNeg) &&& 63) = 14 → G l X M_L_law d Q 1096 [(0, .ref (xb X)), (1, .ref v1), (2, .ref v2), (3, .ref v3), (4, .int v4)] [] A bc bs) ∧ (((xs X (v4).toNatClampNeg) &&& 63) = 15 → G l X M_L_law d Q 1152 [(0, .ref (xb X)), (1, .ref v1), (2, .ref v2), (3, .ref v3), (4, .int v4)] [] A bc bs) ∧ (((xs X (v4).toNatClampNeg) &&& 63) = 16 → G l X M_L_law d Q 1208 [(0, .ref (xb X)), (1, .ref v1), (2, .ref v2), (3, .ref v3), (4, .int v4)] [] A bc bs) ∧ (((xs X (v4).toNatClampNeg) &&& 63) = 17 → G l X M_L_law d Q 1221 [(0, .ref (xb X)), (1, .ref v1), (2, .ref v2), (3, .ref v3), (4, .int v4)] [] A bc bs) ∧ (((xs X (v4).toNatClampNeg) &&& 63) = 18 → G l X M_L_law d Q 1277 [(0, .ref (xb X)), (1, .ref v1), (2, .ref v2), (3, .ref v3), (4, .int v4)] [] A bc bs) ∧ (((xs X (v4).toNatClampNeg) &&& 63) = 19 → G l X M_L_law d Q 1333 [(0, .ref (xb X)), (1, .ref v1), (2, .ref v2), (3, .ref v3), (4, .int v4)] [] A bc bs) ∧ (((xs X (v4).toNatClampNeg) &&& 63) = 20 → G l X M_L_law d Q 1389 [(0, .ref (xb X)), (1, .ref v1), (2, .ref v2), (3, .ref v3), (4, .int v4)] [] A bc bs) ∧ (((xs X (v4).toNatClampNeg) &&& 63) = 21 → G l X M_L_law d Q 1445 [(0, .ref (xb X)), (1, .ref v1), (2, .ref v2), (3, .ref v3), (4, .int v4)] [] A bc bs) ∧ (((xs X (v4).toNatClampNeg) &&& 63) = 22 → G l X M_L_law d Q 1513 [(0, .ref (xb X)), (1, .ref v1), (2, .ref v2), (3, .ref v3), (4, .int v4)] [] A bc bs) ∧ (((xs X (v4).toNatClampNeg) &&& 63) = 23 → G l X M_L_law d Q 1593 [(0, .ref (xb X)), (1, .ref v1), (2, .ref v2), (3, .ref v3), (4, .int v4)] [] A bc bs) ∧ (((xs X (v4).toNatClampNeg) &&& 63) = 24 → G l X M_L_law d Q 1649 [(0, .ref (xb X)), (1, .ref v1), (2, .ref v2), (3, .ref v3), (4, .int v4)] [] A bc bs) ∧ (((xs X (v4).toNatClampNeg) &&& 63) = 25 → G l X M_L_law d Q 1717 [(0, .ref (xb X)), (1, .ref v1), (2, .ref v2), (3, .ref v3), (4, .int v4)] [] A bc bs) ∧ (((xs X (v4).toNatClampNeg) &&& 63) = 26 → G l X M_L_law d Q 1730 [(0, .ref (xb X)), (1, .ref v1), (2, .ref v2), (3, .ref v3), (4, .int v4)] [] A bc bs) ∧ (((xs X (v4).toNatClampNeg) &&& 63) = 27 → G l X M_L_law d Q 1743 [(0, .ref (xb X)), (1, .ref v1), (2, .ref v2), (3, .ref v3), (4, .int v4)] [] A bc bs) ∧ (((xs X (v4).toNatClampNeg) &&& 63) = 28 → G l X M_L_law d Q 1786 [(0, .ref (xb X)), (1, .ref v1), (2, .ref v2), (3, .ref v3), (4, .int v4)] [] A bc bs) ∧ (((xs X (v4).toNatClampNeg) &&& 63) = 29 → G l X M_L_law d Q 1854 [(0, .ref (xb X)), (1, .ref v1), (2, .ref v2), (3, .ref v3), (4, .int v4)] [] A bc bs) ∧ (((xs X (v4).toNatClampNeg) &&& 63) = 30 → G l X M_L_law d Q 1910 [(0, .ref (xb X)), (1, .ref v1), (2, .ref v2), (3, .ref v3), (4, .int v4)] [] A bc bs) ∧ (((xs X (v4).toNatClampNeg) &&& 63) = 31 → G l X M_L_law d Q 1923 [(0, .ref (xb X)), (1, .ref v1), (2, .ref v2), (3, .ref v3), (4, .int v4)] [] A bc bs) ∧ (((xs X (v4).toNatClampNeg) &&& 63) = 32 → G l X M_L_law d Q 1979 [(0, .ref (xb X)), (1, .ref v1), (2, .ref v2), (3, .ref v3), (4, .int v4)] [] A bc bs) ∧ (¬ ((xs X (v4).toNatClampNeg) &&& 63) = 0 → ¬ ((xs X (v4).toNatClampNeg) &&& 63) = 1 → ¬ ((xs X (v4).toNatClampNeg) &&& 63) = 2 → ¬ ((xs X (v4).toNatClampNeg) &&& 63) = 3 → ¬ ((xs X (v4).toNatClampNeg) &&& 63) = 4 → ¬ ((xs X (v4).toNatClampNeg) &&& 63) = 5 → ¬ ((xs X (v4).toNatClampNeg) &&& 63) = 6 → ¬ ((xs X (v4).toNatClampNeg) &&& 63) = 7 → ¬ ((xs X (v4).toNatClampNeg) &&& 63) = 8 → ¬ ((xs X (v4).toNatClampNeg) &&& 63) = 9 → ¬ ((xs X (v4).toNatClampNeg) &&& 63) = 10 → ¬ ((xs X (v4).toNatClampNeg) &&& 63) = 11 → ¬ ((xs X (v4).toNatClampNeg) &&& 63) = 12 → ¬ ((xs X (v4).toNatClampNeg) &&& 63) = 13 → ¬ ((xs X (v4).toNatClampNeg) &&& 63) = 14 → ¬ ((xs X (v4).toNatClampNeg) &&& 63) = 15 → ¬ ((xs X (v4).toNatClampNeg) &&& 63) = 16 → ¬ ((xs X (v4).toNatClampNeg) &&& 63) = 17 → ¬ ((xs X (v4).toNatClampNeg) &&& 63) = 18 → ¬ ((xs X (v4).toNatClampNeg) &&& 63) = 19 → ¬ ((xs X (v4).toNatClampNeg) &&& 63) = 20 → ¬ ((xs X (v4).toNatClampNeg) &&& 63) = 21 → ¬ ((xs X (v4).toNatClampNeg) &&& 63) = 22 → ¬ ((xs X (v4).toNatClampNeg) &&& 63) = 23 → ¬ ((xs X (v4).toNatClampNeg) &&& 63) = 24 → ¬ ((xs X (v4).toNatClampNeg) &&& 63) = 25 → ¬ ((xs X (v4).toNatClampNeg) &&& 63) = 26 → ¬ ((xs X (v4).toNatClampNeg) &&& 63) = 27 → ¬ ((xs X (v4).toNatClampNeg) &&& 63) = 28 → ¬ ((xs X (v4).toNatClampNeg) &&& 63) = 29 → ¬ ((xs X (v4).toNatClampNeg) &&& 63) = 30 → ¬ ((xs X (v4).toNatClampNeg) &&& 63) = 31 → ¬ ((xs X (v4).toNatClampNeg) &&& 63) = 32 → G l X M_L_law d Q 2023 [(0, .ref (xb X)), (1, .ref v1), (2, .ref v2), (3, .ref v3), (4, .int v4)] [] A bc bs))) : G l X M_L_law d Q 23 [(0, .ref (xb X)), (1, .ref v1), (2, .ref v2), (3, .ref v3), (4, .int v4)] [] A bc bs := by
  refine G_iload 4 (dk_at dk_L_law_0 13 rfl) rfl ?_
  refine G_aload_n 0 (dk_at dk_L_law_0 14 rfl) rfl ?_
  refine G_slen (dk_at dk_L_law_0 15 rfl) ?_
  refine G_bipush (v := 6) (dk_at dk_L_law_0 16 rfl) (by decide) ?_
  refine G_isub (dk_at dk_L_law_0 17 rfl) ?_
  refine G_icmp_gt (tgt := 2029) (dk_at dk_L_law_0 18 rfl) (by decide) (fun c => ?_) (fun c => ?_)
  · replace h := h.1 c
    refine G_iconst (v := 1) (dk_at dk_L_law_24 1 rfl) (by decide) ?_
    exact G_iret (ty := .boolean) rfl rfl (dk_at dk_L_law_24 2 rfl) h
  · replace h := h.2 c
    refine G_aload_n 0 (dk_at dk_L_law_0 19 rfl) rfl ?_
    refine G_iload 4 (dk_at dk_L_law_0 20 rfl) rfl ?_
    obtain ⟨h0, h⟩ := h
    refine G_sld (dk_at dk_L_law_0 21 rfl) h0 ?_
    refine G_bipush (v := 63) (dk_at dk_L_law_0 22 rfl) (by decide) ?_
    refine G_iand (dk_at dk_L_law_0 23 rfl) ?_
    by_cases c0 : ((xs X (v4).toNatClampNeg) &&& 63) = 0
    · replace h := h.1 c0
      refine G_tcase (tgt := 188) (dk_at dk_L_law_0 24 rfl) (by rw [c0]; decide) (by rw [c0]; decide) (off := 148) (by rw [c0]; rfl) (by decide) ?_
      exact h
    by_cases c1 : ((xs X (v4).toNatClampNeg) &&& 63) = 1
    · replace h := h.2.1 c1
      refine G_tcase (tgt := 292) (dk_at dk_L_law_0 24 rfl) (by rw [c1]; decide) (by rw [c1]; decide) (off := 252) (by rw [c1]; rfl) (by decide) ?_
      exact h
    by_cases c2 : ((xs X (v4).toNatClampNeg) &&& 63) = 2
    · replace h := h.2.2.1 c2
      refine G_tcase (tgt := 348) (dk_at dk_L_law_0 24 rfl) (by rw [c2]; decide) (by rw [c2]; decide) (off := 308) (by rw [c2]; rfl) (by decide) ?_
      exact h
    by_cases c3 : ((xs X (v4).toNatClampNeg) &&& 63) = 3
    · replace h := h.2.2.2.1 c3
      refine G_tcase (tgt := 361) (dk_at dk_L_law_0 24 rfl) (by rw [c3]; decide) (by rw [c3]; decide) (off := 321) (by rw [c3]; rfl) (by decide) ?_
      exact h
    by_cases c4 : ((xs X (v4).toNatClampNeg) &&& 63) = 4
    · replace h := h.2.2.2.2.1 c4
      refine G_tcase (tgt := 417) (dk_at dk_L_law_0 24 rfl) (by rw [c4]; decide) (by rw [c4]; decide) (off := 377) (by rw [c4]; rfl) (by decide) ?_
      exact h
    by_cases c5 : ((xs X (v4).toNatClampNeg) &&& 63) = 5
    · replace h := h.2.2.2.2.2.1 c5
      refine G_tcase (tgt := 485) (dk_at dk_L_law_0 24 rfl) (by rw [c5]; decide) (by rw [c5]; decide) (off := 445) (by rw [c5]; rfl) (by decide) ?_
      exact h
    by_cases c6 : ((xs X (v4).toNatClampNeg) &&& 63) = 6
    · replace h := h.2.2.2.2.2.2.1 c6
      refine G_tcase (tgt := 553) (dk_at dk_L_law_0 24 rfl) (by rw [c6]; decide) (by rw [c6]; decide) (off := 513) (by rw [c6]; rfl) (by decide) ?_
      exact h
    by_cases c7 : ((xs X (v4).toNatClampNeg) &&& 63) = 7
    · replace h := h.2.2.2.2.2.2.2.1 c7
      refine G_tcase (tgt := 609) (dk_at dk_L_law_0 24 rfl) (by rw [c7]; decide) (by rw [c7]; decide) (off := 569) (by rw [c7]; rfl) (by decide) ?_
      exact h
    by_cases c8 : ((xs X (v4).toNatClampNeg) &&& 63) = 8
    · replace h := h.2.2.2.2.2.2.2.2.1 c8
      refine G_tcase (tgt := 677) (dk_at dk_L_law_0 24 rfl) (by rw [c8]; decide) (by rw [c8]; decide) (off := 637) (by rw [c8]; rfl) (by decide) ?_
      exact h
    by_cases c9 : ((xs X (v4).toNatClampNeg) &&& 63) = 9
    · replace h := h.2.2.2.2.2.2.2.2.2.1 c9
      refine G_tcase (tgt := 745) (dk_at dk_L_law_0 24 rfl) (by rw [c9]; decide) (by rw [c9]; decide) (off := 705) (by rw [c9]; rfl) (by decide) ?_
      exact h
    by_cases c10 : ((xs X (v4).toNatClampNeg) &&& 63) = 10
    · replace h := h.2.2.2.2.2.2.2.2.2.2.1 c10
      refine G_tcase (tgt := 825) (dk_at dk_L_law_0 24 rfl) (by rw [c10]; decide) (by rw [c10]; decide) (off := 785) (by rw [c10]; rfl) (by decide) ?_
      exact h
    by_cases c11 : ((xs X (v4).toNatClampNeg) &&& 63) = 11
    · replace h := h.2.2.2.2.2.2.2.2.2.2.2.1 c11
      refine G_tcase (tgt := 916) (dk_at dk_L_law_0 24 rfl) (by rw [c11]; decide) (by rw [c11]; decide) (off := 876) (by rw [c11]; rfl) (by decide) ?_
      exact h
    by_cases c12 : ((xs X (v4).toNatClampNeg) &&& 63) = 12
    · replace h := h.2.2.2.2.2.2.2.2.2.2.2.2.1 c12
      refine G_tcase (tgt := 984) (dk_at dk_L_law_0 24 rfl) (by rw [c12]; decide) (by rw [c12]; decide) (off := 944) (by rw [c12]; rfl) (by decide) ?_
      exact h
    by_cases c13 : ((xs X (v4).toNatClampNeg) &&& 63) = 13
    · replace h := h.2.2.2.2.2.2.2.2.2.2.2.2.2.1 c13
      refine G_tcase (tgt := 1040) (dk_at dk_L_law_0 24 rfl) (by rw [c13]; decide) (by rw [c13]; decide) (off := 1000) (by rw [c13]; rfl) (by decide) ?_
      exact h
    by_cases c14 : ((xs X (v4).toNatClampNeg) &&& 63) = 14
    · replace h := h.2.2.2.2.2.2.2.2.2.2.2.2.2.2.1 c14
      refine G_tcase (tgt := 1096) (dk_at dk_L_law_0 24 rfl) (by rw [c14]; decide) (by rw [c14]; decide) (off := 1056) (by rw [c14]; rfl) (by decide) ?_
      exact h
    by_cases c15 : ((xs X (v4).toNatClampNeg) &&& 63) = 15
    · replace h := h.2.2.2.2.2.2.2.2.2.2.2.2.2.2.2.1 c15
      refine G_tcase (tgt := 1152) (dk_at dk_L_law_0 24 rfl) (by rw [c15]; decide) (by rw [c15]; decide) (off := 1112) (by rw [c15]; rfl) (by decide) ?_
      exact h
    by_cases c16 : ((xs X (v4).toNatClampNeg) &&& 63) = 16
    · replace h := h.2.2.2.2.2.2.2.2.2.2.2.2.2.2.2.2.1 c16
      refine G_tcase (tgt := 1208) (dk_at dk_L_law_0 24 rfl) (by rw [c16]; decide) (by rw [c16]; decide) (off := 1168) (by rw [c16]; rfl) (by decide) ?_
      exact h
    by_cases c17 : ((xs X (v4).toNatClampNeg) &&& 63) = 17
    · replace h := h.2.2.2.2.2.2.2.2.2.2.2.2.2.2.2.2.2.1 c17
      refine G_tcase (tgt := 1221) (dk_at dk_L_law_0 24 rfl) (by rw [c17]; decide) (by rw [c17]; decide) (off := 1181) (by rw [c17]; rfl) (by decide) ?_
      exact h
    by_cases c18 : ((xs X (v4).toNatClampNeg) &&& 63) = 18
    · replace h := h.2.2.2.2.2.2.2.2.2.2.2.2.2.2.2.2.2.2.1 c18
      refine G_tcase (tgt := 1277) (dk_at dk_L_law_0 24 rfl) (by rw [c18]; decide) (by rw [c18]; decide) (off := 1237) (by rw [c18]; rfl) (by decide) ?_
      exact h
    by_cases c19 : ((xs X (v4).toNatClampNeg) &&& 63) = 19
    · replace h := h.2.2.2.2.2.2.2.2.2.2.2.2.2.2.2.2.2.2.2.1 c19
      refine G_tcase (tgt := 1333) (dk_at dk_L_law_0 24 rfl) (by rw [c19]; decide) (by rw [c19]; decide) (off := 1293) (by rw [c19]; rfl) (by decide) ?_
      exact h
    by_cases c20 : ((xs X (v4).toNatClampNeg) &&& 63) = 20
    · replace h := h.2.2.2.2.2.2.2.2.2.2.2.2.2.2.2.2.2.2.2.2.1 c20
      refine G_tcase (tgt := 1389) (dk_at dk_L_law_0 24 rfl) (by rw [c20]; decide) (by rw [c20]; decide) (off := 1349) (by rw [c20]; rfl) (by decide) ?_
      exact h
    by_cases c21 : ((xs X (v4).toNatClampNeg) &&& 63) = 21
    · replace h := h.2.2.2.2.2.2.2.2.2.2.2.2.2.2.2.2.2.2.2.2.2.1 c21
      refine G_tcase (tgt := 1445) (dk_at dk_L_law_0 24 rfl) (by rw [c21]; decide) (by rw [c21]; decide) (off := 1405) (by rw [c21]; rfl) (by decide) ?_
      exact h
    by_cases c22 : ((xs X (v4).toNatClampNeg) &&& 63) = 22
    · replace h := h.2.2.2.2.2.2.2.2.2.2.2.2.2.2.2.2.2.2.2.2.2.2.1 c22
      refine G_tcase (tgt := 1513) (dk_at dk_L_law_0 24 rfl) (by rw [c22]; decide) (by rw [c22]; decide) (off := 1473) (by rw [c22]; rfl) (by decide) ?_
      exact h
    by_cases c23 : ((xs X (v4).toNatClampNeg) &&& 63) = 23
    · replace h := h.2.2.2.2.2.2.2.2.2.2.2.2.2.2.2.2.2.2.2.2.2.2.2.1 c23
      refine G_tcase (tgt := 1593) (dk_at dk_L_law_0 24 rfl) (by rw [c23]; decide) (by rw [c23]; decide) (off := 1553) (by rw [c23]; rfl) (by decide) ?_
      exact h
    by_cases c24 : ((xs X (v4).toNatClampNeg) &&& 63) = 24
    · replace h := h.2.2.2.2.2.2.2.2.2.2.2.2.2.2.2.2.2.2.2.2.2.2.2.2.1 c24
      refine G_tcase (tgt := 1649) (dk_at dk_L_law_0 24 rfl) (by rw [c24]; decide) (by rw [c24]; decide) (off := 1609) (by rw [c24]; rfl) (by decide) ?_
      exact h
    by_cases c25 : ((xs X (v4).toNatClampNeg) &&& 63) = 25
    · replace h := h.2.2.2.2.2.2.2.2.2.2.2.2.2.2.2.2.2.2.2.2.2.2.2.2.2.1 c25
      refine G_tcase (tgt := 1717) (dk_at dk_L_law_0 24 rfl) (by rw [c25]; decide) (by rw [c25]; decide) (off := 1677) (by rw [c25]; rfl) (by decide) ?_
      exact h
    by_cases c26 : ((xs X (v4).toNatClampNeg) &&& 63) = 26
    · replace h := h.2.2.2.2.2.2.2.2.2.2.2.2.2.2.2.2.2.2.2.2.2.2.2.2.2.2.1 c26
      refine G_tcase (tgt := 1730) (dk_at dk_L_law_0 24 rfl) (by rw [c26]; decide) (by rw [c26]; decide) (off := 1690) (by rw [c26]; rfl) (by decide) ?_
      exact h
    by_cases c27 : ((xs X (v4).toNatClampNeg) &&& 63) = 27
    · replace h := h.2.2.2.2.2.2.2.2.2.2.2.2.2.2.2.2.2.2.2.2.2.2.2.2.2.2.2.1 c27
      refine G_tcase (tgt := 1743) (dk_at dk_L_law_0 24 rfl) (by rw [c27]; decide) (by rw [c27]; decide) (off := 1703) (by rw [c27]; rfl) (by decide) ?_
      exact h
    by_cases c28 : ((xs X (v4).toNatClampNeg) &&& 63) = 28
    · replace h := h.2.2.2.2.2.2.2.2.2.2.2.2.2.2.2.2.2.2.2.2.2.2.2.2.2.2.2.2.1 c28
      refine G_tcase (tgt := 1786) (dk_at dk_L_law_0 24 rfl) (by rw [c28]; decide) (by rw [c28]; decide) (off := 1746) (by rw [c28]; rfl) (by decide) ?_
      exact h
    by_cases c29 : ((xs X (v4).toNatClampNeg) &&& 63) = 29
    · replace h := h.2.2.2.2.2.2.2.2.2.2.2.2.2.2.2.2.2.2.2.2.2.2.2.2.2.2.2.2.2.1 c29
      refine G_tcase (tgt := 1854) (dk_at dk_L_law_0 24 rfl) (by rw [c29]; decide) (by rw [c29]; decide) (off := 1814) (by rw [c29]; rfl) (by decide) ?_
      exact h
    by_cases c30 : ((xs X (v4).toNatClampNeg) &&& 63) = 30
    · replace h := h.2.2.2.2.2.2.2.2.2.2.2.2.2.2.2.2.2.2.2.2.2.2.2.2.2.2.2.2.2.2.1 c30
      refine G_tcase (tgt := 1910) (dk_at dk_L_law_0 24 rfl) (by rw [c30]; decide) (by rw [c30]; decide) (off := 1870) (by rw [c30]; rfl) (by decide) ?_
      exact h
    by_cases c31 : ((xs X (v4).toNatClampNeg) &&& 63) = 31
    · replace h := h.2.2.2.2.2.2.2.2.2.2.2.2.2.2.2.2.2.2.2.2.2.2.2.2.2.2.2.2.2.2.2.1 c31
      refine G_tcase (tgt := 1923) (dk_at dk_L_law_0 24 rfl) (by rw [c31]; decide) (by rw [c31]; decide) (off := 1883) (by rw [c31]; rfl) (by decide) ?_
      exact h
    by_cases c32 : ((xs X (v4).toNatClampNeg) &&& 63) = 32
    · replace h := h.2.2.2.2.2.2.2.2.2.2.2.2.2.2.2.2.2.2.2.2.2.2.2.2.2.2.2.2.2.2.2.2.1 c32
      refine G_tcase (tgt := 1979) (dk_at dk_L_law_0 24 rfl) (by rw [c32]; decide) (by rw [c32]; decide) (off := 1939) (by rw [c32]; rfl) (by decide) ?_
      exact h
    replace h := h.2.2.2.2.2.2.2.2.2.2.2.2.2.2.2.2.2.2.2.2.2.2.2.2.2.2.2.2.2.2.2.2.2 c0 c1 c2 c3 c4 c5 c6 c7 c8 c9 c10 c11 c12 c13 c14 c15 c16 c17 c18 c19 c20 c21 c22 c23 c24 c25 c26 c27 c28 c29 c30 c31 c32
    refine G_tout (tgt := 2023) (dk_at dk_L_law_0 24 rfl) (tsw_out (n := 32) (fun k hk => ?_)) (by decide) ?_
    · have hk2 : k = 0 ∨ k = 1 ∨ k = 2 ∨ k = 3 ∨ k = 4 ∨ k = 5 ∨ k = 6 ∨ k = 7 ∨ k = 8 ∨ k = 9 ∨ k = 10 ∨ k = 11 ∨ k = 12 ∨ k = 13 ∨ k = 14 ∨ k = 15 ∨ k = 16 ∨ k = 17 ∨ k = 18 ∨ k = 19 ∨ k = 20 ∨ k = 21 ∨ k = 22 ∨ k = 23 ∨ k = 24 ∨ k = 25 ∨ k = 26 ∨ k = 27 ∨ k = 28 ∨ k = 29 ∨ k = 30 ∨ k = 31 ∨ k = 32 := by omega
      rcases hk2 with rfl | rfl | rfl | rfl | rfl | rfl | rfl | rfl | rfl | rfl | rfl | rfl | rfl | rfl | rfl | rfl | rfl | rfl | rfl | rfl | rfl | rfl | rfl | rfl | rfl | rfl | rfl | rfl | rfl | rfl | rfl | rfl | rfl
      · exact c0
      · exact c1
      · exact c2
      · exact c3
      · exact c4
      · exact c5
      · exact c6
      · exact c7
      · exact c8
      · exact c9
      · exact c10
      · exact c11
      · exact c12
      · exact c13
      · exact c14
      · exact c15
      · exact c16
      · exact c17
      · exact c18
      · exact c19
      · exact c20
      · exact c21
      · exact c22
      · exact c23
      · exact c24
      · exact c25
      · exact c26
      · exact c27
      · exact c28
      · exact c29
      · exact c30
      · exact c31
      · exact c32
    · exact h
theorem k_L_law_188 {l : Launch} {X : XT} {d : Nat} {Q : Ot → AH → Prop} {A : AH} {bc bs : Nat} {v1 : Nat} {v2 : Nat} {v3 : Nat} {v4 : Int32} (h : vp_in (v4 + 1) (xL X) ∧ vp_in (v4 + 2) (xL X) ∧ vp_in (v4 + 3) (xL X) ∧ vp_in (v4 + 4) (xL X) ∧ vp_in (v4 + 5) (xL X) ∧ Cal l X d bc bs M_L_append [.ref v1, .int (xs X (v4 + 1).toNatClampNeg), .int (xs X (v4 + 2).toNatClampNeg), .int (xs X (v4 + 3).toNatClampNeg), .int (xs X (v4 + 4).toNatClampNeg), .int (xs X (v4 + 5).toNatClampNeg), .ref v3] A fun o4 A1 b2 c3 => zI o4 fun i5 => vp_in (v4 + 1) (xL X) ∧ vp_in (v4 + 2) (xL X) ∧ vp_in (v4 + 3) (xL X) ∧ vp_in (v4 + 4) (xL X) ∧ vp_in (v4 + 5) (xL X) ∧ isO A1 v2 7 ∧ Cal l X d b2 c3 M_X6_append [.ref v2, .int (xs X (v4 + 1).toNatClampNeg), .int (xs X (v4 + 2).toNatClampNeg), .int (xs X (v4 + 3).toNatClampNeg), .int (xs X (v4 + 4).toNatClampNeg), .int (xs X (v4 + 5).toNatClampNeg)] A1 fun o9 A6 b7 c8 => rI o9 (fun E => Q (.inr E) A6) fun i10 => isO A6 v2 7 ∧ Cal l X d b7 c8 M_X6_thrown [.ref v2] A6 fun o14 A11 b12 c13 => rI o14 (fun E => Q (.inr E) A11) fun i15 => (i15 = i5 → (¬ i5 = 0 → G l X M_L_law d Q 2023 [(0, .ref (xb X)), (1, .ref v1), (2, .ref v2), (3, .ref v3), (4, .int v4)] [] A11 b12 c13) ∧ (i5 = 0 → aL X A11 v3 0 fun i16 => ((lg_cmp i16 (Int32.toInt64 i10)) = 0 → G l X M_L_law d Q 2023 [(0, .ref (xb X)), (1, .ref v1), (2, .ref v2), (3, .ref v3), (4, .int v4)] [] A11 b12 c13) ∧ (¬ (lg_cmp i16 (Int32.toInt64 i10)) = 0 → Q (Ri 0) A11))) ∧ (¬ i15 = i5 → Q (Ri 0) A11)) : G l X M_L_law d Q 188 [(0, .ref (xb X)), (1, .ref v1), (2, .ref v2), (3, .ref v3), (4, .int v4)] [] A bc bs := by
  refine G_aload_n 1 (dk_at dk_L_law_0 25 rfl) rfl ?_
  refine G_aload_n 0 (dk_at dk_L_law_0 26 rfl) rfl ?_
  refine G_iload 4 (dk_at dk_L_law_0 27 rfl) rfl ?_
  refine G_iconst (v := 1) (dk_at dk_L_law_0 28 rfl) (by decide) ?_
  refine G_iadd (dk_at dk_L_law_0 29 rfl) ?_
  obtain ⟨h0, h⟩ := h
  refine G_sld (dk_at dk_L_law_0 30 rfl) h0 ?_
  refine G_aload_n 0 (dk_at dk_L_law_0 31 rfl) rfl ?_
  refine G_iload 4 (dk_at dk_L_law_0 32 rfl) rfl ?_
  refine G_iconst (v := 2) (dk_at dk_L_law_0 33 rfl) (by decide) ?_
  refine G_iadd (dk_at dk_L_law_0 34 rfl) ?_
  obtain ⟨h0, h⟩ := h
  refine G_sld (dk_at dk_L_law_0 35 rfl) h0 ?_
  refine G_aload_n 0 (dk_at dk_L_law_0 36 rfl) rfl ?_
  refine G_iload 4 (dk_at dk_L_law_0 37 rfl) rfl ?_
  refine G_iconst (v := 3) (dk_at dk_L_law_0 38 rfl) (by decide) ?_
  refine G_iadd (dk_at dk_L_law_0 39 rfl) ?_
  obtain ⟨h0, h⟩ := h
  refine G_sld (dk_at dk_L_law_0 40 rfl) h0 ?_
  refine G_aload_n 0 (dk_at dk_L_law_0 41 rfl) rfl ?_
  refine G_iload 4 (dk_at dk_L_law_0 42 rfl) rfl ?_
  refine G_iconst (v := 4) (dk_at dk_L_law_0 43 rfl) (by decide) ?_
  refine G_iadd (dk_at dk_L_law_0 44 rfl) ?_
  obtain ⟨h0, h⟩ := h
  refine G_sld (dk_at dk_L_law_0 45 rfl) h0 ?_
  refine G_aload_n 0 (dk_at dk_L_law_0 46 rfl) rfl ?_
  refine G_iload 4 (dk_at dk_L_law_0 47 rfl) rfl ?_
  refine G_iconst (v := 5) (dk_at dk_L_law_0 48 rfl) (by decide) ?_
  refine G_iadd (dk_at dk_L_law_0 49 rfl) ?_
  obtain ⟨h0, h⟩ := h
  refine G_sld (dk_at dk_L_law_1 0 rfl) h0 ?_
  refine G_aload_n 3 (dk_at dk_L_law_1 1 rfl) rfl ?_
  refine G_callSX (As := [.ref v1, .int (xs X (v4 + 1).toNatClampNeg), .int (xs X (v4 + 2).toNatClampNeg), .int (xs X (v4 + 3).toNatClampNeg), .int (xs X (v4 + 4).toNatClampNeg), .int (xs X (v4 + 5).toNatClampNeg), .ref v3]) (rest := []) lk_L_108 (dk_at dk_L_law_1 2 rfl) rfl rfl (Nat.le_of_ble_eq_true rfl) (h.mono fun o4 A1 b2 c3 h => atfI h fun i5 h => ?_)
  refine G_istore (lv' := [(5, .int i5), (0, .ref (xb X)), (1, .ref v1), (2, .ref v2), (3, .ref v3), (4, .int v4)]) (dk_at dk_L_law_1 3 rfl) (by decide) rfl ?_
  refine G_aload_n 3 (dk_at dk_L_law_1 4 rfl) rfl ?_
  refine G_aload_n 1 (dk_at dk_L_law_1 5 rfl) rfl ?_
  refine G_iload 5 (dk_at dk_L_law_1 6 rfl) rfl ?_
  refine G_iconst (v := 1) (dk_at dk_L_law_1 7 rfl) (by decide) ?_
  refine G_iadd (dk_at dk_L_law_1 8 rfl) ?_
  obtain ⟨h0, h⟩ := h
  refine G_sld (dk_at dk_L_law_1 9 rfl) h0 ?_
  refine G_aload_n 1 (dk_at dk_L_law_1 10 rfl) rfl ?_
  refine G_iload 5 (dk_at dk_L_law_1 11 rfl) rfl ?_
  refine G_iconst (v := 2) (dk_at dk_L_law_1 12 rfl) (by decide) ?_
  refine G_iadd (dk_at dk_L_law_1 13 rfl) ?_
  obtain ⟨h0, h⟩ := h
  refine G_sld (dk_at dk_L_law_1 14 rfl) h0 ?_
  refine G_aload_n 1 (dk_at dk_L_law_1 15 rfl) rfl ?_
  refine G_iload 5 (dk_at dk_L_law_1 16 rfl) rfl ?_
  refine G_iconst (v := 3) (dk_at dk_L_law_1 17 rfl) (by decide) ?_
  refine G_iadd (dk_at dk_L_law_1 18 rfl) ?_
  obtain ⟨h0, h⟩ := h
  refine G_sld (dk_at dk_L_law_1 19 rfl) h0 ?_
  refine G_aload_n 1 (dk_at dk_L_law_1 20 rfl) rfl ?_
  refine G_iload 5 (dk_at dk_L_law_1 21 rfl) rfl ?_
  refine G_iconst (v := 4) (dk_at dk_L_law_1 22 rfl) (by decide) ?_
  refine G_iadd (dk_at dk_L_law_1 23 rfl) ?_
  obtain ⟨h0, h⟩ := h
  refine G_sld (dk_at dk_L_law_1 24 rfl) h0 ?_
  refine G_aload_n 1 (dk_at dk_L_law_1 25 rfl) rfl ?_
  refine G_iload 5 (dk_at dk_L_law_1 26 rfl) rfl ?_
  refine G_iconst (v := 5) (dk_at dk_L_law_1 27 rfl) (by decide) ?_
  refine G_iadd (dk_at dk_L_law_1 28 rfl) ?_
  obtain ⟨h0, h⟩ := h
  refine G_sld (dk_at dk_L_law_1 29 rfl) h0 ?_
  obtain ⟨⟨_, ho⟩, h⟩ := h
  refine G_callV (As := [.int (xs X (v4 + 1).toNatClampNeg), .int (xs X (v4 + 2).toNatClampNeg), .int (xs X (v4 + 3).toNatClampNeg), .int (xs X (v4 + 4).toNatClampNeg), .int (xs X (v4 + 5).toNatClampNeg)]) (rest := []) lk_L_113 rfl (dk_at dk_L_law_1 30 rfl) rfl rfl (Nat.le_of_ble_eq_true rfl) ho (h.mono fun o9 A6 b7 c8 h => aftI h fun i10 h => ?_)
  refine G_istore (lv' := [(6, .int i10), (5, .int i5), (0, .ref (xb X)), (1, .ref v1), (2, .ref v2), (3, .ref v3), (4, .int v4)]) (dk_at dk_L_law_1 31 rfl) (by decide) rfl ?_
  refine G_aload_n 4 (dk_at dk_L_law_1 32 rfl) rfl ?_
  obtain ⟨⟨_, ho⟩, h⟩ := h
  refine G_callV (As := []) (rest := []) lk_L_114 rfl (dk_at dk_L_law_1 33 rfl) rfl rfl (Nat.le_of_ble_eq_true rfl) ho (h.mono fun o14 A11 b12 c13 h => aftI h fun i15 h => ?_)
  refine G_iload 1 (dk_at dk_L_law_1 34 rfl) rfl ?_
  refine G_icmp_eq (tgt := 272) (dk_at dk_L_law_1 35 rfl) (by decide) (fun c => ?_) (fun c => ?_)
  · replace h := h.1 c
    refine G_iload 1 (dk_at dk_L_law_1 38 rfl) rfl ?_
    refine G_if_ne (tgt := 289) (dk_at dk_L_law_1 39 rfl) (by decide) (fun c => ?_) (fun c => ?_)
    · replace h := h.1 c
      refine G_goto (tgt := 2023) (dk_at dk_L_law_1 49 rfl) (by decide) ?_
      refine G_sub [2, 3, 4, 5, 6] rfl ?_
      exact h
    · replace h := h.2 c
      refine G_aload_n 5 (dk_at dk_L_law_1 40 rfl) rfl ?_
      refine G_iconst (v := 0) (dk_at dk_L_law_1 41 rfl) (by decide) ?_
      refine K_aL (dk_at dk_L_law_1 42 rfl) h (fun i16 h => ?_)
      refine G_iload 0 (dk_at dk_L_law_1 43 rfl) rfl ?_
      refine G_i2l (dk_at dk_L_law_1 44 rfl) rfl ?_
      refine G_lcmp (dk_at dk_L_law_1 45 rfl) ?_
      refine G_if_eq (tgt := 289) (dk_at dk_L_law_1 46 rfl) (by decide) (fun c => ?_) (fun c => ?_)
      · replace h := h.1 c
        refine G_goto (tgt := 2023) (dk_at dk_L_law_1 49 rfl) (by decide) ?_
        refine G_sub [2, 3, 4, 5, 6] rfl ?_
        exact h
      · replace h := h.2 c
        refine G_iconst (v := 0) (dk_at dk_L_law_1 47 rfl) (by decide) ?_
        exact G_iret (ty := .boolean) rfl rfl (dk_at dk_L_law_1 48 rfl) h
  · replace h := h.2 c
    refine G_iconst (v := 0) (dk_at dk_L_law_1 36 rfl) (by decide) ?_
    exact G_iret (ty := .boolean) rfl rfl (dk_at dk_L_law_1 37 rfl) h
theorem k_L_law_292 {l : Launch} {X : XT} {d : Nat} {Q : Ot → AH → Prop} {A : AH} {bc bs : Nat} {v1 : Nat} {v2 : Nat} {v3 : Nat} {v4 : Int32} (h : vp_in (v4 + 1) (xL X) ∧ Cal l X d bc bs M_L_load [.ref v1, .int (xs X (v4 + 1).toNatClampNeg), .ref v3] A fun o4 A1 b2 c3 => zI o4 fun i5 => vp_in (v4 + 1) (xL X) ∧ isO A1 v2 7 ∧ Cal l X d b2 c3 M_X6_load [.ref v2, .int (xs X (v4 + 1).toNatClampNeg)] A1 fun o9 A6 b7 c8 => rI o9 (fun E => Q (.inr E) A6) fun i10 => isO A6 v2 7 ∧ Cal l X d b7 c8 M_X6_thrown [.ref v2] A6 fun o14 A11 b12 c13 => rI o14 (fun E => Q (.inr E) A11) fun i15 => (i15 = i5 → (¬ i5 = 0 → G l X M_L_law d Q 2023 [(0, .ref (xb X)), (1, .ref v1), (2, .ref v2), (3, .ref v3), (4, .int v4)] [] A11 b12 c13) ∧ (i5 = 0 → aL X A11 v3 0 fun i16 => ((lg_cmp i16 (Int32.toInt64 i10)) = 0 → G l X M_L_law d Q 2023 [(0, .ref (xb X)), (1, .ref v1), (2, .ref v2), (3, .ref v3), (4, .int v4)] [] A11 b12 c13) ∧ (¬ (lg_cmp i16 (Int32.toInt64 i10)) = 0 → Q (Ri 0) A11))) ∧ (¬ i15 = i5 → Q (Ri 0) A11)) : G l X M_L_law d Q 292 [(0, .ref (xb X)), (1, .ref v1), (2, .ref v2), (3, .ref v3), (4, .int v4)] [] A bc bs := by
  refine G_aload_n 1 (dk_at dk_L_law_2 0 rfl) rfl ?_
  refine G_aload_n 0 (dk_at dk_L_law_2 1 rfl) rfl ?_
  refine G_iload 4 (dk_at dk_L_law_2 2 rfl) rfl ?_
  refine G_iconst (v := 1) (dk_at dk_L_law_2 3 rfl) (by decide) ?_
  refine G_iadd (dk_at dk_L_law_2 4 rfl) ?_
  obtain ⟨h0, h⟩ := h
  refine G_sld (dk_at dk_L_law_2 5 rfl) h0 ?_
  refine G_aload_n 3 (dk_at dk_L_law_2 6 rfl) rfl ?_
  refine G_callSX (As := [.ref v1, .int (xs X (v4 + 1).toNatClampNeg), .ref v3]) (rest := []) lk_L_117 (dk_at dk_L_law_2 7 rfl) rfl rfl (Nat.le_of_ble_eq_true rfl) (h.mono fun o4 A1 b2 c3 h => atfI h fun i5 h => ?_)
  refine G_istore (lv' := [(5, .int i5), (0, .ref (xb X)), (1, .ref v1), (2, .ref v2), (3, .ref v3), (4, .int v4)]) (dk_at dk_L_law_2 8 rfl) (by decide) rfl ?_
  refine G_aload_n 3 (dk_at dk_L_law_2 9 rfl) rfl ?_
  refine G_aload_n 1 (dk_at dk_L_law_2 10 rfl) rfl ?_
  refine G_iload 5 (dk_at dk_L_law_2 11 rfl) rfl ?_
  refine G_iconst (v := 1) (dk_at dk_L_law_2 12 rfl) (by decide) ?_
  refine G_iadd (dk_at dk_L_law_2 13 rfl) ?_
  obtain ⟨h0, h⟩ := h
  refine G_sld (dk_at dk_L_law_2 14 rfl) h0 ?_
  obtain ⟨⟨_, ho⟩, h⟩ := h
  refine G_callV (As := [.int (xs X (v4 + 1).toNatClampNeg)]) (rest := []) lk_L_120 rfl (dk_at dk_L_law_2 15 rfl) rfl rfl (Nat.le_of_ble_eq_true rfl) ho (h.mono fun o9 A6 b7 c8 h => aftI h fun i10 h => ?_)
  refine G_istore (lv' := [(6, .int i10), (5, .int i5), (0, .ref (xb X)), (1, .ref v1), (2, .ref v2), (3, .ref v3), (4, .int v4)]) (dk_at dk_L_law_2 16 rfl) (by decide) rfl ?_
  refine G_aload_n 4 (dk_at dk_L_law_2 17 rfl) rfl ?_
  obtain ⟨⟨_, ho⟩, h⟩ := h
  refine G_callV (As := []) (rest := []) lk_L_114 rfl (dk_at dk_L_law_2 18 rfl) rfl rfl (Nat.le_of_ble_eq_true rfl) ho (h.mono fun o14 A11 b12 c13 h => aftI h fun i15 h => ?_)
  refine G_iload 1 (dk_at dk_L_law_2 19 rfl) rfl ?_
  refine G_icmp_eq (tgt := 328) (dk_at dk_L_law_2 20 rfl) (by decide) (fun c => ?_) (fun c => ?_)
  · replace h := h.1 c
    refine G_iload 1 (dk_at dk_L_law_2 23 rfl) rfl ?_
    refine G_if_ne (tgt := 345) (dk_at dk_L_law_2 24 rfl) (by decide) (fun c => ?_) (fun c => ?_)
    · replace h := h.1 c
      refine G_goto (tgt := 2023) (dk_at dk_L_law_2 34 rfl) (by decide) ?_
      refine G_sub [2, 3, 4, 5, 6] rfl ?_
      exact h
    · replace h := h.2 c
      refine G_aload_n 5 (dk_at dk_L_law_2 25 rfl) rfl ?_
      refine G_iconst (v := 0) (dk_at dk_L_law_2 26 rfl) (by decide) ?_
      refine K_aL (dk_at dk_L_law_2 27 rfl) h (fun i16 h => ?_)
      refine G_iload 0 (dk_at dk_L_law_2 28 rfl) rfl ?_
      refine G_i2l (dk_at dk_L_law_2 29 rfl) rfl ?_
      refine G_lcmp (dk_at dk_L_law_2 30 rfl) ?_
      refine G_if_eq (tgt := 345) (dk_at dk_L_law_2 31 rfl) (by decide) (fun c => ?_) (fun c => ?_)
      · replace h := h.1 c
        refine G_goto (tgt := 2023) (dk_at dk_L_law_2 34 rfl) (by decide) ?_
        refine G_sub [2, 3, 4, 5, 6] rfl ?_
        exact h
      · replace h := h.2 c
        refine G_iconst (v := 0) (dk_at dk_L_law_2 32 rfl) (by decide) ?_
        exact G_iret (ty := .boolean) rfl rfl (dk_at dk_L_law_2 33 rfl) h
  · replace h := h.2 c
    refine G_iconst (v := 0) (dk_at dk_L_law_2 21 rfl) (by decide) ?_
    exact G_iret (ty := .boolean) rfl rfl (dk_at dk_L_law_2 22 rfl) h
theorem k_L_law_348 {l : Launch} {X : XT} {d : Nat} {Q : Ot → AH → Prop} {A : AH} {bc bs : Nat} {v1 : Nat} {v2 : Nat} {v3 : Nat} {v4 : Int32} (h : isO A v1 6 ∧ Cal l X d bc bs M_X5_errorPosition [.ref v1] A fun o4 A1 b2 c3 => rI o4 (fun E => Q (.inr E) A1) fun i5 => isO A1 v2 7 ∧ Cal l X d b2 c3 M_X6_errorPosition [.ref v2] A1 fun o9 A6 b7 c8 => rI o9 (fun E => Q (.inr E) A6) fun i10 => (i5 = i10 → G l X M_L_law d Q 2023 [(0, .ref (xb X)), (1, .ref v1), (2, .ref v2), (3, .ref v3), (4, .int v4)] [] A6 b7 c8) ∧ (¬ i5 = i10 → Q (Ri 0) A6)) : G l X M_L_law d Q 348 [(0, .ref (xb X)), (1, .ref v1), (2, .ref v2), (3, .ref v3), (4, .int v4)] [] A bc bs := by
  refine G_aload_n 1 (dk_at dk_L_law_2 35 rfl) rfl ?_
  obtain ⟨⟨_, ho⟩, h⟩ := h
  refine G_callV (As := []) (rest := []) lk_L_121 rfl (dk_at dk_L_law_2 36 rfl) rfl rfl (Nat.le_of_ble_eq_true rfl) ho (h.mono fun o4 A1 b2 c3 h => aftI h fun i5 h => ?_)
  refine G_aload_n 2 (dk_at dk_L_law_2 37 rfl) rfl ?_
  obtain ⟨⟨_, ho⟩, h⟩ := h
  refine G_callV (As := []) (rest := [.int i5]) lk_L_124 rfl (dk_at dk_L_law_2 38 rfl) rfl rfl (Nat.le_of_ble_eq_true rfl) ho (h.mono fun o9 A6 b7 c8 h => aftI h fun i10 h => ?_)
  refine G_icmp_eq (tgt := 2023) (dk_at dk_L_law_2 39 rfl) (by decide) (fun c => ?_) (fun c => ?_)
  · replace h := h.1 c
    exact h
  · replace h := h.2 c
    refine G_iconst (v := 0) (dk_at dk_L_law_2 40 rfl) (by decide) ?_
    exact G_iret (ty := .boolean) rfl rfl (dk_at dk_L_law_2 41 rfl) h
theorem k_L_law_361 {l : Launch} {X : XT} {d : Nat} {Q : Ot → AH → Prop} {A : AH} {bc bs : Nat} {v1 : Nat} {v2 : Nat} {v3 : Nat} {v4 : Int32} (h : vp_in (v4 + 1) (xL X) ∧ Cal l X d bc bs M_L_count [.ref v1, .int (xs X (v4 + 1).toNatClampNeg), .ref v3] A fun o4 A1 b2 c3 => zI o4 fun i5 => vp_in (v4 + 1) (xL X) ∧ isO A1 v2 7 ∧ Cal l X d b2 c3 M_X6_count [.ref v2, .int (xs X (v4 + 1).toNatClampNeg)] A1 fun o9 A6 b7 c8 => rI o9 (fun E => Q (.inr E) A6) fun i10 => isO A6 v2 7 ∧ Cal l X d b7 c8 M_X6_thrown [.ref v2] A6 fun o14 A11 b12 c13 => rI o14 (fun E => Q (.inr E) A11) fun i15 => (i15 = i5 → (¬ i5 = 0 → G l X M_L_law d Q 2023 [(0, .ref (xb X)), (1, .ref v1), (2, .ref v2), (3, .ref v3), (4, .int v4)] [] A11 b12 c13) ∧ (i5 = 0 → aL X A11 v3 0 fun i16 => ((lg_cmp i16 (Int32.toInt64 i10)) = 0 → G l X M_L_law d Q 2023 [(0, .ref (xb X)), (1, .ref v1), (2, .ref v2), (3, .ref v3), (4, .int v4)] [] A11 b12 c13) ∧ (¬ (lg_cmp i16 (Int32.toInt64 i10)) = 0 → Q (Ri 0) A11))) ∧ (¬ i15 = i5 → Q (Ri 0) A11)) : G l X M_L_law d Q 361 [(0, .ref (xb X)), (1, .ref v1), (2, .ref v2), (3, .ref v3), (4, .int v4)] [] A bc bs := by
  refine G_aload_n 1 (dk_at dk_L_law_2 42 rfl) rfl ?_
  refine G_aload_n 0 (dk_at dk_L_law_2 43 rfl) rfl ?_
  refine G_iload 4 (dk_at dk_L_law_2 44 rfl) rfl ?_
  refine G_iconst (v := 1) (dk_at dk_L_law_2 45 rfl) (by decide) ?_
  refine G_iadd (dk_at dk_L_law_2 46 rfl) ?_
  obtain ⟨h0, h⟩ := h
  refine G_sld (dk_at dk_L_law_2 47 rfl) h0 ?_
  refine G_aload_n 3 (dk_at dk_L_law_2 48 rfl) rfl ?_
  refine G_callSX (As := [.ref v1, .int (xs X (v4 + 1).toNatClampNeg), .ref v3]) (rest := []) lk_L_125 (dk_at dk_L_law_2 49 rfl) rfl rfl (Nat.le_of_ble_eq_true rfl) (h.mono fun o4 A1 b2 c3 h => atfI h fun i5 h => ?_)
  refine G_istore (lv' := [(5, .int i5), (0, .ref (xb X)), (1, .ref v1), (2, .ref v2), (3, .ref v3), (4, .int v4)]) (dk_at dk_L_law_3 0 rfl) (by decide) rfl ?_
  refine G_aload_n 3 (dk_at dk_L_law_3 1 rfl) rfl ?_
  refine G_aload_n 1 (dk_at dk_L_law_3 2 rfl) rfl ?_
  refine G_iload 5 (dk_at dk_L_law_3 3 rfl) rfl ?_
  refine G_iconst (v := 1) (dk_at dk_L_law_3 4 rfl) (by decide) ?_
  refine G_iadd (dk_at dk_L_law_3 5 rfl) ?_
  obtain ⟨h0, h⟩ := h
  refine G_sld (dk_at dk_L_law_3 6 rfl) h0 ?_
  obtain ⟨⟨_, ho⟩, h⟩ := h
  refine G_callV (As := [.int (xs X (v4 + 1).toNatClampNeg)]) (rest := []) lk_L_127 rfl (dk_at dk_L_law_3 7 rfl) rfl rfl (Nat.le_of_ble_eq_true rfl) ho (h.mono fun o9 A6 b7 c8 h => aftI h fun i10 h => ?_)
  refine G_istore (lv' := [(6, .int i10), (5, .int i5), (0, .ref (xb X)), (1, .ref v1), (2, .ref v2), (3, .ref v3), (4, .int v4)]) (dk_at dk_L_law_3 8 rfl) (by decide) rfl ?_
  refine G_aload_n 4 (dk_at dk_L_law_3 9 rfl) rfl ?_
  obtain ⟨⟨_, ho⟩, h⟩ := h
  refine G_callV (As := []) (rest := []) lk_L_114 rfl (dk_at dk_L_law_3 10 rfl) rfl rfl (Nat.le_of_ble_eq_true rfl) ho (h.mono fun o14 A11 b12 c13 h => aftI h fun i15 h => ?_)
  refine G_iload 1 (dk_at dk_L_law_3 11 rfl) rfl ?_
  refine G_icmp_eq (tgt := 397) (dk_at dk_L_law_3 12 rfl) (by decide) (fun c => ?_) (fun c => ?_)
  · replace h := h.1 c
    refine G_iload 1 (dk_at dk_L_law_3 15 rfl) rfl ?_
    refine G_if_ne (tgt := 414) (dk_at dk_L_law_3 16 rfl) (by decide) (fun c => ?_) (fun c => ?_)
    · replace h := h.1 c
      refine G_goto (tgt := 2023) (dk_at dk_L_law_3 26 rfl) (by decide) ?_
      refine G_sub [2, 3, 4, 5, 6] rfl ?_
      exact h
    · replace h := h.2 c
      refine G_aload_n 5 (dk_at dk_L_law_3 17 rfl) rfl ?_
      refine G_iconst (v := 0) (dk_at dk_L_law_3 18 rfl) (by decide) ?_
      refine K_aL (dk_at dk_L_law_3 19 rfl) h (fun i16 h => ?_)
      refine G_iload 0 (dk_at dk_L_law_3 20 rfl) rfl ?_
      refine G_i2l (dk_at dk_L_law_3 21 rfl) rfl ?_
      refine G_lcmp (dk_at dk_L_law_3 22 rfl) ?_
      refine G_if_eq (tgt := 414) (dk_at dk_L_law_3 23 rfl) (by decide) (fun c => ?_) (fun c => ?_)
      · replace h := h.1 c
        refine G_goto (tgt := 2023) (dk_at dk_L_law_3 26 rfl) (by decide) ?_
        refine G_sub [2, 3, 4, 5, 6] rfl ?_
        exact h
      · replace h := h.2 c
        refine G_iconst (v := 0) (dk_at dk_L_law_3 24 rfl) (by decide) ?_
        exact G_iret (ty := .boolean) rfl rfl (dk_at dk_L_law_3 25 rfl) h
  · replace h := h.2 c
    refine G_iconst (v := 0) (dk_at dk_L_law_3 13 rfl) (by decide) ?_
    exact G_iret (ty := .boolean) rfl rfl (dk_at dk_L_law_3 14 rfl) h
theorem k_L_law_417 {l : Launch} {X : XT} {d : Nat} {Q : Ot → AH → Prop} {A : AH} {bc bs : Nat} {v1 : Nat} {v2 : Nat} {v3 : Nat} {v4 : Int32} (h : vp_in (v4 + 1) (xL X) ∧ vp_in (v4 + 2) (xL X) ∧ Cal l X d bc bs M_L_source [.ref v1, .int (xs X (v4 + 1).toNatClampNeg), .int (xs X (v4 + 2).toNatClampNeg), .ref v3] A fun o4 A1 b2 c3 => zI o4 fun i5 => vp_in (v4 + 1) (xL X) ∧ vp_in (v4 + 2) (xL X) ∧ isO A1 v2 7 ∧ Cal l X d b2 c3 M_X6_source [.ref v2, .int (xs X (v4 + 1).toNatClampNeg), .int (xs X (v4 + 2).toNatClampNeg)] A1 fun o9 A6 b7 c8 => rI o9 (fun E => Q (.inr E) A6) fun i10 => isO A6 v2 7 ∧ Cal l X d b7 c8 M_X6_thrown [.ref v2] A6 fun o14 A11 b12 c13 => rI o14 (fun E => Q (.inr E) A11) fun i15 => (i15 = i5 → (¬ i5 = 0 → G l X M_L_law d Q 2023 [(0, .ref (xb X)), (1, .ref v1), (2, .ref v2), (3, .ref v3), (4, .int v4)] [] A11 b12 c13) ∧ (i5 = 0 → aL X A11 v3 0 fun i16 => ((lg_cmp i16 (Int32.toInt64 i10)) = 0 → G l X M_L_law d Q 2023 [(0, .ref (xb X)), (1, .ref v1), (2, .ref v2), (3, .ref v3), (4, .int v4)] [] A11 b12 c13) ∧ (¬ (lg_cmp i16 (Int32.toInt64 i10)) = 0 → Q (Ri 0) A11))) ∧ (¬ i15 = i5 → Q (Ri 0) A11)) : G l X M_L_law d Q 417 [(0, .ref (xb X)), (1, .ref v1), (2, .ref v2), (3, .ref v3), (4, .int v4)] [] A bc bs := by
  refine G_aload_n 1 (dk_at dk_L_law_3 27 rfl) rfl ?_
  refine G_aload_n 0 (dk_at dk_L_law_3 28 rfl) rfl ?_
  refine G_iload 4 (dk_at dk_L_law_3 29 rfl) rfl ?_
  refine G_iconst (v := 1) (dk_at dk_L_law_3 30 rfl) (by decide) ?_
  refine G_iadd (dk_at dk_L_law_3 31 rfl) ?_
  obtain ⟨h0, h⟩ := h
  refine G_sld (dk_at dk_L_law_3 32 rfl) h0 ?_
  refine G_aload_n 0 (dk_at dk_L_law_3 33 rfl) rfl ?_
  refine G_iload 4 (dk_at dk_L_law_3 34 rfl) rfl ?_
  refine G_iconst (v := 2) (dk_at dk_L_law_3 35 rfl) (by decide) ?_
  refine G_iadd (dk_at dk_L_law_3 36 rfl) ?_
  obtain ⟨h0, h⟩ := h
  refine G_sld (dk_at dk_L_law_3 37 rfl) h0 ?_
  refine G_aload_n 3 (dk_at dk_L_law_3 38 rfl) rfl ?_
  refine G_callSX (As := [.ref v1, .int (xs X (v4 + 1).toNatClampNeg), .int (xs X (v4 + 2).toNatClampNeg), .ref v3]) (rest := []) lk_L_128 (dk_at dk_L_law_3 39 rfl) rfl rfl (Nat.le_of_ble_eq_true rfl) (h.mono fun o4 A1 b2 c3 h => atfI h fun i5 h => ?_)
  refine G_istore (lv' := [(5, .int i5), (0, .ref (xb X)), (1, .ref v1), (2, .ref v2), (3, .ref v3), (4, .int v4)]) (dk_at dk_L_law_3 40 rfl) (by decide) rfl ?_
  refine G_aload_n 3 (dk_at dk_L_law_3 41 rfl) rfl ?_
  refine G_aload_n 1 (dk_at dk_L_law_3 42 rfl) rfl ?_
  refine G_iload 5 (dk_at dk_L_law_3 43 rfl) rfl ?_
  refine G_iconst (v := 1) (dk_at dk_L_law_3 44 rfl) (by decide) ?_
  refine G_iadd (dk_at dk_L_law_3 45 rfl) ?_
  obtain ⟨h0, h⟩ := h
  refine G_sld (dk_at dk_L_law_3 46 rfl) h0 ?_
  refine G_aload_n 1 (dk_at dk_L_law_3 47 rfl) rfl ?_
  refine G_iload 5 (dk_at dk_L_law_3 48 rfl) rfl ?_
  refine G_iconst (v := 2) (dk_at dk_L_law_3 49 rfl) (by decide) ?_
  refine G_iadd (dk_at dk_L_law_4 0 rfl) ?_
  obtain ⟨h0, h⟩ := h
  refine G_sld (dk_at dk_L_law_4 1 rfl) h0 ?_
  obtain ⟨⟨_, ho⟩, h⟩ := h
  refine G_callV (As := [.int (xs X (v4 + 1).toNatClampNeg), .int (xs X (v4 + 2).toNatClampNeg)]) (rest := []) lk_L_131 rfl (dk_at dk_L_law_4 2 rfl) rfl rfl (Nat.le_of_ble_eq_true rfl) ho (h.mono fun o9 A6 b7 c8 h => aftI h fun i10 h => ?_)
  refine G_istore (lv' := [(6, .int i10), (5, .int i5), (0, .ref (xb X)), (1, .ref v1), (2, .ref v2), (3, .ref v3), (4, .int v4)]) (dk_at dk_L_law_4 3 rfl) (by decide) rfl ?_
  refine G_aload_n 4 (dk_at dk_L_law_4 4 rfl) rfl ?_
  obtain ⟨⟨_, ho⟩, h⟩ := h
  refine G_callV (As := []) (rest := []) lk_L_114 rfl (dk_at dk_L_law_4 5 rfl) rfl rfl (Nat.le_of_ble_eq_true rfl) ho (h.mono fun o14 A11 b12 c13 h => aftI h fun i15 h => ?_)
  refine G_iload 1 (dk_at dk_L_law_4 6 rfl) rfl ?_
  refine G_icmp_eq (tgt := 465) (dk_at dk_L_law_4 7 rfl) (by decide) (fun c => ?_) (fun c => ?_)
  · replace h := h.1 c
    refine G_iload 1 (dk_at dk_L_law_4 10 rfl) rfl ?_
    refine G_if_ne (tgt := 482) (dk_at dk_L_law_4 11 rfl) (by decide) (fun c => ?_) (fun c => ?_)
    · replace h := h.1 c
      refine G_goto (tgt := 2023) (dk_at dk_L_law_4 21 rfl) (by decide) ?_
      refine G_sub [2, 3, 4, 5, 6] rfl ?_
      exact h
    · replace h := h.2 c
      refine G_aload_n 5 (dk_at dk_L_law_4 12 rfl) rfl ?_
      refine G_iconst (v := 0) (dk_at dk_L_law_4 13 rfl) (by decide) ?_
      refine K_aL (dk_at dk_L_law_4 14 rfl) h (fun i16 h => ?_)
      refine G_iload 0 (dk_at dk_L_law_4 15 rfl) rfl ?_
      refine G_i2l (dk_at dk_L_law_4 16 rfl) rfl ?_
      refine G_lcmp (dk_at dk_L_law_4 17 rfl) ?_
      refine G_if_eq (tgt := 482) (dk_at dk_L_law_4 18 rfl) (by decide) (fun c => ?_) (fun c => ?_)
      · replace h := h.1 c
        refine G_goto (tgt := 2023) (dk_at dk_L_law_4 21 rfl) (by decide) ?_
        refine G_sub [2, 3, 4, 5, 6] rfl ?_
        exact h
      · replace h := h.2 c
        refine G_iconst (v := 0) (dk_at dk_L_law_4 19 rfl) (by decide) ?_
        exact G_iret (ty := .boolean) rfl rfl (dk_at dk_L_law_4 20 rfl) h
  · replace h := h.2 c
    refine G_iconst (v := 0) (dk_at dk_L_law_4 8 rfl) (by decide) ?_
    exact G_iret (ty := .boolean) rfl rfl (dk_at dk_L_law_4 9 rfl) h
theorem k_L_law_485 {l : Launch} {X : XT} {d : Nat} {Q : Ot → AH → Prop} {A : AH} {bc bs : Nat} {v1 : Nat} {v2 : Nat} {v3 : Nat} {v4 : Int32} (h : vp_in (v4 + 1) (xL X) ∧ vp_in (v4 + 2) (xL X) ∧ Cal l X d bc bs M_L_sent [.ref v1, .int (xs X (v4 + 1).toNatClampNeg), .int (xs X (v4 + 2).toNatClampNeg), .ref v3] A fun o4 A1 b2 c3 => zI o4 fun i5 => vp_in (v4 + 1) (xL X) ∧ vp_in (v4 + 2) (xL X) ∧ isO A1 v2 7 ∧ Cal l X d b2 c3 M_X6_sent [.ref v2, .int (xs X (v4 + 1).toNatClampNeg), .int (xs X (v4 + 2).toNatClampNeg)] A1 fun o9 A6 b7 c8 => rI o9 (fun E => Q (.inr E) A6) fun i10 => isO A6 v2 7 ∧ Cal l X d b7 c8 M_X6_thrown [.ref v2] A6 fun o14 A11 b12 c13 => rI o14 (fun E => Q (.inr E) A11) fun i15 => (i15 = i5 → (¬ i5 = 0 → G l X M_L_law d Q 2023 [(0, .ref (xb X)), (1, .ref v1), (2, .ref v2), (3, .ref v3), (4, .int v4)] [] A11 b12 c13) ∧ (i5 = 0 → aL X A11 v3 0 fun i16 => ((lg_cmp i16 (Int32.toInt64 i10)) = 0 → G l X M_L_law d Q 2023 [(0, .ref (xb X)), (1, .ref v1), (2, .ref v2), (3, .ref v3), (4, .int v4)] [] A11 b12 c13) ∧ (¬ (lg_cmp i16 (Int32.toInt64 i10)) = 0 → Q (Ri 0) A11))) ∧ (¬ i15 = i5 → Q (Ri 0) A11)) : G l X M_L_law d Q 485 [(0, .ref (xb X)), (1, .ref v1), (2, .ref v2), (3, .ref v3), (4, .int v4)] [] A bc bs := by
  refine G_aload_n 1 (dk_at dk_L_law_4 22 rfl) rfl ?_
  refine G_aload_n 0 (dk_at dk_L_law_4 23 rfl) rfl ?_
  refine G_iload 4 (dk_at dk_L_law_4 24 rfl) rfl ?_
  refine G_iconst (v := 1) (dk_at dk_L_law_4 25 rfl) (by decide) ?_
  refine G_iadd (dk_at dk_L_law_4 26 rfl) ?_
  obtain ⟨h0, h⟩ := h
  refine G_sld (dk_at dk_L_law_4 27 rfl) h0 ?_
  refine G_aload_n 0 (dk_at dk_L_law_4 28 rfl) rfl ?_
  refine G_iload 4 (dk_at dk_L_law_4 29 rfl) rfl ?_
  refine G_iconst (v := 2) (dk_at dk_L_law_4 30 rfl) (by decide) ?_
  refine G_iadd (dk_at dk_L_law_4 31 rfl) ?_
  obtain ⟨h0, h⟩ := h
  refine G_sld (dk_at dk_L_law_4 32 rfl) h0 ?_
  refine G_aload_n 3 (dk_at dk_L_law_4 33 rfl) rfl ?_
  refine G_callSX (As := [.ref v1, .int (xs X (v4 + 1).toNatClampNeg), .int (xs X (v4 + 2).toNatClampNeg), .ref v3]) (rest := []) lk_L_132 (dk_at dk_L_law_4 34 rfl) rfl rfl (Nat.le_of_ble_eq_true rfl) (h.mono fun o4 A1 b2 c3 h => atfI h fun i5 h => ?_)
  refine G_istore (lv' := [(5, .int i5), (0, .ref (xb X)), (1, .ref v1), (2, .ref v2), (3, .ref v3), (4, .int v4)]) (dk_at dk_L_law_4 35 rfl) (by decide) rfl ?_
  refine G_aload_n 3 (dk_at dk_L_law_4 36 rfl) rfl ?_
  refine G_aload_n 1 (dk_at dk_L_law_4 37 rfl) rfl ?_
  refine G_iload 5 (dk_at dk_L_law_4 38 rfl) rfl ?_
  refine G_iconst (v := 1) (dk_at dk_L_law_4 39 rfl) (by decide) ?_
  refine G_iadd (dk_at dk_L_law_4 40 rfl) ?_
  obtain ⟨h0, h⟩ := h
  refine G_sld (dk_at dk_L_law_4 41 rfl) h0 ?_
  refine G_aload_n 1 (dk_at dk_L_law_4 42 rfl) rfl ?_
  refine G_iload 5 (dk_at dk_L_law_4 43 rfl) rfl ?_
  refine G_iconst (v := 2) (dk_at dk_L_law_4 44 rfl) (by decide) ?_
  refine G_iadd (dk_at dk_L_law_4 45 rfl) ?_
  obtain ⟨h0, h⟩ := h
  refine G_sld (dk_at dk_L_law_4 46 rfl) h0 ?_
  obtain ⟨⟨_, ho⟩, h⟩ := h
  refine G_callV (As := [.int (xs X (v4 + 1).toNatClampNeg), .int (xs X (v4 + 2).toNatClampNeg)]) (rest := []) lk_L_134 rfl (dk_at dk_L_law_4 47 rfl) rfl rfl (Nat.le_of_ble_eq_true rfl) ho (h.mono fun o9 A6 b7 c8 h => aftI h fun i10 h => ?_)
  refine G_istore (lv' := [(6, .int i10), (5, .int i5), (0, .ref (xb X)), (1, .ref v1), (2, .ref v2), (3, .ref v3), (4, .int v4)]) (dk_at dk_L_law_4 48 rfl) (by decide) rfl ?_
  refine G_aload_n 4 (dk_at dk_L_law_4 49 rfl) rfl ?_
  obtain ⟨⟨_, ho⟩, h⟩ := h
  refine G_callV (As := []) (rest := []) lk_L_114 rfl (dk_at dk_L_law_5 0 rfl) rfl rfl (Nat.le_of_ble_eq_true rfl) ho (h.mono fun o14 A11 b12 c13 h => aftI h fun i15 h => ?_)
  refine G_iload 1 (dk_at dk_L_law_5 1 rfl) rfl ?_
  refine G_icmp_eq (tgt := 533) (dk_at dk_L_law_5 2 rfl) (by decide) (fun c => ?_) (fun c => ?_)
  · replace h := h.1 c
    refine G_iload 1 (dk_at dk_L_law_5 5 rfl) rfl ?_
    refine G_if_ne (tgt := 550) (dk_at dk_L_law_5 6 rfl) (by decide) (fun c => ?_) (fun c => ?_)
    · replace h := h.1 c
      refine G_goto (tgt := 2023) (dk_at dk_L_law_5 16 rfl) (by decide) ?_
      refine G_sub [2, 3, 4, 5, 6] rfl ?_
      exact h
    · replace h := h.2 c
      refine G_aload_n 5 (dk_at dk_L_law_5 7 rfl) rfl ?_
      refine G_iconst (v := 0) (dk_at dk_L_law_5 8 rfl) (by decide) ?_
      refine K_aL (dk_at dk_L_law_5 9 rfl) h (fun i16 h => ?_)
      refine G_iload 0 (dk_at dk_L_law_5 10 rfl) rfl ?_
      refine G_i2l (dk_at dk_L_law_5 11 rfl) rfl ?_
      refine G_lcmp (dk_at dk_L_law_5 12 rfl) ?_
      refine G_if_eq (tgt := 550) (dk_at dk_L_law_5 13 rfl) (by decide) (fun c => ?_) (fun c => ?_)
      · replace h := h.1 c
        refine G_goto (tgt := 2023) (dk_at dk_L_law_5 16 rfl) (by decide) ?_
        refine G_sub [2, 3, 4, 5, 6] rfl ?_
        exact h
      · replace h := h.2 c
        refine G_iconst (v := 0) (dk_at dk_L_law_5 14 rfl) (by decide) ?_
        exact G_iret (ty := .boolean) rfl rfl (dk_at dk_L_law_5 15 rfl) h
  · replace h := h.2 c
    refine G_iconst (v := 0) (dk_at dk_L_law_5 3 rfl) (by decide) ?_
    exact G_iret (ty := .boolean) rfl rfl (dk_at dk_L_law_5 4 rfl) h
theorem k_L_law_553 {l : Launch} {X : XT} {d : Nat} {Q : Ot → AH → Prop} {A : AH} {bc bs : Nat} {v1 : Nat} {v2 : Nat} {v3 : Nat} {v4 : Int32} (h : vp_in (v4 + 1) (xL X) ∧ Cal l X d bc bs M_L_got [.ref v1, .int (xs X (v4 + 1).toNatClampNeg), .ref v3] A fun o4 A1 b2 c3 => zI o4 fun i5 => vp_in (v4 + 1) (xL X) ∧ isO A1 v2 7 ∧ Cal l X d b2 c3 M_X6_got [.ref v2, .int (xs X (v4 + 1).toNatClampNeg)] A1 fun o9 A6 b7 c8 => rI o9 (fun E => Q (.inr E) A6) fun i10 => isO A6 v2 7 ∧ Cal l X d b7 c8 M_X6_thrown [.ref v2] A6 fun o14 A11 b12 c13 => rI o14 (fun E => Q (.inr E) A11) fun i15 => (i15 = i5 → (¬ i5 = 0 → G l X M_L_law d Q 2023 [(0, .ref (xb X)), (1, .ref v1), (2, .ref v2), (3, .ref v3), (4, .int v4)] [] A11 b12 c13) ∧ (i5 = 0 → aL X A11 v3 0 fun i16 => ((lg_cmp i16 (Int32.toInt64 i10)) = 0 → G l X M_L_law d Q 2023 [(0, .ref (xb X)), (1, .ref v1), (2, .ref v2), (3, .ref v3), (4, .int v4)] [] A11 b12 c13) ∧ (¬ (lg_cmp i16 (Int32.toInt64 i10)) = 0 → Q (Ri 0) A11))) ∧ (¬ i15 = i5 → Q (Ri 0) A11)) : G l X M_L_law d Q 553 [(0, .ref (xb X)), (1, .ref v1), (2, .ref v2), (3, .ref v3), (4, .int v4)] [] A bc bs := by
  refine G_aload_n 1 (dk_at dk_L_law_5 17 rfl) rfl ?_
  refine G_aload_n 0 (dk_at dk_L_law_5 18 rfl) rfl ?_
  refine G_iload 4 (dk_at dk_L_law_5 19 rfl) rfl ?_
  refine G_iconst (v := 1) (dk_at dk_L_law_5 20 rfl) (by decide) ?_
  refine G_iadd (dk_at dk_L_law_5 21 rfl) ?_
  obtain ⟨h0, h⟩ := h
  refine G_sld (dk_at dk_L_law_5 22 rfl) h0 ?_
  refine G_aload_n 3 (dk_at dk_L_law_5 23 rfl) rfl ?_
  refine G_callSX (As := [.ref v1, .int (xs X (v4 + 1).toNatClampNeg), .ref v3]) (rest := []) lk_L_135 (dk_at dk_L_law_5 24 rfl) rfl rfl (Nat.le_of_ble_eq_true rfl) (h.mono fun o4 A1 b2 c3 h => atfI h fun i5 h => ?_)
  refine G_istore (lv' := [(5, .int i5), (0, .ref (xb X)), (1, .ref v1), (2, .ref v2), (3, .ref v3), (4, .int v4)]) (dk_at dk_L_law_5 25 rfl) (by decide) rfl ?_
  refine G_aload_n 3 (dk_at dk_L_law_5 26 rfl) rfl ?_
  refine G_aload_n 1 (dk_at dk_L_law_5 27 rfl) rfl ?_
  refine G_iload 5 (dk_at dk_L_law_5 28 rfl) rfl ?_
  refine G_iconst (v := 1) (dk_at dk_L_law_5 29 rfl) (by decide) ?_
  refine G_iadd (dk_at dk_L_law_5 30 rfl) ?_
  obtain ⟨h0, h⟩ := h
  refine G_sld (dk_at dk_L_law_5 31 rfl) h0 ?_
  obtain ⟨⟨_, ho⟩, h⟩ := h
  refine G_callV (As := [.int (xs X (v4 + 1).toNatClampNeg)]) (rest := []) lk_L_137 rfl (dk_at dk_L_law_5 32 rfl) rfl rfl (Nat.le_of_ble_eq_true rfl) ho (h.mono fun o9 A6 b7 c8 h => aftI h fun i10 h => ?_)
  refine G_istore (lv' := [(6, .int i10), (5, .int i5), (0, .ref (xb X)), (1, .ref v1), (2, .ref v2), (3, .ref v3), (4, .int v4)]) (dk_at dk_L_law_5 33 rfl) (by decide) rfl ?_
  refine G_aload_n 4 (dk_at dk_L_law_5 34 rfl) rfl ?_
  obtain ⟨⟨_, ho⟩, h⟩ := h
  refine G_callV (As := []) (rest := []) lk_L_114 rfl (dk_at dk_L_law_5 35 rfl) rfl rfl (Nat.le_of_ble_eq_true rfl) ho (h.mono fun o14 A11 b12 c13 h => aftI h fun i15 h => ?_)
  refine G_iload 1 (dk_at dk_L_law_5 36 rfl) rfl ?_
  refine G_icmp_eq (tgt := 589) (dk_at dk_L_law_5 37 rfl) (by decide) (fun c => ?_) (fun c => ?_)
  · replace h := h.1 c
    refine G_iload 1 (dk_at dk_L_law_5 40 rfl) rfl ?_
    refine G_if_ne (tgt := 606) (dk_at dk_L_law_5 41 rfl) (by decide) (fun c => ?_) (fun c => ?_)
    · replace h := h.1 c
      refine G_goto (tgt := 2023) (dk_at dk_L_law_6 1 rfl) (by decide) ?_
      refine G_sub [2, 3, 4, 5, 6] rfl ?_
      exact h
    · replace h := h.2 c
      refine G_aload_n 5 (dk_at dk_L_law_5 42 rfl) rfl ?_
      refine G_iconst (v := 0) (dk_at dk_L_law_5 43 rfl) (by decide) ?_
      refine K_aL (dk_at dk_L_law_5 44 rfl) h (fun i16 h => ?_)
      refine G_iload 0 (dk_at dk_L_law_5 45 rfl) rfl ?_
      refine G_i2l (dk_at dk_L_law_5 46 rfl) rfl ?_
      refine G_lcmp (dk_at dk_L_law_5 47 rfl) ?_
      refine G_if_eq (tgt := 606) (dk_at dk_L_law_5 48 rfl) (by decide) (fun c => ?_) (fun c => ?_)
      · replace h := h.1 c
        refine G_goto (tgt := 2023) (dk_at dk_L_law_6 1 rfl) (by decide) ?_
        refine G_sub [2, 3, 4, 5, 6] rfl ?_
        exact h
      · replace h := h.2 c
        refine G_iconst (v := 0) (dk_at dk_L_law_5 49 rfl) (by decide) ?_
        exact G_iret (ty := .boolean) rfl rfl (dk_at dk_L_law_6 0 rfl) h
  · replace h := h.2 c
    refine G_iconst (v := 0) (dk_at dk_L_law_5 38 rfl) (by decide) ?_
    exact G_iret (ty := .boolean) rfl rfl (dk_at dk_L_law_5 39 rfl) h
theorem k_L_law_609 {l : Launch} {X : XT} {d : Nat} {Q : Ot → AH → Prop} {A : AH} {bc bs : Nat} {v1 : Nat} {v2 : Nat} {v3 : Nat} {v4 : Int32} (h : vp_in (v4 + 1) (xL X) ∧ vp_in (v4 + 2) (xL X) ∧ Cal l X d bc bs M_L_piece [.ref v1, .int (xs X (v4 + 1).toNatClampNeg), .int (xs X (v4 + 2).toNatClampNeg), .ref v3] A fun o4 A1 b2 c3 => zI o4 fun i5 => vp_in (v4 + 1) (xL X) ∧ vp_in (v4 + 2) (xL X) ∧ isO A1 v2 7 ∧ Cal l X d b2 c3 M_X6_piece [.ref v2, .int (xs X (v4 + 1).toNatClampNeg), .int (xs X (v4 + 2).toNatClampNeg)] A1 fun o9 A6 b7 c8 => rI o9 (fun E => Q (.inr E) A6) fun i10 => isO A6 v2 7 ∧ Cal l X d b7 c8 M_X6_thrown [.ref v2] A6 fun o14 A11 b12 c13 => rI o14 (fun E => Q (.inr E) A11) fun i15 => (i15 = i5 → (¬ i5 = 0 → G l X M_L_law d Q 2023 [(0, .ref (xb X)), (1, .ref v1), (2, .ref v2), (3, .ref v3), (4, .int v4)] [] A11 b12 c13) ∧ (i5 = 0 → aL X A11 v3 0 fun i16 => ((lg_cmp i16 (Int32.toInt64 i10)) = 0 → G l X M_L_law d Q 2023 [(0, .ref (xb X)), (1, .ref v1), (2, .ref v2), (3, .ref v3), (4, .int v4)] [] A11 b12 c13) ∧ (¬ (lg_cmp i16 (Int32.toInt64 i10)) = 0 → Q (Ri 0) A11))) ∧ (¬ i15 = i5 → Q (Ri 0) A11)) : G l X M_L_law d Q 609 [(0, .ref (xb X)), (1, .ref v1), (2, .ref v2), (3, .ref v3), (4, .int v4)] [] A bc bs := by
  refine G_aload_n 1 (dk_at dk_L_law_6 2 rfl) rfl ?_
  refine G_aload_n 0 (dk_at dk_L_law_6 3 rfl) rfl ?_
  refine G_iload 4 (dk_at dk_L_law_6 4 rfl) rfl ?_
  refine G_iconst (v := 1) (dk_at dk_L_law_6 5 rfl) (by decide) ?_
  refine G_iadd (dk_at dk_L_law_6 6 rfl) ?_
  obtain ⟨h0, h⟩ := h
  refine G_sld (dk_at dk_L_law_6 7 rfl) h0 ?_
  refine G_aload_n 0 (dk_at dk_L_law_6 8 rfl) rfl ?_
  refine G_iload 4 (dk_at dk_L_law_6 9 rfl) rfl ?_
  refine G_iconst (v := 2) (dk_at dk_L_law_6 10 rfl) (by decide) ?_
  refine G_iadd (dk_at dk_L_law_6 11 rfl) ?_
  obtain ⟨h0, h⟩ := h
  refine G_sld (dk_at dk_L_law_6 12 rfl) h0 ?_
  refine G_aload_n 3 (dk_at dk_L_law_6 13 rfl) rfl ?_
  refine G_callSX (As := [.ref v1, .int (xs X (v4 + 1).toNatClampNeg), .int (xs X (v4 + 2).toNatClampNeg), .ref v3]) (rest := []) lk_L_138 (dk_at dk_L_law_6 14 rfl) rfl rfl (Nat.le_of_ble_eq_true rfl) (h.mono fun o4 A1 b2 c3 h => atfI h fun i5 h => ?_)
  refine G_istore (lv' := [(5, .int i5), (0, .ref (xb X)), (1, .ref v1), (2, .ref v2), (3, .ref v3), (4, .int v4)]) (dk_at dk_L_law_6 15 rfl) (by decide) rfl ?_
  refine G_aload_n 3 (dk_at dk_L_law_6 16 rfl) rfl ?_
  refine G_aload_n 1 (dk_at dk_L_law_6 17 rfl) rfl ?_
  refine G_iload 5 (dk_at dk_L_law_6 18 rfl) rfl ?_
  refine G_iconst (v := 1) (dk_at dk_L_law_6 19 rfl) (by decide) ?_
  refine G_iadd (dk_at dk_L_law_6 20 rfl) ?_
  obtain ⟨h0, h⟩ := h
  refine G_sld (dk_at dk_L_law_6 21 rfl) h0 ?_
  refine G_aload_n 1 (dk_at dk_L_law_6 22 rfl) rfl ?_
  refine G_iload 5 (dk_at dk_L_law_6 23 rfl) rfl ?_
  refine G_iconst (v := 2) (dk_at dk_L_law_6 24 rfl) (by decide) ?_
  refine G_iadd (dk_at dk_L_law_6 25 rfl) ?_
  obtain ⟨h0, h⟩ := h
  refine G_sld (dk_at dk_L_law_6 26 rfl) h0 ?_
  obtain ⟨⟨_, ho⟩, h⟩ := h
  refine G_callV (As := [.int (xs X (v4 + 1).toNatClampNeg), .int (xs X (v4 + 2).toNatClampNeg)]) (rest := []) lk_L_140 rfl (dk_at dk_L_law_6 27 rfl) rfl rfl (Nat.le_of_ble_eq_true rfl) ho (h.mono fun o9 A6 b7 c8 h => aftI h fun i10 h => ?_)
  refine G_istore (lv' := [(6, .int i10), (5, .int i5), (0, .ref (xb X)), (1, .ref v1), (2, .ref v2), (3, .ref v3), (4, .int v4)]) (dk_at dk_L_law_6 28 rfl) (by decide) rfl ?_
  refine G_aload_n 4 (dk_at dk_L_law_6 29 rfl) rfl ?_
  obtain ⟨⟨_, ho⟩, h⟩ := h
  refine G_callV (As := []) (rest := []) lk_L_114 rfl (dk_at dk_L_law_6 30 rfl) rfl rfl (Nat.le_of_ble_eq_true rfl) ho (h.mono fun o14 A11 b12 c13 h => aftI h fun i15 h => ?_)
  refine G_iload 1 (dk_at dk_L_law_6 31 rfl) rfl ?_
  refine G_icmp_eq (tgt := 657) (dk_at dk_L_law_6 32 rfl) (by decide) (fun c => ?_) (fun c => ?_)
  · replace h := h.1 c
    refine G_iload 1 (dk_at dk_L_law_6 35 rfl) rfl ?_
    refine G_if_ne (tgt := 674) (dk_at dk_L_law_6 36 rfl) (by decide) (fun c => ?_) (fun c => ?_)
    · replace h := h.1 c
      refine G_goto (tgt := 2023) (dk_at dk_L_law_6 46 rfl) (by decide) ?_
      refine G_sub [2, 3, 4, 5, 6] rfl ?_
      exact h
    · replace h := h.2 c
      refine G_aload_n 5 (dk_at dk_L_law_6 37 rfl) rfl ?_
      refine G_iconst (v := 0) (dk_at dk_L_law_6 38 rfl) (by decide) ?_
      refine K_aL (dk_at dk_L_law_6 39 rfl) h (fun i16 h => ?_)
      refine G_iload 0 (dk_at dk_L_law_6 40 rfl) rfl ?_
      refine G_i2l (dk_at dk_L_law_6 41 rfl) rfl ?_
      refine G_lcmp (dk_at dk_L_law_6 42 rfl) ?_
      refine G_if_eq (tgt := 674) (dk_at dk_L_law_6 43 rfl) (by decide) (fun c => ?_) (fun c => ?_)
      · replace h := h.1 c
        refine G_goto (tgt := 2023) (dk_at dk_L_law_6 46 rfl) (by decide) ?_
        refine G_sub [2, 3, 4, 5, 6] rfl ?_
        exact h
      · replace h := h.2 c
        refine G_iconst (v := 0) (dk_at dk_L_law_6 44 rfl) (by decide) ?_
        exact G_iret (ty := .boolean) rfl rfl (dk_at dk_L_law_6 45 rfl) h
  · replace h := h.2 c
    refine G_iconst (v := 0) (dk_at dk_L_law_6 33 rfl) (by decide) ?_
    exact G_iret (ty := .boolean) rfl rfl (dk_at dk_L_law_6 34 rfl) h
theorem k_L_law_677 {l : Launch} {X : XT} {d : Nat} {Q : Ot → AH → Prop} {A : AH} {bc bs : Nat} {v1 : Nat} {v2 : Nat} {v3 : Nat} {v4 : Int32} (h : vp_in (v4 + 1) (xL X) ∧ vp_in (v4 + 2) (xL X) ∧ Cal l X d bc bs M_L_part [.ref v1, .int (xs X (v4 + 1).toNatClampNeg), .int (xs X (v4 + 2).toNatClampNeg), .ref v3] A fun o4 A1 b2 c3 => zI o4 fun i5 => vp_in (v4 + 1) (xL X) ∧ vp_in (v4 + 2) (xL X) ∧ isO A1 v2 7 ∧ Cal l X d b2 c3 M_X6_part [.ref v2, .int (xs X (v4 + 1).toNatClampNeg), .int (xs X (v4 + 2).toNatClampNeg)] A1 fun o9 A6 b7 c8 => rI o9 (fun E => Q (.inr E) A6) fun i10 => isO A6 v2 7 ∧ Cal l X d b7 c8 M_X6_thrown [.ref v2] A6 fun o14 A11 b12 c13 => rI o14 (fun E => Q (.inr E) A11) fun i15 => (i15 = i5 → (¬ i5 = 0 → G l X M_L_law d Q 2023 [(0, .ref (xb X)), (1, .ref v1), (2, .ref v2), (3, .ref v3), (4, .int v4)] [] A11 b12 c13) ∧ (i5 = 0 → aL X A11 v3 0 fun i16 => ((lg_cmp i16 (Int32.toInt64 i10)) = 0 → G l X M_L_law d Q 2023 [(0, .ref (xb X)), (1, .ref v1), (2, .ref v2), (3, .ref v3), (4, .int v4)] [] A11 b12 c13) ∧ (¬ (lg_cmp i16 (Int32.toInt64 i10)) = 0 → Q (Ri 0) A11))) ∧ (¬ i15 = i5 → Q (Ri 0) A11)) : G l X M_L_law d Q 677 [(0, .ref (xb X)), (1, .ref v1), (2, .ref v2), (3, .ref v3), (4, .int v4)] [] A bc bs := by
  refine G_aload_n 1 (dk_at dk_L_law_6 47 rfl) rfl ?_
  refine G_aload_n 0 (dk_at dk_L_law_6 48 rfl) rfl ?_
  refine G_iload 4 (dk_at dk_L_law_6 49 rfl) rfl ?_
  refine G_iconst (v := 1) (dk_at dk_L_law_7 0 rfl) (by decide) ?_
  refine G_iadd (dk_at dk_L_law_7 1 rfl) ?_
  obtain ⟨h0, h⟩ := h
  refine G_sld (dk_at dk_L_law_7 2 rfl) h0 ?_
  refine G_aload_n 0 (dk_at dk_L_law_7 3 rfl) rfl ?_
  refine G_iload 4 (dk_at dk_L_law_7 4 rfl) rfl ?_
  refine G_iconst (v := 2) (dk_at dk_L_law_7 5 rfl) (by decide) ?_
  refine G_iadd (dk_at dk_L_law_7 6 rfl) ?_
  obtain ⟨h0, h⟩ := h
  refine G_sld (dk_at dk_L_law_7 7 rfl) h0 ?_
  refine G_aload_n 3 (dk_at dk_L_law_7 8 rfl) rfl ?_
  refine G_callSX (As := [.ref v1, .int (xs X (v4 + 1).toNatClampNeg), .int (xs X (v4 + 2).toNatClampNeg), .ref v3]) (rest := []) lk_L_141 (dk_at dk_L_law_7 9 rfl) rfl rfl (Nat.le_of_ble_eq_true rfl) (h.mono fun o4 A1 b2 c3 h => atfI h fun i5 h => ?_)
  refine G_istore (lv' := [(5, .int i5), (0, .ref (xb X)), (1, .ref v1), (2, .ref v2), (3, .ref v3), (4, .int v4)]) (dk_at dk_L_law_7 10 rfl) (by decide) rfl ?_
  refine G_aload_n 3 (dk_at dk_L_law_7 11 rfl) rfl ?_
  refine G_aload_n 1 (dk_at dk_L_law_7 12 rfl) rfl ?_
  refine G_iload 5 (dk_at dk_L_law_7 13 rfl) rfl ?_
  refine G_iconst (v := 1) (dk_at dk_L_law_7 14 rfl) (by decide) ?_
  refine G_iadd (dk_at dk_L_law_7 15 rfl) ?_
  obtain ⟨h0, h⟩ := h
  refine G_sld (dk_at dk_L_law_7 16 rfl) h0 ?_
  refine G_aload_n 1 (dk_at dk_L_law_7 17 rfl) rfl ?_
  refine G_iload 5 (dk_at dk_L_law_7 18 rfl) rfl ?_
  refine G_iconst (v := 2) (dk_at dk_L_law_7 19 rfl) (by decide) ?_
  refine G_iadd (dk_at dk_L_law_7 20 rfl) ?_
  obtain ⟨h0, h⟩ := h
  refine G_sld (dk_at dk_L_law_7 21 rfl) h0 ?_
  obtain ⟨⟨_, ho⟩, h⟩ := h
  refine G_callV (As := [.int (xs X (v4 + 1).toNatClampNeg), .int (xs X (v4 + 2).toNatClampNeg)]) (rest := []) lk_L_143 rfl (dk_at dk_L_law_7 22 rfl) rfl rfl (Nat.le_of_ble_eq_true rfl) ho (h.mono fun o9 A6 b7 c8 h => aftI h fun i10 h => ?_)
  refine G_istore (lv' := [(6, .int i10), (5, .int i5), (0, .ref (xb X)), (1, .ref v1), (2, .ref v2), (3, .ref v3), (4, .int v4)]) (dk_at dk_L_law_7 23 rfl) (by decide) rfl ?_
  refine G_aload_n 4 (dk_at dk_L_law_7 24 rfl) rfl ?_
  obtain ⟨⟨_, ho⟩, h⟩ := h
  refine G_callV (As := []) (rest := []) lk_L_114 rfl (dk_at dk_L_law_7 25 rfl) rfl rfl (Nat.le_of_ble_eq_true rfl) ho (h.mono fun o14 A11 b12 c13 h => aftI h fun i15 h => ?_)
  refine G_iload 1 (dk_at dk_L_law_7 26 rfl) rfl ?_
  refine G_icmp_eq (tgt := 725) (dk_at dk_L_law_7 27 rfl) (by decide) (fun c => ?_) (fun c => ?_)
  · replace h := h.1 c
    refine G_iload 1 (dk_at dk_L_law_7 30 rfl) rfl ?_
    refine G_if_ne (tgt := 742) (dk_at dk_L_law_7 31 rfl) (by decide) (fun c => ?_) (fun c => ?_)
    · replace h := h.1 c
      refine G_goto (tgt := 2023) (dk_at dk_L_law_7 41 rfl) (by decide) ?_
      refine G_sub [2, 3, 4, 5, 6] rfl ?_
      exact h
    · replace h := h.2 c
      refine G_aload_n 5 (dk_at dk_L_law_7 32 rfl) rfl ?_
      refine G_iconst (v := 0) (dk_at dk_L_law_7 33 rfl) (by decide) ?_
      refine K_aL (dk_at dk_L_law_7 34 rfl) h (fun i16 h => ?_)
      refine G_iload 0 (dk_at dk_L_law_7 35 rfl) rfl ?_
      refine G_i2l (dk_at dk_L_law_7 36 rfl) rfl ?_
      refine G_lcmp (dk_at dk_L_law_7 37 rfl) ?_
      refine G_if_eq (tgt := 742) (dk_at dk_L_law_7 38 rfl) (by decide) (fun c => ?_) (fun c => ?_)
      · replace h := h.1 c
        refine G_goto (tgt := 2023) (dk_at dk_L_law_7 41 rfl) (by decide) ?_
        refine G_sub [2, 3, 4, 5, 6] rfl ?_
        exact h
      · replace h := h.2 c
        refine G_iconst (v := 0) (dk_at dk_L_law_7 39 rfl) (by decide) ?_
        exact G_iret (ty := .boolean) rfl rfl (dk_at dk_L_law_7 40 rfl) h
  · replace h := h.2 c
    refine G_iconst (v := 0) (dk_at dk_L_law_7 28 rfl) (by decide) ?_
    exact G_iret (ty := .boolean) rfl rfl (dk_at dk_L_law_7 29 rfl) h
theorem k_L_law_745 {l : Launch} {X : XT} {d : Nat} {Q : Ot → AH → Prop} {A : AH} {bc bs : Nat} {v1 : Nat} {v2 : Nat} {v3 : Nat} {v4 : Int32} (h : vp_in (v4 + 1) (xL X) ∧ vp_in (v4 + 2) (xL X) ∧ vp_in (v4 + 3) (xL X) ∧ Cal l X d bc bs M_L_checksum [.ref v1, .int (xs X (v4 + 1).toNatClampNeg), .int (xs X (v4 + 2).toNatClampNeg), .int (xs X (v4 + 3).toNatClampNeg), .ref v3] A fun o4 A1 b2 c3 => zI o4 fun i5 => vp_in (v4 + 1) (xL X) ∧ vp_in (v4 + 2) (xL X) ∧ vp_in (v4 + 3) (xL X) ∧ isO A1 v2 7 ∧ Cal l X d b2 c3 M_X6_checksum [.ref v2, .int (xs X (v4 + 1).toNatClampNeg), .int (xs X (v4 + 2).toNatClampNeg), .int (xs X (v4 + 3).toNatClampNeg)] A1 fun o9 A6 b7 c8 => rI o9 (fun E => Q (.inr E) A6) fun i10 => isO A6 v2 7 ∧ Cal l X d b7 c8 M_X6_thrown [.ref v2] A6 fun o14 A11 b12 c13 => rI o14 (fun E => Q (.inr E) A11) fun i15 => (i15 = i5 → (¬ i5 = 0 → G l X M_L_law d Q 2023 [(0, .ref (xb X)), (1, .ref v1), (2, .ref v2), (3, .ref v3), (4, .int v4)] [] A11 b12 c13) ∧ (i5 = 0 → aL X A11 v3 0 fun i16 => ((lg_cmp i16 (Int32.toInt64 i10)) = 0 → G l X M_L_law d Q 2023 [(0, .ref (xb X)), (1, .ref v1), (2, .ref v2), (3, .ref v3), (4, .int v4)] [] A11 b12 c13) ∧ (¬ (lg_cmp i16 (Int32.toInt64 i10)) = 0 → Q (Ri 0) A11))) ∧ (¬ i15 = i5 → Q (Ri 0) A11)) : G l X M_L_law d Q 745 [(0, .ref (xb X)), (1, .ref v1), (2, .ref v2), (3, .ref v3), (4, .int v4)] [] A bc bs := by
  refine G_aload_n 1 (dk_at dk_L_law_7 42 rfl) rfl ?_
  refine G_aload_n 0 (dk_at dk_L_law_7 43 rfl) rfl ?_
  refine G_iload 4 (dk_at dk_L_law_7 44 rfl) rfl ?_
  refine G_iconst (v := 1) (dk_at dk_L_law_7 45 rfl) (by decide) ?_
  refine G_iadd (dk_at dk_L_law_7 46 rfl) ?_
  obtain ⟨h0, h⟩ := h
  refine G_sld (dk_at dk_L_law_7 47 rfl) h0 ?_
  refine G_aload_n 0 (dk_at dk_L_law_7 48 rfl) rfl ?_
  refine G_iload 4 (dk_at dk_L_law_7 49 rfl) rfl ?_
  refine G_iconst (v := 2) (dk_at dk_L_law_8 0 rfl) (by decide) ?_
  refine G_iadd (dk_at dk_L_law_8 1 rfl) ?_
  obtain ⟨h0, h⟩ := h
  refine G_sld (dk_at dk_L_law_8 2 rfl) h0 ?_
  refine G_aload_n 0 (dk_at dk_L_law_8 3 rfl) rfl ?_
  refine G_iload 4 (dk_at dk_L_law_8 4 rfl) rfl ?_
  refine G_iconst (v := 3) (dk_at dk_L_law_8 5 rfl) (by decide) ?_
  refine G_iadd (dk_at dk_L_law_8 6 rfl) ?_
  obtain ⟨h0, h⟩ := h
  refine G_sld (dk_at dk_L_law_8 7 rfl) h0 ?_
  refine G_aload_n 3 (dk_at dk_L_law_8 8 rfl) rfl ?_
  refine G_callSX (As := [.ref v1, .int (xs X (v4 + 1).toNatClampNeg), .int (xs X (v4 + 2).toNatClampNeg), .int (xs X (v4 + 3).toNatClampNeg), .ref v3]) (rest := []) lk_L_144 (dk_at dk_L_law_8 9 rfl) rfl rfl (Nat.le_of_ble_eq_true rfl) (h.mono fun o4 A1 b2 c3 h => atfI h fun i5 h => ?_)
  refine G_istore (lv' := [(5, .int i5), (0, .ref (xb X)), (1, .ref v1), (2, .ref v2), (3, .ref v3), (4, .int v4)]) (dk_at dk_L_law_8 10 rfl) (by decide) rfl ?_
  refine G_aload_n 3 (dk_at dk_L_law_8 11 rfl) rfl ?_
  refine G_aload_n 1 (dk_at dk_L_law_8 12 rfl) rfl ?_
  refine G_iload 5 (dk_at dk_L_law_8 13 rfl) rfl ?_
  refine G_iconst (v := 1) (dk_at dk_L_law_8 14 rfl) (by decide) ?_
  refine G_iadd (dk_at dk_L_law_8 15 rfl) ?_
  obtain ⟨h0, h⟩ := h
  refine G_sld (dk_at dk_L_law_8 16 rfl) h0 ?_
  refine G_aload_n 1 (dk_at dk_L_law_8 17 rfl) rfl ?_
  refine G_iload 5 (dk_at dk_L_law_8 18 rfl) rfl ?_
  refine G_iconst (v := 2) (dk_at dk_L_law_8 19 rfl) (by decide) ?_
  refine G_iadd (dk_at dk_L_law_8 20 rfl) ?_
  obtain ⟨h0, h⟩ := h
  refine G_sld (dk_at dk_L_law_8 21 rfl) h0 ?_
  refine G_aload_n 1 (dk_at dk_L_law_8 22 rfl) rfl ?_
  refine G_iload 5 (dk_at dk_L_law_8 23 rfl) rfl ?_
  refine G_iconst (v := 3) (dk_at dk_L_law_8 24 rfl) (by decide) ?_
  refine G_iadd (dk_at dk_L_law_8 25 rfl) ?_
  obtain ⟨h0, h⟩ := h
  refine G_sld (dk_at dk_L_law_8 26 rfl) h0 ?_
  obtain ⟨⟨_, ho⟩, h⟩ := h
  refine G_callV (As := [.int (xs X (v4 + 1).toNatClampNeg), .int (xs X (v4 + 2).toNatClampNeg), .int (xs X (v4 + 3).toNatClampNeg)]) (rest := []) lk_L_147 rfl (dk_at dk_L_law_8 27 rfl) rfl rfl (Nat.le_of_ble_eq_true rfl) ho (h.mono fun o9 A6 b7 c8 h => aftI h fun i10 h => ?_)
  refine G_istore (lv' := [(6, .int i10), (5, .int i5), (0, .ref (xb X)), (1, .ref v1), (2, .ref v2), (3, .ref v3), (4, .int v4)]) (dk_at dk_L_law_8 28 rfl) (by decide) rfl ?_
  refine G_aload_n 4 (dk_at dk_L_law_8 29 rfl) rfl ?_
  obtain ⟨⟨_, ho⟩, h⟩ := h
  refine G_callV (As := []) (rest := []) lk_L_114 rfl (dk_at dk_L_law_8 30 rfl) rfl rfl (Nat.le_of_ble_eq_true rfl) ho (h.mono fun o14 A11 b12 c13 h => aftI h fun i15 h => ?_)
  refine G_iload 1 (dk_at dk_L_law_8 31 rfl) rfl ?_
  refine G_icmp_eq (tgt := 805) (dk_at dk_L_law_8 32 rfl) (by decide) (fun c => ?_) (fun c => ?_)
  · replace h := h.1 c
    refine G_iload 1 (dk_at dk_L_law_8 35 rfl) rfl ?_
    refine G_if_ne (tgt := 822) (dk_at dk_L_law_8 36 rfl) (by decide) (fun c => ?_) (fun c => ?_)
    · replace h := h.1 c
      refine G_goto (tgt := 2023) (dk_at dk_L_law_8 46 rfl) (by decide) ?_
      refine G_sub [2, 3, 4, 5, 6] rfl ?_
      exact h
    · replace h := h.2 c
      refine G_aload_n 5 (dk_at dk_L_law_8 37 rfl) rfl ?_
      refine G_iconst (v := 0) (dk_at dk_L_law_8 38 rfl) (by decide) ?_
      refine K_aL (dk_at dk_L_law_8 39 rfl) h (fun i16 h => ?_)
      refine G_iload 0 (dk_at dk_L_law_8 40 rfl) rfl ?_
      refine G_i2l (dk_at dk_L_law_8 41 rfl) rfl ?_
      refine G_lcmp (dk_at dk_L_law_8 42 rfl) ?_
      refine G_if_eq (tgt := 822) (dk_at dk_L_law_8 43 rfl) (by decide) (fun c => ?_) (fun c => ?_)
      · replace h := h.1 c
        refine G_goto (tgt := 2023) (dk_at dk_L_law_8 46 rfl) (by decide) ?_
        refine G_sub [2, 3, 4, 5, 6] rfl ?_
        exact h
      · replace h := h.2 c
        refine G_iconst (v := 0) (dk_at dk_L_law_8 44 rfl) (by decide) ?_
        exact G_iret (ty := .boolean) rfl rfl (dk_at dk_L_law_8 45 rfl) h
  · replace h := h.2 c
    refine G_iconst (v := 0) (dk_at dk_L_law_8 33 rfl) (by decide) ?_
    exact G_iret (ty := .boolean) rfl rfl (dk_at dk_L_law_8 34 rfl) h
theorem k_L_law_825 {l : Launch} {X : XT} {d : Nat} {Q : Ot → AH → Prop} {A : AH} {bc bs : Nat} {v1 : Nat} {v2 : Nat} {v3 : Nat} {v4 : Int32} (h : vp_in (v4 + 1) (xL X) ∧ vp_in (v4 + 2) (xL X) ∧ ((xs X (v4 + 2).toNatClampNeg) = 0 → G l X M_L_law d Q 846 [(0, .ref (xb X)), (1, .ref v1), (2, .ref v2), (3, .ref v3), (4, .int v4)] [.int 0, .int (xs X (v4 + 1).toNatClampNeg), .ref v1] A bc bs) ∧ (¬ (xs X (v4 + 2).toNatClampNeg) = 0 → G l X M_L_law d Q 846 [(0, .ref (xb X)), (1, .ref v1), (2, .ref v2), (3, .ref v3), (4, .int v4)] [.int 1, .int (xs X (v4 + 1).toNatClampNeg), .ref v1] A bc bs)) : G l X M_L_law d Q 825 [(0, .ref (xb X)), (1, .ref v1), (2, .ref v2), (3, .ref v3), (4, .int v4)] [] A bc bs := by
  refine G_aload_n 1 (dk_at dk_L_law_8 47 rfl) rfl ?_
  refine G_aload_n 0 (dk_at dk_L_law_8 48 rfl) rfl ?_
  refine G_iload 4 (dk_at dk_L_law_8 49 rfl) rfl ?_
  refine G_iconst (v := 1) (dk_at dk_L_law_9 0 rfl) (by decide) ?_
  refine G_iadd (dk_at dk_L_law_9 1 rfl) ?_
  obtain ⟨h0, h⟩ := h
  refine G_sld (dk_at dk_L_law_9 2 rfl) h0 ?_
  refine G_aload_n 0 (dk_at dk_L_law_9 3 rfl) rfl ?_
  refine G_iload 4 (dk_at dk_L_law_9 4 rfl) rfl ?_
  refine G_iconst (v := 2) (dk_at dk_L_law_9 5 rfl) (by decide) ?_
  refine G_iadd (dk_at dk_L_law_9 6 rfl) ?_
  obtain ⟨h0, h⟩ := h
  refine G_sld (dk_at dk_L_law_9 7 rfl) h0 ?_
  refine G_if_eq (tgt := 845) (dk_at dk_L_law_9 8 rfl) (by decide) (fun c => ?_) (fun c => ?_)
  · replace h := h.1 c
    refine G_iconst (v := 0) (dk_at dk_L_law_9 11 rfl) (by decide) ?_
    exact h
  · replace h := h.2 c
    refine G_iconst (v := 1) (dk_at dk_L_law_9 9 rfl) (by decide) ?_
    refine G_goto (tgt := 846) (dk_at dk_L_law_9 10 rfl) (by decide) ?_
    exact h
theorem k_L_law_846 {l : Launch} {X : XT} {d : Nat} {Q : Ot → AH → Prop} {A : AH} {bc bs : Nat} {v1 : Nat} {v2 : Nat} {v3 : Nat} {v4 : Int32} {s0 : Int32} {s1 : Int32} {s2 : Nat} (h : Cal l X d bc bs M_L_connect [.ref s2, .int s1, .int s0, .ref v3] A fun o4 A1 b2 c3 => zI o4 fun i5 => vp_in (v4 + 1) (xL X) ∧ vp_in (v4 + 2) (xL X) ∧ ((xs X (v4 + 2).toNatClampNeg) = 0 → G l X M_L_law d Q 873 [(0, .ref (xb X)), (1, .ref v1), (2, .ref v2), (3, .ref v3), (4, .int v4), (5, .int i5)] [.int 0, .int (xs X (v4 + 1).toNatClampNeg), .ref v2] A1 b2 c3) ∧ (¬ (xs X (v4 + 2).toNatClampNeg) = 0 → G l X M_L_law d Q 873 [(0, .ref (xb X)), (1, .ref v1), (2, .ref v2), (3, .ref v3), (4, .int v4), (5, .int i5)] [.int 1, .int (xs X (v4 + 1).toNatClampNeg), .ref v2] A1 b2 c3)) : G l X M_L_law d Q 846 [(0, .ref (xb X)), (1, .ref v1), (2, .ref v2), (3, .ref v3), (4, .int v4)] [.int s0, .int s1, .ref s2] A bc bs := by
  refine G_aload_n 3 (dk_at dk_L_law_9 12 rfl) rfl ?_
  refine G_callSX (As := [.ref s2, .int s1, .int s0, .ref v3]) (rest := []) lk_L_148 (dk_at dk_L_law_9 13 rfl) rfl rfl (Nat.le_of_ble_eq_true rfl) (h.mono fun o4 A1 b2 c3 h => atfI h fun i5 h => ?_)
  refine G_istore (lv' := [(5, .int i5), (0, .ref (xb X)), (1, .ref v1), (2, .ref v2), (3, .ref v3), (4, .int v4)]) (dk_at dk_L_law_9 14 rfl) (by decide) rfl ?_
  refine G_aload_n 3 (dk_at dk_L_law_9 15 rfl) rfl ?_
  refine G_aload_n 1 (dk_at dk_L_law_9 16 rfl) rfl ?_
  refine G_iload 5 (dk_at dk_L_law_9 17 rfl) rfl ?_
  refine G_iconst (v := 1) (dk_at dk_L_law_9 18 rfl) (by decide) ?_
  refine G_iadd (dk_at dk_L_law_9 19 rfl) ?_
  obtain ⟨h0, h⟩ := h
  refine G_sld (dk_at dk_L_law_9 20 rfl) h0 ?_
  refine G_aload_n 1 (dk_at dk_L_law_9 21 rfl) rfl ?_
  refine G_iload 5 (dk_at dk_L_law_9 22 rfl) rfl ?_
  refine G_iconst (v := 2) (dk_at dk_L_law_9 23 rfl) (by decide) ?_
  refine G_iadd (dk_at dk_L_law_9 24 rfl) ?_
  obtain ⟨h0, h⟩ := h
  refine G_sld (dk_at dk_L_law_9 25 rfl) h0 ?_
  refine G_if_eq (tgt := 872) (dk_at dk_L_law_9 26 rfl) (by decide) (fun c => ?_) (fun c => ?_)
  · replace h := h.1 c
    refine G_iconst (v := 0) (dk_at dk_L_law_9 29 rfl) (by decide) ?_
    refine G_sub [1, 2, 3, 4, 5, 0] rfl ?_
    exact h
  · replace h := h.2 c
    refine G_iconst (v := 1) (dk_at dk_L_law_9 27 rfl) (by decide) ?_
    refine G_goto (tgt := 873) (dk_at dk_L_law_9 28 rfl) (by decide) ?_
    refine G_sub [1, 2, 3, 4, 5, 0] rfl ?_
    exact h
theorem k_L_law_873 {l : Launch} {X : XT} {d : Nat} {Q : Ot → AH → Prop} {A : AH} {bc bs : Nat} {v1 : Nat} {v2 : Nat} {v3 : Nat} {v4 : Int32} {v5 : Int32} {s0 : Int32} {s1 : Int32} {s2 : Nat} (h : isO A s2 7 ∧ Cal l X d bc bs M_X6_connect [.ref s2, .int s1, .int s0] A fun o4 A1 b2 c3 => rI o4 (fun E => Q (.inr E) A1) fun i5 => isO A1 v2 7 ∧ Cal l X d b2 c3 M_X6_thrown [.ref v2] A1 fun o9 A6 b7 c8 => rI o9 (fun E => Q (.inr E) A6) fun i10 => (i10 = v5 → (¬ v5 = 0 → G l X M_L_law d Q 2023 [(0, .ref (xb X)), (1, .ref v1), (2, .ref v2), (3, .ref v3), (4, .int v4)] [] A6 b7 c8) ∧ (v5 = 0 → aL X A6 v3 0 fun i11 => (i5 = 0 → G l X M_L_law d Q 907 [(0, .ref (xb X)), (1, .ref v1), (2, .ref v2), (3, .ref v3), (4, .int v4)] [.long 0, .long i11] A6 b7 c8) ∧ (¬ i5 = 0 → G l X M_L_law d Q 907 [(0, .ref (xb X)), (1, .ref v1), (2, .ref v2), (3, .ref v3), (4, .int v4)] [.long 1, .long i11] A6 b7 c8))) ∧ (¬ i10 = v5 → Q (Ri 0) A6)) : G l X M_L_law d Q 873 [(0, .ref (xb X)), (1, .ref v1), (2, .ref v2), (3, .ref v3), (4, .int v4), (5, .int v5)] [.int s0, .int s1, .ref s2] A bc bs := by
  obtain ⟨⟨_, ho⟩, h⟩ := h
  refine G_callV (As := [.int s1, .int s0]) (rest := []) lk_L_151 rfl (dk_at dk_L_law_9 30 rfl) rfl rfl (Nat.le_of_ble_eq_true rfl) ho (h.mono fun o4 A1 b2 c3 h => aftI h fun i5 h => ?_)
  refine G_istore (lv' := [(6, .int i5), (0, .ref (xb X)), (1, .ref v1), (2, .ref v2), (3, .ref v3), (4, .int v4), (5, .int v5)]) (dk_at dk_L_law_9 31 rfl) (by decide) rfl ?_
  refine G_aload_n 3 (dk_at dk_L_law_9 32 rfl) rfl ?_
  obtain ⟨⟨_, ho⟩, h⟩ := h
  refine G_callV (As := []) (rest := []) lk_L_114 rfl (dk_at dk_L_law_9 33 rfl) rfl rfl (Nat.le_of_ble_eq_true rfl) ho (h.mono fun o9 A6 b7 c8 h => aftI h fun i10 h => ?_)
  refine G_iload 6 (dk_at dk_L_law_9 34 rfl) rfl ?_
  refine G_icmp_eq (tgt := 889) (dk_at dk_L_law_9 35 rfl) (by decide) (fun c => ?_) (fun c => ?_)
  · replace h := h.1 c
    refine G_iload 6 (dk_at dk_L_law_9 38 rfl) rfl ?_
    refine G_if_ne (tgt := 913) (dk_at dk_L_law_9 39 rfl) (by decide) (fun c => ?_) (fun c => ?_)
    · replace h := h.1 c
      refine G_goto (tgt := 2023) (dk_at dk_L_law_10 2 rfl) (by decide) ?_
      refine G_sub [1, 2, 3, 4, 5] rfl ?_
      exact h
    · replace h := h.2 c
      refine G_aload_n 4 (dk_at dk_L_law_9 40 rfl) rfl ?_
      refine G_iconst (v := 0) (dk_at dk_L_law_9 41 rfl) (by decide) ?_
      refine K_aL (dk_at dk_L_law_9 42 rfl) h (fun i11 h => ?_)
      refine G_iload 0 (dk_at dk_L_law_9 43 rfl) rfl ?_
      refine G_if_eq (tgt := 906) (dk_at dk_L_law_9 44 rfl) (by decide) (fun c => ?_) (fun c => ?_)
      · replace h := h.1 c
        refine G_lconst (v := 0) (dk_at dk_L_law_9 47 rfl) (by decide) ?_
        refine G_sub [1, 2, 3, 4, 5] rfl ?_
        exact h
      · replace h := h.2 c
        refine G_lconst (v := 1) (dk_at dk_L_law_9 45 rfl) (by decide) ?_
        refine G_goto (tgt := 907) (dk_at dk_L_law_9 46 rfl) (by decide) ?_
        refine G_sub [1, 2, 3, 4, 5] rfl ?_
        exact h
  · replace h := h.2 c
    refine G_iconst (v := 0) (dk_at dk_L_law_9 36 rfl) (by decide) ?_
    exact G_iret (ty := .boolean) rfl rfl (dk_at dk_L_law_9 37 rfl) h
theorem k_L_law_907 {l : Launch} {X : XT} {d : Nat} {Q : Ot → AH → Prop} {A : AH} {bc bs : Nat} {v1 : Nat} {v2 : Nat} {v3 : Nat} {v4 : Int32} {s0 : Int64} {s1 : Int64} (h : ((lg_cmp s1 s0) = 0 → G l X M_L_law d Q 2023 [(0, .ref (xb X)), (1, .ref v1), (2, .ref v2), (3, .ref v3), (4, .int v4)] [] A bc bs) ∧ (¬ (lg_cmp s1 s0) = 0 → Q (Ri 0) A)) : G l X M_L_law d Q 907 [(0, .ref (xb X)), (1, .ref v1), (2, .ref v2), (3, .ref v3), (4, .int v4)] [.long s0, .long s1] A bc bs := by
  refine G_lcmp (dk_at dk_L_law_9 48 rfl) ?_
  refine G_if_eq (tgt := 913) (dk_at dk_L_law_9 49 rfl) (by decide) (fun c => ?_) (fun c => ?_)
  · replace h := h.1 c
    refine G_goto (tgt := 2023) (dk_at dk_L_law_10 2 rfl) (by decide) ?_
    exact h
  · replace h := h.2 c
    refine G_iconst (v := 0) (dk_at dk_L_law_10 0 rfl) (by decide) ?_
    exact G_iret (ty := .boolean) rfl rfl (dk_at dk_L_law_10 1 rfl) h
theorem k_L_law_916 {l : Launch} {X : XT} {d : Nat} {Q : Ot → AH → Prop} {A : AH} {bc bs : Nat} {v1 : Nat} {v2 : Nat} {v3 : Nat} {v4 : Int32} (h : vp_in (v4 + 1) (xL X) ∧ vp_in (v4 + 2) (xL X) ∧ Cal l X d bc bs M_L_fetch [.ref v1, .int (xs X (v4 + 1).toNatClampNeg), .int (xs X (v4 + 2).toNatClampNeg), .ref v3] A fun o4 A1 b2 c3 => zI o4 fun i5 => vp_in (v4 + 1) (xL X) ∧ vp_in (v4 + 2) (xL X) ∧ isO A1 v2 7 ∧ Cal l X d b2 c3 M_X6_fetch [.ref v2, .int (xs X (v4 + 1).toNatClampNeg), .int (xs X (v4 + 2).toNatClampNeg)] A1 fun o9 A6 b7 c8 => rI o9 (fun E => Q (.inr E) A6) fun i10 => isO A6 v2 7 ∧ Cal l X d b7 c8 M_X6_thrown [.ref v2] A6 fun o14 A11 b12 c13 => rI o14 (fun E => Q (.inr E) A11) fun i15 => (i15 = i5 → (¬ i5 = 0 → G l X M_L_law d Q 2023 [(0, .ref (xb X)), (1, .ref v1), (2, .ref v2), (3, .ref v3), (4, .int v4)] [] A11 b12 c13) ∧ (i5 = 0 → aL X A11 v3 0 fun i16 => ((lg_cmp i16 (Int32.toInt64 i10)) = 0 → G l X M_L_law d Q 2023 [(0, .ref (xb X)), (1, .ref v1), (2, .ref v2), (3, .ref v3), (4, .int v4)] [] A11 b12 c13) ∧ (¬ (lg_cmp i16 (Int32.toInt64 i10)) = 0 → Q (Ri 0) A11))) ∧ (¬ i15 = i5 → Q (Ri 0) A11)) : G l X M_L_law d Q 916 [(0, .ref (xb X)), (1, .ref v1), (2, .ref v2), (3, .ref v3), (4, .int v4)] [] A bc bs := by
  refine G_aload_n 1 (dk_at dk_L_law_10 3 rfl) rfl ?_
  refine G_aload_n 0 (dk_at dk_L_law_10 4 rfl) rfl ?_
  refine G_iload 4 (dk_at dk_L_law_10 5 rfl) rfl ?_
  refine G_iconst (v := 1) (dk_at dk_L_law_10 6 rfl) (by decide) ?_
  refine G_iadd (dk_at dk_L_law_10 7 rfl) ?_
  obtain ⟨h0, h⟩ := h
  refine G_sld (dk_at dk_L_law_10 8 rfl) h0 ?_
  refine G_aload_n 0 (dk_at dk_L_law_10 9 rfl) rfl ?_
  refine G_iload 4 (dk_at dk_L_law_10 10 rfl) rfl ?_
  refine G_iconst (v := 2) (dk_at dk_L_law_10 11 rfl) (by decide) ?_
  refine G_iadd (dk_at dk_L_law_10 12 rfl) ?_
  obtain ⟨h0, h⟩ := h
  refine G_sld (dk_at dk_L_law_10 13 rfl) h0 ?_
  refine G_aload_n 3 (dk_at dk_L_law_10 14 rfl) rfl ?_
  refine G_callSX (As := [.ref v1, .int (xs X (v4 + 1).toNatClampNeg), .int (xs X (v4 + 2).toNatClampNeg), .ref v3]) (rest := []) lk_L_152 (dk_at dk_L_law_10 15 rfl) rfl rfl (Nat.le_of_ble_eq_true rfl) (h.mono fun o4 A1 b2 c3 h => atfI h fun i5 h => ?_)
  refine G_istore (lv' := [(5, .int i5), (0, .ref (xb X)), (1, .ref v1), (2, .ref v2), (3, .ref v3), (4, .int v4)]) (dk_at dk_L_law_10 16 rfl) (by decide) rfl ?_
  refine G_aload_n 3 (dk_at dk_L_law_10 17 rfl) rfl ?_
  refine G_aload_n 1 (dk_at dk_L_law_10 18 rfl) rfl ?_
  refine G_iload 5 (dk_at dk_L_law_10 19 rfl) rfl ?_
  refine G_iconst (v := 1) (dk_at dk_L_law_10 20 rfl) (by decide) ?_
  refine G_iadd (dk_at dk_L_law_10 21 rfl) ?_
  obtain ⟨h0, h⟩ := h
  refine G_sld (dk_at dk_L_law_10 22 rfl) h0 ?_
  refine G_aload_n 1 (dk_at dk_L_law_10 23 rfl) rfl ?_
  refine G_iload 5 (dk_at dk_L_law_10 24 rfl) rfl ?_
  refine G_iconst (v := 2) (dk_at dk_L_law_10 25 rfl) (by decide) ?_
  refine G_iadd (dk_at dk_L_law_10 26 rfl) ?_
  obtain ⟨h0, h⟩ := h
  refine G_sld (dk_at dk_L_law_10 27 rfl) h0 ?_
  obtain ⟨⟨_, ho⟩, h⟩ := h
  refine G_callV (As := [.int (xs X (v4 + 1).toNatClampNeg), .int (xs X (v4 + 2).toNatClampNeg)]) (rest := []) lk_L_154 rfl (dk_at dk_L_law_10 28 rfl) rfl rfl (Nat.le_of_ble_eq_true rfl) ho (h.mono fun o9 A6 b7 c8 h => aftI h fun i10 h => ?_)
  refine G_istore (lv' := [(6, .int i10), (5, .int i5), (0, .ref (xb X)), (1, .ref v1), (2, .ref v2), (3, .ref v3), (4, .int v4)]) (dk_at dk_L_law_10 29 rfl) (by decide) rfl ?_
  refine G_aload_n 4 (dk_at dk_L_law_10 30 rfl) rfl ?_
  obtain ⟨⟨_, ho⟩, h⟩ := h
  refine G_callV (As := []) (rest := []) lk_L_114 rfl (dk_at dk_L_law_10 31 rfl) rfl rfl (Nat.le_of_ble_eq_true rfl) ho (h.mono fun o14 A11 b12 c13 h => aftI h fun i15 h => ?_)
  refine G_iload 1 (dk_at dk_L_law_10 32 rfl) rfl ?_
  refine G_icmp_eq (tgt := 964) (dk_at dk_L_law_10 33 rfl) (by decide) (fun c => ?_) (fun c => ?_)
  · replace h := h.1 c
    refine G_iload 1 (dk_at dk_L_law_10 36 rfl) rfl ?_
    refine G_if_ne (tgt := 981) (dk_at dk_L_law_10 37 rfl) (by decide) (fun c => ?_) (fun c => ?_)
    · replace h := h.1 c
      refine G_goto (tgt := 2023) (dk_at dk_L_law_10 47 rfl) (by decide) ?_
      refine G_sub [2, 3, 4, 5, 6] rfl ?_
      exact h
    · replace h := h.2 c
      refine G_aload_n 5 (dk_at dk_L_law_10 38 rfl) rfl ?_
      refine G_iconst (v := 0) (dk_at dk_L_law_10 39 rfl) (by decide) ?_
      refine K_aL (dk_at dk_L_law_10 40 rfl) h (fun i16 h => ?_)
      refine G_iload 0 (dk_at dk_L_law_10 41 rfl) rfl ?_
      refine G_i2l (dk_at dk_L_law_10 42 rfl) rfl ?_
      refine G_lcmp (dk_at dk_L_law_10 43 rfl) ?_
      refine G_if_eq (tgt := 981) (dk_at dk_L_law_10 44 rfl) (by decide) (fun c => ?_) (fun c => ?_)
      · replace h := h.1 c
        refine G_goto (tgt := 2023) (dk_at dk_L_law_10 47 rfl) (by decide) ?_
        refine G_sub [2, 3, 4, 5, 6] rfl ?_
        exact h
      · replace h := h.2 c
        refine G_iconst (v := 0) (dk_at dk_L_law_10 45 rfl) (by decide) ?_
        exact G_iret (ty := .boolean) rfl rfl (dk_at dk_L_law_10 46 rfl) h
  · replace h := h.2 c
    refine G_iconst (v := 0) (dk_at dk_L_law_10 34 rfl) (by decide) ?_
    exact G_iret (ty := .boolean) rfl rfl (dk_at dk_L_law_10 35 rfl) h
theorem k_L_law_984 {l : Launch} {X : XT} {d : Nat} {Q : Ot → AH → Prop} {A : AH} {bc bs : Nat} {v1 : Nat} {v2 : Nat} {v3 : Nat} {v4 : Int32} (h : vp_in (v4 + 1) (xL X) ∧ Cal l X d bc bs M_L_search [.ref v1, .int (xs X (v4 + 1).toNatClampNeg), .ref v3] A fun o4 A1 b2 c3 => zI o4 fun i5 => vp_in (v4 + 1) (xL X) ∧ isO A1 v2 7 ∧ Cal l X d b2 c3 M_X6_search [.ref v2, .int (xs X (v4 + 1).toNatClampNeg)] A1 fun o9 A6 b7 c8 => rI o9 (fun E => Q (.inr E) A6) fun i10 => isO A6 v2 7 ∧ Cal l X d b7 c8 M_X6_thrown [.ref v2] A6 fun o14 A11 b12 c13 => rI o14 (fun E => Q (.inr E) A11) fun i15 => (i15 = i5 → (¬ i5 = 0 → G l X M_L_law d Q 2023 [(0, .ref (xb X)), (1, .ref v1), (2, .ref v2), (3, .ref v3), (4, .int v4)] [] A11 b12 c13) ∧ (i5 = 0 → aL X A11 v3 0 fun i16 => ((lg_cmp i16 (Int32.toInt64 i10)) = 0 → G l X M_L_law d Q 2023 [(0, .ref (xb X)), (1, .ref v1), (2, .ref v2), (3, .ref v3), (4, .int v4)] [] A11 b12 c13) ∧ (¬ (lg_cmp i16 (Int32.toInt64 i10)) = 0 → Q (Ri 0) A11))) ∧ (¬ i15 = i5 → Q (Ri 0) A11)) : G l X M_L_law d Q 984 [(0, .ref (xb X)), (1, .ref v1), (2, .ref v2), (3, .ref v3), (4, .int v4)] [] A bc bs := by
  refine G_aload_n 1 (dk_at dk_L_law_10 48 rfl) rfl ?_
  refine G_aload_n 0 (dk_at dk_L_law_10 49 rfl) rfl ?_
  refine G_iload 4 (dk_at dk_L_law_11 0 rfl) rfl ?_
  refine G_iconst (v := 1) (dk_at dk_L_law_11 1 rfl) (by decide) ?_
  refine G_iadd (dk_at dk_L_law_11 2 rfl) ?_
  obtain ⟨h0, h⟩ := h
  refine G_sld (dk_at dk_L_law_11 3 rfl) h0 ?_
  refine G_aload_n 3 (dk_at dk_L_law_11 4 rfl) rfl ?_
  refine G_callSX (As := [.ref v1, .int (xs X (v4 + 1).toNatClampNeg), .ref v3]) (rest := []) lk_L_155 (dk_at dk_L_law_11 5 rfl) rfl rfl (Nat.le_of_ble_eq_true rfl) (h.mono fun o4 A1 b2 c3 h => atfI h fun i5 h => ?_)
  refine G_istore (lv' := [(5, .int i5), (0, .ref (xb X)), (1, .ref v1), (2, .ref v2), (3, .ref v3), (4, .int v4)]) (dk_at dk_L_law_11 6 rfl) (by decide) rfl ?_
  refine G_aload_n 3 (dk_at dk_L_law_11 7 rfl) rfl ?_
  refine G_aload_n 1 (dk_at dk_L_law_11 8 rfl) rfl ?_
  refine G_iload 5 (dk_at dk_L_law_11 9 rfl) rfl ?_
  refine G_iconst (v := 1) (dk_at dk_L_law_11 10 rfl) (by decide) ?_
  refine G_iadd (dk_at dk_L_law_11 11 rfl) ?_
  obtain ⟨h0, h⟩ := h
  refine G_sld (dk_at dk_L_law_11 12 rfl) h0 ?_
  obtain ⟨⟨_, ho⟩, h⟩ := h
  refine G_callV (As := [.int (xs X (v4 + 1).toNatClampNeg)]) (rest := []) lk_L_157 rfl (dk_at dk_L_law_11 13 rfl) rfl rfl (Nat.le_of_ble_eq_true rfl) ho (h.mono fun o9 A6 b7 c8 h => aftI h fun i10 h => ?_)
  refine G_istore (lv' := [(6, .int i10), (5, .int i5), (0, .ref (xb X)), (1, .ref v1), (2, .ref v2), (3, .ref v3), (4, .int v4)]) (dk_at dk_L_law_11 14 rfl) (by decide) rfl ?_
  refine G_aload_n 4 (dk_at dk_L_law_11 15 rfl) rfl ?_
  obtain ⟨⟨_, ho⟩, h⟩ := h
  refine G_callV (As := []) (rest := []) lk_L_114 rfl (dk_at dk_L_law_11 16 rfl) rfl rfl (Nat.le_of_ble_eq_true rfl) ho (h.mono fun o14 A11 b12 c13 h => aftI h fun i15 h => ?_)
  refine G_iload 1 (dk_at dk_L_law_11 17 rfl) rfl ?_
  refine G_icmp_eq (tgt := 1020) (dk_at dk_L_law_11 18 rfl) (by decide) (fun c => ?_) (fun c => ?_)
  · replace h := h.1 c
    refine G_iload 1 (dk_at dk_L_law_11 21 rfl) rfl ?_
    refine G_if_ne (tgt := 1037) (dk_at dk_L_law_11 22 rfl) (by decide) (fun c => ?_) (fun c => ?_)
    · replace h := h.1 c
      refine G_goto (tgt := 2023) (dk_at dk_L_law_11 32 rfl) (by decide) ?_
      refine G_sub [2, 3, 4, 5, 6] rfl ?_
      exact h
    · replace h := h.2 c
      refine G_aload_n 5 (dk_at dk_L_law_11 23 rfl) rfl ?_
      refine G_iconst (v := 0) (dk_at dk_L_law_11 24 rfl) (by decide) ?_
      refine K_aL (dk_at dk_L_law_11 25 rfl) h (fun i16 h => ?_)
      refine G_iload 0 (dk_at dk_L_law_11 26 rfl) rfl ?_
      refine G_i2l (dk_at dk_L_law_11 27 rfl) rfl ?_
      refine G_lcmp (dk_at dk_L_law_11 28 rfl) ?_
      refine G_if_eq (tgt := 1037) (dk_at dk_L_law_11 29 rfl) (by decide) (fun c => ?_) (fun c => ?_)
      · replace h := h.1 c
        refine G_goto (tgt := 2023) (dk_at dk_L_law_11 32 rfl) (by decide) ?_
        refine G_sub [2, 3, 4, 5, 6] rfl ?_
        exact h
      · replace h := h.2 c
        refine G_iconst (v := 0) (dk_at dk_L_law_11 30 rfl) (by decide) ?_
        exact G_iret (ty := .boolean) rfl rfl (dk_at dk_L_law_11 31 rfl) h
  · replace h := h.2 c
    refine G_iconst (v := 0) (dk_at dk_L_law_11 19 rfl) (by decide) ?_
    exact G_iret (ty := .boolean) rfl rfl (dk_at dk_L_law_11 20 rfl) h
theorem k_L_law_1040 {l : Launch} {X : XT} {d : Nat} {Q : Ot → AH → Prop} {A : AH} {bc bs : Nat} {v1 : Nat} {v2 : Nat} {v3 : Nat} {v4 : Int32} (h : vp_in (v4 + 1) (xL X) ∧ Cal l X d bc bs M_L_queriesFor [.ref v1, .int (xs X (v4 + 1).toNatClampNeg), .ref v3] A fun o4 A1 b2 c3 => zI o4 fun i5 => vp_in (v4 + 1) (xL X) ∧ isO A1 v2 7 ∧ Cal l X d b2 c3 M_X6_queriesFor [.ref v2, .int (xs X (v4 + 1).toNatClampNeg)] A1 fun o9 A6 b7 c8 => rI o9 (fun E => Q (.inr E) A6) fun i10 => isO A6 v2 7 ∧ Cal l X d b7 c8 M_X6_thrown [.ref v2] A6 fun o14 A11 b12 c13 => rI o14 (fun E => Q (.inr E) A11) fun i15 => (i15 = i5 → (¬ i5 = 0 → G l X M_L_law d Q 2023 [(0, .ref (xb X)), (1, .ref v1), (2, .ref v2), (3, .ref v3), (4, .int v4)] [] A11 b12 c13) ∧ (i5 = 0 → aL X A11 v3 0 fun i16 => ((lg_cmp i16 (Int32.toInt64 i10)) = 0 → G l X M_L_law d Q 2023 [(0, .ref (xb X)), (1, .ref v1), (2, .ref v2), (3, .ref v3), (4, .int v4)] [] A11 b12 c13) ∧ (¬ (lg_cmp i16 (Int32.toInt64 i10)) = 0 → Q (Ri 0) A11))) ∧ (¬ i15 = i5 → Q (Ri 0) A11)) : G l X M_L_law d Q 1040 [(0, .ref (xb X)), (1, .ref v1), (2, .ref v2), (3, .ref v3), (4, .int v4)] [] A bc bs := by
  refine G_aload_n 1 (dk_at dk_L_law_11 33 rfl) rfl ?_
  refine G_aload_n 0 (dk_at dk_L_law_11 34 rfl) rfl ?_
  refine G_iload 4 (dk_at dk_L_law_11 35 rfl) rfl ?_
  refine G_iconst (v := 1) (dk_at dk_L_law_11 36 rfl) (by decide) ?_
  refine G_iadd (dk_at dk_L_law_11 37 rfl) ?_
  obtain ⟨h0, h⟩ := h
  refine G_sld (dk_at dk_L_law_11 38 rfl) h0 ?_
  refine G_aload_n 3 (dk_at dk_L_law_11 39 rfl) rfl ?_
  refine G_callSX (As := [.ref v1, .int (xs X (v4 + 1).toNatClampNeg), .ref v3]) (rest := []) lk_L_158 (dk_at dk_L_law_11 40 rfl) rfl rfl (Nat.le_of_ble_eq_true rfl) (h.mono fun o4 A1 b2 c3 h => atfI h fun i5 h => ?_)
  refine G_istore (lv' := [(5, .int i5), (0, .ref (xb X)), (1, .ref v1), (2, .ref v2), (3, .ref v3), (4, .int v4)]) (dk_at dk_L_law_11 41 rfl) (by decide) rfl ?_
  refine G_aload_n 3 (dk_at dk_L_law_11 42 rfl) rfl ?_
  refine G_aload_n 1 (dk_at dk_L_law_11 43 rfl) rfl ?_
  refine G_iload 5 (dk_at dk_L_law_11 44 rfl) rfl ?_
  refine G_iconst (v := 1) (dk_at dk_L_law_11 45 rfl) (by decide) ?_
  refine G_iadd (dk_at dk_L_law_11 46 rfl) ?_
  obtain ⟨h0, h⟩ := h
  refine G_sld (dk_at dk_L_law_11 47 rfl) h0 ?_
  obtain ⟨⟨_, ho⟩, h⟩ := h
  refine G_callV (As := [.int (xs X (v4 + 1).toNatClampNeg)]) (rest := []) lk_L_160 rfl (dk_at dk_L_law_11 48 rfl) rfl rfl (Nat.le_of_ble_eq_true rfl) ho (h.mono fun o9 A6 b7 c8 h => aftI h fun i10 h => ?_)
  refine G_istore (lv' := [(6, .int i10), (5, .int i5), (0, .ref (xb X)), (1, .ref v1), (2, .ref v2), (3, .ref v3), (4, .int v4)]) (dk_at dk_L_law_11 49 rfl) (by decide) rfl ?_
  refine G_aload_n 4 (dk_at dk_L_law_12 0 rfl) rfl ?_
  obtain ⟨⟨_, ho⟩, h⟩ := h
  refine G_callV (As := []) (rest := []) lk_L_114 rfl (dk_at dk_L_law_12 1 rfl) rfl rfl (Nat.le_of_ble_eq_true rfl) ho (h.mono fun o14 A11 b12 c13 h => aftI h fun i15 h => ?_)
  refine G_iload 1 (dk_at dk_L_law_12 2 rfl) rfl ?_
  refine G_icmp_eq (tgt := 1076) (dk_at dk_L_law_12 3 rfl) (by decide) (fun c => ?_) (fun c => ?_)
  · replace h := h.1 c
    refine G_iload 1 (dk_at dk_L_law_12 6 rfl) rfl ?_
    refine G_if_ne (tgt := 1093) (dk_at dk_L_law_12 7 rfl) (by decide) (fun c => ?_) (fun c => ?_)
    · replace h := h.1 c
      refine G_goto (tgt := 2023) (dk_at dk_L_law_12 17 rfl) (by decide) ?_
      refine G_sub [2, 3, 4, 5, 6] rfl ?_
      exact h
    · replace h := h.2 c
      refine G_aload_n 5 (dk_at dk_L_law_12 8 rfl) rfl ?_
      refine G_iconst (v := 0) (dk_at dk_L_law_12 9 rfl) (by decide) ?_
      refine K_aL (dk_at dk_L_law_12 10 rfl) h (fun i16 h => ?_)
      refine G_iload 0 (dk_at dk_L_law_12 11 rfl) rfl ?_
      refine G_i2l (dk_at dk_L_law_12 12 rfl) rfl ?_
      refine G_lcmp (dk_at dk_L_law_12 13 rfl) ?_
      refine G_if_eq (tgt := 1093) (dk_at dk_L_law_12 14 rfl) (by decide) (fun c => ?_) (fun c => ?_)
      · replace h := h.1 c
        refine G_goto (tgt := 2023) (dk_at dk_L_law_12 17 rfl) (by decide) ?_
        refine G_sub [2, 3, 4, 5, 6] rfl ?_
        exact h
      · replace h := h.2 c
        refine G_iconst (v := 0) (dk_at dk_L_law_12 15 rfl) (by decide) ?_
        exact G_iret (ty := .boolean) rfl rfl (dk_at dk_L_law_12 16 rfl) h
  · replace h := h.2 c
    refine G_iconst (v := 0) (dk_at dk_L_law_12 4 rfl) (by decide) ?_
    exact G_iret (ty := .boolean) rfl rfl (dk_at dk_L_law_12 5 rfl) h
theorem k_L_law_1096 {l : Launch} {X : XT} {d : Nat} {Q : Ot → AH → Prop} {A : AH} {bc bs : Nat} {v1 : Nat} {v2 : Nat} {v3 : Nat} {v4 : Int32} (h : vp_in (v4 + 1) (xL X) ∧ Cal l X d bc bs M_L_drop [.ref v1, .int (xs X (v4 + 1).toNatClampNeg), .ref v3] A fun o4 A1 b2 c3 => zI o4 fun i5 => vp_in (v4 + 1) (xL X) ∧ isO A1 v2 7 ∧ Cal l X d b2 c3 M_X6_drop [.ref v2, .int (xs X (v4 + 1).toNatClampNeg)] A1 fun o9 A6 b7 c8 => rI o9 (fun E => Q (.inr E) A6) fun i10 => isO A6 v2 7 ∧ Cal l X d b7 c8 M_X6_thrown [.ref v2] A6 fun o14 A11 b12 c13 => rI o14 (fun E => Q (.inr E) A11) fun i15 => (i15 = i5 → (¬ i5 = 0 → G l X M_L_law d Q 2023 [(0, .ref (xb X)), (1, .ref v1), (2, .ref v2), (3, .ref v3), (4, .int v4)] [] A11 b12 c13) ∧ (i5 = 0 → aL X A11 v3 0 fun i16 => ((lg_cmp i16 (Int32.toInt64 i10)) = 0 → G l X M_L_law d Q 2023 [(0, .ref (xb X)), (1, .ref v1), (2, .ref v2), (3, .ref v3), (4, .int v4)] [] A11 b12 c13) ∧ (¬ (lg_cmp i16 (Int32.toInt64 i10)) = 0 → Q (Ri 0) A11))) ∧ (¬ i15 = i5 → Q (Ri 0) A11)) : G l X M_L_law d Q 1096 [(0, .ref (xb X)), (1, .ref v1), (2, .ref v2), (3, .ref v3), (4, .int v4)] [] A bc bs := by
  refine G_aload_n 1 (dk_at dk_L_law_12 18 rfl) rfl ?_
  refine G_aload_n 0 (dk_at dk_L_law_12 19 rfl) rfl ?_
  refine G_iload 4 (dk_at dk_L_law_12 20 rfl) rfl ?_
  refine G_iconst (v := 1) (dk_at dk_L_law_12 21 rfl) (by decide) ?_
  refine G_iadd (dk_at dk_L_law_12 22 rfl) ?_
  obtain ⟨h0, h⟩ := h
  refine G_sld (dk_at dk_L_law_12 23 rfl) h0 ?_
  refine G_aload_n 3 (dk_at dk_L_law_12 24 rfl) rfl ?_
  refine G_callSX (As := [.ref v1, .int (xs X (v4 + 1).toNatClampNeg), .ref v3]) (rest := []) lk_L_161 (dk_at dk_L_law_12 25 rfl) rfl rfl (Nat.le_of_ble_eq_true rfl) (h.mono fun o4 A1 b2 c3 h => atfI h fun i5 h => ?_)
  refine G_istore (lv' := [(5, .int i5), (0, .ref (xb X)), (1, .ref v1), (2, .ref v2), (3, .ref v3), (4, .int v4)]) (dk_at dk_L_law_12 26 rfl) (by decide) rfl ?_
  refine G_aload_n 3 (dk_at dk_L_law_12 27 rfl) rfl ?_
  refine G_aload_n 1 (dk_at dk_L_law_12 28 rfl) rfl ?_
  refine G_iload 5 (dk_at dk_L_law_12 29 rfl) rfl ?_
  refine G_iconst (v := 1) (dk_at dk_L_law_12 30 rfl) (by decide) ?_
  refine G_iadd (dk_at dk_L_law_12 31 rfl) ?_
  obtain ⟨h0, h⟩ := h
  refine G_sld (dk_at dk_L_law_12 32 rfl) h0 ?_
  obtain ⟨⟨_, ho⟩, h⟩ := h
  refine G_callV (As := [.int (xs X (v4 + 1).toNatClampNeg)]) (rest := []) lk_L_163 rfl (dk_at dk_L_law_12 33 rfl) rfl rfl (Nat.le_of_ble_eq_true rfl) ho (h.mono fun o9 A6 b7 c8 h => aftI h fun i10 h => ?_)
  refine G_istore (lv' := [(6, .int i10), (5, .int i5), (0, .ref (xb X)), (1, .ref v1), (2, .ref v2), (3, .ref v3), (4, .int v4)]) (dk_at dk_L_law_12 34 rfl) (by decide) rfl ?_
  refine G_aload_n 4 (dk_at dk_L_law_12 35 rfl) rfl ?_
  obtain ⟨⟨_, ho⟩, h⟩ := h
  refine G_callV (As := []) (rest := []) lk_L_114 rfl (dk_at dk_L_law_12 36 rfl) rfl rfl (Nat.le_of_ble_eq_true rfl) ho (h.mono fun o14 A11 b12 c13 h => aftI h fun i15 h => ?_)
  refine G_iload 1 (dk_at dk_L_law_12 37 rfl) rfl ?_
  refine G_icmp_eq (tgt := 1132) (dk_at dk_L_law_12 38 rfl) (by decide) (fun c => ?_) (fun c => ?_)
  · replace h := h.1 c
    refine G_iload 1 (dk_at dk_L_law_12 41 rfl) rfl ?_
    refine G_if_ne (tgt := 1149) (dk_at dk_L_law_12 42 rfl) (by decide) (fun c => ?_) (fun c => ?_)
    · replace h := h.1 c
      refine G_goto (tgt := 2023) (dk_at dk_L_law_13 2 rfl) (by decide) ?_
      refine G_sub [2, 3, 4, 5, 6] rfl ?_
      exact h
    · replace h := h.2 c
      refine G_aload_n 5 (dk_at dk_L_law_12 43 rfl) rfl ?_
      refine G_iconst (v := 0) (dk_at dk_L_law_12 44 rfl) (by decide) ?_
      refine K_aL (dk_at dk_L_law_12 45 rfl) h (fun i16 h => ?_)
      refine G_iload 0 (dk_at dk_L_law_12 46 rfl) rfl ?_
      refine G_i2l (dk_at dk_L_law_12 47 rfl) rfl ?_
      refine G_lcmp (dk_at dk_L_law_12 48 rfl) ?_
      refine G_if_eq (tgt := 1149) (dk_at dk_L_law_12 49 rfl) (by decide) (fun c => ?_) (fun c => ?_)
      · replace h := h.1 c
        refine G_goto (tgt := 2023) (dk_at dk_L_law_13 2 rfl) (by decide) ?_
        refine G_sub [2, 3, 4, 5, 6] rfl ?_
        exact h
      · replace h := h.2 c
        refine G_iconst (v := 0) (dk_at dk_L_law_13 0 rfl) (by decide) ?_
        exact G_iret (ty := .boolean) rfl rfl (dk_at dk_L_law_13 1 rfl) h
  · replace h := h.2 c
    refine G_iconst (v := 0) (dk_at dk_L_law_12 39 rfl) (by decide) ?_
    exact G_iret (ty := .boolean) rfl rfl (dk_at dk_L_law_12 40 rfl) h
theorem k_L_law_1152 {l : Launch} {X : XT} {d : Nat} {Q : Ot → AH → Prop} {A : AH} {bc bs : Nat} {v1 : Nat} {v2 : Nat} {v3 : Nat} {v4 : Int32} (h : vp_in (v4 + 1) (xL X) ∧ Cal l X d bc bs M_L_run [.ref v1, .int (xs X (v4 + 1).toNatClampNeg), .ref v3] A fun o4 A1 b2 c3 => zI o4 fun i5 => vp_in (v4 + 1) (xL X) ∧ isO A1 v2 7 ∧ Cal l X d b2 c3 M_X6_run [.ref v2, .int (xs X (v4 + 1).toNatClampNeg)] A1 fun o9 A6 b7 c8 => rI o9 (fun E => Q (.inr E) A6) fun i10 => isO A6 v2 7 ∧ Cal l X d b7 c8 M_X6_thrown [.ref v2] A6 fun o14 A11 b12 c13 => rI o14 (fun E => Q (.inr E) A11) fun i15 => (i15 = i5 → (¬ i5 = 0 → G l X M_L_law d Q 2023 [(0, .ref (xb X)), (1, .ref v1), (2, .ref v2), (3, .ref v3), (4, .int v4)] [] A11 b12 c13) ∧ (i5 = 0 → aL X A11 v3 0 fun i16 => ((lg_cmp i16 (Int32.toInt64 i10)) = 0 → G l X M_L_law d Q 2023 [(0, .ref (xb X)), (1, .ref v1), (2, .ref v2), (3, .ref v3), (4, .int v4)] [] A11 b12 c13) ∧ (¬ (lg_cmp i16 (Int32.toInt64 i10)) = 0 → Q (Ri 0) A11))) ∧ (¬ i15 = i5 → Q (Ri 0) A11)) : G l X M_L_law d Q 1152 [(0, .ref (xb X)), (1, .ref v1), (2, .ref v2), (3, .ref v3), (4, .int v4)] [] A bc bs := by
  refine G_aload_n 1 (dk_at dk_L_law_13 3 rfl) rfl ?_
  refine G_aload_n 0 (dk_at dk_L_law_13 4 rfl) rfl ?_
  refine G_iload 4 (dk_at dk_L_law_13 5 rfl) rfl ?_
  refine G_iconst (v := 1) (dk_at dk_L_law_13 6 rfl) (by decide) ?_
  refine G_iadd (dk_at dk_L_law_13 7 rfl) ?_
  obtain ⟨h0, h⟩ := h
  refine G_sld (dk_at dk_L_law_13 8 rfl) h0 ?_
  refine G_aload_n 3 (dk_at dk_L_law_13 9 rfl) rfl ?_
  refine G_callSX (As := [.ref v1, .int (xs X (v4 + 1).toNatClampNeg), .ref v3]) (rest := []) lk_L_164 (dk_at dk_L_law_13 10 rfl) rfl rfl (Nat.le_of_ble_eq_true rfl) (h.mono fun o4 A1 b2 c3 h => atfI h fun i5 h => ?_)
  refine G_istore (lv' := [(5, .int i5), (0, .ref (xb X)), (1, .ref v1), (2, .ref v2), (3, .ref v3), (4, .int v4)]) (dk_at dk_L_law_13 11 rfl) (by decide) rfl ?_
  refine G_aload_n 3 (dk_at dk_L_law_13 12 rfl) rfl ?_
  refine G_aload_n 1 (dk_at dk_L_law_13 13 rfl) rfl ?_
  refine G_iload 5 (dk_at dk_L_law_13 14 rfl) rfl ?_
  refine G_iconst (v := 1) (dk_at dk_L_law_13 15 rfl) (by decide) ?_
  refine G_iadd (dk_at dk_L_law_13 16 rfl) ?_
  obtain ⟨h0, h⟩ := h
  refine G_sld (dk_at dk_L_law_13 17 rfl) h0 ?_
  obtain ⟨⟨_, ho⟩, h⟩ := h
  refine G_callV (As := [.int (xs X (v4 + 1).toNatClampNeg)]) (rest := []) lk_L_166 rfl (dk_at dk_L_law_13 18 rfl) rfl rfl (Nat.le_of_ble_eq_true rfl) ho (h.mono fun o9 A6 b7 c8 h => aftI h fun i10 h => ?_)
  refine G_istore (lv' := [(6, .int i10), (5, .int i5), (0, .ref (xb X)), (1, .ref v1), (2, .ref v2), (3, .ref v3), (4, .int v4)]) (dk_at dk_L_law_13 19 rfl) (by decide) rfl ?_
  refine G_aload_n 4 (dk_at dk_L_law_13 20 rfl) rfl ?_
  obtain ⟨⟨_, ho⟩, h⟩ := h
  refine G_callV (As := []) (rest := []) lk_L_114 rfl (dk_at dk_L_law_13 21 rfl) rfl rfl (Nat.le_of_ble_eq_true rfl) ho (h.mono fun o14 A11 b12 c13 h => aftI h fun i15 h => ?_)
  refine G_iload 1 (dk_at dk_L_law_13 22 rfl) rfl ?_
  refine G_icmp_eq (tgt := 1188) (dk_at dk_L_law_13 23 rfl) (by decide) (fun c => ?_) (fun c => ?_)
  · replace h := h.1 c
    refine G_iload 1 (dk_at dk_L_law_13 26 rfl) rfl ?_
    refine G_if_ne (tgt := 1205) (dk_at dk_L_law_13 27 rfl) (by decide) (fun c => ?_) (fun c => ?_)
    · replace h := h.1 c
      refine G_goto (tgt := 2023) (dk_at dk_L_law_13 37 rfl) (by decide) ?_
      refine G_sub [2, 3, 4, 5, 6] rfl ?_
      exact h
    · replace h := h.2 c
      refine G_aload_n 5 (dk_at dk_L_law_13 28 rfl) rfl ?_
      refine G_iconst (v := 0) (dk_at dk_L_law_13 29 rfl) (by decide) ?_
      refine K_aL (dk_at dk_L_law_13 30 rfl) h (fun i16 h => ?_)
      refine G_iload 0 (dk_at dk_L_law_13 31 rfl) rfl ?_
      refine G_i2l (dk_at dk_L_law_13 32 rfl) rfl ?_
      refine G_lcmp (dk_at dk_L_law_13 33 rfl) ?_
      refine G_if_eq (tgt := 1205) (dk_at dk_L_law_13 34 rfl) (by decide) (fun c => ?_) (fun c => ?_)
      · replace h := h.1 c
        refine G_goto (tgt := 2023) (dk_at dk_L_law_13 37 rfl) (by decide) ?_
        refine G_sub [2, 3, 4, 5, 6] rfl ?_
        exact h
      · replace h := h.2 c
        refine G_iconst (v := 0) (dk_at dk_L_law_13 35 rfl) (by decide) ?_
        exact G_iret (ty := .boolean) rfl rfl (dk_at dk_L_law_13 36 rfl) h
  · replace h := h.2 c
    refine G_iconst (v := 0) (dk_at dk_L_law_13 24 rfl) (by decide) ?_
    exact G_iret (ty := .boolean) rfl rfl (dk_at dk_L_law_13 25 rfl) h
theorem k_L_law_1208 {l : Launch} {X : XT} {d : Nat} {Q : Ot → AH → Prop} {A : AH} {bc bs : Nat} {v1 : Nat} {v2 : Nat} {v3 : Nat} {v4 : Int32} (h : isO A v1 6 ∧ Cal l X d bc bs M_X5_ticksLeft [.ref v1] A fun o4 A1 b2 c3 => rI o4 (fun E => Q (.inr E) A1) fun i5 => isO A1 v2 7 ∧ Cal l X d b2 c3 M_X6_ticksLeft [.ref v2] A1 fun o9 A6 b7 c8 => rI o9 (fun E => Q (.inr E) A6) fun i10 => (i5 = i10 → G l X M_L_law d Q 2023 [(0, .ref (xb X)), (1, .ref v1), (2, .ref v2), (3, .ref v3), (4, .int v4)] [] A6 b7 c8) ∧ (¬ i5 = i10 → Q (Ri 0) A6)) : G l X M_L_law d Q 1208 [(0, .ref (xb X)), (1, .ref v1), (2, .ref v2), (3, .ref v3), (4, .int v4)] [] A bc bs := by
  refine G_aload_n 1 (dk_at dk_L_law_13 38 rfl) rfl ?_
  obtain ⟨⟨_, ho⟩, h⟩ := h
  refine G_callV (As := []) (rest := []) lk_L_167 rfl (dk_at dk_L_law_13 39 rfl) rfl rfl (Nat.le_of_ble_eq_true rfl) ho (h.mono fun o4 A1 b2 c3 h => aftI h fun i5 h => ?_)
  refine G_aload_n 2 (dk_at dk_L_law_13 40 rfl) rfl ?_
  obtain ⟨⟨_, ho⟩, h⟩ := h
  refine G_callV (As := []) (rest := [.int i5]) lk_L_170 rfl (dk_at dk_L_law_13 41 rfl) rfl rfl (Nat.le_of_ble_eq_true rfl) ho (h.mono fun o9 A6 b7 c8 h => aftI h fun i10 h => ?_)
  refine G_icmp_eq (tgt := 2023) (dk_at dk_L_law_13 42 rfl) (by decide) (fun c => ?_) (fun c => ?_)
  · replace h := h.1 c
    exact h
  · replace h := h.2 c
    refine G_iconst (v := 0) (dk_at dk_L_law_13 43 rfl) (by decide) ?_
    exact G_iret (ty := .boolean) rfl rfl (dk_at dk_L_law_13 44 rfl) h
theorem k_L_law_1221 {l : Launch} {X : XT} {d : Nat} {Q : Ot → AH → Prop} {A : AH} {bc bs : Nat} {v1 : Nat} {v2 : Nat} {v3 : Nat} {v4 : Int32} (h : vp_in (v4 + 1) (xL X) ∧ Cal l X d bc bs M_L_keep [.ref v1, .int (xs X (v4 + 1).toNatClampNeg), .ref v3] A fun o4 A1 b2 c3 => zI o4 fun i5 => vp_in (v4 + 1) (xL X) ∧ isO A1 v2 7 ∧ Cal l X d b2 c3 M_X6_keep [.ref v2, .int (xs X (v4 + 1).toNatClampNeg)] A1 fun o9 A6 b7 c8 => rI o9 (fun E => Q (.inr E) A6) fun i10 => isO A6 v2 7 ∧ Cal l X d b7 c8 M_X6_thrown [.ref v2] A6 fun o14 A11 b12 c13 => rI o14 (fun E => Q (.inr E) A11) fun i15 => (i15 = i5 → (¬ i5 = 0 → G l X M_L_law d Q 2023 [(0, .ref (xb X)), (1, .ref v1), (2, .ref v2), (3, .ref v3), (4, .int v4)] [] A11 b12 c13) ∧ (i5 = 0 → aL X A11 v3 0 fun i16 => ((lg_cmp i16 (Int32.toInt64 i10)) = 0 → G l X M_L_law d Q 2023 [(0, .ref (xb X)), (1, .ref v1), (2, .ref v2), (3, .ref v3), (4, .int v4)] [] A11 b12 c13) ∧ (¬ (lg_cmp i16 (Int32.toInt64 i10)) = 0 → Q (Ri 0) A11))) ∧ (¬ i15 = i5 → Q (Ri 0) A11)) : G l X M_L_law d Q 1221 [(0, .ref (xb X)), (1, .ref v1), (2, .ref v2), (3, .ref v3), (4, .int v4)] [] A bc bs := by
  refine G_aload_n 1 (dk_at dk_L_law_13 45 rfl) rfl ?_
  refine G_aload_n 0 (dk_at dk_L_law_13 46 rfl) rfl ?_
  refine G_iload 4 (dk_at dk_L_law_13 47 rfl) rfl ?_
  refine G_iconst (v := 1) (dk_at dk_L_law_13 48 rfl) (by decide) ?_
  refine G_iadd (dk_at dk_L_law_13 49 rfl) ?_
  obtain ⟨h0, h⟩ := h
  refine G_sld (dk_at dk_L_law_14 0 rfl) h0 ?_
  refine G_aload_n 3 (dk_at dk_L_law_14 1 rfl) rfl ?_
  refine G_callSX (As := [.ref v1, .int (xs X (v4 + 1).toNatClampNeg), .ref v3]) (rest := []) lk_L_171 (dk_at dk_L_law_14 2 rfl) rfl rfl (Nat.le_of_ble_eq_true rfl) (h.mono fun o4 A1 b2 c3 h => atfI h fun i5 h => ?_)
  refine G_istore (lv' := [(5, .int i5), (0, .ref (xb X)), (1, .ref v1), (2, .ref v2), (3, .ref v3), (4, .int v4)]) (dk_at dk_L_law_14 3 rfl) (by decide) rfl ?_
  refine G_aload_n 3 (dk_at dk_L_law_14 4 rfl) rfl ?_
  refine G_aload_n 1 (dk_at dk_L_law_14 5 rfl) rfl ?_
  refine G_iload 5 (dk_at dk_L_law_14 6 rfl) rfl ?_
  refine G_iconst (v := 1) (dk_at dk_L_law_14 7 rfl) (by decide) ?_
  refine G_iadd (dk_at dk_L_law_14 8 rfl) ?_
  obtain ⟨h0, h⟩ := h
  refine G_sld (dk_at dk_L_law_14 9 rfl) h0 ?_
  obtain ⟨⟨_, ho⟩, h⟩ := h
  refine G_callV (As := [.int (xs X (v4 + 1).toNatClampNeg)]) (rest := []) lk_L_173 rfl (dk_at dk_L_law_14 10 rfl) rfl rfl (Nat.le_of_ble_eq_true rfl) ho (h.mono fun o9 A6 b7 c8 h => aftI h fun i10 h => ?_)
  refine G_istore (lv' := [(6, .int i10), (5, .int i5), (0, .ref (xb X)), (1, .ref v1), (2, .ref v2), (3, .ref v3), (4, .int v4)]) (dk_at dk_L_law_14 11 rfl) (by decide) rfl ?_
  refine G_aload_n 4 (dk_at dk_L_law_14 12 rfl) rfl ?_
  obtain ⟨⟨_, ho⟩, h⟩ := h
  refine G_callV (As := []) (rest := []) lk_L_114 rfl (dk_at dk_L_law_14 13 rfl) rfl rfl (Nat.le_of_ble_eq_true rfl) ho (h.mono fun o14 A11 b12 c13 h => aftI h fun i15 h => ?_)
  refine G_iload 1 (dk_at dk_L_law_14 14 rfl) rfl ?_
  refine G_icmp_eq (tgt := 1257) (dk_at dk_L_law_14 15 rfl) (by decide) (fun c => ?_) (fun c => ?_)
  · replace h := h.1 c
    refine G_iload 1 (dk_at dk_L_law_14 18 rfl) rfl ?_
    refine G_if_ne (tgt := 1274) (dk_at dk_L_law_14 19 rfl) (by decide) (fun c => ?_) (fun c => ?_)
    · replace h := h.1 c
      refine G_goto (tgt := 2023) (dk_at dk_L_law_14 29 rfl) (by decide) ?_
      refine G_sub [2, 3, 4, 5, 6] rfl ?_
      exact h
    · replace h := h.2 c
      refine G_aload_n 5 (dk_at dk_L_law_14 20 rfl) rfl ?_
      refine G_iconst (v := 0) (dk_at dk_L_law_14 21 rfl) (by decide) ?_
      refine K_aL (dk_at dk_L_law_14 22 rfl) h (fun i16 h => ?_)
      refine G_iload 0 (dk_at dk_L_law_14 23 rfl) rfl ?_
      refine G_i2l (dk_at dk_L_law_14 24 rfl) rfl ?_
      refine G_lcmp (dk_at dk_L_law_14 25 rfl) ?_
      refine G_if_eq (tgt := 1274) (dk_at dk_L_law_14 26 rfl) (by decide) (fun c => ?_) (fun c => ?_)
      · replace h := h.1 c
        refine G_goto (tgt := 2023) (dk_at dk_L_law_14 29 rfl) (by decide) ?_
        refine G_sub [2, 3, 4, 5, 6] rfl ?_
        exact h
      · replace h := h.2 c
        refine G_iconst (v := 0) (dk_at dk_L_law_14 27 rfl) (by decide) ?_
        exact G_iret (ty := .boolean) rfl rfl (dk_at dk_L_law_14 28 rfl) h
  · replace h := h.2 c
    refine G_iconst (v := 0) (dk_at dk_L_law_14 16 rfl) (by decide) ?_
    exact G_iret (ty := .boolean) rfl rfl (dk_at dk_L_law_14 17 rfl) h
theorem k_L_law_1277 {l : Launch} {X : XT} {d : Nat} {Q : Ot → AH → Prop} {A : AH} {bc bs : Nat} {v1 : Nat} {v2 : Nat} {v3 : Nat} {v4 : Int32} (h : vp_in (v4 + 1) (xL X) ∧ Cal l X d bc bs M_L_resume [.ref v1, .int (xs X (v4 + 1).toNatClampNeg), .ref v3] A fun o4 A1 b2 c3 => zI o4 fun i5 => vp_in (v4 + 1) (xL X) ∧ isO A1 v2 7 ∧ Cal l X d b2 c3 M_X6_resume [.ref v2, .int (xs X (v4 + 1).toNatClampNeg)] A1 fun o9 A6 b7 c8 => rI o9 (fun E => Q (.inr E) A6) fun i10 => isO A6 v2 7 ∧ Cal l X d b7 c8 M_X6_thrown [.ref v2] A6 fun o14 A11 b12 c13 => rI o14 (fun E => Q (.inr E) A11) fun i15 => (i15 = i5 → (¬ i5 = 0 → G l X M_L_law d Q 2023 [(0, .ref (xb X)), (1, .ref v1), (2, .ref v2), (3, .ref v3), (4, .int v4)] [] A11 b12 c13) ∧ (i5 = 0 → aL X A11 v3 0 fun i16 => ((lg_cmp i16 (Int32.toInt64 i10)) = 0 → G l X M_L_law d Q 2023 [(0, .ref (xb X)), (1, .ref v1), (2, .ref v2), (3, .ref v3), (4, .int v4)] [] A11 b12 c13) ∧ (¬ (lg_cmp i16 (Int32.toInt64 i10)) = 0 → Q (Ri 0) A11))) ∧ (¬ i15 = i5 → Q (Ri 0) A11)) : G l X M_L_law d Q 1277 [(0, .ref (xb X)), (1, .ref v1), (2, .ref v2), (3, .ref v3), (4, .int v4)] [] A bc bs := by
  refine G_aload_n 1 (dk_at dk_L_law_14 30 rfl) rfl ?_
  refine G_aload_n 0 (dk_at dk_L_law_14 31 rfl) rfl ?_
  refine G_iload 4 (dk_at dk_L_law_14 32 rfl) rfl ?_
  refine G_iconst (v := 1) (dk_at dk_L_law_14 33 rfl) (by decide) ?_
  refine G_iadd (dk_at dk_L_law_14 34 rfl) ?_
  obtain ⟨h0, h⟩ := h
  refine G_sld (dk_at dk_L_law_14 35 rfl) h0 ?_
  refine G_aload_n 3 (dk_at dk_L_law_14 36 rfl) rfl ?_
  refine G_callSX (As := [.ref v1, .int (xs X (v4 + 1).toNatClampNeg), .ref v3]) (rest := []) lk_L_174 (dk_at dk_L_law_14 37 rfl) rfl rfl (Nat.le_of_ble_eq_true rfl) (h.mono fun o4 A1 b2 c3 h => atfI h fun i5 h => ?_)
  refine G_istore (lv' := [(5, .int i5), (0, .ref (xb X)), (1, .ref v1), (2, .ref v2), (3, .ref v3), (4, .int v4)]) (dk_at dk_L_law_14 38 rfl) (by decide) rfl ?_
  refine G_aload_n 3 (dk_at dk_L_law_14 39 rfl) rfl ?_
  refine G_aload_n 1 (dk_at dk_L_law_14 40 rfl) rfl ?_
  refine G_iload 5 (dk_at dk_L_law_14 41 rfl) rfl ?_
  refine G_iconst (v := 1) (dk_at dk_L_law_14 42 rfl) (by decide) ?_
  refine G_iadd (dk_at dk_L_law_14 43 rfl) ?_
  obtain ⟨h0, h⟩ := h
  refine G_sld (dk_at dk_L_law_14 44 rfl) h0 ?_
  obtain ⟨⟨_, ho⟩, h⟩ := h
  refine G_callV (As := [.int (xs X (v4 + 1).toNatClampNeg)]) (rest := []) lk_L_176 rfl (dk_at dk_L_law_14 45 rfl) rfl rfl (Nat.le_of_ble_eq_true rfl) ho (h.mono fun o9 A6 b7 c8 h => aftI h fun i10 h => ?_)
  refine G_istore (lv' := [(6, .int i10), (5, .int i5), (0, .ref (xb X)), (1, .ref v1), (2, .ref v2), (3, .ref v3), (4, .int v4)]) (dk_at dk_L_law_14 46 rfl) (by decide) rfl ?_
  refine G_aload_n 4 (dk_at dk_L_law_14 47 rfl) rfl ?_
  obtain ⟨⟨_, ho⟩, h⟩ := h
  refine G_callV (As := []) (rest := []) lk_L_114 rfl (dk_at dk_L_law_14 48 rfl) rfl rfl (Nat.le_of_ble_eq_true rfl) ho (h.mono fun o14 A11 b12 c13 h => aftI h fun i15 h => ?_)
  refine G_iload 1 (dk_at dk_L_law_14 49 rfl) rfl ?_
  refine G_icmp_eq (tgt := 1313) (dk_at dk_L_law_15 0 rfl) (by decide) (fun c => ?_) (fun c => ?_)
  · replace h := h.1 c
    refine G_iload 1 (dk_at dk_L_law_15 3 rfl) rfl ?_
    refine G_if_ne (tgt := 1330) (dk_at dk_L_law_15 4 rfl) (by decide) (fun c => ?_) (fun c => ?_)
    · replace h := h.1 c
      refine G_goto (tgt := 2023) (dk_at dk_L_law_15 14 rfl) (by decide) ?_
      refine G_sub [2, 3, 4, 5, 6] rfl ?_
      exact h
    · replace h := h.2 c
      refine G_aload_n 5 (dk_at dk_L_law_15 5 rfl) rfl ?_
      refine G_iconst (v := 0) (dk_at dk_L_law_15 6 rfl) (by decide) ?_
      refine K_aL (dk_at dk_L_law_15 7 rfl) h (fun i16 h => ?_)
      refine G_iload 0 (dk_at dk_L_law_15 8 rfl) rfl ?_
      refine G_i2l (dk_at dk_L_law_15 9 rfl) rfl ?_
      refine G_lcmp (dk_at dk_L_law_15 10 rfl) ?_
      refine G_if_eq (tgt := 1330) (dk_at dk_L_law_15 11 rfl) (by decide) (fun c => ?_) (fun c => ?_)
      · replace h := h.1 c
        refine G_goto (tgt := 2023) (dk_at dk_L_law_15 14 rfl) (by decide) ?_
        refine G_sub [2, 3, 4, 5, 6] rfl ?_
        exact h
      · replace h := h.2 c
        refine G_iconst (v := 0) (dk_at dk_L_law_15 12 rfl) (by decide) ?_
        exact G_iret (ty := .boolean) rfl rfl (dk_at dk_L_law_15 13 rfl) h
  · replace h := h.2 c
    refine G_iconst (v := 0) (dk_at dk_L_law_15 1 rfl) (by decide) ?_
    exact G_iret (ty := .boolean) rfl rfl (dk_at dk_L_law_15 2 rfl) h
theorem k_L_law_1333 {l : Launch} {X : XT} {d : Nat} {Q : Ot → AH → Prop} {A : AH} {bc bs : Nat} {v1 : Nat} {v2 : Nat} {v3 : Nat} {v4 : Int32} (h : vp_in (v4 + 1) (xL X) ∧ Cal l X d bc bs M_L_named [.ref v1, .int (xs X (v4 + 1).toNatClampNeg), .ref v3] A fun o4 A1 b2 c3 => zI o4 fun i5 => vp_in (v4 + 1) (xL X) ∧ isO A1 v2 7 ∧ Cal l X d b2 c3 M_X6_named [.ref v2, .int (xs X (v4 + 1).toNatClampNeg)] A1 fun o9 A6 b7 c8 => rI o9 (fun E => Q (.inr E) A6) fun i10 => isO A6 v2 7 ∧ Cal l X d b7 c8 M_X6_thrown [.ref v2] A6 fun o14 A11 b12 c13 => rI o14 (fun E => Q (.inr E) A11) fun i15 => (i15 = i5 → (¬ i5 = 0 → G l X M_L_law d Q 2023 [(0, .ref (xb X)), (1, .ref v1), (2, .ref v2), (3, .ref v3), (4, .int v4)] [] A11 b12 c13) ∧ (i5 = 0 → aL X A11 v3 0 fun i16 => ((lg_cmp i16 (Int32.toInt64 i10)) = 0 → G l X M_L_law d Q 2023 [(0, .ref (xb X)), (1, .ref v1), (2, .ref v2), (3, .ref v3), (4, .int v4)] [] A11 b12 c13) ∧ (¬ (lg_cmp i16 (Int32.toInt64 i10)) = 0 → Q (Ri 0) A11))) ∧ (¬ i15 = i5 → Q (Ri 0) A11)) : G l X M_L_law d Q 1333 [(0, .ref (xb X)), (1, .ref v1), (2, .ref v2), (3, .ref v3), (4, .int v4)] [] A bc bs := by
  refine G_aload_n 1 (dk_at dk_L_law_15 15 rfl) rfl ?_
  refine G_aload_n 0 (dk_at dk_L_law_15 16 rfl) rfl ?_
  refine G_iload 4 (dk_at dk_L_law_15 17 rfl) rfl ?_
  refine G_iconst (v := 1) (dk_at dk_L_law_15 18 rfl) (by decide) ?_
  refine G_iadd (dk_at dk_L_law_15 19 rfl) ?_
  obtain ⟨h0, h⟩ := h
  refine G_sld (dk_at dk_L_law_15 20 rfl) h0 ?_
  refine G_aload_n 3 (dk_at dk_L_law_15 21 rfl) rfl ?_
  refine G_callSX (As := [.ref v1, .int (xs X (v4 + 1).toNatClampNeg), .ref v3]) (rest := []) lk_L_177 (dk_at dk_L_law_15 22 rfl) rfl rfl (Nat.le_of_ble_eq_true rfl) (h.mono fun o4 A1 b2 c3 h => atfI h fun i5 h => ?_)
  refine G_istore (lv' := [(5, .int i5), (0, .ref (xb X)), (1, .ref v1), (2, .ref v2), (3, .ref v3), (4, .int v4)]) (dk_at dk_L_law_15 23 rfl) (by decide) rfl ?_
  refine G_aload_n 3 (dk_at dk_L_law_15 24 rfl) rfl ?_
  refine G_aload_n 1 (dk_at dk_L_law_15 25 rfl) rfl ?_
  refine G_iload 5 (dk_at dk_L_law_15 26 rfl) rfl ?_
  refine G_iconst (v := 1) (dk_at dk_L_law_15 27 rfl) (by decide) ?_
  refine G_iadd (dk_at dk_L_law_15 28 rfl) ?_
  obtain ⟨h0, h⟩ := h
  refine G_sld (dk_at dk_L_law_15 29 rfl) h0 ?_
  obtain ⟨⟨_, ho⟩, h⟩ := h
  refine G_callV (As := [.int (xs X (v4 + 1).toNatClampNeg)]) (rest := []) lk_L_179 rfl (dk_at dk_L_law_15 30 rfl) rfl rfl (Nat.le_of_ble_eq_true rfl) ho (h.mono fun o9 A6 b7 c8 h => aftI h fun i10 h => ?_)
  refine G_istore (lv' := [(6, .int i10), (5, .int i5), (0, .ref (xb X)), (1, .ref v1), (2, .ref v2), (3, .ref v3), (4, .int v4)]) (dk_at dk_L_law_15 31 rfl) (by decide) rfl ?_
  refine G_aload_n 4 (dk_at dk_L_law_15 32 rfl) rfl ?_
  obtain ⟨⟨_, ho⟩, h⟩ := h
  refine G_callV (As := []) (rest := []) lk_L_114 rfl (dk_at dk_L_law_15 33 rfl) rfl rfl (Nat.le_of_ble_eq_true rfl) ho (h.mono fun o14 A11 b12 c13 h => aftI h fun i15 h => ?_)
  refine G_iload 1 (dk_at dk_L_law_15 34 rfl) rfl ?_
  refine G_icmp_eq (tgt := 1369) (dk_at dk_L_law_15 35 rfl) (by decide) (fun c => ?_) (fun c => ?_)
  · replace h := h.1 c
    refine G_iload 1 (dk_at dk_L_law_15 38 rfl) rfl ?_
    refine G_if_ne (tgt := 1386) (dk_at dk_L_law_15 39 rfl) (by decide) (fun c => ?_) (fun c => ?_)
    · replace h := h.1 c
      refine G_goto (tgt := 2023) (dk_at dk_L_law_15 49 rfl) (by decide) ?_
      refine G_sub [2, 3, 4, 5, 6] rfl ?_
      exact h
    · replace h := h.2 c
      refine G_aload_n 5 (dk_at dk_L_law_15 40 rfl) rfl ?_
      refine G_iconst (v := 0) (dk_at dk_L_law_15 41 rfl) (by decide) ?_
      refine K_aL (dk_at dk_L_law_15 42 rfl) h (fun i16 h => ?_)
      refine G_iload 0 (dk_at dk_L_law_15 43 rfl) rfl ?_
      refine G_i2l (dk_at dk_L_law_15 44 rfl) rfl ?_
      refine G_lcmp (dk_at dk_L_law_15 45 rfl) ?_
      refine G_if_eq (tgt := 1386) (dk_at dk_L_law_15 46 rfl) (by decide) (fun c => ?_) (fun c => ?_)
      · replace h := h.1 c
        refine G_goto (tgt := 2023) (dk_at dk_L_law_15 49 rfl) (by decide) ?_
        refine G_sub [2, 3, 4, 5, 6] rfl ?_
        exact h
      · replace h := h.2 c
        refine G_iconst (v := 0) (dk_at dk_L_law_15 47 rfl) (by decide) ?_
        exact G_iret (ty := .boolean) rfl rfl (dk_at dk_L_law_15 48 rfl) h
  · replace h := h.2 c
    refine G_iconst (v := 0) (dk_at dk_L_law_15 36 rfl) (by decide) ?_
    exact G_iret (ty := .boolean) rfl rfl (dk_at dk_L_law_15 37 rfl) h
theorem k_L_law_1389 {l : Launch} {X : XT} {d : Nat} {Q : Ot → AH → Prop} {A : AH} {bc bs : Nat} {v1 : Nat} {v2 : Nat} {v3 : Nat} {v4 : Int32} (h : vp_in (v4 + 1) (xL X) ∧ Cal l X d bc bs M_L_sized [.ref v1, .int (xs X (v4 + 1).toNatClampNeg), .ref v3] A fun o4 A1 b2 c3 => zI o4 fun i5 => vp_in (v4 + 1) (xL X) ∧ isO A1 v2 7 ∧ Cal l X d b2 c3 M_X6_sized [.ref v2, .int (xs X (v4 + 1).toNatClampNeg)] A1 fun o9 A6 b7 c8 => rI o9 (fun E => Q (.inr E) A6) fun i10 => isO A6 v2 7 ∧ Cal l X d b7 c8 M_X6_thrown [.ref v2] A6 fun o14 A11 b12 c13 => rI o14 (fun E => Q (.inr E) A11) fun i15 => (i15 = i5 → (¬ i5 = 0 → G l X M_L_law d Q 2023 [(0, .ref (xb X)), (1, .ref v1), (2, .ref v2), (3, .ref v3), (4, .int v4)] [] A11 b12 c13) ∧ (i5 = 0 → aL X A11 v3 0 fun i16 => ((lg_cmp i16 (Int32.toInt64 i10)) = 0 → G l X M_L_law d Q 2023 [(0, .ref (xb X)), (1, .ref v1), (2, .ref v2), (3, .ref v3), (4, .int v4)] [] A11 b12 c13) ∧ (¬ (lg_cmp i16 (Int32.toInt64 i10)) = 0 → Q (Ri 0) A11))) ∧ (¬ i15 = i5 → Q (Ri 0) A11)) : G l X M_L_law d Q 1389 [(0, .ref (xb X)), (1, .ref v1), (2, .ref v2), (3, .ref v3), (4, .int v4)] [] A bc bs := by
  refine G_aload_n 1 (dk_at dk_L_law_16 0 rfl) rfl ?_
  refine G_aload_n 0 (dk_at dk_L_law_16 1 rfl) rfl ?_
  refine G_iload 4 (dk_at dk_L_law_16 2 rfl) rfl ?_
  refine G_iconst (v := 1) (dk_at dk_L_law_16 3 rfl) (by decide) ?_
  refine G_iadd (dk_at dk_L_law_16 4 rfl) ?_
  obtain ⟨h0, h⟩ := h
  refine G_sld (dk_at dk_L_law_16 5 rfl) h0 ?_
  refine G_aload_n 3 (dk_at dk_L_law_16 6 rfl) rfl ?_
  refine G_callSX (As := [.ref v1, .int (xs X (v4 + 1).toNatClampNeg), .ref v3]) (rest := []) lk_L_180 (dk_at dk_L_law_16 7 rfl) rfl rfl (Nat.le_of_ble_eq_true rfl) (h.mono fun o4 A1 b2 c3 h => atfI h fun i5 h => ?_)
  refine G_istore (lv' := [(5, .int i5), (0, .ref (xb X)), (1, .ref v1), (2, .ref v2), (3, .ref v3), (4, .int v4)]) (dk_at dk_L_law_16 8 rfl) (by decide) rfl ?_
  refine G_aload_n 3 (dk_at dk_L_law_16 9 rfl) rfl ?_
  refine G_aload_n 1 (dk_at dk_L_law_16 10 rfl) rfl ?_
  refine G_iload 5 (dk_at dk_L_law_16 11 rfl) rfl ?_
  refine G_iconst (v := 1) (dk_at dk_L_law_16 12 rfl) (by decide) ?_
  refine G_iadd (dk_at dk_L_law_16 13 rfl) ?_
  obtain ⟨h0, h⟩ := h
  refine G_sld (dk_at dk_L_law_16 14 rfl) h0 ?_
  obtain ⟨⟨_, ho⟩, h⟩ := h
  refine G_callV (As := [.int (xs X (v4 + 1).toNatClampNeg)]) (rest := []) lk_L_182 rfl (dk_at dk_L_law_16 15 rfl) rfl rfl (Nat.le_of_ble_eq_true rfl) ho (h.mono fun o9 A6 b7 c8 h => aftI h fun i10 h => ?_)
  refine G_istore (lv' := [(6, .int i10), (5, .int i5), (0, .ref (xb X)), (1, .ref v1), (2, .ref v2), (3, .ref v3), (4, .int v4)]) (dk_at dk_L_law_16 16 rfl) (by decide) rfl ?_
  refine G_aload_n 4 (dk_at dk_L_law_16 17 rfl) rfl ?_
  obtain ⟨⟨_, ho⟩, h⟩ := h
  refine G_callV (As := []) (rest := []) lk_L_114 rfl (dk_at dk_L_law_16 18 rfl) rfl rfl (Nat.le_of_ble_eq_true rfl) ho (h.mono fun o14 A11 b12 c13 h => aftI h fun i15 h => ?_)
  refine G_iload 1 (dk_at dk_L_law_16 19 rfl) rfl ?_
  refine G_icmp_eq (tgt := 1425) (dk_at dk_L_law_16 20 rfl) (by decide) (fun c => ?_) (fun c => ?_)
  · replace h := h.1 c
    refine G_iload 1 (dk_at dk_L_law_16 23 rfl) rfl ?_
    refine G_if_ne (tgt := 1442) (dk_at dk_L_law_16 24 rfl) (by decide) (fun c => ?_) (fun c => ?_)
    · replace h := h.1 c
      refine G_goto (tgt := 2023) (dk_at dk_L_law_16 34 rfl) (by decide) ?_
      refine G_sub [2, 3, 4, 5, 6] rfl ?_
      exact h
    · replace h := h.2 c
      refine G_aload_n 5 (dk_at dk_L_law_16 25 rfl) rfl ?_
      refine G_iconst (v := 0) (dk_at dk_L_law_16 26 rfl) (by decide) ?_
      refine K_aL (dk_at dk_L_law_16 27 rfl) h (fun i16 h => ?_)
      refine G_iload 0 (dk_at dk_L_law_16 28 rfl) rfl ?_
      refine G_i2l (dk_at dk_L_law_16 29 rfl) rfl ?_
      refine G_lcmp (dk_at dk_L_law_16 30 rfl) ?_
      refine G_if_eq (tgt := 1442) (dk_at dk_L_law_16 31 rfl) (by decide) (fun c => ?_) (fun c => ?_)
      · replace h := h.1 c
        refine G_goto (tgt := 2023) (dk_at dk_L_law_16 34 rfl) (by decide) ?_
        refine G_sub [2, 3, 4, 5, 6] rfl ?_
        exact h
      · replace h := h.2 c
        refine G_iconst (v := 0) (dk_at dk_L_law_16 32 rfl) (by decide) ?_
        exact G_iret (ty := .boolean) rfl rfl (dk_at dk_L_law_16 33 rfl) h
  · replace h := h.2 c
    refine G_iconst (v := 0) (dk_at dk_L_law_16 21 rfl) (by decide) ?_
    exact G_iret (ty := .boolean) rfl rfl (dk_at dk_L_law_16 22 rfl) h
theorem k_L_law_1445 {l : Launch} {X : XT} {d : Nat} {Q : Ot → AH → Prop} {A : AH} {bc bs : Nat} {v1 : Nat} {v2 : Nat} {v3 : Nat} {v4 : Int32} (h : vp_in (v4 + 1) (xL X) ∧ vp_in (v4 + 2) (xL X) ∧ Cal l X d bc bs M_L_rename [.ref v1, .int (xs X (v4 + 1).toNatClampNeg), .int (xs X (v4 + 2).toNatClampNeg), .ref v3] A fun o4 A1 b2 c3 => zI o4 fun i5 => vp_in (v4 + 1) (xL X) ∧ vp_in (v4 + 2) (xL X) ∧ isO A1 v2 7 ∧ Cal l X d b2 c3 M_X6_rename [.ref v2, .int (xs X (v4 + 1).toNatClampNeg), .int (xs X (v4 + 2).toNatClampNeg)] A1 fun o9 A6 b7 c8 => rI o9 (fun E => Q (.inr E) A6) fun i10 => isO A6 v2 7 ∧ Cal l X d b7 c8 M_X6_thrown [.ref v2] A6 fun o14 A11 b12 c13 => rI o14 (fun E => Q (.inr E) A11) fun i15 => (i15 = i5 → (¬ i5 = 0 → G l X M_L_law d Q 2023 [(0, .ref (xb X)), (1, .ref v1), (2, .ref v2), (3, .ref v3), (4, .int v4)] [] A11 b12 c13) ∧ (i5 = 0 → aL X A11 v3 0 fun i16 => ((lg_cmp i16 (Int32.toInt64 i10)) = 0 → G l X M_L_law d Q 2023 [(0, .ref (xb X)), (1, .ref v1), (2, .ref v2), (3, .ref v3), (4, .int v4)] [] A11 b12 c13) ∧ (¬ (lg_cmp i16 (Int32.toInt64 i10)) = 0 → Q (Ri 0) A11))) ∧ (¬ i15 = i5 → Q (Ri 0) A11)) : G l X M_L_law d Q 1445 [(0, .ref (xb X)), (1, .ref v1), (2, .ref v2), (3, .ref v3), (4, .int v4)] [] A bc bs := by
  refine G_aload_n 1 (dk_at dk_L_law_16 35 rfl) rfl ?_
  refine G_aload_n 0 (dk_at dk_L_law_16 36 rfl) rfl ?_
  refine G_iload 4 (dk_at dk_L_law_16 37 rfl) rfl ?_
  refine G_iconst (v := 1) (dk_at dk_L_law_16 38 rfl) (by decide) ?_
  refine G_iadd (dk_at dk_L_law_16 39 rfl) ?_
  obtain ⟨h0, h⟩ := h
  refine G_sld (dk_at dk_L_law_16 40 rfl) h0 ?_
  refine G_aload_n 0 (dk_at dk_L_law_16 41 rfl) rfl ?_
  refine G_iload 4 (dk_at dk_L_law_16 42 rfl) rfl ?_
  refine G_iconst (v := 2) (dk_at dk_L_law_16 43 rfl) (by decide) ?_
  refine G_iadd (dk_at dk_L_law_16 44 rfl) ?_
  obtain ⟨h0, h⟩ := h
  refine G_sld (dk_at dk_L_law_16 45 rfl) h0 ?_
  refine G_aload_n 3 (dk_at dk_L_law_16 46 rfl) rfl ?_
  refine G_callSX (As := [.ref v1, .int (xs X (v4 + 1).toNatClampNeg), .int (xs X (v4 + 2).toNatClampNeg), .ref v3]) (rest := []) lk_L_183 (dk_at dk_L_law_16 47 rfl) rfl rfl (Nat.le_of_ble_eq_true rfl) (h.mono fun o4 A1 b2 c3 h => atfI h fun i5 h => ?_)
  refine G_istore (lv' := [(5, .int i5), (0, .ref (xb X)), (1, .ref v1), (2, .ref v2), (3, .ref v3), (4, .int v4)]) (dk_at dk_L_law_16 48 rfl) (by decide) rfl ?_
  refine G_aload_n 3 (dk_at dk_L_law_16 49 rfl) rfl ?_
  refine G_aload_n 1 (dk_at dk_L_law_17 0 rfl) rfl ?_
  refine G_iload 5 (dk_at dk_L_law_17 1 rfl) rfl ?_
  refine G_iconst (v := 1) (dk_at dk_L_law_17 2 rfl) (by decide) ?_
  refine G_iadd (dk_at dk_L_law_17 3 rfl) ?_
  obtain ⟨h0, h⟩ := h
  refine G_sld (dk_at dk_L_law_17 4 rfl) h0 ?_
  refine G_aload_n 1 (dk_at dk_L_law_17 5 rfl) rfl ?_
  refine G_iload 5 (dk_at dk_L_law_17 6 rfl) rfl ?_
  refine G_iconst (v := 2) (dk_at dk_L_law_17 7 rfl) (by decide) ?_
  refine G_iadd (dk_at dk_L_law_17 8 rfl) ?_
  obtain ⟨h0, h⟩ := h
  refine G_sld (dk_at dk_L_law_17 9 rfl) h0 ?_
  obtain ⟨⟨_, ho⟩, h⟩ := h
  refine G_callV (As := [.int (xs X (v4 + 1).toNatClampNeg), .int (xs X (v4 + 2).toNatClampNeg)]) (rest := []) lk_L_185 rfl (dk_at dk_L_law_17 10 rfl) rfl rfl (Nat.le_of_ble_eq_true rfl) ho (h.mono fun o9 A6 b7 c8 h => aftI h fun i10 h => ?_)
  refine G_istore (lv' := [(6, .int i10), (5, .int i5), (0, .ref (xb X)), (1, .ref v1), (2, .ref v2), (3, .ref v3), (4, .int v4)]) (dk_at dk_L_law_17 11 rfl) (by decide) rfl ?_
  refine G_aload_n 4 (dk_at dk_L_law_17 12 rfl) rfl ?_
  obtain ⟨⟨_, ho⟩, h⟩ := h
  refine G_callV (As := []) (rest := []) lk_L_114 rfl (dk_at dk_L_law_17 13 rfl) rfl rfl (Nat.le_of_ble_eq_true rfl) ho (h.mono fun o14 A11 b12 c13 h => aftI h fun i15 h => ?_)
  refine G_iload 1 (dk_at dk_L_law_17 14 rfl) rfl ?_
  refine G_icmp_eq (tgt := 1493) (dk_at dk_L_law_17 15 rfl) (by decide) (fun c => ?_) (fun c => ?_)
  · replace h := h.1 c
    refine G_iload 1 (dk_at dk_L_law_17 18 rfl) rfl ?_
    refine G_if_ne (tgt := 1510) (dk_at dk_L_law_17 19 rfl) (by decide) (fun c => ?_) (fun c => ?_)
    · replace h := h.1 c
      refine G_goto (tgt := 2023) (dk_at dk_L_law_17 29 rfl) (by decide) ?_
      refine G_sub [2, 3, 4, 5, 6] rfl ?_
      exact h
    · replace h := h.2 c
      refine G_aload_n 5 (dk_at dk_L_law_17 20 rfl) rfl ?_
      refine G_iconst (v := 0) (dk_at dk_L_law_17 21 rfl) (by decide) ?_
      refine K_aL (dk_at dk_L_law_17 22 rfl) h (fun i16 h => ?_)
      refine G_iload 0 (dk_at dk_L_law_17 23 rfl) rfl ?_
      refine G_i2l (dk_at dk_L_law_17 24 rfl) rfl ?_
      refine G_lcmp (dk_at dk_L_law_17 25 rfl) ?_
      refine G_if_eq (tgt := 1510) (dk_at dk_L_law_17 26 rfl) (by decide) (fun c => ?_) (fun c => ?_)
      · replace h := h.1 c
        refine G_goto (tgt := 2023) (dk_at dk_L_law_17 29 rfl) (by decide) ?_
        refine G_sub [2, 3, 4, 5, 6] rfl ?_
        exact h
      · replace h := h.2 c
        refine G_iconst (v := 0) (dk_at dk_L_law_17 27 rfl) (by decide) ?_
        exact G_iret (ty := .boolean) rfl rfl (dk_at dk_L_law_17 28 rfl) h
  · replace h := h.2 c
    refine G_iconst (v := 0) (dk_at dk_L_law_17 16 rfl) (by decide) ?_
    exact G_iret (ty := .boolean) rfl rfl (dk_at dk_L_law_17 17 rfl) h
theorem k_L_law_1513 {l : Launch} {X : XT} {d : Nat} {Q : Ot → AH → Prop} {A : AH} {bc bs : Nat} {v1 : Nat} {v2 : Nat} {v3 : Nat} {v4 : Int32} (h : vp_in (v4 + 1) (xL X) ∧ vp_in (v4 + 2) (xL X) ∧ vp_in (v4 + 3) (xL X) ∧ Cal l X d bc bs M_L_spoil [.ref v1, .int (xs X (v4 + 1).toNatClampNeg), .int (xs X (v4 + 2).toNatClampNeg), .int (xs X (v4 + 3).toNatClampNeg), .ref v3] A fun o4 A1 b2 c3 => zI o4 fun i5 => vp_in (v4 + 1) (xL X) ∧ vp_in (v4 + 2) (xL X) ∧ vp_in (v4 + 3) (xL X) ∧ isO A1 v2 7 ∧ Cal l X d b2 c3 M_X6_spoil [.ref v2, .int (xs X (v4 + 1).toNatClampNeg), .int (xs X (v4 + 2).toNatClampNeg), .int (xs X (v4 + 3).toNatClampNeg)] A1 fun o9 A6 b7 c8 => rI o9 (fun E => Q (.inr E) A6) fun i10 => isO A6 v2 7 ∧ Cal l X d b7 c8 M_X6_thrown [.ref v2] A6 fun o14 A11 b12 c13 => rI o14 (fun E => Q (.inr E) A11) fun i15 => (i15 = i5 → (¬ i5 = 0 → G l X M_L_law d Q 2023 [(0, .ref (xb X)), (1, .ref v1), (2, .ref v2), (3, .ref v3), (4, .int v4)] [] A11 b12 c13) ∧ (i5 = 0 → aL X A11 v3 0 fun i16 => ((lg_cmp i16 (Int32.toInt64 i10)) = 0 → G l X M_L_law d Q 2023 [(0, .ref (xb X)), (1, .ref v1), (2, .ref v2), (3, .ref v3), (4, .int v4)] [] A11 b12 c13) ∧ (¬ (lg_cmp i16 (Int32.toInt64 i10)) = 0 → Q (Ri 0) A11))) ∧ (¬ i15 = i5 → Q (Ri 0) A11)) : G l X M_L_law d Q 1513 [(0, .ref (xb X)), (1, .ref v1), (2, .ref v2), (3, .ref v3), (4, .int v4)] [] A bc bs := by
  refine G_aload_n 1 (dk_at dk_L_law_17 30 rfl) rfl ?_
  refine G_aload_n 0 (dk_at dk_L_law_17 31 rfl) rfl ?_
  refine G_iload 4 (dk_at dk_L_law_17 32 rfl) rfl ?_
  refine G_iconst (v := 1) (dk_at dk_L_law_17 33 rfl) (by decide) ?_
  refine G_iadd (dk_at dk_L_law_17 34 rfl) ?_
  obtain ⟨h0, h⟩ := h
  refine G_sld (dk_at dk_L_law_17 35 rfl) h0 ?_
  refine G_aload_n 0 (dk_at dk_L_law_17 36 rfl) rfl ?_
  refine G_iload 4 (dk_at dk_L_law_17 37 rfl) rfl ?_
  refine G_iconst (v := 2) (dk_at dk_L_law_17 38 rfl) (by decide) ?_
  refine G_iadd (dk_at dk_L_law_17 39 rfl) ?_
  obtain ⟨h0, h⟩ := h
  refine G_sld (dk_at dk_L_law_17 40 rfl) h0 ?_
  refine G_aload_n 0 (dk_at dk_L_law_17 41 rfl) rfl ?_
  refine G_iload 4 (dk_at dk_L_law_17 42 rfl) rfl ?_
  refine G_iconst (v := 3) (dk_at dk_L_law_17 43 rfl) (by decide) ?_
  refine G_iadd (dk_at dk_L_law_17 44 rfl) ?_
  obtain ⟨h0, h⟩ := h
  refine G_sld (dk_at dk_L_law_17 45 rfl) h0 ?_
  refine G_aload_n 3 (dk_at dk_L_law_17 46 rfl) rfl ?_
  refine G_callSX (As := [.ref v1, .int (xs X (v4 + 1).toNatClampNeg), .int (xs X (v4 + 2).toNatClampNeg), .int (xs X (v4 + 3).toNatClampNeg), .ref v3]) (rest := []) lk_L_186 (dk_at dk_L_law_17 47 rfl) rfl rfl (Nat.le_of_ble_eq_true rfl) (h.mono fun o4 A1 b2 c3 h => atfI h fun i5 h => ?_)
  refine G_istore (lv' := [(5, .int i5), (0, .ref (xb X)), (1, .ref v1), (2, .ref v2), (3, .ref v3), (4, .int v4)]) (dk_at dk_L_law_17 48 rfl) (by decide) rfl ?_
  refine G_aload_n 3 (dk_at dk_L_law_17 49 rfl) rfl ?_
  refine G_aload_n 1 (dk_at dk_L_law_18 0 rfl) rfl ?_
  refine G_iload 5 (dk_at dk_L_law_18 1 rfl) rfl ?_
  refine G_iconst (v := 1) (dk_at dk_L_law_18 2 rfl) (by decide) ?_
  refine G_iadd (dk_at dk_L_law_18 3 rfl) ?_
  obtain ⟨h0, h⟩ := h
  refine G_sld (dk_at dk_L_law_18 4 rfl) h0 ?_
  refine G_aload_n 1 (dk_at dk_L_law_18 5 rfl) rfl ?_
  refine G_iload 5 (dk_at dk_L_law_18 6 rfl) rfl ?_
  refine G_iconst (v := 2) (dk_at dk_L_law_18 7 rfl) (by decide) ?_
  refine G_iadd (dk_at dk_L_law_18 8 rfl) ?_
  obtain ⟨h0, h⟩ := h
  refine G_sld (dk_at dk_L_law_18 9 rfl) h0 ?_
  refine G_aload_n 1 (dk_at dk_L_law_18 10 rfl) rfl ?_
  refine G_iload 5 (dk_at dk_L_law_18 11 rfl) rfl ?_
  refine G_iconst (v := 3) (dk_at dk_L_law_18 12 rfl) (by decide) ?_
  refine G_iadd (dk_at dk_L_law_18 13 rfl) ?_
  obtain ⟨h0, h⟩ := h
  refine G_sld (dk_at dk_L_law_18 14 rfl) h0 ?_
  obtain ⟨⟨_, ho⟩, h⟩ := h
  refine G_callV (As := [.int (xs X (v4 + 1).toNatClampNeg), .int (xs X (v4 + 2).toNatClampNeg), .int (xs X (v4 + 3).toNatClampNeg)]) (rest := []) lk_L_188 rfl (dk_at dk_L_law_18 15 rfl) rfl rfl (Nat.le_of_ble_eq_true rfl) ho (h.mono fun o9 A6 b7 c8 h => aftI h fun i10 h => ?_)
  refine G_istore (lv' := [(6, .int i10), (5, .int i5), (0, .ref (xb X)), (1, .ref v1), (2, .ref v2), (3, .ref v3), (4, .int v4)]) (dk_at dk_L_law_18 16 rfl) (by decide) rfl ?_
  refine G_aload_n 4 (dk_at dk_L_law_18 17 rfl) rfl ?_
  obtain ⟨⟨_, ho⟩, h⟩ := h
  refine G_callV (As := []) (rest := []) lk_L_114 rfl (dk_at dk_L_law_18 18 rfl) rfl rfl (Nat.le_of_ble_eq_true rfl) ho (h.mono fun o14 A11 b12 c13 h => aftI h fun i15 h => ?_)
  refine G_iload 1 (dk_at dk_L_law_18 19 rfl) rfl ?_
  refine G_icmp_eq (tgt := 1573) (dk_at dk_L_law_18 20 rfl) (by decide) (fun c => ?_) (fun c => ?_)
  · replace h := h.1 c
    refine G_iload 1 (dk_at dk_L_law_18 23 rfl) rfl ?_
    refine G_if_ne (tgt := 1590) (dk_at dk_L_law_18 24 rfl) (by decide) (fun c => ?_) (fun c => ?_)
    · replace h := h.1 c
      refine G_goto (tgt := 2023) (dk_at dk_L_law_18 34 rfl) (by decide) ?_
      refine G_sub [2, 3, 4, 5, 6] rfl ?_
      exact h
    · replace h := h.2 c
      refine G_aload_n 5 (dk_at dk_L_law_18 25 rfl) rfl ?_
      refine G_iconst (v := 0) (dk_at dk_L_law_18 26 rfl) (by decide) ?_
      refine K_aL (dk_at dk_L_law_18 27 rfl) h (fun i16 h => ?_)
      refine G_iload 0 (dk_at dk_L_law_18 28 rfl) rfl ?_
      refine G_i2l (dk_at dk_L_law_18 29 rfl) rfl ?_
      refine G_lcmp (dk_at dk_L_law_18 30 rfl) ?_
      refine G_if_eq (tgt := 1590) (dk_at dk_L_law_18 31 rfl) (by decide) (fun c => ?_) (fun c => ?_)
      · replace h := h.1 c
        refine G_goto (tgt := 2023) (dk_at dk_L_law_18 34 rfl) (by decide) ?_
        refine G_sub [2, 3, 4, 5, 6] rfl ?_
        exact h
      · replace h := h.2 c
        refine G_iconst (v := 0) (dk_at dk_L_law_18 32 rfl) (by decide) ?_
        exact G_iret (ty := .boolean) rfl rfl (dk_at dk_L_law_18 33 rfl) h
  · replace h := h.2 c
    refine G_iconst (v := 0) (dk_at dk_L_law_18 21 rfl) (by decide) ?_
    exact G_iret (ty := .boolean) rfl rfl (dk_at dk_L_law_18 22 rfl) h
theorem k_L_law_1593 {l : Launch} {X : XT} {d : Nat} {Q : Ot → AH → Prop} {A : AH} {bc bs : Nat} {v1 : Nat} {v2 : Nat} {v3 : Nat} {v4 : Int32} (h : vp_in (v4 + 1) (xL X) ∧ Cal l X d bc bs M_L_discard [.ref v1, .int (xs X (v4 + 1).toNatClampNeg), .ref v3] A fun o4 A1 b2 c3 => zI o4 fun i5 => vp_in (v4 + 1) (xL X) ∧ isO A1 v2 7 ∧ Cal l X d b2 c3 M_X6_discard [.ref v2, .int (xs X (v4 + 1).toNatClampNeg)] A1 fun o9 A6 b7 c8 => rI o9 (fun E => Q (.inr E) A6) fun i10 => isO A6 v2 7 ∧ Cal l X d b7 c8 M_X6_thrown [.ref v2] A6 fun o14 A11 b12 c13 => rI o14 (fun E => Q (.inr E) A11) fun i15 => (i15 = i5 → (¬ i5 = 0 → G l X M_L_law d Q 2023 [(0, .ref (xb X)), (1, .ref v1), (2, .ref v2), (3, .ref v3), (4, .int v4)] [] A11 b12 c13) ∧ (i5 = 0 → aL X A11 v3 0 fun i16 => ((lg_cmp i16 (Int32.toInt64 i10)) = 0 → G l X M_L_law d Q 2023 [(0, .ref (xb X)), (1, .ref v1), (2, .ref v2), (3, .ref v3), (4, .int v4)] [] A11 b12 c13) ∧ (¬ (lg_cmp i16 (Int32.toInt64 i10)) = 0 → Q (Ri 0) A11))) ∧ (¬ i15 = i5 → Q (Ri 0) A11)) : G l X M_L_law d Q 1593 [(0, .ref (xb X)), (1, .ref v1), (2, .ref v2), (3, .ref v3), (4, .int v4)] [] A bc bs := by
  refine G_aload_n 1 (dk_at dk_L_law_18 35 rfl) rfl ?_
  refine G_aload_n 0 (dk_at dk_L_law_18 36 rfl) rfl ?_
  refine G_iload 4 (dk_at dk_L_law_18 37 rfl) rfl ?_
  refine G_iconst (v := 1) (dk_at dk_L_law_18 38 rfl) (by decide) ?_
  refine G_iadd (dk_at dk_L_law_18 39 rfl) ?_
  obtain ⟨h0, h⟩ := h
  refine G_sld (dk_at dk_L_law_18 40 rfl) h0 ?_
  refine G_aload_n 3 (dk_at dk_L_law_18 41 rfl) rfl ?_
  refine G_callSX (As := [.ref v1, .int (xs X (v4 + 1).toNatClampNeg), .ref v3]) (rest := []) lk_L_189 (dk_at dk_L_law_18 42 rfl) rfl rfl (Nat.le_of_ble_eq_true rfl) (h.mono fun o4 A1 b2 c3 h => atfI h fun i5 h => ?_)
  refine G_istore (lv' := [(5, .int i5), (0, .ref (xb X)), (1, .ref v1), (2, .ref v2), (3, .ref v3), (4, .int v4)]) (dk_at dk_L_law_18 43 rfl) (by decide) rfl ?_
  refine G_aload_n 3 (dk_at dk_L_law_18 44 rfl) rfl ?_
  refine G_aload_n 1 (dk_at dk_L_law_18 45 rfl) rfl ?_
  refine G_iload 5 (dk_at dk_L_law_18 46 rfl) rfl ?_
  refine G_iconst (v := 1) (dk_at dk_L_law_18 47 rfl) (by decide) ?_
  refine G_iadd (dk_at dk_L_law_18 48 rfl) ?_
  obtain ⟨h0, h⟩ := h
  refine G_sld (dk_at dk_L_law_18 49 rfl) h0 ?_
  obtain ⟨⟨_, ho⟩, h⟩ := h
  refine G_callV (As := [.int (xs X (v4 + 1).toNatClampNeg)]) (rest := []) lk_L_191 rfl (dk_at dk_L_law_19 0 rfl) rfl rfl (Nat.le_of_ble_eq_true rfl) ho (h.mono fun o9 A6 b7 c8 h => aftI h fun i10 h => ?_)
  refine G_istore (lv' := [(6, .int i10), (5, .int i5), (0, .ref (xb X)), (1, .ref v1), (2, .ref v2), (3, .ref v3), (4, .int v4)]) (dk_at dk_L_law_19 1 rfl) (by decide) rfl ?_
  refine G_aload_n 4 (dk_at dk_L_law_19 2 rfl) rfl ?_
  obtain ⟨⟨_, ho⟩, h⟩ := h
  refine G_callV (As := []) (rest := []) lk_L_114 rfl (dk_at dk_L_law_19 3 rfl) rfl rfl (Nat.le_of_ble_eq_true rfl) ho (h.mono fun o14 A11 b12 c13 h => aftI h fun i15 h => ?_)
  refine G_iload 1 (dk_at dk_L_law_19 4 rfl) rfl ?_
  refine G_icmp_eq (tgt := 1629) (dk_at dk_L_law_19 5 rfl) (by decide) (fun c => ?_) (fun c => ?_)
  · replace h := h.1 c
    refine G_iload 1 (dk_at dk_L_law_19 8 rfl) rfl ?_
    refine G_if_ne (tgt := 1646) (dk_at dk_L_law_19 9 rfl) (by decide) (fun c => ?_) (fun c => ?_)
    · replace h := h.1 c
      refine G_goto (tgt := 2023) (dk_at dk_L_law_19 19 rfl) (by decide) ?_
      refine G_sub [2, 3, 4, 5, 6] rfl ?_
      exact h
    · replace h := h.2 c
      refine G_aload_n 5 (dk_at dk_L_law_19 10 rfl) rfl ?_
      refine G_iconst (v := 0) (dk_at dk_L_law_19 11 rfl) (by decide) ?_
      refine K_aL (dk_at dk_L_law_19 12 rfl) h (fun i16 h => ?_)
      refine G_iload 0 (dk_at dk_L_law_19 13 rfl) rfl ?_
      refine G_i2l (dk_at dk_L_law_19 14 rfl) rfl ?_
      refine G_lcmp (dk_at dk_L_law_19 15 rfl) ?_
      refine G_if_eq (tgt := 1646) (dk_at dk_L_law_19 16 rfl) (by decide) (fun c => ?_) (fun c => ?_)
      · replace h := h.1 c
        refine G_goto (tgt := 2023) (dk_at dk_L_law_19 19 rfl) (by decide) ?_
        refine G_sub [2, 3, 4, 5, 6] rfl ?_
        exact h
      · replace h := h.2 c
        refine G_iconst (v := 0) (dk_at dk_L_law_19 17 rfl) (by decide) ?_
        exact G_iret (ty := .boolean) rfl rfl (dk_at dk_L_law_19 18 rfl) h
  · replace h := h.2 c
    refine G_iconst (v := 0) (dk_at dk_L_law_19 6 rfl) (by decide) ?_
    exact G_iret (ty := .boolean) rfl rfl (dk_at dk_L_law_19 7 rfl) h
theorem k_L_law_1649 {l : Launch} {X : XT} {d : Nat} {Q : Ot → AH → Prop} {A : AH} {bc bs : Nat} {v1 : Nat} {v2 : Nat} {v3 : Nat} {v4 : Int32} (h : vp_in (v4 + 1) (xL X) ∧ vp_in (v4 + 2) (xL X) ∧ Cal l X d bc bs M_L_partial [.ref v1, .int (xs X (v4 + 1).toNatClampNeg), .int (xs X (v4 + 2).toNatClampNeg), .ref v3] A fun o4 A1 b2 c3 => zI o4 fun i5 => vp_in (v4 + 1) (xL X) ∧ vp_in (v4 + 2) (xL X) ∧ isO A1 v2 7 ∧ Cal l X d b2 c3 M_X6_partial [.ref v2, .int (xs X (v4 + 1).toNatClampNeg), .int (xs X (v4 + 2).toNatClampNeg)] A1 fun o9 A6 b7 c8 => rI o9 (fun E => Q (.inr E) A6) fun i10 => isO A6 v2 7 ∧ Cal l X d b7 c8 M_X6_thrown [.ref v2] A6 fun o14 A11 b12 c13 => rI o14 (fun E => Q (.inr E) A11) fun i15 => (i15 = i5 → (¬ i5 = 0 → G l X M_L_law d Q 2023 [(0, .ref (xb X)), (1, .ref v1), (2, .ref v2), (3, .ref v3), (4, .int v4)] [] A11 b12 c13) ∧ (i5 = 0 → aL X A11 v3 0 fun i16 => ((lg_cmp i16 (Int32.toInt64 i10)) = 0 → G l X M_L_law d Q 2023 [(0, .ref (xb X)), (1, .ref v1), (2, .ref v2), (3, .ref v3), (4, .int v4)] [] A11 b12 c13) ∧ (¬ (lg_cmp i16 (Int32.toInt64 i10)) = 0 → Q (Ri 0) A11))) ∧ (¬ i15 = i5 → Q (Ri 0) A11)) : G l X M_L_law d Q 1649 [(0, .ref (xb X)), (1, .ref v1), (2, .ref v2), (3, .ref v3), (4, .int v4)] [] A bc bs := by
  refine G_aload_n 1 (dk_at dk_L_law_19 20 rfl) rfl ?_
  refine G_aload_n 0 (dk_at dk_L_law_19 21 rfl) rfl ?_
  refine G_iload 4 (dk_at dk_L_law_19 22 rfl) rfl ?_
  refine G_iconst (v := 1) (dk_at dk_L_law_19 23 rfl) (by decide) ?_
  refine G_iadd (dk_at dk_L_law_19 24 rfl) ?_
  obtain ⟨h0, h⟩ := h
  refine G_sld (dk_at dk_L_law_19 25 rfl) h0 ?_
  refine G_aload_n 0 (dk_at dk_L_law_19 26 rfl) rfl ?_
  refine G_iload 4 (dk_at dk_L_law_19 27 rfl) rfl ?_
  refine G_iconst (v := 2) (dk_at dk_L_law_19 28 rfl) (by decide) ?_
  refine G_iadd (dk_at dk_L_law_19 29 rfl) ?_
  obtain ⟨h0, h⟩ := h
  refine G_sld (dk_at dk_L_law_19 30 rfl) h0 ?_
  refine G_aload_n 3 (dk_at dk_L_law_19 31 rfl) rfl ?_
  refine G_callSX (As := [.ref v1, .int (xs X (v4 + 1).toNatClampNeg), .int (xs X (v4 + 2).toNatClampNeg), .ref v3]) (rest := []) lk_L_192 (dk_at dk_L_law_19 32 rfl) rfl rfl (Nat.le_of_ble_eq_true rfl) (h.mono fun o4 A1 b2 c3 h => atfI h fun i5 h => ?_)
  refine G_istore (lv' := [(5, .int i5), (0, .ref (xb X)), (1, .ref v1), (2, .ref v2), (3, .ref v3), (4, .int v4)]) (dk_at dk_L_law_19 33 rfl) (by decide) rfl ?_
  refine G_aload_n 3 (dk_at dk_L_law_19 34 rfl) rfl ?_
  refine G_aload_n 1 (dk_at dk_L_law_19 35 rfl) rfl ?_
  refine G_iload 5 (dk_at dk_L_law_19 36 rfl) rfl ?_
  refine G_iconst (v := 1) (dk_at dk_L_law_19 37 rfl) (by decide) ?_
  refine G_iadd (dk_at dk_L_law_19 38 rfl) ?_
  obtain ⟨h0, h⟩ := h
  refine G_sld (dk_at dk_L_law_19 39 rfl) h0 ?_
  refine G_aload_n 1 (dk_at dk_L_law_19 40 rfl) rfl ?_
  refine G_iload 5 (dk_at dk_L_law_19 41 rfl) rfl ?_
  refine G_iconst (v := 2) (dk_at dk_L_law_19 42 rfl) (by decide) ?_
  refine G_iadd (dk_at dk_L_law_19 43 rfl) ?_
  obtain ⟨h0, h⟩ := h
  refine G_sld (dk_at dk_L_law_19 44 rfl) h0 ?_
  obtain ⟨⟨_, ho⟩, h⟩ := h
  refine G_callV (As := [.int (xs X (v4 + 1).toNatClampNeg), .int (xs X (v4 + 2).toNatClampNeg)]) (rest := []) lk_L_194 rfl (dk_at dk_L_law_19 45 rfl) rfl rfl (Nat.le_of_ble_eq_true rfl) ho (h.mono fun o9 A6 b7 c8 h => aftI h fun i10 h => ?_)
  refine G_istore (lv' := [(6, .int i10), (5, .int i5), (0, .ref (xb X)), (1, .ref v1), (2, .ref v2), (3, .ref v3), (4, .int v4)]) (dk_at dk_L_law_19 46 rfl) (by decide) rfl ?_
  refine G_aload_n 4 (dk_at dk_L_law_19 47 rfl) rfl ?_
  obtain ⟨⟨_, ho⟩, h⟩ := h
  refine G_callV (As := []) (rest := []) lk_L_114 rfl (dk_at dk_L_law_19 48 rfl) rfl rfl (Nat.le_of_ble_eq_true rfl) ho (h.mono fun o14 A11 b12 c13 h => aftI h fun i15 h => ?_)
  refine G_iload 1 (dk_at dk_L_law_19 49 rfl) rfl ?_
  refine G_icmp_eq (tgt := 1697) (dk_at dk_L_law_20 0 rfl) (by decide) (fun c => ?_) (fun c => ?_)
  · replace h := h.1 c
    refine G_iload 1 (dk_at dk_L_law_20 3 rfl) rfl ?_
    refine G_if_ne (tgt := 1714) (dk_at dk_L_law_20 4 rfl) (by decide) (fun c => ?_) (fun c => ?_)
    · replace h := h.1 c
      refine G_goto (tgt := 2023) (dk_at dk_L_law_20 14 rfl) (by decide) ?_
      refine G_sub [2, 3, 4, 5, 6] rfl ?_
      exact h
    · replace h := h.2 c
      refine G_aload_n 5 (dk_at dk_L_law_20 5 rfl) rfl ?_
      refine G_iconst (v := 0) (dk_at dk_L_law_20 6 rfl) (by decide) ?_
      refine K_aL (dk_at dk_L_law_20 7 rfl) h (fun i16 h => ?_)
      refine G_iload 0 (dk_at dk_L_law_20 8 rfl) rfl ?_
      refine G_i2l (dk_at dk_L_law_20 9 rfl) rfl ?_
      refine G_lcmp (dk_at dk_L_law_20 10 rfl) ?_
      refine G_if_eq (tgt := 1714) (dk_at dk_L_law_20 11 rfl) (by decide) (fun c => ?_) (fun c => ?_)
      · replace h := h.1 c
        refine G_goto (tgt := 2023) (dk_at dk_L_law_20 14 rfl) (by decide) ?_
        refine G_sub [2, 3, 4, 5, 6] rfl ?_
        exact h
      · replace h := h.2 c
        refine G_iconst (v := 0) (dk_at dk_L_law_20 12 rfl) (by decide) ?_
        exact G_iret (ty := .boolean) rfl rfl (dk_at dk_L_law_20 13 rfl) h
  · replace h := h.2 c
    refine G_iconst (v := 0) (dk_at dk_L_law_20 1 rfl) (by decide) ?_
    exact G_iret (ty := .boolean) rfl rfl (dk_at dk_L_law_20 2 rfl) h
theorem k_L_law_1717 {l : Launch} {X : XT} {d : Nat} {Q : Ot → AH → Prop} {A : AH} {bc bs : Nat} {v1 : Nat} {v2 : Nat} {v3 : Nat} {v4 : Int32} (h : isO A v1 6 ∧ Cal l X d bc bs M_X5_wrongBytes [.ref v1] A fun o4 A1 b2 c3 => rI o4 (fun E => Q (.inr E) A1) fun i5 => isO A1 v2 7 ∧ Cal l X d b2 c3 M_X6_wrongBytes [.ref v2] A1 fun o9 A6 b7 c8 => rI o9 (fun E => Q (.inr E) A6) fun i10 => (i5 = i10 → G l X M_L_law d Q 2023 [(0, .ref (xb X)), (1, .ref v1), (2, .ref v2), (3, .ref v3), (4, .int v4)] [] A6 b7 c8) ∧ (¬ i5 = i10 → Q (Ri 0) A6)) : G l X M_L_law d Q 1717 [(0, .ref (xb X)), (1, .ref v1), (2, .ref v2), (3, .ref v3), (4, .int v4)] [] A bc bs := by
  refine G_aload_n 1 (dk_at dk_L_law_20 15 rfl) rfl ?_
  obtain ⟨⟨_, ho⟩, h⟩ := h
  refine G_callV (As := []) (rest := []) lk_L_195 rfl (dk_at dk_L_law_20 16 rfl) rfl rfl (Nat.le_of_ble_eq_true rfl) ho (h.mono fun o4 A1 b2 c3 h => aftI h fun i5 h => ?_)
  refine G_aload_n 2 (dk_at dk_L_law_20 17 rfl) rfl ?_
  obtain ⟨⟨_, ho⟩, h⟩ := h
  refine G_callV (As := []) (rest := [.int i5]) lk_L_198 rfl (dk_at dk_L_law_20 18 rfl) rfl rfl (Nat.le_of_ble_eq_true rfl) ho (h.mono fun o9 A6 b7 c8 h => aftI h fun i10 h => ?_)
  refine G_icmp_eq (tgt := 2023) (dk_at dk_L_law_20 19 rfl) (by decide) (fun c => ?_) (fun c => ?_)
  · replace h := h.1 c
    exact h
  · replace h := h.2 c
    refine G_iconst (v := 0) (dk_at dk_L_law_20 20 rfl) (by decide) ?_
    exact G_iret (ty := .boolean) rfl rfl (dk_at dk_L_law_20 21 rfl) h
theorem k_L_law_1730 {l : Launch} {X : XT} {d : Nat} {Q : Ot → AH → Prop} {A : AH} {bc bs : Nat} {v1 : Nat} {v2 : Nat} {v3 : Nat} {v4 : Int32} (h : isO A v1 6 ∧ Cal l X d bc bs M_X5_differingParts [.ref v1] A fun o4 A1 b2 c3 => rI o4 (fun E => Q (.inr E) A1) fun i5 => isO A1 v2 7 ∧ Cal l X d b2 c3 M_X6_differingParts [.ref v2] A1 fun o9 A6 b7 c8 => rI o9 (fun E => Q (.inr E) A6) fun i10 => (i5 = i10 → G l X M_L_law d Q 2023 [(0, .ref (xb X)), (1, .ref v1), (2, .ref v2), (3, .ref v3), (4, .int v4)] [] A6 b7 c8) ∧ (¬ i5 = i10 → Q (Ri 0) A6)) : G l X M_L_law d Q 1730 [(0, .ref (xb X)), (1, .ref v1), (2, .ref v2), (3, .ref v3), (4, .int v4)] [] A bc bs := by
  refine G_aload_n 1 (dk_at dk_L_law_20 22 rfl) rfl ?_
  obtain ⟨⟨_, ho⟩, h⟩ := h
  refine G_callV (As := []) (rest := []) lk_L_199 rfl (dk_at dk_L_law_20 23 rfl) rfl rfl (Nat.le_of_ble_eq_true rfl) ho (h.mono fun o4 A1 b2 c3 h => aftI h fun i5 h => ?_)
  refine G_aload_n 2 (dk_at dk_L_law_20 24 rfl) rfl ?_
  obtain ⟨⟨_, ho⟩, h⟩ := h
  refine G_callV (As := []) (rest := [.int i5]) lk_L_202 rfl (dk_at dk_L_law_20 25 rfl) rfl rfl (Nat.le_of_ble_eq_true rfl) ho (h.mono fun o9 A6 b7 c8 h => aftI h fun i10 h => ?_)
  refine G_icmp_eq (tgt := 2023) (dk_at dk_L_law_20 26 rfl) (by decide) (fun c => ?_) (fun c => ?_)
  · replace h := h.1 c
    exact h
  · replace h := h.2 c
    refine G_iconst (v := 0) (dk_at dk_L_law_20 27 rfl) (by decide) ?_
    exact G_iret (ty := .boolean) rfl rfl (dk_at dk_L_law_20 28 rfl) h
theorem k_L_law_1743 {l : Launch} {X : XT} {d : Nat} {Q : Ot → AH → Prop} {A : AH} {bc bs : Nat} {v1 : Nat} {v2 : Nat} {v3 : Nat} {v4 : Int32} (h : isO A v1 6 ∧ Cal l X d bc bs M_X5_progress [.ref v1] A fun o4 A1 b2 c3 => rF o4 (fun E => Q (.inr E) A1) fun x5 => vf_n64 (FP.f2d x5) ∧ isO A1 v2 7 ∧ Cal l X d b2 c3 M_X6_progress [.ref v2] A1 fun o9 A6 b7 c8 => rF o9 (fun E => Q (.inr E) A6) fun x10 => vf_n64 (FP.f2d x10) ∧ ((Op.cmpValue (FP.dcmp (FP.f2d x5) (FP.f2d x10)) CmpOp.l) = 0 → G l X M_L_law d Q 2023 [(0, .ref (xb X)), (1, .ref v1), (2, .ref v2), (3, .ref v3), (4, .int v4)] [] A6 b7 c8) ∧ (¬ (Op.cmpValue (FP.dcmp (FP.f2d x5) (FP.f2d x10)) CmpOp.l) = 0 → ((Op.cmpValue (FP.dcmp (FP.f2d x5) (FP.f2d x5)) CmpOp.l) = 0 → Q (Ri 0) A6) ∧ (¬ (Op.cmpValue (FP.dcmp (FP.f2d x5) (FP.f2d x5)) CmpOp.l) = 0 → (¬ (Op.cmpValue (FP.dcmp (FP.f2d x10) (FP.f2d x10)) CmpOp.l) = 0 → G l X M_L_law d Q 2023 [(0, .ref (xb X)), (1, .ref v1), (2, .ref v2), (3, .ref v3), (4, .int v4)] [] A6 b7 c8) ∧ ((Op.cmpValue (FP.dcmp (FP.f2d x10) (FP.f2d x10)) CmpOp.l) = 0 → Q (Ri 0) A6)))) : G l X M_L_law d Q 1743 [(0, .ref (xb X)), (1, .ref v1), (2, .ref v2), (3, .ref v3), (4, .int v4)] [] A bc bs := by
  refine G_aload_n 1 (dk_at dk_L_law_20 29 rfl) rfl ?_
  obtain ⟨⟨_, ho⟩, h⟩ := h
  refine G_callV (As := []) (rest := []) lk_L_203 rfl (dk_at dk_L_law_20 30 rfl) rfl rfl (Nat.le_of_ble_eq_true rfl) ho (h.mono fun o4 A1 b2 c3 h => aftF h fun x5 h => ?_)
  obtain ⟨h0, h⟩ := h
  refine G_f2d (dk_at dk_L_law_20 31 rfl) h0 ?_
  refine G_dstore (lv' := [(5, .double (FP.f2d x5)), (0, .ref (xb X)), (1, .ref v1), (2, .ref v2), (3, .ref v3), (4, .int v4)]) (dk_at dk_L_law_20 32 rfl) (by decide) rfl ?_
  refine G_aload_n 3 (dk_at dk_L_law_20 33 rfl) rfl ?_
  obtain ⟨⟨_, ho⟩, h⟩ := h
  refine G_callV (As := []) (rest := []) lk_L_207 rfl (dk_at dk_L_law_20 34 rfl) rfl rfl (Nat.le_of_ble_eq_true rfl) ho (h.mono fun o9 A6 b7 c8 h => aftF h fun x10 h => ?_)
  obtain ⟨h0, h⟩ := h
  refine G_f2d (dk_at dk_L_law_20 35 rfl) h0 ?_
  refine G_dstore (lv' := [(7, .double (FP.f2d x10)), (5, .double (FP.f2d x5)), (0, .ref (xb X)), (1, .ref v1), (2, .ref v2), (3, .ref v3), (4, .int v4)]) (dk_at dk_L_law_20 36 rfl) (by decide) rfl ?_
  refine G_dload 1 (dk_at dk_L_law_20 37 rfl) rfl ?_
  refine G_dload 0 (dk_at dk_L_law_20 38 rfl) rfl ?_
  refine G_dcmp (dk_at dk_L_law_20 39 rfl) ?_
  refine G_if_eq (tgt := 1783) (dk_at dk_L_law_20 40 rfl) (by decide) (fun c => ?_) (fun c => ?_)
  · replace h := h.1 c
    refine G_goto (tgt := 2023) (dk_at dk_L_law_21 1 rfl) (by decide) ?_
    refine G_sub [2, 3, 4, 5, 6] rfl ?_
    exact h
  · replace h := h.2 c
    refine G_dload 1 (dk_at dk_L_law_20 41 rfl) rfl ?_
    refine G_dload 1 (dk_at dk_L_law_20 42 rfl) rfl ?_
    refine G_dcmp (dk_at dk_L_law_20 43 rfl) ?_
    refine G_if_eq (tgt := 1781) (dk_at dk_L_law_20 44 rfl) (by decide) (fun c => ?_) (fun c => ?_)
    · replace h := h.1 c
      refine G_iconst (v := 0) (dk_at dk_L_law_20 49 rfl) (by decide) ?_
      exact G_iret (ty := .boolean) rfl rfl (dk_at dk_L_law_21 0 rfl) h
    · replace h := h.2 c
      refine G_dload 0 (dk_at dk_L_law_20 45 rfl) rfl ?_
      refine G_dload 0 (dk_at dk_L_law_20 46 rfl) rfl ?_
      refine G_dcmp (dk_at dk_L_law_20 47 rfl) ?_
      refine G_if_ne (tgt := 1783) (dk_at dk_L_law_20 48 rfl) (by decide) (fun c => ?_) (fun c => ?_)
      · replace h := h.1 c
        refine G_goto (tgt := 2023) (dk_at dk_L_law_21 1 rfl) (by decide) ?_
        refine G_sub [2, 3, 4, 5, 6] rfl ?_
        exact h
      · replace h := h.2 c
        refine G_iconst (v := 0) (dk_at dk_L_law_20 49 rfl) (by decide) ?_
        exact G_iret (ty := .boolean) rfl rfl (dk_at dk_L_law_21 0 rfl) h
theorem k_L_law_1786 {l : Launch} {X : XT} {d : Nat} {Q : Ot → AH → Prop} {A : AH} {bc bs : Nat} {v1 : Nat} {v2 : Nat} {v3 : Nat} {v4 : Int32} (h : vp_in (v4 + 1) (xL X) ∧ vp_in (v4 + 2) (xL X) ∧ Cal l X d bc bs M_L_event [.ref v1, .int (xs X (v4 + 1).toNatClampNeg), .int (xs X (v4 + 2).toNatClampNeg), .ref v3] A fun o4 A1 b2 c3 => zI o4 fun i5 => vp_in (v4 + 1) (xL X) ∧ vp_in (v4 + 2) (xL X) ∧ isO A1 v2 7 ∧ Cal l X d b2 c3 M_X6_event [.ref v2, .int (xs X (v4 + 1).toNatClampNeg), .int (xs X (v4 + 2).toNatClampNeg)] A1 fun o9 A6 b7 c8 => rI o9 (fun E => Q (.inr E) A6) fun i10 => isO A6 v2 7 ∧ Cal l X d b7 c8 M_X6_thrown [.ref v2] A6 fun o14 A11 b12 c13 => rI o14 (fun E => Q (.inr E) A11) fun i15 => (i15 = i5 → (¬ i5 = 0 → G l X M_L_law d Q 2023 [(0, .ref (xb X)), (1, .ref v1), (2, .ref v2), (3, .ref v3), (4, .int v4)] [] A11 b12 c13) ∧ (i5 = 0 → aL X A11 v3 0 fun i16 => ((lg_cmp i16 (Int32.toInt64 i10)) = 0 → G l X M_L_law d Q 2023 [(0, .ref (xb X)), (1, .ref v1), (2, .ref v2), (3, .ref v3), (4, .int v4)] [] A11 b12 c13) ∧ (¬ (lg_cmp i16 (Int32.toInt64 i10)) = 0 → Q (Ri 0) A11))) ∧ (¬ i15 = i5 → Q (Ri 0) A11)) : G l X M_L_law d Q 1786 [(0, .ref (xb X)), (1, .ref v1), (2, .ref v2), (3, .ref v3), (4, .int v4)] [] A bc bs := by
  refine G_aload_n 1 (dk_at dk_L_law_21 2 rfl) rfl ?_
  refine G_aload_n 0 (dk_at dk_L_law_21 3 rfl) rfl ?_
  refine G_iload 4 (dk_at dk_L_law_21 4 rfl) rfl ?_
  refine G_iconst (v := 1) (dk_at dk_L_law_21 5 rfl) (by decide) ?_
  refine G_iadd (dk_at dk_L_law_21 6 rfl) ?_
  obtain ⟨h0, h⟩ := h
  refine G_sld (dk_at dk_L_law_21 7 rfl) h0 ?_
  refine G_aload_n 0 (dk_at dk_L_law_21 8 rfl) rfl ?_
  refine G_iload 4 (dk_at dk_L_law_21 9 rfl) rfl ?_
  refine G_iconst (v := 2) (dk_at dk_L_law_21 10 rfl) (by decide) ?_
  refine G_iadd (dk_at dk_L_law_21 11 rfl) ?_
  obtain ⟨h0, h⟩ := h
  refine G_sld (dk_at dk_L_law_21 12 rfl) h0 ?_
  refine G_aload_n 3 (dk_at dk_L_law_21 13 rfl) rfl ?_
  refine G_callSX (As := [.ref v1, .int (xs X (v4 + 1).toNatClampNeg), .int (xs X (v4 + 2).toNatClampNeg), .ref v3]) (rest := []) lk_L_208 (dk_at dk_L_law_21 14 rfl) rfl rfl (Nat.le_of_ble_eq_true rfl) (h.mono fun o4 A1 b2 c3 h => atfI h fun i5 h => ?_)
  refine G_istore (lv' := [(5, .int i5), (0, .ref (xb X)), (1, .ref v1), (2, .ref v2), (3, .ref v3), (4, .int v4)]) (dk_at dk_L_law_21 15 rfl) (by decide) rfl ?_
  refine G_aload_n 3 (dk_at dk_L_law_21 16 rfl) rfl ?_
  refine G_aload_n 1 (dk_at dk_L_law_21 17 rfl) rfl ?_
  refine G_iload 5 (dk_at dk_L_law_21 18 rfl) rfl ?_
  refine G_iconst (v := 1) (dk_at dk_L_law_21 19 rfl) (by decide) ?_
  refine G_iadd (dk_at dk_L_law_21 20 rfl) ?_
  obtain ⟨h0, h⟩ := h
  refine G_sld (dk_at dk_L_law_21 21 rfl) h0 ?_
  refine G_aload_n 1 (dk_at dk_L_law_21 22 rfl) rfl ?_
  refine G_iload 5 (dk_at dk_L_law_21 23 rfl) rfl ?_
  refine G_iconst (v := 2) (dk_at dk_L_law_21 24 rfl) (by decide) ?_
  refine G_iadd (dk_at dk_L_law_21 25 rfl) ?_
  obtain ⟨h0, h⟩ := h
  refine G_sld (dk_at dk_L_law_21 26 rfl) h0 ?_
  obtain ⟨⟨_, ho⟩, h⟩ := h
  refine G_callV (As := [.int (xs X (v4 + 1).toNatClampNeg), .int (xs X (v4 + 2).toNatClampNeg)]) (rest := []) lk_L_210 rfl (dk_at dk_L_law_21 27 rfl) rfl rfl (Nat.le_of_ble_eq_true rfl) ho (h.mono fun o9 A6 b7 c8 h => aftI h fun i10 h => ?_)
  refine G_istore (lv' := [(6, .int i10), (5, .int i5), (0, .ref (xb X)), (1, .ref v1), (2, .ref v2), (3, .ref v3), (4, .int v4)]) (dk_at dk_L_law_21 28 rfl) (by decide) rfl ?_
  refine G_aload_n 4 (dk_at dk_L_law_21 29 rfl) rfl ?_
  obtain ⟨⟨_, ho⟩, h⟩ := h
  refine G_callV (As := []) (rest := []) lk_L_114 rfl (dk_at dk_L_law_21 30 rfl) rfl rfl (Nat.le_of_ble_eq_true rfl) ho (h.mono fun o14 A11 b12 c13 h => aftI h fun i15 h => ?_)
  refine G_iload 1 (dk_at dk_L_law_21 31 rfl) rfl ?_
  refine G_icmp_eq (tgt := 1834) (dk_at dk_L_law_21 32 rfl) (by decide) (fun c => ?_) (fun c => ?_)
  · replace h := h.1 c
    refine G_iload 1 (dk_at dk_L_law_21 35 rfl) rfl ?_
    refine G_if_ne (tgt := 1851) (dk_at dk_L_law_21 36 rfl) (by decide) (fun c => ?_) (fun c => ?_)
    · replace h := h.1 c
      refine G_goto (tgt := 2023) (dk_at dk_L_law_21 46 rfl) (by decide) ?_
      refine G_sub [2, 3, 4, 5, 6] rfl ?_
      exact h
    · replace h := h.2 c
      refine G_aload_n 5 (dk_at dk_L_law_21 37 rfl) rfl ?_
      refine G_iconst (v := 0) (dk_at dk_L_law_21 38 rfl) (by decide) ?_
      refine K_aL (dk_at dk_L_law_21 39 rfl) h (fun i16 h => ?_)
      refine G_iload 0 (dk_at dk_L_law_21 40 rfl) rfl ?_
      refine G_i2l (dk_at dk_L_law_21 41 rfl) rfl ?_
      refine G_lcmp (dk_at dk_L_law_21 42 rfl) ?_
      refine G_if_eq (tgt := 1851) (dk_at dk_L_law_21 43 rfl) (by decide) (fun c => ?_) (fun c => ?_)
      · replace h := h.1 c
        refine G_goto (tgt := 2023) (dk_at dk_L_law_21 46 rfl) (by decide) ?_
        refine G_sub [2, 3, 4, 5, 6] rfl ?_
        exact h
      · replace h := h.2 c
        refine G_iconst (v := 0) (dk_at dk_L_law_21 44 rfl) (by decide) ?_
        exact G_iret (ty := .boolean) rfl rfl (dk_at dk_L_law_21 45 rfl) h
  · replace h := h.2 c
    refine G_iconst (v := 0) (dk_at dk_L_law_21 33 rfl) (by decide) ?_
    exact G_iret (ty := .boolean) rfl rfl (dk_at dk_L_law_21 34 rfl) h
theorem k_L_law_1854 {l : Launch} {X : XT} {d : Nat} {Q : Ot → AH → Prop} {A : AH} {bc bs : Nat} {v1 : Nat} {v2 : Nat} {v3 : Nat} {v4 : Int32} (h : vp_in (v4 + 1) (xL X) ∧ Cal l X d bc bs M_L_events [.ref v1, .int (xs X (v4 + 1).toNatClampNeg), .ref v3] A fun o4 A1 b2 c3 => zI o4 fun i5 => vp_in (v4 + 1) (xL X) ∧ isO A1 v2 7 ∧ Cal l X d b2 c3 M_X6_events [.ref v2, .int (xs X (v4 + 1).toNatClampNeg)] A1 fun o9 A6 b7 c8 => rI o9 (fun E => Q (.inr E) A6) fun i10 => isO A6 v2 7 ∧ Cal l X d b7 c8 M_X6_thrown [.ref v2] A6 fun o14 A11 b12 c13 => rI o14 (fun E => Q (.inr E) A11) fun i15 => (i15 = i5 → (¬ i5 = 0 → G l X M_L_law d Q 2023 [(0, .ref (xb X)), (1, .ref v1), (2, .ref v2), (3, .ref v3), (4, .int v4)] [] A11 b12 c13) ∧ (i5 = 0 → aL X A11 v3 0 fun i16 => ((lg_cmp i16 (Int32.toInt64 i10)) = 0 → G l X M_L_law d Q 2023 [(0, .ref (xb X)), (1, .ref v1), (2, .ref v2), (3, .ref v3), (4, .int v4)] [] A11 b12 c13) ∧ (¬ (lg_cmp i16 (Int32.toInt64 i10)) = 0 → Q (Ri 0) A11))) ∧ (¬ i15 = i5 → Q (Ri 0) A11)) : G l X M_L_law d Q 1854 [(0, .ref (xb X)), (1, .ref v1), (2, .ref v2), (3, .ref v3), (4, .int v4)] [] A bc bs := by
  refine G_aload_n 1 (dk_at dk_L_law_21 47 rfl) rfl ?_
  refine G_aload_n 0 (dk_at dk_L_law_21 48 rfl) rfl ?_
  refine G_iload 4 (dk_at dk_L_law_21 49 rfl) rfl ?_
  refine G_iconst (v := 1) (dk_at dk_L_law_22 0 rfl) (by decide) ?_
  refine G_iadd (dk_at dk_L_law_22 1 rfl) ?_
  obtain ⟨h0, h⟩ := h
  refine G_sld (dk_at dk_L_law_22 2 rfl) h0 ?_
  refine G_aload_n 3 (dk_at dk_L_law_22 3 rfl) rfl ?_
  refine G_callSX (As := [.ref v1, .int (xs X (v4 + 1).toNatClampNeg), .ref v3]) (rest := []) lk_L_211 (dk_at dk_L_law_22 4 rfl) rfl rfl (Nat.le_of_ble_eq_true rfl) (h.mono fun o4 A1 b2 c3 h => atfI h fun i5 h => ?_)
  refine G_istore (lv' := [(5, .int i5), (0, .ref (xb X)), (1, .ref v1), (2, .ref v2), (3, .ref v3), (4, .int v4)]) (dk_at dk_L_law_22 5 rfl) (by decide) rfl ?_
  refine G_aload_n 3 (dk_at dk_L_law_22 6 rfl) rfl ?_
  refine G_aload_n 1 (dk_at dk_L_law_22 7 rfl) rfl ?_
  refine G_iload 5 (dk_at dk_L_law_22 8 rfl) rfl ?_
  refine G_iconst (v := 1) (dk_at dk_L_law_22 9 rfl) (by decide) ?_
  refine G_iadd (dk_at dk_L_law_22 10 rfl) ?_
  obtain ⟨h0, h⟩ := h
  refine G_sld (dk_at dk_L_law_22 11 rfl) h0 ?_
  obtain ⟨⟨_, ho⟩, h⟩ := h
  refine G_callV (As := [.int (xs X (v4 + 1).toNatClampNeg)]) (rest := []) lk_L_213 rfl (dk_at dk_L_law_22 12 rfl) rfl rfl (Nat.le_of_ble_eq_true rfl) ho (h.mono fun o9 A6 b7 c8 h => aftI h fun i10 h => ?_)
  refine G_istore (lv' := [(6, .int i10), (5, .int i5), (0, .ref (xb X)), (1, .ref v1), (2, .ref v2), (3, .ref v3), (4, .int v4)]) (dk_at dk_L_law_22 13 rfl) (by decide) rfl ?_
  refine G_aload_n 4 (dk_at dk_L_law_22 14 rfl) rfl ?_
  obtain ⟨⟨_, ho⟩, h⟩ := h
  refine G_callV (As := []) (rest := []) lk_L_114 rfl (dk_at dk_L_law_22 15 rfl) rfl rfl (Nat.le_of_ble_eq_true rfl) ho (h.mono fun o14 A11 b12 c13 h => aftI h fun i15 h => ?_)
  refine G_iload 1 (dk_at dk_L_law_22 16 rfl) rfl ?_
  refine G_icmp_eq (tgt := 1890) (dk_at dk_L_law_22 17 rfl) (by decide) (fun c => ?_) (fun c => ?_)
  · replace h := h.1 c
    refine G_iload 1 (dk_at dk_L_law_22 20 rfl) rfl ?_
    refine G_if_ne (tgt := 1907) (dk_at dk_L_law_22 21 rfl) (by decide) (fun c => ?_) (fun c => ?_)
    · replace h := h.1 c
      refine G_goto (tgt := 2023) (dk_at dk_L_law_22 31 rfl) (by decide) ?_
      refine G_sub [2, 3, 4, 5, 6] rfl ?_
      exact h
    · replace h := h.2 c
      refine G_aload_n 5 (dk_at dk_L_law_22 22 rfl) rfl ?_
      refine G_iconst (v := 0) (dk_at dk_L_law_22 23 rfl) (by decide) ?_
      refine K_aL (dk_at dk_L_law_22 24 rfl) h (fun i16 h => ?_)
      refine G_iload 0 (dk_at dk_L_law_22 25 rfl) rfl ?_
      refine G_i2l (dk_at dk_L_law_22 26 rfl) rfl ?_
      refine G_lcmp (dk_at dk_L_law_22 27 rfl) ?_
      refine G_if_eq (tgt := 1907) (dk_at dk_L_law_22 28 rfl) (by decide) (fun c => ?_) (fun c => ?_)
      · replace h := h.1 c
        refine G_goto (tgt := 2023) (dk_at dk_L_law_22 31 rfl) (by decide) ?_
        refine G_sub [2, 3, 4, 5, 6] rfl ?_
        exact h
      · replace h := h.2 c
        refine G_iconst (v := 0) (dk_at dk_L_law_22 29 rfl) (by decide) ?_
        exact G_iret (ty := .boolean) rfl rfl (dk_at dk_L_law_22 30 rfl) h
  · replace h := h.2 c
    refine G_iconst (v := 0) (dk_at dk_L_law_22 18 rfl) (by decide) ?_
    exact G_iret (ty := .boolean) rfl rfl (dk_at dk_L_law_22 19 rfl) h
theorem k_L_law_1910 {l : Launch} {X : XT} {d : Nat} {Q : Ot → AH → Prop} {A : AH} {bc bs : Nat} {v1 : Nat} {v2 : Nat} {v3 : Nat} {v4 : Int32} (h : isO A v1 6 ∧ Cal l X d bc bs M_X5_writeMap [.ref v1] A fun o4 A1 b2 c3 => rI o4 (fun E => Q (.inr E) A1) fun i5 => isO A1 v2 7 ∧ Cal l X d b2 c3 M_X6_writeMap [.ref v2] A1 fun o9 A6 b7 c8 => rI o9 (fun E => Q (.inr E) A6) fun i10 => (i5 = i10 → G l X M_L_law d Q 2023 [(0, .ref (xb X)), (1, .ref v1), (2, .ref v2), (3, .ref v3), (4, .int v4)] [] A6 b7 c8) ∧ (¬ i5 = i10 → Q (Ri 0) A6)) : G l X M_L_law d Q 1910 [(0, .ref (xb X)), (1, .ref v1), (2, .ref v2), (3, .ref v3), (4, .int v4)] [] A bc bs := by
  refine G_aload_n 1 (dk_at dk_L_law_22 32 rfl) rfl ?_
  obtain ⟨⟨_, ho⟩, h⟩ := h
  refine G_callV (As := []) (rest := []) lk_L_214 rfl (dk_at dk_L_law_22 33 rfl) rfl rfl (Nat.le_of_ble_eq_true rfl) ho (h.mono fun o4 A1 b2 c3 h => aftI h fun i5 h => ?_)
  refine G_aload_n 2 (dk_at dk_L_law_22 34 rfl) rfl ?_
  obtain ⟨⟨_, ho⟩, h⟩ := h
  refine G_callV (As := []) (rest := [.int i5]) lk_L_217 rfl (dk_at dk_L_law_22 35 rfl) rfl rfl (Nat.le_of_ble_eq_true rfl) ho (h.mono fun o9 A6 b7 c8 h => aftI h fun i10 h => ?_)
  refine G_icmp_eq (tgt := 2023) (dk_at dk_L_law_22 36 rfl) (by decide) (fun c => ?_) (fun c => ?_)
  · replace h := h.1 c
    exact h
  · replace h := h.2 c
    refine G_iconst (v := 0) (dk_at dk_L_law_22 37 rfl) (by decide) ?_
    exact G_iret (ty := .boolean) rfl rfl (dk_at dk_L_law_22 38 rfl) h
theorem k_L_law_1923 {l : Launch} {X : XT} {d : Nat} {Q : Ot → AH → Prop} {A : AH} {bc bs : Nat} {v1 : Nat} {v2 : Nat} {v3 : Nat} {v4 : Int32} (h : vp_in (v4 + 1) (xL X) ∧ Cal l X d bc bs M_L_writtenByte [.ref v1, .int (xs X (v4 + 1).toNatClampNeg), .ref v3] A fun o4 A1 b2 c3 => zI o4 fun i5 => vp_in (v4 + 1) (xL X) ∧ isO A1 v2 7 ∧ Cal l X d b2 c3 M_X6_writtenByte [.ref v2, .int (xs X (v4 + 1).toNatClampNeg)] A1 fun o9 A6 b7 c8 => rI o9 (fun E => Q (.inr E) A6) fun i10 => isO A6 v2 7 ∧ Cal l X d b7 c8 M_X6_thrown [.ref v2] A6 fun o14 A11 b12 c13 => rI o14 (fun E => Q (.inr E) A11) fun i15 => (i15 = i5 → (¬ i5 = 0 → G l X M_L_law d Q 2023 [(0, .ref (xb X)), (1, .ref v1), (2, .ref v2), (3, .ref v3), (4, .int v4)] [] A11 b12 c13) ∧ (i5 = 0 → aL X A11 v3 0 fun i16 => ((lg_cmp i16 (Int32.toInt64 i10)) = 0 → G l X M_L_law d Q 2023 [(0, .ref (xb X)), (1, .ref v1), (2, .ref v2), (3, .ref v3), (4, .int v4)] [] A11 b12 c13) ∧ (¬ (lg_cmp i16 (Int32.toInt64 i10)) = 0 → Q (Ri 0) A11))) ∧ (¬ i15 = i5 → Q (Ri 0) A11)) : G l X M_L_law d Q 1923 [(0, .ref (xb X)), (1, .ref v1), (2, .ref v2), (3, .ref v3), (4, .int v4)] [] A bc bs := by
  refine G_aload_n 1 (dk_at dk_L_law_22 39 rfl) rfl ?_
  refine G_aload_n 0 (dk_at dk_L_law_22 40 rfl) rfl ?_
  refine G_iload 4 (dk_at dk_L_law_22 41 rfl) rfl ?_
  refine G_iconst (v := 1) (dk_at dk_L_law_22 42 rfl) (by decide) ?_
  refine G_iadd (dk_at dk_L_law_22 43 rfl) ?_
  obtain ⟨h0, h⟩ := h
  refine G_sld (dk_at dk_L_law_22 44 rfl) h0 ?_
  refine G_aload_n 3 (dk_at dk_L_law_22 45 rfl) rfl ?_
  refine G_callSX (As := [.ref v1, .int (xs X (v4 + 1).toNatClampNeg), .ref v3]) (rest := []) lk_L_218 (dk_at dk_L_law_22 46 rfl) rfl rfl (Nat.le_of_ble_eq_true rfl) (h.mono fun o4 A1 b2 c3 h => atfI h fun i5 h => ?_)
  refine G_istore (lv' := [(5, .int i5), (0, .ref (xb X)), (1, .ref v1), (2, .ref v2), (3, .ref v3), (4, .int v4)]) (dk_at dk_L_law_22 47 rfl) (by decide) rfl ?_
  refine G_aload_n 3 (dk_at dk_L_law_22 48 rfl) rfl ?_
  refine G_aload_n 1 (dk_at dk_L_law_22 49 rfl) rfl ?_
  refine G_iload 5 (dk_at dk_L_law_23 0 rfl) rfl ?_
  refine G_iconst (v := 1) (dk_at dk_L_law_23 1 rfl) (by decide) ?_
  refine G_iadd (dk_at dk_L_law_23 2 rfl) ?_
  obtain ⟨h0, h⟩ := h
  refine G_sld (dk_at dk_L_law_23 3 rfl) h0 ?_
  obtain ⟨⟨_, ho⟩, h⟩ := h
  refine G_callV (As := [.int (xs X (v4 + 1).toNatClampNeg)]) (rest := []) lk_L_220 rfl (dk_at dk_L_law_23 4 rfl) rfl rfl (Nat.le_of_ble_eq_true rfl) ho (h.mono fun o9 A6 b7 c8 h => aftI h fun i10 h => ?_)
  refine G_istore (lv' := [(6, .int i10), (5, .int i5), (0, .ref (xb X)), (1, .ref v1), (2, .ref v2), (3, .ref v3), (4, .int v4)]) (dk_at dk_L_law_23 5 rfl) (by decide) rfl ?_
  refine G_aload_n 4 (dk_at dk_L_law_23 6 rfl) rfl ?_
  obtain ⟨⟨_, ho⟩, h⟩ := h
  refine G_callV (As := []) (rest := []) lk_L_114 rfl (dk_at dk_L_law_23 7 rfl) rfl rfl (Nat.le_of_ble_eq_true rfl) ho (h.mono fun o14 A11 b12 c13 h => aftI h fun i15 h => ?_)
  refine G_iload 1 (dk_at dk_L_law_23 8 rfl) rfl ?_
  refine G_icmp_eq (tgt := 1959) (dk_at dk_L_law_23 9 rfl) (by decide) (fun c => ?_) (fun c => ?_)
  · replace h := h.1 c
    refine G_iload 1 (dk_at dk_L_law_23 12 rfl) rfl ?_
    refine G_if_ne (tgt := 1976) (dk_at dk_L_law_23 13 rfl) (by decide) (fun c => ?_) (fun c => ?_)
    · replace h := h.1 c
      refine G_goto (tgt := 2023) (dk_at dk_L_law_23 23 rfl) (by decide) ?_
      refine G_sub [2, 3, 4, 5, 6] rfl ?_
      exact h
    · replace h := h.2 c
      refine G_aload_n 5 (dk_at dk_L_law_23 14 rfl) rfl ?_
      refine G_iconst (v := 0) (dk_at dk_L_law_23 15 rfl) (by decide) ?_
      refine K_aL (dk_at dk_L_law_23 16 rfl) h (fun i16 h => ?_)
      refine G_iload 0 (dk_at dk_L_law_23 17 rfl) rfl ?_
      refine G_i2l (dk_at dk_L_law_23 18 rfl) rfl ?_
      refine G_lcmp (dk_at dk_L_law_23 19 rfl) ?_
      refine G_if_eq (tgt := 1976) (dk_at dk_L_law_23 20 rfl) (by decide) (fun c => ?_) (fun c => ?_)
      · replace h := h.1 c
        refine G_goto (tgt := 2023) (dk_at dk_L_law_23 23 rfl) (by decide) ?_
        refine G_sub [2, 3, 4, 5, 6] rfl ?_
        exact h
      · replace h := h.2 c
        refine G_iconst (v := 0) (dk_at dk_L_law_23 21 rfl) (by decide) ?_
        exact G_iret (ty := .boolean) rfl rfl (dk_at dk_L_law_23 22 rfl) h
  · replace h := h.2 c
    refine G_iconst (v := 0) (dk_at dk_L_law_23 10 rfl) (by decide) ?_
    exact G_iret (ty := .boolean) rfl rfl (dk_at dk_L_law_23 11 rfl) h
theorem k_L_law_1979 {l : Launch} {X : XT} {d : Nat} {Q : Ot → AH → Prop} {A : AH} {bc bs : Nat} {v1 : Nat} {v2 : Nat} {v3 : Nat} {v4 : Int32} (h : Cal l X d bc bs M_L_undo [.ref v1, .ref v3] A fun o4 A1 b2 c3 => zI o4 fun i5 => isO A1 v2 7 ∧ Cal l X d b2 c3 M_X6_undo [.ref v2] A1 fun o9 A6 b7 c8 => rI o9 (fun E => Q (.inr E) A6) fun i10 => isO A6 v2 7 ∧ Cal l X d b7 c8 M_X6_thrown [.ref v2] A6 fun o14 A11 b12 c13 => rI o14 (fun E => Q (.inr E) A11) fun i15 => (i15 = i5 → (¬ i5 = 0 → G l X M_L_law d Q 2023 [(0, .ref (xb X)), (1, .ref v1), (2, .ref v2), (3, .ref v3), (4, .int v4)] [] A11 b12 c13) ∧ (i5 = 0 → aL X A11 v3 0 fun i16 => ((lg_cmp i16 (Int32.toInt64 i10)) = 0 → G l X M_L_law d Q 2023 [(0, .ref (xb X)), (1, .ref v1), (2, .ref v2), (3, .ref v3), (4, .int v4)] [] A11 b12 c13) ∧ (¬ (lg_cmp i16 (Int32.toInt64 i10)) = 0 → Q (Ri 0) A11))) ∧ (¬ i15 = i5 → Q (Ri 0) A11)) : G l X M_L_law d Q 1979 [(0, .ref (xb X)), (1, .ref v1), (2, .ref v2), (3, .ref v3), (4, .int v4)] [] A bc bs := by
  refine G_aload_n 1 (dk_at dk_L_law_23 24 rfl) rfl ?_
  refine G_aload_n 3 (dk_at dk_L_law_23 25 rfl) rfl ?_
  refine G_callSX (As := [.ref v1, .ref v3]) (rest := []) lk_L_221 (dk_at dk_L_law_23 26 rfl) rfl rfl (Nat.le_of_ble_eq_true rfl) (h.mono fun o4 A1 b2 c3 h => atfI h fun i5 h => ?_)
  refine G_istore (lv' := [(5, .int i5), (0, .ref (xb X)), (1, .ref v1), (2, .ref v2), (3, .ref v3), (4, .int v4)]) (dk_at dk_L_law_23 27 rfl) (by decide) rfl ?_
  refine G_aload_n 3 (dk_at dk_L_law_23 28 rfl) rfl ?_
  obtain ⟨⟨_, ho⟩, h⟩ := h
  refine G_callV (As := []) (rest := []) lk_L_224 rfl (dk_at dk_L_law_23 29 rfl) rfl rfl (Nat.le_of_ble_eq_true rfl) ho (h.mono fun o9 A6 b7 c8 h => aftI h fun i10 h => ?_)
  refine G_istore (lv' := [(6, .int i10), (5, .int i5), (0, .ref (xb X)), (1, .ref v1), (2, .ref v2), (3, .ref v3), (4, .int v4)]) (dk_at dk_L_law_23 30 rfl) (by decide) rfl ?_
  refine G_aload_n 4 (dk_at dk_L_law_23 31 rfl) rfl ?_
  obtain ⟨⟨_, ho⟩, h⟩ := h
  refine G_callV (As := []) (rest := []) lk_L_114 rfl (dk_at dk_L_law_23 32 rfl) rfl rfl (Nat.le_of_ble_eq_true rfl) ho (h.mono fun o14 A11 b12 c13 h => aftI h fun i15 h => ?_)
  refine G_iload 1 (dk_at dk_L_law_23 33 rfl) rfl ?_
  refine G_icmp_eq (tgt := 2003) (dk_at dk_L_law_23 34 rfl) (by decide) (fun c => ?_) (fun c => ?_)
  · replace h := h.1 c
    refine G_iload 1 (dk_at dk_L_law_23 37 rfl) rfl ?_
    refine G_if_ne (tgt := 2020) (dk_at dk_L_law_23 38 rfl) (by decide) (fun c => ?_) (fun c => ?_)
    · replace h := h.1 c
      refine G_goto (tgt := 2023) (dk_at dk_L_law_23 48 rfl) (by decide) ?_
      refine G_sub [2, 3, 4, 5, 6] rfl ?_
      exact h
    · replace h := h.2 c
      refine G_aload_n 5 (dk_at dk_L_law_23 39 rfl) rfl ?_
      refine G_iconst (v := 0) (dk_at dk_L_law_23 40 rfl) (by decide) ?_
      refine K_aL (dk_at dk_L_law_23 41 rfl) h (fun i16 h => ?_)
      refine G_iload 0 (dk_at dk_L_law_23 42 rfl) rfl ?_
      refine G_i2l (dk_at dk_L_law_23 43 rfl) rfl ?_
      refine G_lcmp (dk_at dk_L_law_23 44 rfl) ?_
      refine G_if_eq (tgt := 2020) (dk_at dk_L_law_23 45 rfl) (by decide) (fun c => ?_) (fun c => ?_)
      · replace h := h.1 c
        refine G_goto (tgt := 2023) (dk_at dk_L_law_23 48 rfl) (by decide) ?_
        refine G_sub [2, 3, 4, 5, 6] rfl ?_
        exact h
      · replace h := h.2 c
        refine G_iconst (v := 0) (dk_at dk_L_law_23 46 rfl) (by decide) ?_
        exact G_iret (ty := .boolean) rfl rfl (dk_at dk_L_law_23 47 rfl) h
  · replace h := h.2 c
    refine G_iconst (v := 0) (dk_at dk_L_law_23 35 rfl) (by decide) ?_
    exact G_iret (ty := .boolean) rfl rfl (dk_at dk_L_law_23 36 rfl) h
theorem k_L_law_2023 {l : Launch} {X : XT} {d : Nat} {Q : Ot → AH → Prop} {A : AH} {bc bs : Nat} {v1 : Nat} {v2 : Nat} {v3 : Nat} {v4 : Int32} (h : G l X M_L_law d Q 23 [(0, .ref (xb X)), (1, .ref v1), (2, .ref v2), (3, .ref v3), (4, .int (v4 + 6))] [] A bc bs) : G l X M_L_law d Q 2023 [(0, .ref (xb X)), (1, .ref v1), (2, .ref v2), (3, .ref v3), (4, .int v4)] [] A bc bs := by
  refine G_iinc (v := v4 + 6) (lv' := [(4, .int (v4 + 6)), (0, .ref (xb X)), (1, .ref v1), (2, .ref v2), (3, .ref v3)]) 4 (dk_at dk_L_law_23 49 rfl) rfl rfl (by decide) rfl ?_
  refine G_goto (tgt := 23) (dk_at dk_L_law_24 0 rfl) (by decide) ?_
  refine G_sub [1, 2, 3, 4, 0] rfl ?_
  exact h
