section IKS
variable {s : State}
theorem arr_prim {args : Array Value} {ty : FieldType} (hp : ∀ C, ty ≠ .object C) (h : (Cond.arrayClass ty).before args s = true) : ∃ c : ClassId, ArrOfT s c ty ∧ va_RA s c ty := by
  obtain ⟨c, k, comp, h1, h2, h3⟩ := Cond.arrayClass_spec h
  refine ⟨c, fun n z => ⟨(fun k h => by cases h), k, h2, comp, h3⟩, ?_⟩
  cases ty with
  | object C => exact absurd rfl (hp C)
  | _ => exact h1
theorem arr_ref {args : Array Value} {C : String} (h : (Cond.arrayOver (.object C)).before args s = true) : ∃ c : ClassId, ArrOfT s c (.object C) ∧ va_RA s c (.object C) := by
  obtain ⟨comp, c, k, h1, h2, h3, h4, h5⟩ := Cond.arrayOver_spec h
  exact ⟨c, fun n z => ⟨(fun k h => by cases h), k, h3, comp, h4⟩, k, comp, h3, h4, h1, h5⟩
theorem NL_of {args : Array Value} {w : Cond} (h : isNest w = true) (hs : w.before args s = true) : w.before #[] s = true := by
  cases w <;> first | exact va_Nw.of rfl hs | (simp [isNest] at h)
theorem strs {args : Array Value} {A : Nat → Prop} (hs : ∀ w ∈ flatC gvC, w.before args s = true) (hA : ∀ a : Nat, a < s.heap.size → ¬ A a) (i : Nat) : ∃ q : Nat × Nat, (i < 21 → (sT i).eval args s none [] s = some (.ref q.1)) ∧ (i < 12 → va_O "java/lang/String" q.1 A s s.heap ∧ va_OF "java/lang/String" "coder" "B" (.int 0) q.1 A s s.heap ∧ va_OF "java/lang/String" "value" "[B" (.ref q.2) q.1 A s s.heap ∧ va_T .byte q.2 (sLen.getD i 0) (fun j => .int ((sByt.getD i []).getD j 0)) A s s.heap) := by
  by_cases h20 : i < 21
  · obtain ⟨a, c, cA, kA, q1, q2, q3, q4, q5, q6, -⟩ := Cond.exactly_spec (args := args) (first := s) (o := none) (s := s) (idx := []) (t := sT i) (cls := "java/lang/String") (hs _ (fl_ex i h20))
    by_cases h12 : i < 12
    · obtain ⟨t, ht, hT⟩ := va_Tof (f := fun j => .int ((sByt.getD i []).getD j 0)) (A := A) (sl_b i h12) (hs _ (fl_ar i h12)) (va_eqt (hs _ (fl_le i h12))) (fun j hj => va_eqt (hs _ (fl_el i h12 j hj))) hA
      exact ⟨(a, t), fun _ => q1, fun _ => ⟨⟨cA, q3, q5, by rw [q6]; exact q2, hA a (Array.getElem?_eq_some_iff.mp q3).1⟩, vk_OFof q1 (va_eqt (hs _ (fl_co i h12))) hA, vk_OFof q1 ht hA, hT⟩⟩
    · exact ⟨(a, 0), fun _ => q1, fun h => absurd h h12⟩
  · exact ⟨(0, 0), fun h => absurd h h20, fun h => absurd h (by omega)⟩
theorem cls_one {args : Array Value} (hts : ∀ w ∈ lw_tbl, w.before args s = true) (k : Nat) : ∃ p : ClassId × (Nat → Nat), ∀ q : vw_C, vwCl[k]? = some q → u_Kn s q.1 q.2.1 q.2.2 p.1 p.2 := by
  have one : ∀ (C : String) (T : u_T) (N : Nat), (C, T, N) ∈ vwCl → (∀ w ∈ u_ws C T N, w ∈ AL) → vwCl[k]? = some (C, T, N) → ∃ p : ClassId × (Nat → Nat), ∀ q : vw_C, vwCl[k]? = some q → u_Kn s q.1 q.2.1 q.2.2 p.1 p.2 := by
    intro C T N h1 h2 h3
    obtain ⟨cC, iS, h⟩ := u_known hts (fun w hw => (List.mem_filter.mp (h2 w hw)).1) (hts _ (tb_cl _ h1))
    refine ⟨(cC, iS), fun q hq => ?_⟩
    cases Option.some.inj (h3.symm.trans hq)
    exact h
  match k with
  | 0 => exact one _ _ _ (List.mem_of_getElem? (i := 0) rfl) uw_0 rfl
  | 1 => exact one _ _ _ (List.mem_of_getElem? (i := 1) rfl) uw_1 rfl
  | 2 => exact one _ _ _ (List.mem_of_getElem? (i := 2) rfl) uw_2 rfl
  | 3 => exact one _ _ _ (List.mem_of_getElem? (i := 3) rfl) uw_3 rfl
  | 4 => exact one _ _ _ (List.mem_of_getElem? (i := 4) rfl) uw_4 rfl
  | 5 => exact one _ _ _ (List.mem_of_getElem? (i := 5) rfl) uw_5 rfl
  | 6 => exact one _ _ _ (List.mem_of_getElem? (i := 6) rfl) uw_6 rfl
  | 7 => exact one _ _ _ (List.mem_of_getElem? (i := 7) rfl) uw_7 rfl
  | n + 8 => exact ⟨(0, fun _ => 0), fun q hq => by cases hq⟩
theorem ik_start {b L : Nat} {xs0 : Nat → Int32} (hts : ∀ w ∈ lw_tbl, w.before #[Value.ref b] s = true) (hX : va_X b L xs0 s s.heap) (hgv : gvC.before #[Value.ref b] s = true) : ∃ X : XT, xH X = s.heap ∧ xb X = b ∧ xL X = L ∧ xs X = xs0 ∧ xE X < s.heap.size ∧ WK X (xE X) s.heap ∧ IK X s := by
  have hs := flat_of_before _ hgv
  have hA : ∀ a : Nat, a < s.heap.size → ¬ (fun q : Nat => s.heap.size ≤ q) a := fun a h => Nat.not_le.mpr h
  obtain ⟨c0, a0, r0⟩ := arr_prim (ty := .int) (fun _ h => nomatch h) (hts _ tb_ar.1)
  obtain ⟨c1, a1, r1⟩ := arr_prim (ty := .boolean) (fun _ h => nomatch h) (hts _ tb_ar.2.1)
  obtain ⟨c2, a2, r2⟩ := arr_prim (ty := .long) (fun _ h => nomatch h) (hts _ tb_ar.2.2.1)
  obtain ⟨c3, a3, r3⟩ := arr_ref (hts _ tb_ar.2.2.2.1)
  obtain ⟨c4, a4, r4⟩ := arr_ref (hts _ tb_ar.2.2.2.2)
  obtain ⟨D, hD⟩ := Classical.axiomOfChoice (cls_one hts)
  obtain ⟨ad, had⟩ := Classical.axiomOfChoice (strs hs hA)
  obtain ⟨eA, hE, hET⟩ := va_Tof (N := 0) (f := fun _ => .null) (A := fun q : Nat => s.heap.size ≤ q) (by decide) (hs _ fl_E.1) (va_eqt (hs _ fl_E.2.2)) (fun j hj => absurd hj (Nat.not_lt_zero j)) hA
  obtain ⟨a9, c9, cell9, k9, q1, q2, q3, q4, q5, q6, -⟩ := Cond.exactly_spec (args := #[Value.ref b]) (first := s) (o := none) (s := s) (idx := []) (t := tE) (cls := "[Ljava/lang/Object;") (hs _ fl_E.2.1)
  cases hE.symm.trans q1
  obtain ⟨cellT, t1, t2, t3, t4, t5, -⟩ := hET
  cases t1.symm.trans q3
  obtain ⟨kA, comp, z1, z2, z3, z4⟩ := id r4
  have hc : c4 = c9 := Option.some.inj (z4.symm.trans q2)
  refine ⟨(s.heap, (fun k => (D k).1, fun k => (D k).2), (fun k => if k = 0 then c0 else if k = 1 then c1 else if k = 2 then c2 else if k = 3 then c3 else c4), eA, fun i => (ad i).1, fun i => (ad i).2, b, L, xs0), rfl, rfl, rfl, rfl, (Array.getElem?_eq_some_iff.mp q3).1, ⟨cell9, q3, q6.trans hc.symm, t5, t3, t2.1⟩, ?_⟩
  refine ⟨fun w hw => word_at (State.WarmedH.refl s) (good_of_word (List.mem_filter.mp hw).2) (hts w (List.mem_filter.mp hw).1), fun w hw => NL_of (List.mem_filter.mp hw).2 (hts w (List.mem_append_right _ (List.mem_filter.mp hw).1)), ⟨fun k q hq => hD k q hq, fun k q hq => ?_⟩, va_Zof (hts _ tb_st.1) (hts _ tb_st.2.1) hE hA, vx_Zqof (hts _ tb_st.2.2.1) (hts _ tb_st.2.2.2.2.1) (hs _ fl_th.1) hA, vx_Zqof (hts _ tb_st.2.2.2.1) (hts _ tb_st.2.2.2.2.1) (hs _ fl_th.2) hA, fun i q hq => ?_, va_AO.of (hts _ tb_ar.2.2.2.1), va_AO.of (hts _ tb_ar.2.2.2.2), ⟨va_Zof (hts _ tb_st.2.2.2.2.2.1) (hts _ tb_st.2.2.2.2.2.2.1) (va_eqi (hs _ fl_s.1)) hA, va_Zqof (hts _ tb_st.2.2.2.2.2.2.2.1) (hts _ tb_st.2.2.2.2.2.2.2.2) (hs _ fl_s.2) hA, fun i hi => (had i).2 hi⟩, fun q hq => va_Nc.of (hs _ (fl_nc q hq)), hX⟩
  · match k, hq with
    | 0, hq => cases hq; exact ⟨a0, r0⟩
    | 1, hq => cases hq; exact ⟨a1, r1⟩
    | 2, hq => cases hq; exact ⟨a2, r2⟩
    | 3, hq => cases hq; exact ⟨a3, r3⟩
    | 4, hq => cases hq; exact ⟨a4, r4⟩
    | n + 5, hq => cases hq
  · have hi : i < 21 := (List.getElem?_eq_some_iff.mp hq).1
    have e : sQ i = q := by
      show sTab.getD i _ = q
      rw [List.getD_eq_getElem?_getD, hq]
      rfl
    subst e
    exact vk_R.of (hts _ (tb_sr i hi)) ((had i).1 hi)
end IKS
