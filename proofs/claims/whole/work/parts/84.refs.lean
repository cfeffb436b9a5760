/-! the reference's methods, one by one, as the law sees them -/
section RG2
variable {l : Launch} {X : XT} {o : Nat} {S : Nat → Int → Int} {e : Int}
theorem r_count (hl : l.stackTraces = false) (ri : RI S e) (he : e + 8000000 ≤ 2000000000) {k : Int} (hk : sm k) : REF l X o 5 M_X6_count [.int (I k)] S (bi (¬ (0 ≤ k ∧ k ≤ 11))) (fCount (S 0) k (gIn (S 0) 1) (gIn (S 0) 2) (gMs (S 0))) S (e + 3500000) :=
  REF.fn ri (by omega) (by omega) (fun h => bi_v h) (fun B => c_X6_count hl ri.1 hk)
theorem r_source (hl : l.stackTraces = false) (ri : RI S e) (he : e + 8000000 ≤ 2000000000) {s k : Int} (hs : sm s) (hk : sm k) : REF l X o 4 M_X6_source [.int (I s), .int (I k)] S (tr2 (0 ≤ s ∧ s ≤ 1) (0 ≤ k ∧ k ≤ 4)) (fSource (S 0) s k (gFr (S 0) s)) S (e + 3500000) :=
  REF.fn ri (by omega) (by omega) (fun h => tr2_v h) (fun B => c_X6_source hl ri.1 hs hk)
theorem r_sent (hl : l.stackTraces = false) (ri : RI S e) (he : e + 8000000 ≤ 2000000000) {s k : Int} (hs : sm s) (hk : sm k) : REF l X o 2 M_X6_sent [.int (I s), .int (I k)] S (bi (¬ ((0 ≤ s ∧ s ≤ 1) ∧ 0 ≤ k ∧ k ≤ S 0 0 - 1))) (gB (S 0) s k) S (e + 3500000) :=
  REF.fn ri (by omega) (by omega) (fun h => bi_v h) (fun B => c_X6_sent hl ri.1 hs hk)
theorem r_got (hl : l.stackTraces = false) (ri : RI S e) (he : e + 8000000 ≤ 2000000000) {k : Int} (hk : sm k) : REF l X o 3 M_X6_got [.int (I k)] S (bi (¬ (0 ≤ k ∧ k ≤ S 0 0 - 1))) (if S 0 (96 + gAt (S 0) k) = 0 then -1 else S 0 (336 + k)) S (e + 3500000) :=
  REF.fn ri (by omega) (by omega) (fun h => bi_v h) (fun B => c_X6_got hl ri.1 hk)
theorem r_piece (hl : l.stackTraces = false) (ri : RI S e) (he : e + 8000000 ≤ 2000000000) {s k : Int} (hs : sm s) (hk : sm k) : REF l X o 4 M_X6_piece [.int (I s), .int (I k)] S (tr2 (0 ≤ s ∧ s ≤ gN (S 0) - 1) (0 ≤ k ∧ k ≤ 6)) (fPiece (S 0) s k) S (e + 3500000) :=
  REF.fn ri (by omega) (by omega) (fun h => tr2_v h) (fun B => c_X6_piece hl ri.1 hs hk)
theorem r_part (hl : l.stackTraces = false) (ri : RI S e) (he : e + 8000000 ≤ 2000000000) {s k : Int} (hs : sm s) (hk : sm k) : REF l X o 5 M_X6_part [.int (I s), .int (I k)] S (tr2 (0 ≤ s ∧ s ≤ gT (S 0) - 1) (0 ≤ k ∧ k ≤ 4)) (fPart (S 0) s k) S (e + 3500000) :=
  REF.fn ri (by omega) (by omega) (fun h => tr2_v h) (fun B => c_X6_part hl ri.1 hs hk)
theorem r_checksum (hl : l.stackTraces = false) (ri : RI S e) (he : e + 8000000 ≤ 2000000000) {s x n : Int} (hs : sm s) (hx : sm x) (hn : sm n) : REF l X o 2 M_X6_checksum [.int (I s), .int (I x), .int (I n)] S (tr2 ((0 ≤ s ∧ s ≤ 1) ∧ 0 ≤ x ∧ x ≤ S 0 0 - 1) (1 ≤ n ∧ n ≤ S 0 0 - x)) (gS (S 0) s x n) S (e + 3500000) :=
  REF.fn ri (by omega) (by omega) (fun h => tr2_v h) (fun B => c_X6_checksum hl ri.1 hs hx hn)
theorem r_event (hl : l.stackTraces = false) (ri : RI S e) (he : e + 8000000 ≤ 2000000000) {s k : Int} (hs : sm s) (hk : sm k) : REF l X o 1 M_X6_event [.int (I s), .int (I k)] S (tr2 (0 ≤ s ∧ s ≤ gK (S 0) - 1) (0 ≤ k ∧ k ≤ 2)) (gEv (S 0) s k) S (e + 3500000) :=
  REF.fn ri (by omega) (by omega) (fun h => tr2_v h) (fun B => c_X6_event hl ri.1 hs hk)
theorem r_events (hl : l.stackTraces = false) (ri : RI S e) (he : e + 8000000 ≤ 2000000000) {k : Int} (hk : sm k) : REF l X o 1 M_X6_events [.int (I k)] S (bi (¬ (0 ≤ k ∧ k ≤ 8))) (gEvs (S 0) k) S (e + 3500000) :=
  REF.fn ri (by omega) (by omega) (fun h => bi_v h) (fun B => c_X6_events hl ri.1 hk)
theorem r_errorPosition (hl : l.stackTraces = false) (ri : RI S e) (he : e + 8000000 ≤ 2000000000) : REF l X o 0 M_X6_errorPosition [] S 0 (S 9 15) S (e + 3500000) :=
  REF.fn ri (by omega) (by omega) (fun _ => rfl) (fun B => c_X6_errorPosition hl)
theorem r_wrongBytes (hl : l.stackTraces = false) (ri : RI S e) (he : e + 8000000 ≤ 2000000000) : REF l X o 5 M_X6_wrongBytes [] S 0 (gWb (S 0)) S (e + 3500000) :=
  REF.fn ri (by omega) (by omega) (fun _ => rfl) (fun B => c_X6_wrongBytes hl ri.1)
theorem r_differingParts (hl : l.stackTraces = false) (ri : RI S e) (he : e + 8000000 ≤ 2000000000) : REF l X o 5 M_X6_differingParts [] S 0 (gDf (S 0)) S (e + 3500000) :=
  REF.fn ri (by omega) (by omega) (fun _ => rfl) (fun B => c_X6_differingParts hl ri.1)
theorem r_named (hl : l.stackTraces = false) (ri : RI S e) (he : e + 8000000 ≤ 2000000000) {k : Int} (hk : sm k) : REF l X o 1 M_X6_named [.int (I k)] S (bi (fNm (S 0) k (S 0 9).toNat = -1)) (fNm (S 0) k (S 0 9).toNat) S (e + 3500000) :=
  REF.fn ri (by omega) (by omega) (fun h => if_neg (fun q => by rw [bi_t q] at h; exact absurd h (by decide))) (fun B => c_X6_named hl ri.1 hk)
theorem r_sized (hl : l.stackTraces = false) (ri : RI S e) (he : e + 8000000 ≤ 2000000000) {k : Int} (hk : sm k) : REF l X o 1 M_X6_sized [.int (I k)] S (bi (fSz (S 0) k (S 0 9).toNat (-1) = -1)) (fSz (S 0) k (S 0 9).toNat (-1)) S (e + 3500000) :=
  REF.fn ri (by omega) (by omega) (fun h => if_neg (fun q => by rw [bi_t q] at h; exact absurd h (by decide))) (fun B => c_X6_sized hl ri.1 hk)
theorem r_partial (hl : l.stackTraces = false) (ri : RI S e) (he : e + 8000000 ≤ 2000000000) {s k : Int} (hs : sm s) (hk : sm k) : REF l X o 3 M_X6_partial [.int (I s), .int (I k)] S (tr2 (0 ≤ s ∧ s ≤ S 0 9 - 1) (0 ≤ k ∧ k ≤ 4)) (fPar (S 0) s k) S (e + 3500000) :=
  REF.fn ri (by omega) (by omega) (fun h => tr2_v h) (fun B => c_X6_partial hl ri.1 hs hk)
theorem r_writtenByte (hl : l.stackTraces = false) (ri : RI S e) (he : e + 8000000 ≤ 2000000000) {k : Int} (hk : sm k) : REF l X o 1 M_X6_writtenByte [.int (I k)] S (bi (¬ (0 ≤ k ∧ k ≤ S 9 23 - 1))) (S 8 k) S (e + 3500000) :=
  REF.fn ri (by omega) (by omega) (fun h => bi_v h) (fun B => c_X6_writtenByte hl ri.2.2.2.2.2 hk)
theorem r_queriesFor (hl : l.stackTraces = false) (ri : RI S e) (he : e + 8000000 ≤ 2000000000) {k : Int} (hk : sm k) : REF l X o 6 M_X6_queriesFor [.int (I k)] S (tQue (S 0) k) (lk0 (S 0) k).2 S (e + 3500000) := by
  intro B
  refine (c_X6_queriesFor hl ri.1 hk).mono ?_
  rintro o1 A1 ⟨rfl, S', rfl, h0, h1⟩
  refine REF.of (CG_5.tr (CG_se h1 ?_)) (ri.up (by omega) (by omega)) ?_ (fun hn => by rw [if_pos hn])
  · rw [h0, st_row (by decide)]
    exact EQ_rf
  · rw [h1.2 5 (by decide) (by decide) (by decide), st_eq]
theorem r_connect (hl : l.stackTraces = false) (ri : RI S e) (he : e + 8000000 ≤ 2000000000) {s v : Int} (hs : sm s) (hv : 0 ≤ v ∧ v ≤ 1) : REF l X o 2 M_X6_connect [.int (I s), .int (I v)] S (tCon (S 0) s v) (bi (S 0 (14 + s) = 1)) (if tCon (S 0) s v = 0 then sr (kS S) (rs (S 0) (14 + s) v) else S) (e + 3500000) :=
  REF.mu ri (by omega) (by omega) (fun h => if_pos h) (fun h => by
    have hs01 : 0 ≤ s ∧ s ≤ 1 := by
      by_cases q : 0 ≤ s ∧ s ≤ 1
      · exact q
      · unfold tCon at h
        rw [if_neg q] at h
        exact absurd h (by decide)
    exact RW_e (RW_set ri.1 (by omega) (by omega) (by omega) (by omega) (by omega) (by omega) (by omega) (by omega) (by omega) (by omega) (by omega) (by omega)) (by omega) (by omega)) (fun B => c_X6_connect hl ri.1 ri.2.1 hs hv)
theorem r_fetch (hl : l.stackTraces = false) (ri : RI S e) (he : e + 8000000 ≤ 2000000000) {s k : Int} (hs : sm s) (hk : sm k) : REF l X o 6 M_X6_fetch [.int (I s), .int (I k)] S (tFet (S 0) s k) (rFe s (gF (S 0) k) (gPo (S 0) k).toNat 0 (S 0)).2 (if tFet (S 0) s k = 0 then sr (kS S) (rFe s (gF (S 0) k) (gPo (S 0) k).toNat 0 (S 0)).1 else S) (e + 3500000) :=
  REF.mu ri (by omega) (by omega) (fun h => if_pos h) (fun h => by
    obtain ⟨⟨h1, h2⟩, h3⟩ := tr2_z h
    have hk1 : k < gN (S 0) := by omega
    obtain ⟨o1, o2, -⟩ := gPo_b ri.1.1 h2.1 hk1
    obtain ⟨e1, e2, -⟩ := gE_b ri.1.1
    exact RW_e (rFe_w h1 (gPo (S 0) k).toNat 0 (S 0) e ri.1 (by omega) (by omega) h2.1 hk1 (by omega) rfl).1 (by omega) (by omega)) (fun B => c_X6_fetch hl ri.1 (by omega) ri.2.1 hs hk)
theorem r_search (hl : l.stackTraces = false) (ri : RI S e) (he : e + 8000000 ≤ 2000000000) {k : Int} (hk : sm k) : REF l X o 7 M_X6_search [.int (I k)] S (tSea (S 0) k) (lk0 (S 0) k).2 (if tSea (S 0) k = 0 then sr (kS S) (rSe (S 0) k) else S) (e + 3500000) :=
  REF.se ri (by omega) (by omega) (fun h => if_pos h) (fun h => by
    obtain ⟨h2, h3⟩ := tr2_z h
    exact RW_e (rSe_w ri.1 (by omega) h2.1 (by omega) h3.1).1 (by omega) (by omega)) (fun B => c_X6_search hl ri.1 (by omega) ri.2.1 hk)
theorem r_drop (hl : l.stackTraces = false) (ri : RI S e) (he : e + 8000000 ≤ 2000000000) {k : Int} (hk : sm k) : REF l X o 4 M_X6_drop [.int (I k)] S (tr2 (0 ≤ k ∧ k ≤ gT (S 0) - 1) (¬ S 0 (96 + k) = 0)) (S 0 (96 + k) - 1) (if tr2 (0 ≤ k ∧ k ≤ gT (S 0) - 1) (¬ S 0 (96 + k) = 0) = 0 then sr (kS S) (rs (S 0) (96 + k) 0) else S) (e + 3500000) :=
  REF.mu ri (by omega) (by omega) (fun h => if_pos h) (fun h => by
    obtain ⟨h2, h3⟩ := tr2_z h
    obtain ⟨t1, t2⟩ := gT_b ri.1.1
    have lg := ri.1.1.2.1
    exact RW_e (lose_w ri.1 h2.1 (by omega)) (by omega) (by omega)) (fun B => c_X6_drop hl ri.1 ri.2.1 hk)
theorem r_run (hl : l.stackTraces = false) (ri : RI S e) (he : e + 8000000 ≤ 2000000000) {k : Int} (hk : sm k) : REF l X o 9 M_X6_run [.int (I k)] S (if 1 ≤ k ∧ k ≤ 300 then 0 else 1) (rRun k.toNat (S 0) 0).2 (if (if 1 ≤ k ∧ k ≤ 300 then (0 : Int) else 1) = 0 then sr (kS S) (rRun k.toNat (S 0) 0).1 else S) (e + 3500000) := by
  by_cases hc : 1 ≤ k ∧ k ≤ 300
  · refine REF.se ri (by omega) (by omega) (v' := (rRun k.toNat (S 0) 0).2) (fun h => rfl) (fun h => RW_e (rRun_w k.toNat (S 0) 0 e ri.1 (by omega)).1 (by omega) (by omega)) (fun B => ?_)
    have hh := c_X6_run (X := X) (o := o) (B := B) hl ri.1 (by omega) ri.2.1 hk
    rw [if_pos hc, if_pos hc, if_pos hc] at hh
    rw [if_pos hc, if_pos rfl, if_pos rfl]
    exact hh
  · refine REF.se ri (by omega) (by omega) (v' := 0) (fun h => by rw [if_neg hc] at h; exact absurd h (by decide)) (fun h => by rw [if_neg hc] at h; exact absurd h (by decide)) (fun B => ?_)
    have hh := c_X6_run (X := X) (o := o) (B := B) hl ri.1 (by omega) ri.2.1 hk
    rw [if_neg hc, if_neg hc, if_neg hc] at hh
    rw [if_neg hc, if_neg (by decide), if_neg (by decide)]
    exact hh
theorem r_keep (hl : l.stackTraces = false) (ri : RI S e) (he : e + 8000000 ≤ 2000000000) {k : Int} (hk : sm k) : REF l X o 4 M_X6_keep [.int (I k)] S (tKee (S 0) k) (gKl (S 0)) (if tKee (S 0) k = 0 then sr (kS S) (rKeep (S 0) k) else S) (e + 3500000) :=
  REF.mu ri (by omega) (by omega) (fun h => if_pos h) (fun h => RW_e (rK_w ri.1 (by omega) h).2.2 (by omega) (by omega)) (fun B => c_X6_keep hl ri.1 (by omega) ri.2.1 hk)
theorem r_resume (hl : l.stackTraces = false) (ri : RI S e) (he : e + 8000000 ≤ 2000000000) {k : Int} (hk : sm k) : REF l X o 5 M_X6_resume [.int (I k)] S (tRes (S 0) k) (gIn (rRes (S 0) k) 1) (if tRes (S 0) k = 0 then sr (kS S) (rRes (S 0) k) else S) (e + 3500000) :=
  REF.mu ri (by omega) (by omega) (fun h => if_pos h) (fun h => by
    obtain ⟨h2, h3⟩ := tr2_z h
    exact RW_e (rRes_w ri.1 (by omega) h2.1 (by omega)).2.2 (by omega) (by omega)) (fun B => c_X6_resume hl ri.1 (by omega) ri.2.1 hk)
theorem r_rename (hl : l.stackTraces = false) (ri : RI S e) (he : e + 8000000 ≤ 2000000000) {s k : Int} (hs : sm s) (hk : sm k) : REF l X o 2 M_X6_rename [.int (I s), .int (I k)] S (tRen (S 0) s k) (S 0 (696 + 242 * s)) (if tRen (S 0) s k = 0 then sr (kS S) (rs (S 0) (696 + 242 * s) k) else S) (e + 3500000) :=
  REF.mu ri (by omega) (by omega) (fun h => if_pos h) (fun h => by
    obtain ⟨h2, h3⟩ := tr2_z h
    have c3 := ri.1.2.2.2.1
    exact RW_e (RW_set ri.1 (by omega) (by omega) (by omega) (by omega) (by omega) (by omega) (by omega) (by omega) (by omega) (by omega) (by omega) (by omega)) (by omega) (by omega)) (fun B => c_X6_rename hl ri.1 ri.2.1 hs hk)
theorem r_spoil (hl : l.stackTraces = false) (ri : RI S e) (he : e + 8000000 ≤ 2000000000) {s x v : Int} (hs : sm s) (hx : sm x) (hv : sm v) : REF l X o 2 M_X6_spoil [.int (I s), .int (I x), .int (I v)] S (tSpo (S 0) s x v) (rSpo (S 0) s x v (696 + 242 * s + 2 + x)) (if tSpo (S 0) s x v = 0 then sr (kS S) (rSpo (S 0) s x v) else S) (e + 3500000) :=
  REF.mu ri (by omega) (by omega) (fun h => if_pos h) (fun h => by
    obtain ⟨⟨h1, h2⟩, h3⟩ := tr2_z h
    have c3 := ri.1.2.2.2.1
    have f7 := ri.1.2.2.2.2.2.2.2.2.2.2.2.2.1 s h1.1 (by omega)
    unfold rSpo
    exact RW_e (RW_set ri.1 (by omega) (by omega) (by omega) (by omega) (by omega) (by omega) (by omega) (by omega) (by omega) (by omega) (by omega) (by omega)) (by omega) (by omega)) (fun B => c_X6_spoil hl ri.1 ri.2.1 hs hx hv)
theorem r_discard (hl : l.stackTraces = false) (ri : RI S e) (he : e + 8000000 ≤ 2000000000) {k : Int} (hk : sm k) : REF l X o 2 M_X6_discard [.int (I k)] S (if 0 ≤ k ∧ k ≤ S 0 9 - 1 then 0 else 1) (rGo (S 0) k 9) (if (if 0 ≤ k ∧ k ≤ S 0 9 - 1 then (0 : Int) else 1) = 0 then sr (kS S) (rGo (S 0) k) else S) (e + 3500000) := by
  by_cases hc : 0 ≤ k ∧ k ≤ S 0 9 - 1
  · refine REF.mu ri (by omega) (by omega) (v' := rGo (S 0) k 9) (fun h => rfl) (fun h => RW_e (rGo_w ri.1 hc.1 (by omega)) (by omega) (by omega)) (fun B => ?_)
    have hh := c_X6_discard (X := X) (o := o) (B := B) hl ri.1 ri.2.1 hk
    rw [if_pos hc, if_pos hc] at hh
    rw [if_pos hc, if_pos rfl]
    exact hh
  · refine REF.mu ri (by omega) (by omega) (v' := 0) (fun h => by rw [if_neg hc] at h; exact absurd h (by decide)) (fun h => by rw [if_neg hc] at h; exact absurd h (by decide)) (fun B => ?_)
    have hh := c_X6_discard (X := X) (o := o) (B := B) hl ri.1 ri.2.1 hk
    rw [if_neg hc, if_neg hc] at hh
    rw [if_neg hc, if_neg (by decide)]
    exact hh
theorem r_append (hl : l.stackTraces = false) (ri : RI S e) (he : e + 8000000 ≤ 2000000000) {v1 v2 v3 v4 v5 : Int32} : REF l X o 0 M_X6_append [.int v1, .int v2, .int v3, .int v4, .int v5] S (if S 9 7 + 20 ≤ 400 then 0 else 1) (S 9 7 + 20) (if (if S 9 7 + 20 ≤ 400 then (0 : Int) else 1) = 0 then apC S (apB v1 v2 v3 v4 v5) else S) (e + 3500000) := by
  intro B
  have c7 := ri.2.2.2.1
  refine (c_X6_append hl c7).mono ?_
  rintro o1 A1 ⟨rfl, rfl⟩
  by_cases hc : S 9 7 + 20 ≤ 400
  · rw [if_pos hc, if_pos hc, if_pos hc, if_pos rfl]
    have aj : ∀ j : Nat, j ≠ 4 → j ≠ 9 → apC S (apB v1 v2 v3 v4 v5) j = S j := fun j h4 h9 => by
      unfold apC
      rw [st_row h9, sw_j h4]
    have ak : ∀ y : Int, y ≠ 7 → apC S (apB v1 v2 v3 v4 v5) 9 y = S 9 y := fun y h7 => by
      unfold apC
      rw [st_k h7, sw_j (by decide)]
    have a7 : apC S (apB v1 v2 v3 v4 v5) 9 7 = S 9 7 + 20 := by
      unfold apC
      rw [st_eq]
    have a4 : apC S (apB v1 v2 v3 v4 v5) 4 = cpy (S 4) (apB v1 v2 v3 v4 v5) 0 (S 9 7) 20 := by
      unfold apC
      rw [st_row (by decide), sw_i]
    have bj : ∀ j : Nat, j ≠ 4 → j ≠ 9 → apS S (apB v1 v2 v3 v4 v5) 20 j = S j := fun j h4 h9 => by
      unfold apS
      rw [st_row h9, sw_j h4, st_row h9]
    have bk : ∀ y : Int, y ≠ 7 → y ≠ 5 → apS S (apB v1 v2 v3 v4 v5) 20 9 y = S 9 y := fun y h7 h5 => by
      unfold apS
      rw [st_k h7, sw_j (by decide), st_k h5]
    have b7 : apS S (apB v1 v2 v3 v4 v5) 20 9 7 = S 9 7 + 20 := by
      unfold apS
      rw [st_eq]
    have b4 : apS S (apB v1 v2 v3 v4 v5) 20 4 = cpy (S 4) (apB v1 v2 v3 v4 v5) 0 (S 9 7) 20 := by
      unfold apS
      rw [st_row (by decide), sw_i]
    have b5 : apS S (apB v1 v2 v3 v4 v5) 20 9 5 = 0 := by
      unfold apS
      rw [st_k (by decide), sw_j (by decide), st_eq]
    obtain ⟨x1, x2, x3, x4, x5, x6⟩ := ri.up (e' := e + 3500000) (by omega) (by omega)
    refine REF.of ⟨?_, ?_, ?_, ?_, ?_, ?_, ?_, ?_⟩ ⟨?_, ?_, ?_, ?_, ?_, ?_⟩ b5 (fun _ => rfl)
    · rw [aj 0 (by decide) (by decide), bj 0 (by decide) (by decide)]
      exact EQ_rf
    · rw [aj 3 (by decide) (by decide), bj 3 (by decide) (by decide)]
    · rw [a4, b4]
    · rw [aj 8 (by decide) (by decide), bj 8 (by decide) (by decide)]
    · rw [ak 4 (by decide), bk 4 (by decide) (by decide)]
    · rw [a7, b7]
    · rw [ak 15 (by decide), bk 15 (by decide) (by decide)]
    · rw [ak 23 (by decide), bk 23 (by decide) (by decide)]
    · rw [aj 0 (by decide) (by decide)]
      exact x1
    · rw [ak 4 (by decide)]
      exact x2
    · rw [ak 4 (by decide), aj 3 (by decide) (by decide)]
      exact x3
    · rw [a7]
      omega
    · rw [a4]
      intro k k0 k1
      unfold cpy
      split
      · exact gBy_b
      · exact x5 k k0 k1
    · rw [ak 23 (by decide)]
      exact x6
  · rw [if_neg hc, if_neg hc, if_neg hc, if_neg (by decide)]
    exact REF.of CG_5 (ri.up (by omega) (by omega)) st_eq (fun h => absurd h (by decide))
theorem kSX_3 {pos : Int} : kS (ldX S pos) 3 = kS S 3 := by
  rw [kS_3, kS_3]
  have e0 : ldX S pos 0 = S 0 := ldX_j (by decide)
  have e3 : ldX S pos 3 = S 3 := ldX_j (by decide)
  have e94 : ldX S pos 9 4 = S 9 4 := ldX_k (by decide) (by decide)
  unfold kT kM
  rw [e0, e3, e94]
theorem kSX_94 {pos : Int} : kS (ldX S pos) 9 4 = kS S 9 4 := by
  rw [kS_94, kS_94]
  unfold kM
  rw [ldX_k (by decide) (by decide)]
theorem r_load (hl : l.stackTraces = false) (ri : RI S e) (he : e + 8000000 ≤ 2000000000) {k : Int} (hk : sm k) : REF l X o 6 M_X6_load [.int (I k)] S (if 0 ≤ k ∧ k ≤ S 9 7 then 0 else 1) (if ldE S k = 0 then gT (pLd S k).1 else ldE S k) (if (if 0 ≤ k ∧ k ≤ S 9 7 then (0 : Int) else 1) = 0 then ldC S k else S) (e + 3500000) := by
  intro B
  refine (c_X6_load hl ri.1 ri.2.1 ri.2.2.2.1 ri.2.2.2.2.1 hk).mono ?_
  rintro o1 A1 ⟨rfl, S', rfl, h1⟩
  by_cases hc : 0 ≤ k ∧ k ≤ S 9 7
  · rw [if_pos hc] at h1
    rw [if_pos hc, if_pos hc, if_pos rfl]
    obtain ⟨y4, y8, y5, y7, y23, y15, y0⟩ := h1
    have hp : S' 9 15 = ldP S k := y15
    by_cases hz : ldE S k = 0
    · have hz' : (pLd S k).2.2.2.2.2.1 = 0 := hz
      rw [if_pos hz'] at y0
      obtain ⟨z0, z3, z94⟩ := y0
      have wr := (pLd_w (S := S) (k := k) hc.1).2.2 hz'
      unfold ldC
      rw [if_pos hz, if_pos hz, if_pos hz']
      refine REF.of ⟨z0, ?_, ?_, ?_, ?_, ?_, ?_, ?_⟩ ((RI.up (e := e) (e' := e + 3500000) ri.text.keep (by omega) (by omega)).row (RW_e wr (by have := ri.1.2.2.2.2.2.2.2.2.2.2.2.2.2.2.1; omega) (by omega))) y5 (fun _ => rfl)
      · exact z3.trans kSX_3.symm
      · show S' 4 = kS (ldX S (ldP S k)) 4
        rw [y4, kS_j (by decide) (by decide), ldX_j (by decide)]
      · show S' 8 = kS (ldX S (ldP S k)) 8
        rw [y8, kS_j (by decide) (by decide), ldX_j (by decide)]
      · exact z94.trans kSX_94.symm
      · show S' 9 7 = kS (ldX S (ldP S k)) 9 7
        rw [y7, kS_9 (by decide), ldX_7]
      · show S' 9 15 = kS (ldX S (ldP S k)) 9 15
        rw [hp, kS_9 (by decide), ldX_15]
      · show S' 9 23 = kS (ldX S (ldP S k)) 9 23
        rw [y23, kS_9 (by decide), ldX_k (by decide) (by decide)]
    · have hz' : ¬ (pLd S k).2.2.2.2.2.1 = 0 := hz
      rw [if_neg hz'] at y0
      obtain ⟨z0, z3, z94⟩ := y0
      unfold ldC
      rw [if_neg hz, if_neg hz, if_neg hz']
      refine REF.of ⟨?_, ?_, ?_, ?_, ?_, ?_, ?_, ?_⟩ (RI.up (e := e) (e' := e + 3500000) ri.text (by omega) (by omega)) y5 (fun _ => rfl)
      · rw [z0, ldX_j (by decide)]
        exact EQ_rf
      · rw [z3, ldX_j (by decide)]
      · rw [y4, ldX_j (by decide)]
      · rw [y8, ldX_j (by decide)]
      · rw [z94, ldX_k (by decide) (by decide)]
      · rw [y7, ldX_7]
      · rw [hp, ldX_15]
      · rw [y23, ldX_k (by decide) (by decide)]
  · rw [if_neg hc] at h1
    rw [if_neg hc, if_neg hc, if_neg (show ¬ ((1 : Int) = 0) by decide), h1]
    exact REF.of CG_5 (ri.up (by omega) (by omega)) st_eq (fun h => absurd h (by decide))
theorem r_ticksLeft (hl : l.stackTraces = false) (ri : RI S e) (he : e + 8000000 ≤ 2000000000) : REF l X o 9 M_X6_ticksLeft [] S 0 (fTl (S 0)) S (e + 3500000) := by
  intro B
  refine (c_X6_ticksLeft hl ri.1 he).mono ?_
  rintro o1 A1 ⟨rfl, S', rfl, h0, h1, h2⟩
  have s9 : ∀ y : Int, y ≠ 5 → y ≠ 19 → y ≠ 20 → y ≠ 21 → S' 9 y = S 9 y := fun y y5 a b c => by rw [h2 y a b c, st_k y5]
  have sj : ∀ j : Nat, (j = 1 ∨ j = 3 ∨ j = 4 ∨ j = 8) → j ≠ 9 → S' j = S j := fun j hj h9 => by rw [h1 j hj, st_row h9]
  refine REF.of ⟨h0, sj 3 (by omega) (by decide), sj 4 (by omega) (by decide), sj 8 (by omega) (by decide), s9 4 (by decide) (by decide) (by decide) (by decide), s9 7 (by decide) (by decide) (by decide) (by decide), s9 15 (by decide) (by decide) (by decide) (by decide), s9 23 (by decide) (by decide) (by decide) (by decide)⟩ (ri.up (by omega) (by omega)) ?_ (fun _ => rfl)
  rw [h2 5 (by decide) (by decide) (by decide), st_eq]
theorem r_writeMap (hl : l.stackTraces = false) (ri : RI S e) (he : e + 8000000 ≤ 2000000000) : REF l X o 5 M_X6_writeMap [] S 0 (gN (S 0)) (sw (st S 9 23 (gN (S 0))) 8 (wRow (S 8) (S 0) (gN (S 0)))) (e + 3500000) := by
  intro B
  obtain ⟨n1, n2, -⟩ := gN_b ri.1.1
  refine (c_X6_writeMap hl ri.1).mono ?_
  rintro o1 A1 ⟨rfl, rfl⟩
  have aj : ∀ j : Nat, j ≠ 8 → j ≠ 9 → (sw (st S 9 23 (gN (S 0))) 8 (wRow (S 8) (S 0) (gN (S 0)))) j = S j := fun j h8 h9 => by rw [sw_j h8, st_row h9]
  have ak : ∀ y : Int, y ≠ 23 → (sw (st S 9 23 (gN (S 0))) 8 (wRow (S 8) (S 0) (gN (S 0)))) 9 y = S 9 y := fun y h7 => by rw [sw_j (by decide), st_k h7]
  have a23 : (sw (st S 9 23 (gN (S 0))) 8 (wRow (S 8) (S 0) (gN (S 0)))) 9 23 = gN (S 0) := by rw [sw_j (by decide), st_eq]
  have bj : ∀ j : Nat, j ≠ 8 → j ≠ 9 → (sw (st (st S 9 5 0) 9 23 (gN (S 0))) 8 (wRow (S 8) (S 0) (gN (S 0)))) j = S j := fun j h8 h9 => by rw [sw_j h8, st_row h9, st_row h9]
  have bk : ∀ y : Int, y ≠ 23 → y ≠ 5 → (sw (st (st S 9 5 0) 9 23 (gN (S 0))) 8 (wRow (S 8) (S 0) (gN (S 0)))) 9 y = S 9 y := fun y h7 h5 => by rw [sw_j (by decide), st_k h7, st_k h5]
  have b23 : (sw (st (st S 9 5 0) 9 23 (gN (S 0))) 8 (wRow (S 8) (S 0) (gN (S 0)))) 9 23 = gN (S 0) := by rw [sw_j (by decide), st_eq]
  obtain ⟨x1, x2, x3, x4, x5, x6⟩ := ri.up (e' := e + 3500000) (by omega) (by omega)
  refine REF.of ⟨?_, ?_, ?_, ?_, ?_, ?_, ?_, ?_⟩ ⟨?_, ?_, ?_, ?_, ?_, ?_⟩ ?_ (fun _ => rfl)
  · rw [aj 0 (by decide) (by decide), bj 0 (by decide) (by decide)]
    exact EQ_rf
  · rw [aj 3 (by decide) (by decide), bj 3 (by decide) (by decide)]
  · rw [aj 4 (by decide) (by decide), bj 4 (by decide) (by decide)]
  · rw [sw_i, sw_i]
  · rw [ak 4 (by decide), bk 4 (by decide) (by decide)]
  · rw [ak 7 (by decide), bk 7 (by decide) (by decide)]
  · rw [ak 15 (by decide), bk 15 (by decide) (by decide)]
  · rw [a23, b23]
  · rw [aj 0 (by decide) (by decide)]
    exact x1
  · rw [ak 4 (by decide)]
    exact x2
  · rw [ak 4 (by decide), aj 3 (by decide) (by decide)]
    exact x3
  · rw [ak 7 (by decide)]
    exact x4
  · rw [aj 4 (by decide) (by decide)]
    exact x5
  · rw [a23]
    omega
  · rw [sw_j (by decide), st_k (by decide), st_eq]
theorem r_undo (hl : l.stackTraces = false) (ri : RI S e) (he : e + 8000000 ≤ 2000000000) : REF l X o 1 M_X6_undo [] S (if S 9 4 = 0 then 1 else 0) (S 9 4 - 1) (if (if S 9 4 = 0 then (1 : Int) else 0) = 0 then uC S else S) (e + 3500000) := by
  intro B
  have c4 := ri.2.1
  refine (c_X6_undo hl c4).mono ?_
  rintro o1 A1 ⟨rfl, rfl⟩
  obtain ⟨x1, x2, x3, x4, x5, x6⟩ := ri.up (e' := e + 3500000) (by omega) (by omega)
  by_cases hc : S 9 4 = 0
  · unfold uS
    rw [if_pos hc, if_pos hc, if_pos hc, if_neg (by decide)]
    exact REF.of CG_5 (ri.up (by omega) (by omega)) st_eq (fun h => absurd h (by decide))
  · unfold uS
    rw [if_neg hc, if_neg hc, if_neg hc, if_pos rfl]
    refine REF.of ⟨?_, ?_, ?_, ?_, ?_, ?_, ?_, ?_⟩ ⟨?_, ?_, ?_, ?_, ?_, ?_⟩ ?_ (fun _ => rfl)
    · intro y y0 y1
      show cpy (S 0) (S 3) (1664 * (S 9 4 - 1)) 0 1664 y = krow (S 3) (S 9 4 - 1) y
      unfold cpy krow
      rw [if_pos (by omega)]
      exact congrArg (S 3) (by omega)
    · rfl
    · rfl
    · rfl
    · show st (st S 9 5 0) 9 4 (S 9 4 - 1) 9 4 = st S 9 4 (S 9 4 - 1) 9 4
      rw [st_eq, st_eq]
    · show st (st S 9 5 0) 9 4 (S 9 4 - 1) 9 7 = st S 9 4 (S 9 4 - 1) 9 7
      rw [st_k (by decide), st_k (by decide), st_k (by decide)]
    · show st (st S 9 5 0) 9 4 (S 9 4 - 1) 9 15 = st S 9 4 (S 9 4 - 1) 9 15
      rw [st_k (by decide), st_k (by decide), st_k (by decide)]
    · show st (st S 9 5 0) 9 4 (S 9 4 - 1) 9 23 = st S 9 4 (S 9 4 - 1) 9 23
      rw [st_k (by decide), st_k (by decide), st_k (by decide)]
    · exact x3 (S 9 4 - 1) (by omega) (by omega)
    · show 0 ≤ st S 9 4 (S 9 4 - 1) 9 4 ∧ st S 9 4 (S 9 4 - 1) 9 4 ≤ 8
      rw [st_eq]
      omega
    · intro i i0 i1
      have i2 : i < st S 9 4 (S 9 4 - 1) 9 4 := i1
      rw [st_eq] at i2
      exact x3 i i0 (by omega)
    · show 0 ≤ st S 9 4 (S 9 4 - 1) 9 7 ∧ st S 9 4 (S 9 4 - 1) 9 7 ≤ 400
      rw [st_k (by decide)]
      exact x4
    · exact x5
    · show 0 ≤ st S 9 4 (S 9 4 - 1) 9 23 ∧ st S 9 4 (S 9 4 - 1) 9 23 ≤ 60
      rw [st_k (by decide)]
      exact x6
    · show st (st S 9 5 0) 9 4 (S 9 4 - 1) 9 5 = 0
      rw [st_k (by decide), st_eq]
end RG2
