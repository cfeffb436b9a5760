/-! the law (laid by wip/whole/gen/mk90.py) -/
section LL
variable {l : Launch} {X : XT} {A : AH} {w : Nat → Nat} {o t u : Nat} {S : Nat → Int → Int}
theorem kI1 : (1 : Int32) = I 1 := I_n 1
theorem kI2 : (2 : Int32) = I 2 := I_n 2
theorem kI3 : (3 : Int32) = I 3 := I_n 3
theorem kI4 : (4 : Int32) = I 4 := I_n 4
theorem kI5 : (5 : Int32) = I 5 := I_n 5
theorem kI6 : (6 : Int32) = I 6 := I_n 6
theorem law_loop (hl : l.stackTraces = false) (hL : xL X ≤ 3072) : ∀ (n j : Nat) (A : AH) (w : Nat → Nat) (S : Nat → Int → Int) (bc bs : Nat), n + j = 513 → LWS X A w o t u S (3500000 * (j : Int)) → 60 * n ≤ bc → 4000 * n ≤ bs → G l X M_L_law 40 (fun o' _ => o' = Ri 1) 23 [(0, .ref (xb X)), (1, .ref t), (2, .ref o), (3, .ref u), (4, .int (I (6 * (j : Int))))] [] A bc bs := by
  obtain ⟨Q, hQ⟩ : ∃ Q : Ot → AH → Prop, Q = (fun o' _ => o' = Ri 1) := ⟨_, rfl⟩
  rw [← hQ]
  intro n
  induction n with
  | zero =>
    intro j A w S bc bs hj hS hb hs
    refine k_L_law_23 ⟨fun _ => by rw [hQ], fun q => ?_⟩
    rw [I_ofNat, kI6, I_sub, I_lt4 (by omega) (by omega) (by omega) (by omega)] at q
    omega
  | succ n ih =>
    intro j A w S bc bs hj hS hb hs
    refine k_L_law_23 ⟨fun _ => by rw [hQ], fun q => ?_⟩
    rw [I_ofNat, kI6, I_sub, I_lt4 (by omega) (by omega) (by omega) (by omega)] at q
    have hi : vp_in (I (6 * (j : Int)) + 1) (xL X) ∧ vp_in (I (6 * (j : Int)) + 2) (xL X) ∧ vp_in (I (6 * (j : Int)) + 3) (xL X) ∧ vp_in (I (6 * (j : Int)) + 4) (xL X) ∧ vp_in (I (6 * (j : Int)) + 5) (xL X) := by
      rw [kI1, kI2, kI3, kI4, kI5, I_add, I_add, I_add, I_add, I_add]
      exact ⟨in_I (by omega) (by omega) (by omega), in_I (by omega) (by omega) (by omega), in_I (by omega) (by omega) (by omega), in_I (by omega) (by omega) (by omega), in_I (by omega) (by omega) (by omega)⟩
    have K : ∀ A' w' S' b c, LWS X A' w' o t u S' (3500000 * (j : Int) + 3500000) → bc - 60 ≤ b → bs - 4000 ≤ c → G l X M_L_law 40 Q 2023 [(0, .ref (xb X)), (1, .ref t), (2, .ref o), (3, .ref u), (4, .int (I (6 * (j : Int))))] [] A' b c := by
      intro A' w' S' b c h1 h2 h3
      refine k_L_law_2023 ?_
      have e1 : I (6 * (j : Int)) + 6 = I (6 * ((j + 1 : Nat) : Int)) := by
        rw [kI6, I_add]
        exact congrArg I (by omega)
      have e2 : 3500000 * ((j + 1 : Nat) : Int) = 3500000 * (j : Int) + 3500000 := by omega
      rw [e1]
      exact ih (j + 1) A' w' S' b c (by omega) (by rw [e2]; exact h1) (by omega) (by omega)
    have he : 3500000 * (j : Int) + 8000000 ≤ 2000000000 := by omega
    have hb1 : 60 ≤ bc := by omega
    have hs1 : 4000 ≤ bs := by omega
    have dflt : LWS X A w o t u S (3500000 * (j : Int) + 3500000) := ⟨hS.1, hS.2.1.up (by omega) (by omega), hS.2.2⟩
    refine ⟨in_I (by omega) (by omega) (by omega), fun _ => law_append hl hS he hi hb1 hs1 K, fun _ => law_load hl hS he hi hb1 hs1 K, fun _ => law_errorPosition hl hS he hi hb1 hs1 K, fun _ => law_count hl hS he hi hb1 hs1 K, fun _ => law_source hl hS he hi hb1 hs1 K, fun _ => law_sent hl hS he hi hb1 hs1 K, fun _ => law_got hl hS he hi hb1 hs1 K, fun _ => law_piece hl hS he hi hb1 hs1 K, fun _ => law_part hl hS he hi hb1 hs1 K, fun _ => law_checksum hl hS he hi hb1 hs1 K, fun _ => law_connect hl hS he hi hb1 hs1 K, fun _ => law_fetch hl hS he hi hb1 hs1 K, fun _ => law_search hl hS he hi hb1 hs1 K, fun _ => law_queriesFor hl hS he hi hb1 hs1 K, fun _ => law_drop hl hS he hi hb1 hs1 K, fun _ => law_run hl hS he hi hb1 hs1 K, fun _ => law_ticksLeft hl hS he hi hb1 hs1 K, fun _ => law_keep hl hS he hi hb1 hs1 K, fun _ => law_resume hl hS he hi hb1 hs1 K, fun _ => law_named hl hS he hi hb1 hs1 K, fun _ => law_sized hl hS he hi hb1 hs1 K, fun _ => law_rename hl hS he hi hb1 hs1 K, fun _ => law_spoil hl hS he hi hb1 hs1 K, fun _ => law_discard hl hS he hi hb1 hs1 K, fun _ => law_partial hl hS he hi hb1 hs1 K, fun _ => law_wrongBytes hl hS he hi hb1 hs1 K, fun _ => law_differingParts hl hS he hi hb1 hs1 K, fun _ => law_progress hl hS he hi hb1 hs1 K, fun _ => law_event hl hS he hi hb1 hs1 K, fun _ => law_events hl hS he hi hb1 hs1 K, fun _ => law_writeMap hl hS he hi hb1 hs1 K, fun _ => law_writtenByte hl hS he hi hb1 hs1 K, fun _ => law_undo hl hS he hi hb1 hs1 K, fun _ _ _ _ _ _ _ _ _ _ _ _ _ _ _ _ _ _ _ _ _ _ _ _ _ _ _ _ _ _ _ _ _ => K A w S bc bs dflt (Nat.sub_le _ _) (Nat.sub_le _ _)⟩
theorem law_G (hl : l.stackTraces = false) (hL : xL X ≤ 3072) (hE0 : xE X < A.1) (hE : A.2 (xE X) = some (ra X 4 0 (fun _ => none))) : G l X M_L_law 40 (fun o' _ => o' = Ri 1) 0 [(0, .ref (xb X))] [] A 601024 7293034 := by
  refine k_L_law_0 ?_
  obtain ⟨t, ht⟩ : ∃ t, t = A.1 := ⟨_, rfl⟩
  refine mk_i (b := t) ht.symm (by decide) (by decide) ?_
  intro C c1 c2 c3
  refine Cal.of (c_X5_init hl c2 c1 ((c3 _ (by omega)).trans hE) (by omega)) (by decide) (by decide) (by decide) ?_
  rintro o1 B ⟨rfl, b1, b2, w', a, hT, b3⟩
  rw [zV_of]
  refine mk_i (b := t + 28) b1 (by decide) (by decide) ?_
  intro C2 d1 d2 d3
  refine Cal.of (c_X6_init hl d2 d1) (by decide) (by decide) (by decide) ?_
  rintro o2 B2 ⟨rfl, e1, e2, e3⟩
  rw [zV_of]
  refine mkA_i (b := t + 38) (n := 1) e1 (by decide) (by decide) (by decide) (by decide) ?_
  intro C3 f1 f2 f3
  obtain ⟨w2, hw⟩ : ∃ w2 : Nat → Nat, w2 = fun b => if t + 28 ≤ b ∧ b ≤ t + 38 then t + 28 + 1 else w' b := ⟨_, rfl⟩
  have w3 : ∀ b, t + 28 ≤ b → b ≤ t + 38 → w2 b = t + 28 + 1 := fun b h0 h1 => by rw [hw]; exact if_pos ⟨h0, h1⟩
  have w4 : ∀ b, b < t + 28 → w2 b = w' b := fun b h0 => by rw [hw]; exact if_neg (by omega)
  have cg : Chg w' w2 (t + 28 + 1) B C3 := ⟨by omega, fun b hb => w4 b (by omega), fun b hb _ => by
    rw [f3 b (by omega), e3 b (by omega), d3 b (by omega)]⟩
  have hT2 := hT.chg cg (by omega) (by omega) (fun d hd => by have := hd.lt; omega)
  have sm : mp X (t + 28) C3 iS = C3 := mp_self e2 (fun b h0 h1 => f3 b (by omega))
  have hLWS : LWS X C3 w2 (t + 28) t (t + 38) iS (3500000 * ((0 : Nat) : Int)) := by
    refine ⟨⟨_, _, _, _, hT2⟩, iS_RI, sm, ⟨⟨by omega, fun b h0 h1 => w3 b h0 (by omega)⟩, ⟨by omega, w3 _ (by omega) (by omega), Or.inr (by omega), _, f2⟩, ?_⟩, by omega⟩
    exact ⟨_, by rw [← sm]; exact mp_o⟩
  exact law_loop hl hL 513 0 C3 w2 iS _ _ rfl hLWS (by decide) (by decide)
end LL
