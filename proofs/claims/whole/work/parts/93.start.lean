/-! THE CLAIM OUT OF ONE WALK OF THE LAW'S BODY. Your part is whole_start (and what it stands on); all else here is the same for every law, but numbers. -/
def R_law : String := "PieceTransferLaw"
def lw_P (b : Addr) (xs : List Int32) (args : Array Value) (s : State) : Prop := args = #[.ref b] ∧ s.IntsAt b xs ∧ xs.length ≤ 3072 ∧ (Jvm.Cond.and given_1 narrow_1).before args s = true
/-- what a walk over the start with the record d0 says of its end, said of the start itself -/
theorem lw_closed {s t : State} {o : Outcome} {d0 : Drawn} {L : List Loc} {k n : Nat} (hd0 : s.drawn.sameBut d0 lw_cs) (hv : ∃ v, o = .returned v) (hW : (s.setDrawn d0).WarmedH t.vm) (hs : (s.setDrawn d0).sameButNew ({ t with vm := s.vm } : State) L k n) : State.butDraws s t lw_cs (fun t1 => Framed s o t1 L k n) := by
  have h2 : t.drawn = d0 := congrArg State.drawn hs.1
  refine ⟨⟨hv, hW, State.sameButNew.setDrawn hs s.drawn⟩, ?_, by decide⟩
  rw [h2]
  exact hd0
def lw_Q (_ : Array Value) (s : State) (o : Outcome) (t : State) : Prop := o = .returned (some (.int 1)) ∧ State.butDraws s t lw_cs (fun t1 => Framed s o t1 [] 601024 7293034)
def lw_Z (below : List Frame) (a : Array Value) (s : State) : State → Prop := fun t => ∃ o, t.status = .running ∧ Ended t below o ∧ lw_Q a s o t
/-- the law's own end, with 1 on the stack, nothing written that was there before, its room as the claim has it; d0: the record of draws at this point (at the entry s.drawn: begin with 'refine W.base ?_' and 'have hd0 := Drawn.sameBut.refl s.drawn lw_cs') -/
theorem lw_ret {p : Program} {l : Launch} {e : Env} {s : State} {m : MethodId} {below : List Frame} {meth : Method} {c : Code} {b : Nat} {d0 : Drawn} (hd0 : s.drawn.sameBut d0 lw_cs) (hx : p.tables.exec = Jvm.exec) (hb : c.code = code) (hr : meth.sig.returnType = ret) (hlocks : meth.locks = false) {pc : Nat} {H : Heap} {ls : Array Slot} (hdg : decode code pc = .ok (.ireturn, 1)) : W p l e room_1 (s.setDrawn d0) m #[Value.ref b] below meth c H [] 601024 7293034 (lw_Z below #[Value.ref b] s) (F0 m pc ls [.int 1]) := by
  intro T hT X
  obtain ⟨fs, hret, hrun, hended, hW, hframe⟩ := X.leave (v := some (.int 1)) (hlocks := hlocks) (fun h => by rw [hr] at h; cases h)
  have hmeth' : T.vm.method? m = some meth := X.method'
  refine ⟨T.setFrames fs, ?_, .returned (some (.int 1)), hrun, hended, rfl, lw_closed hd0 ⟨_, rfl⟩ hW hframe⟩
  jvm_step X.here [X.here.top, hx, hb, hdg, hmeth', hr, ret, narrow_b1]
  (try refine ⟨rfl, ?_⟩); (try refine ⟨rfl, ?_⟩)
  first | (intro acts; rw [hret _ acts rfl rfl rfl]) | rw [hret _ _ rfl rfl rfl]
  exact Steps.refl _
/-- what holds at the law's entry: the machine, the code, the tables' words (any of lw_tbl by 'hts w (by decide +kernel)'), the script of L ints xs at the cell b, what the Statement gives of the start (any of its parts by flat_of_before) -/
def lw_At (p : Program) (s : State) (m : MethodId) (meth : Method) (c : Code) (b L : Nat) (xs : Nat → Int32) : Prop :=
  p.tables.exec = Jvm.exec ∧ c.code = code ∧ meth.sig.returnType = ret ∧ c.maxLocals = 9 ∧ s.vm.findClass R_law = some m.cls ∧ (∀ w ∈ lw_tbl, w.before #[Value.ref b] s = true) ∧ va_X b L xs s s.heap ∧ b < s.heap.size ∧ meth.locks = false ∧ (Jvm.Cond.and given_1 narrow_1).before #[Value.ref b] s = true ∧ meth.name = x.name ∧ c.exceptionTable.toList = []
theorem sbn_nil {s s' : State} {L : List Loc} {k n : Nat} (h : s.sameButNew s' L k n) (hL : ∀ q ∈ L, s.heap.size ≤ q.base) : s.sameButNew s' [] k n := by
  obtain ⟨h1, h2, h3, h4, h5, h6⟩ := h
  refine ⟨h1, h2, h3, h4, h5, fun a c hc => ?_⟩
  obtain ⟨c', k1, k2, k3, k4⟩ := h6 a c hc
  refine ⟨c', k1, k2, k3, fun i _ => k4 i fun hm => ?_⟩
  exact absurd (hL _ hm) (Nat.not_le.mpr (Array.getElem?_eq_some_iff.mp hc).1)
/-- the walk of the law, from its entry -/
theorem whole_start {p : Program} {e : Env} {s : State} {m : MethodId} {below : List Frame} {meth : Method} {c : Code} (l : Launch) (hflags : l.flags = flags0) {b L : Nat} {xs0 : Nat → Int32} (hL : L ≤ 3072) (C0 : lw_At p s m meth c b L xs0) : W p l e room_1 s m #[Value.ref b] below meth c s.heap [] 0 0 (lw_Z below #[Value.ref b] s) (entryFrame m ([Value.ref b] : List Value).toArray 9) := by
  obtain ⟨hx, hb, hr, hml, hown, hts, hX, hbl, hlocks, hgv, hnm, htb⟩ := id C0
  obtain ⟨X, x1, x2, x3, x4, x5, x6, hK⟩ := ik_start hts hX hgv
  subst x2
  have hl : l.stackTraces = false := by
    unfold Launch.stackTraces
    rw [hflags]
    decide +kernel
  obtain ⟨A0, hA0⟩ : ∃ A0 : AH, A0 = (s.heap.size, fun a => if a = xE X then some (ra X 4 0 (fun _ => none)) else none) := ⟨_, rfl⟩
  have hRel : Rel X A0 s.heap := by
    rw [hA0]
    refine ⟨rfl, ⟨by rw [x1]; exact Nat.le_refl _, fun q hq => by rw [x1]⟩, fun a e h => ?_⟩
    by_cases ha : a = xE X
    · have h : (if a = xE X then some (ra X 4 0 (fun _ => none)) else none) = some e := h
      rw [if_pos ha] at h
      cases h
      subst ha
      exact Or.inr ⟨rfl, x6⟩
    · have h : (if a = xE X then some (ra X 4 0 (fun _ => none)) else none) = some e := h
      rw [if_neg ha] at h
      cases h
  have K := law_G (l := l) (X := X) (A := A0) hl (by rw [x3]; exact hL) (by rw [hA0]; exact x5) (by rw [hA0]; exact if_pos rfl)
  have k := K p e room_1 s m #[Value.ref (xb X)] below meth c 601024 7293034 s.heap [] 0 0 _ ⟨⟨hx, hb, hr, hml, hown, hlocks, htb, hnm, hK, hl, hRel.2.1, by decide, by decide⟩, hRel, fun z h => (nomatch h), Nat.le_refl _, by decide, by decide, by decide, by decide, lv_entry ([.ref (xb X)]) (n := 9) (Nat.le_of_ble_eq_true rfl)⟩
  rw [lg_entry_eq]
  intro T hT XX
  obtain ⟨t, a1, o, b1, b2, b3⟩ := k T hT XX
  refine ⟨t, a1, o, b1, b2, ?_⟩
  rcases b3 with ⟨⟨v, A', rfl, hq, -, -⟩, L', hF, hfree⟩ | ⟨q, -, E, ce, L', ⟨A', hq, -, -⟩, -⟩
  · have hv : v = some (.int 1) := Sum.inl.inj hq
    subst hv
    exact ⟨rfl, lw_closed (d0 := s.drawn) (Drawn.sameBut.refl s.drawn lw_cs) ⟨_, rfl⟩ hF.2.1 (sbn_nil hF.2.2 (fun q hq => by
      have h9 : (xH X).size ≤ q.base := hfree q hq
      rw [x1] at h9
      exact h9))⟩
  · exact absurd hq (fun h => nomatch h)
