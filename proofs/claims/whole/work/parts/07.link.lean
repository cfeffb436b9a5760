/-! the rows of G that call -/
/-- what a call of M' at idx of the class own needs of the tables -/
def LK (own : String) (idx : Nat) (M' : MT) (n : Nat) : Prop :=
  Cond.methodLink own idx M'.1 ∈ AL ∧ Cond.initialized M'.1.cls ∈ AL ∧ Cond.code M'.1 M'.2.1 M'.2.2.1 M'.2.2.2.1 ∈ AL ∧ M'.2.2.2.2 = [] ∧ (M'.1.cls ≠ "java/lang/invoke/MethodHandle" ∧ M'.1.cls ≠ "java/lang/invoke/VarHandle" ∧ (parseMethodDescriptor M'.1.desc).map (fun d => d.parameters.length) = some n) ∧ M'.2.2.1 ≤ 40
/-- .. of a nest mate's private method -/
def LN (own : String) (idx : Nat) (M' : MT) (n : Nat) : Prop :=
  (∃ host : String, Cond.methodLinkNest own idx M'.1 host ∈ NL) ∧ Cond.initialized M'.1.cls ∈ AL ∧ Cond.code M'.1 M'.2.1 M'.2.2.1 M'.2.2.2.1 ∈ AL ∧ M'.2.2.2.2 = [] ∧ (M'.1.cls ≠ "java/lang/invoke/MethodHandle" ∧ M'.1.cls ≠ "java/lang/invoke/VarHandle" ∧ (parseMethodDescriptor M'.1.desc).map (fun d => d.parameters.length) = some n) ∧ M'.2.2.1 ≤ 40
/-- virtual, of objects of kind ci -/
def LV (own : String) (idx ci : Nat) (M' : MT) (n : Nat) : Prop := LK own idx M' n ∧ Cond.instanceMethod M'.1 ∈ AL ∧ Cond.selects M'.1.cls M'.1 M'.1 ∈ AL ∧ ∃ (T : u_T) (N : Nat), vwCl[ci]? = some (M'.1.cls, T, N)
def LSt (own : String) (idx : Nat) (M' : MT) (n : Nat) : Prop := LK own idx M' n ∧ Cond.static M'.1 ∈ AL
def LI (own : String) (idx : Nat) (M' : MT) (n : Nat) : Prop := LK own idx M' n ∧ Cond.instanceMethod M'.1 ∈ AL ∧ M'.1.name = "<init>" ∧ M'.2.2.2.1 = none
def LSN (own : String) (idx : Nat) (M' : MT) (n : Nat) : Prop := LN own idx M' n ∧ Cond.static M'.1 ∈ AL
def LIN (own : String) (idx : Nat) (M' : MT) (n : Nat) : Prop := LN own idx M' n ∧ Cond.instanceMethod M'.1 ∈ AL ∧ M'.1.name = "<init>" ∧ M'.2.2.2.1 = none
theorem rm_ok1 {a b c : Nat} (h : a + 1 ≤ b) (h2 : b + 10 ≤ c) : a + 10 + 1 ≤ c := by omega
set_option maxRecDepth 20000 in
theorem rm_ok2 {a b c n : Nat} (h : a + 1 ≤ b) (h1 : n ≤ 40) (h2 : 64 * b + 256 ≤ c) : 8 + (n + 11) + (64 * a + 256) ≤ c := by omega
theorem mcode_of {M : MT} (h : M.2.2.2.2 = []) : mcode M = Cond.code M.1 M.2.1 M.2.2.1 M.2.2.2.1 := by unfold mcode; rw [h]
theorem AL_in {M : MT} (h : mcode M ∈ AL) : GoodIn AL (mcode M :: AL) := by
  intro w hw
  have hw2 : w ∈ AL := (List.mem_cons.mp hw).elim (fun e => by rw [e]; exact h) id
  exact ⟨hw2, good_of_word (List.mem_filter.mp hw2).2⟩
section GC
variable {l : Launch} {X : XT} {M : MT} {d : Nat} {Q : Ot → AH → Prop} {pc : Nat} {lv lv' : List (Nat × Value)} {st rest : List Value} {A : AH} {bc bs : Nat}
variable {p : Program} {e : Env} {R : Room} {s : State} {m : MethodId} {args : Array Value} {below : List Frame} {meth : Method} {c : Code} {mc ms : Nat} {H : Heap} {locs : List Loc} {cells slots : Nat} {ls : Array Slot}
theorem callB_AL {idx n d' mc' ms' : Nat} {M' : MT} (C : Cx l X M d p R s m meth c) (L : LK M.1.cls idx M' n) (hd : d' + 1 ≤ d) : CallB R s args M.1.cls idx M'.1 M'.2.1 M'.2.2.1 M'.2.2.2.1 (mcode M' :: AL) (rmd d' mc' ms') mc' ms' n := by
  obtain ⟨hx, hb, hr, hml, hown, hlocks, htb, hmn, hK, hst, hL0, hfr, hloc⟩ := C
  obtain ⟨g1, g2, g3, g4, g5, g6⟩ := L
  have hc := mcode_of g4
  refine callB_of n (fun w hw => AL_at hK hw _) (AL_in (by rw [hc]; exact g3)) (ws' := AL) (by rw [hc]) rfl rfl (AL_at hK g2 _) (AL_at hK g1 _) g5 ⟨?_, ?_⟩
  · exact rm_ok1 hd hfr
  · exact rm_ok2 hd g6 hloc
theorem callN_AL {idx n d' mc' ms' : Nat} {M' : MT} (C : Cx l X M d p R s m meth c) (L : LN M.1.cls idx M' n) (hd : d' + 1 ≤ d) : ∃ host : String, va_CN R s args M.1.cls idx M'.1 host M'.2.1 M'.2.2.1 M'.2.2.2.1 (mcode M' :: AL) (rmd d' mc' ms') mc' ms' n := by
  obtain ⟨hx, hb, hr, hml, hown, hlocks, htb, hmn, hK, hst, hL0, hfr, hloc⟩ := C
  obtain ⟨⟨host, g1⟩, g2, g3, g4, g5, g6⟩ := L
  have hc := mcode_of g4
  refine ⟨host, va_cnB n (fun w hw => AL_at hK hw _) (AL_in (by rw [hc]; exact g3)) (ws' := AL) (by rw [hc]) rfl rfl (NL_at hK g1) (AL_at hK g2 _) g5 ⟨?_, ?_⟩⟩
  · exact rm_ok1 hd hfr
  · exact rm_ok2 hd g6 hloc
theorem Ct.met {args : List Value} (k : Ct l X d M args A mc ms Q) (h : ∀ E A', ¬ Q (.inr E) A') : Met l M.1 (mcode M :: AL) (rmd d mc ms) (PcO X args A) (QcO X Q) mc ms (xA X) := by
  intro p e h1 h2 h3 s m args' below h4 h5 h6 h7
  obtain ⟨n, o, a1, a2, a3, a4⟩ := k p e h1 h2 h3 s m args' below h4 h5 h6 h7
  refine ⟨n, o, a1, a2, a3, ?_⟩
  rcases a4 with b | ⟨q, b1, E, ce, L, ⟨A', hq, -⟩, -⟩
  · exact b
  · exact absurd hq (h E A')
/-- behind a call -/
theorem run_W {mc' ms' : Nat} {Q' : Ot → AH → Prop} {as : Array Value} (S : Sit l X M d A lv bc bs p R s m meth c mc ms H locs cells slots ls) (h1 : mc' ≤ bc) (h2 : ms' ≤ bs)
    (hr : vx_Run p l e R s m args below meth c H locs cells slots mc' ms' (F0 m pc ls st) rest (QcO X Q' as) (XcO X Q') (xA X))
    (h : ∀ v A', Q' (.inl v) A' → G l X M d Q (pc + 3) lv (v.toList ++ rest) A' (bc - mc') (bs - ms'))
    (hx : ∀ (E : String) (A' : AH) (H1 : Heap) (locs1 : List Loc) (q : Nat) (ce : Cell), Q' (.inr E) A' → Rel X A' H1 → (∀ z ∈ locs1, xA X z.base) → s.heap.size ≤ H1.size → H1[q]? = some ce → ce.vm = .none → s.vm.findClass E = some ce.cls → vx_W p l e R s m args below meth c H1 locs1 (cells + mc') (slots + ms') (vx_MQ below (QcO X Q) (XcO X Q) args s mc ms (xA X)) (F0 m pc ls rest) q) :
    W p l e R s m args below meth c H locs cells slots (vx_MQ below (QcO X Q) (XcO X Q) args s mc ms (xA X)) (F0 m pc ls st) := by
  obtain ⟨C, hR, hlo, hsz, h3, h4, h5, h6, hl⟩ := S
  intro T hT XX
  rcases hr T hT XX with ⟨v, st₀, t, T', L, h0, X', hL, e1, e2, ⟨v', A', hv, hq, hR', hz⟩, stp⟩ | ⟨q, st₀, t, T', L, E, ce, h0, X', hL, e1, e2, ⟨A', hq, hR', hz⟩, hce, hcv, hcl, stp⟩
  · cases hv
    obtain ⟨t2, a1, b1⟩ := h _ _ hq p e R s m args below meth c mc ms T'.heap (locs ++ L) (cells + mc') (slots + ms') ls
      ⟨C, by rw [e1]; exact hR', fun z hz => (List.mem_append.mp hz).elim (hlo z) (hL z), by rw [e1]; rw [h0] at hz; exact Nat.le_trans hsz hz, by omega, by omega, h5, h6, hl⟩ T' rfl X'
    exact ⟨t2, stp t2 a1, b1⟩
  · obtain ⟨t2, a1, b1⟩ := hx E A' T'.heap (locs ++ L) q ce hq (by rw [e1]; exact hR') (fun z hz => (List.mem_append.mp hz).elim (hlo z) (hL z)) (by rw [e1]; rw [h0] at hz; exact Nat.le_trans hsz hz) (by rw [e1]; exact hce) hcv hcl T' rfl X'
    exact ⟨t2, stp.trans a1, b1⟩
/-- not caught in a method without handlers -/
theorem out_W {E : String} {A' : AH} {H1 : Heap} {locs1 : List Loc} {q cells1 slots1 : Nat} {ce : Cell} (C : Cx l X M d p R s m meth c) (htab : M.2.2.2.2 = []) (hQ : Q (.inr E) A') (hR : Rel X A' H1) (hlo : ∀ z ∈ locs1, xA X z.base) (hsz : s.heap.size ≤ H1.size) (hce : H1[q]? = some ce) (hcv : ce.vm = .none) (hcl : s.vm.findClass E = some ce.cls) (h1 : cells1 ≤ mc) (h2 : slots1 ≤ ms) :
    vx_W p l e R s m args below meth c H1 locs1 cells1 slots1 (vx_MQ below (QcO X Q) (XcO X Q) args s mc ms (xA X)) (F0 m pc ls rest) q := by
  obtain ⟨hx, hb, hr, hml, hown, hlocks, htb, hmn, hK, hst, hL0, hfr, hloc⟩ := C
  refine vx_out (E := E) (ce := ce) ?_ hlocks hce hcv hcl (fun t ht _ => ⟨A', hQ, by rw [ht]; exact hR, by rw [ht]; exact hsz⟩) hlo h1 h2
  intro x hx
  rw [htb, htab] at hx
  cases hx
/-- the same, of a callee that never throws -/
theorem run_M {mc' ms' : Nat} {Q' : Ot → AH → Prop} {as : Array Value} (S : Sit l X M d A lv bc bs p R s m meth c mc ms H locs cells slots ls) (h1 : mc' ≤ bc) (h2 : ms' ≤ bs)
    (hr : va_Run p l e R s m args below meth c H locs cells slots mc' ms' (F0 m pc ls st) rest (QcO X Q' as) (xA X))
    (h : ∀ v A', Q' (.inl v) A' → G l X M d Q (pc + 3) lv (v.toList ++ rest) A' (bc - mc') (bs - ms')) :
    W p l e R s m args below meth c H locs cells slots (vx_MQ below (QcO X Q) (XcO X Q) args s mc ms (xA X)) (F0 m pc ls st) := by
  obtain ⟨C, hR, hlo, hsz, h3, h4, h5, h6, hl⟩ := S
  intro T hT XX
  obtain ⟨v, st₀, t, T', L, h0, X', hL, e1, e2, ⟨v', A', hv, hq, hR', hz⟩, stp⟩ := hr T hT XX
  cases hv
  obtain ⟨t2, a1, b1⟩ := h _ _ hq p e R s m args below meth c mc ms T'.heap (locs ++ L) (cells + mc') (slots + ms') ls
    ⟨C, by rw [e1]; exact hR', fun z hz => (List.mem_append.mp hz).elim (hlo z) (hL z), by rw [e1]; rw [h0] at hz; exact Nat.le_trans hsz hz, by omega, by omega, h5, h6, hl⟩ T' rfl X'
  exact ⟨t2, stp t2 a1, b1⟩
/-- what is owed behind a call: the return goes on, an exception goes out -/
def Aft (l : Launch) (X : XT) (M : MT) (d : Nat) (Q : Ot → AH → Prop) (pc : Nat) (lv : List (Nat × Value)) (rest : List Value) : Ot → AH → Nat → Nat → Prop := fun o A' b1 b2 =>
  match o with
  | .inl v => G l X M d Q pc lv (v.toList ++ rest) A' b1 b2
  | .inr E => Q (.inr E) A'
/-- .. of a callee that never throws -/
def AftR (l : Launch) (X : XT) (M : MT) (d : Nat) (Q : Ot → AH → Prop) (pc : Nat) (lv : List (Nat × Value)) (rest : List Value) : Ot → AH → Nat → Nat → Prop := fun o A' b1 b2 =>
  match o with
  | .inl v => G l X M d Q pc lv (v.toList ++ rest) A' b1 b2
  | .inr _ => False
theorem PreS_of {As : List Value} (hR : Rel X A H) (hK : IK X s) : PreS s H (PcO X As A) As := ⟨FrameBlind_PcO, fun U hU hW => ⟨rfl, by rw [hU]; exact hR, hK.warm hW⟩⟩
theorem G_callV {idx ci n b : Nat} {M' : MT} {fs As : List Value} (L : LV M.1.cls idx ci M' n) (htab : M.2.2.2.2 = []) (hdg : decode M.2.1 pc = .ok (.invokevirtual idx, 3)) (hst : st = As.reverse ++ .ref b :: rest) (hn : As.length = n) (hcat : (rest.map fun v => v.category).sum ≤ 8) (hb : A.2 b = some (ob ci fs))
    (h : Cal l X d bc bs M' (.ref b :: As) A (Aft l X M d Q (pc + 3) lv rest)) : G l X M d Q pc lv st A bc bs := by
  subst hst
  intro p e R s m args below meth c mc ms H locs cells slots ls S
  obtain ⟨d', mc', ms', k1, k2, k3, k4⟩ := h
  obtain ⟨C, hR, hlo, hsz, h3, h4, h5, h6, hl⟩ := id S
  obtain ⟨hx, hbb, hr, hml, hown, hlocks, htb, hmn, hK, hst0, hL0, hfr, hloc⟩ := id C
  obtain ⟨L0, g1, g2, T, N, g3⟩ := L
  refine run_W S k2 k3 (vx_runV (As := As) (rest := rest) (C := M'.1.cls) ⟨hx, hbb, hml, hown, fun w hw => AL_at hK hw _⟩ k4 ⟨callB_AL C L0 k1, AL_at hK g1 _, AL_at hK g2 _⟩ ⟨FrameBlind_PcO, va_recv hK.2.2.1 (va_P1 (hR.ob hb)) g3 (q0 := 0) rfl, fun U hU hW => ⟨rfl, by rw [hU]; exact hR, hK.warm hW⟩⟩ rfl hn hl.1 rfl (lv_room hcat) hdg ⟨by omega, by omega⟩) (fun v A' hq => hq) ?_
  intro E A' H1 locs1 q ce hq hR1 hlo1 hsz1 hce hcv hcl
  exact out_W C htab hq hR1 hlo1 hsz1 hce hcv hcl (by omega) (by omega)
theorem G_callS {idx n : Nat} {M' : MT} {As : List Value} (L : LSt M.1.cls idx M' n) (htab : M.2.2.2.2 = []) (hdg : decode M.2.1 pc = .ok (.invokestatic idx, 3)) (hst : st = As.reverse ++ rest) (hn : As.length = n) (hcat : (rest.map fun v => v.category).sum ≤ 8)
    (h : Cal l X d bc bs M' As A (Aft l X M d Q (pc + 3) lv rest)) : G l X M d Q pc lv st A bc bs := by
  subst hst
  intro p e R s m args below meth c mc ms H locs cells slots ls S
  obtain ⟨d', mc', ms', k1, k2, k3, k4⟩ := h
  obtain ⟨C, hR, hlo, hsz, h3, h4, h5, h6, hl⟩ := id S
  obtain ⟨hx, hbb, hr, hml, hown, hlocks, htb, hmn, hK, hst0, hL0, hfr, hloc⟩ := id C
  obtain ⟨L0, g1⟩ := L
  refine run_W S k2 k3 (vx_runS (As := As) (rest := rest) ⟨hx, hbb, hml, hown, fun w hw => AL_at hK hw _⟩ k4 ⟨callB_AL C L0 k1, AL_at hK g1 _⟩ (PreS_of hR hK) rfl hn hl.1 rfl (lv_room hcat) hdg ⟨by omega, by omega⟩) (fun v A' hq => hq) ?_
  intro E A' H1 locs1 q ce hq hR1 hlo1 hsz1 hce hcv hcl
  exact out_W C htab hq hR1 hlo1 hsz1 hce hcv hcl (by omega) (by omega)
theorem G_callI {idx n b : Nat} {M' : MT} {As : List Value} (L : LI M.1.cls idx M' n) (hdg : decode M.2.1 pc = .ok (.invokespecial idx, 3)) (hst : st = As.reverse ++ .ref b :: rest) (hn : As.length = n) (hcat : (rest.map fun v => v.category).sum ≤ 8)
    (h : Cal l X d bc bs M' (.ref b :: As) A (AftR l X M d Q (pc + 3) lv rest)) : G l X M d Q pc lv st A bc bs := by
  subst hst
  intro p e R s m args below meth c mc ms H locs cells slots ls S
  obtain ⟨d', mc', ms', k1, k2, k3, k4⟩ := h
  obtain ⟨C, hR, hlo, hsz, h3, h4, h5, h6, hl⟩ := id S
  obtain ⟨hx, hbb, hr, hml, hown, hlocks, htb, hmn, hK, hst0, hL0, hfr, hloc⟩ := id C
  obtain ⟨L0, g1, g2, g3⟩ := L
  have cb := callB_AL (args := args) (mc' := mc') (ms' := ms') C L0 k1
  rw [g3] at cb
  exact run_M S k2 k3 (va_runI (As := As) (rest := rest) ⟨hx, hbb, hml, hown, fun w hw => AL_at hK hw _⟩ (k4.met (fun E A' q => q)) ⟨cb, g2, AL_at hK g1 _⟩ (PreS_of hR hK) rfl hn hl.1 rfl (lv_room hcat) hdg ⟨by omega, by omega⟩) (fun v A' hq => hq)
theorem G_callSN {idx n : Nat} {M' : MT} {As : List Value} (L : LSN M.1.cls idx M' n) (hdg : decode M.2.1 pc = .ok (.invokestatic idx, 3)) (hst : st = As.reverse ++ rest) (hn : As.length = n) (hcat : (rest.map fun v => v.category).sum ≤ 8)
    (h : Cal l X d bc bs M' As A (AftR l X M d Q (pc + 3) lv rest)) : G l X M d Q pc lv st A bc bs := by
  subst hst
  intro p e R s m args below meth c mc ms H locs cells slots ls S
  obtain ⟨d', mc', ms', k1, k2, k3, k4⟩ := h
  obtain ⟨C, hR, hlo, hsz, h3, h4, h5, h6, hl⟩ := id S
  obtain ⟨hx, hbb, hr, hml, hown, hlocks, htb, hmn, hK, hst0, hL0, hfr, hloc⟩ := id C
  obtain ⟨L0, g1⟩ := L
  obtain ⟨host, cb⟩ := callN_AL (args := args) (mc' := mc') (ms' := ms') C L0 k1
  exact run_M S k2 k3 (va_runSN (As := As) (rest := rest) ⟨hx, hbb, hml, hown, fun w hw => AL_at hK hw _⟩ (k4.met (fun E A' q => q)) ⟨cb, AL_at hK g1 _, trivial⟩ (PreS_of hR hK) rfl hn hl.1 rfl (lv_room hcat) hdg ⟨by omega, by omega⟩) (fun v A' hq => hq)
theorem G_callIN {idx n b : Nat} {M' : MT} {As : List Value} (L : LIN M.1.cls idx M' n) (hdg : decode M.2.1 pc = .ok (.invokespecial idx, 3)) (hst : st = As.reverse ++ .ref b :: rest) (hn : As.length = n) (hcat : (rest.map fun v => v.category).sum ≤ 8)
    (h : Cal l X d bc bs M' (.ref b :: As) A (AftR l X M d Q (pc + 3) lv rest)) : G l X M d Q pc lv st A bc bs := by
  subst hst
  intro p e R s m args below meth c mc ms H locs cells slots ls S
  obtain ⟨d', mc', ms', k1, k2, k3, k4⟩ := h
  obtain ⟨C, hR, hlo, hsz, h3, h4, h5, h6, hl⟩ := id S
  obtain ⟨hx, hbb, hr, hml, hown, hlocks, htb, hmn, hK, hst0, hL0, hfr, hloc⟩ := id C
  obtain ⟨L0, g1, g2, g3⟩ := L
  obtain ⟨host, cb⟩ := callN_AL (args := args) (mc' := mc') (ms' := ms') C L0 k1
  rw [g3] at cb
  exact run_M S k2 k3 (va_runIN (As := As) (rest := rest) ⟨hx, hbb, hml, hown, fun w hw => AL_at hK hw _⟩ (k4.met (fun E A' q => q)) ⟨cb, g2, AL_at hK g1 _⟩ (PreS_of hR hK) rfl hn hl.1 rfl (lv_room hcat) hdg ⟨by omega, by omega⟩) (fun v A' hq => hq)
/-- Object's own constructor -/
theorem G_objInit {idx a : Nat} (h1 : Cond.methodLink M.1.cls idx Lib.objectInit ∈ AL) (h2 : Cond.instanceMethod Lib.objectInit ∈ AL) (h3 : Cond.code Lib.objectInit ⟨#[0xb1]⟩ 1 none ∈ AL) (hdg : decode M.2.1 pc = .ok (.invokespecial idx, 3)) (hcat : (st.map fun v => v.category).sum ≤ 8) (k : G l X M d Q (pc + 3) lv st A bc bs) : G l X M d Q pc lv (.ref a :: st) A bc bs :=
  G_lift k fun p e R s m args below meth c H locs cells slots ls Z C _ hl w => by
    have hK := C.2.2.2.2.2.2.2.2.1
    have h9 := C.2.2.2.2.2.2.2.2.2.2.2
    exact W.objInit C.1 C.2.1 C.2.2.2.2.1 (AL_at hK h1 _) (AL_at hK h2 _) (AL_at hK h3 _) rfl (hl.1.trans C.2.2.2.1.symm) rfl hdg (by omega) (by show 2 * 0 + _ + 12 ≤ _; omega) w
end GC
