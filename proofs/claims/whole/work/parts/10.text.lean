/-! rows of G: texts, handlers, calls of methods with handlers -/
section GX
variable {l : Launch} {X : XT} {M : MT} {d : Nat} {Q : Ot → AH → Prop} {pc : Nat} {lv lv' : List (Nat × Value)} {st rest : List Value} {A : AH} {bc bs : Nat}
theorem IK.sk {s : State} (h : IK X s) : SK X s := h.2.2.2.2.2.2.2.2.2.1
theorem G_sval {idx i : Nat} (hi : i < 12) (hown : M.1.cls = "java/lang/String") (g1 : Cond.fieldLink "java/lang/String" idx "java/lang/String" "value" "[B" ∈ AL) (hdg : decode M.2.1 pc = .ok (.getfield idx, 3)) (k : G l X M d Q (pc + 3) lv (.ref (xV X i) :: st) A bc bs) : G l X M d Q pc lv (.ref (xK X i) :: st) A bc bs :=
  G_lift k fun p e R s m args below meth c H locs cells slots ls Z C hR hl w => by
    have hK := C.2.2.2.2.2.2.2.2.1
    have ho := C.2.2.2.2.1
    rw [hown] at ho
    obtain ⟨cf, k9, fi, f, cell, h1, h2, h3, h4, h5, h6⟩ := (hK.sk.2.2 i hi).2.2.1.kept hR.2.1.at
    exact W.getf C.1 C.2.1 ho (AL_at hK g1 _) h1 h2 h3 h4 (v := .ref (xV X i)) h5 rfl rfl hdg w
theorem G_scod {idx i : Nat} (hi : i < 12) (hown : M.1.cls = "java/lang/String") (g1 : Cond.fieldLink "java/lang/String" idx "java/lang/String" "coder" "B" ∈ AL) (hdg : decode M.2.1 pc = .ok (.getfield idx, 3)) (k : G l X M d Q (pc + 3) lv (.int 0 :: st) A bc bs) : G l X M d Q pc lv (.ref (xK X i) :: st) A bc bs :=
  G_lift k fun p e R s m args below meth c H locs cells slots ls Z C hR hl w => by
    have hK := C.2.2.2.2.2.2.2.2.1
    have ho := C.2.2.2.2.1
    rw [hown] at ho
    obtain ⟨cf, k9, fi, f, cell, h1, h2, h3, h4, h5, h6⟩ := (hK.sk.2.2 i hi).2.1.kept hR.2.1.at
    exact W.getf C.1 C.2.1 ho (AL_at hK g1 _) h1 h2 h3 h4 (v := .int 0) h5 rfl rfl hdg w
theorem G_slenB {i : Nat} {v : Int32} (hi : i < 12) (hv : Int32.ofNat (sLen.getD i 0) = v) (hdg : decode M.2.1 pc = .ok (.arraylength, 1)) (k : G l X M d Q (pc + 1) lv (.int v :: st) A bc bs) : G l X M d Q pc lv (.ref (xV X i) :: st) A bc bs :=
  G_liftS k fun p e R s m args below meth c H locs cells slots ls Z C hR hl hS _ _ w => by
    have hK := C.2.2.2.2.2.2.2.2.1
    exact va_tlen C.1 C.2.1 ((hK.sk.2.2 i hi).2.2.2.kept C.2.2.2.2.2.2.2.2.2.2.1.at) hS hv hdg w
theorem G_sbald {i : Nat} {j : Int32} (hi : i < 12) (hin : vp_in j (sLen.getD i 0)) (hdg : decode M.2.1 pc = .ok (.baload, 1)) (k : G l X M d Q (pc + 1) lv (.int ((sByt.getD i []).getD j.toNatClampNeg 0) :: st) A bc bs) : G l X M d Q pc lv (.int j :: .ref (xV X i) :: st) A bc bs :=
  G_liftS k fun p e R s m args below meth c H locs cells slots ls Z C hR hl hS _ _ w => by
    have hK := C.2.2.2.2.2.2.2.2.1
    exact va_tb C.1 C.2.1 ((hK.sk.2.2 i hi).2.2.2.kept C.2.2.2.2.2.2.2.2.2.2.1.at) hS hin rfl hdg w
theorem G_gsC {idx : Nat} (hown : M.1.cls = "java/lang/String") (g1 : Cond.fieldLink "java/lang/String" idx "java/lang/String" "COMPACT_STRINGS" "Z" ∈ AL) (hdg : decode M.2.1 pc = .ok (.getstatic idx, 3)) (k : G l X M d Q (pc + 3) lv (.int 1 :: st) A bc bs) : G l X M d Q pc lv st A bc bs :=
  G_liftS k fun p e R s m args below meth c H locs cells slots ls Z C _ hl hS _ _ w => by
    have hK := C.2.2.2.2.2.2.2.2.1
    have ho := C.2.2.2.2.1
    rw [hown] at ho
    exact va_gets C.1 C.2.1 (hK.sk.1.kept C.2.2.2.2.2.2.2.2.2.2.1.at) hS ho (AL_at hK g1 _) (fun _ h => h) hdg w
theorem G_gsF {idx : Nat} (hown : M.1.cls = "java/lang/String") (g1 : Cond.fieldLink "java/lang/String" idx "jdk/internal/util/Preconditions" "SIOOBE_FORMATTER" "Ljava/util/function/BiFunction;" ∈ AL) (hdg : decode M.2.1 pc = .ok (.getstatic idx, 3)) (k : ∀ r : Option Nat, G l X M d Q (pc + 3) lv (va_rf r :: st) A bc bs) : G l X M d Q pc lv st A bc bs := by
  intro p e R s m args below meth c mc ms H locs cells slots ls S
  obtain ⟨C, hR, hlo, hsz, h3, h4, h5, h6, hl⟩ := id S
  have hK := C.2.2.2.2.2.2.2.2.1
  have ho := C.2.2.2.2.1
  rw [hown] at ho
  have hS := C.2.2.2.2.2.2.2.2.2.2.1.S hR.2.1 hsz hlo
  rcases hK.sk.2.1.kept C.2.2.2.2.2.2.2.2.2.2.1.at with hZ | ⟨t, hZ⟩
  · exact va_gets C.1 C.2.1 hZ hS ho (AL_at hK g1 _) (fun _ h => h) hdg (k none _ _ _ _ _ _ _ _ _ _ _ _ _ _ _ _ S)
  · exact va_gets C.1 C.2.1 hZ hS ho (AL_at hK g1 _) (fun _ h => h) hdg (k (some t) _ _ _ _ _ _ _ _ _ _ _ _ _ _ _ _ S)
def LVs (own : String) (idx : Nat) (M' : MT) (n : Nat) : Prop := LK own idx M' n ∧ Cond.instanceMethod M'.1 ∈ AL ∧ Cond.selects M'.1.cls M'.1 M'.1 ∈ AL ∧ M'.1.cls = "java/lang/String"
/-- a call on a text -/
theorem G_callVs {idx n i : Nat} {M' : MT} {As : List Value} (hi : i < 12) (L : LVs M.1.cls idx M' n) (hdg : decode M.2.1 pc = .ok (.invokevirtual idx, 3)) (hst : st = As.reverse ++ .ref (xK X i) :: rest) (hn : As.length = n) (hcat : (rest.map fun v => v.category).sum ≤ 8)
    (h : Cal l X d bc bs M' (.ref (xK X i) :: As) A (AftR l X M d Q (pc + 3) lv rest)) : G l X M d Q pc lv st A bc bs := by
  subst hst
  intro p e R s m args below meth c mc ms H locs cells slots ls S
  obtain ⟨d', mc', ms', k1, k2, k3, k4⟩ := h
  obtain ⟨C, hR, hlo, hsz, h3, h4, h5, h6, hl⟩ := id S
  obtain ⟨hx, hbb, hr, hml, hown, hlocks, htb, hmn, hK, hst0, hL0, hfr, hloc⟩ := id C
  obtain ⟨L0, g1, g2, g3⟩ := L
  obtain ⟨cell, o1, o2, o3, -⟩ := (hK.sk.2.2 i hi).1.kept hR.2.1.at
  refine run_M S k2 k3 (va_runV (As := As) (rest := rest) (C := M'.1.cls) ⟨hx, hbb, hml, hown, fun w hw => AL_at hK hw _⟩ (k4.met (fun E A' q => q)) ⟨callB_AL C L0 k1, AL_at hK g1 _, AL_at hK g2 _⟩ ⟨FrameBlind_PcO, ⟨cell, o1, o2, by rw [g3]; exact o3⟩, fun U hU hW => ⟨rfl, by rw [hU]; exact hR, hK.warm hW⟩⟩ rfl hn hl.1 rfl (lv_room hcat) hdg ⟨by omega, by omega⟩) (fun v A' hq => hq)
/-- behind a call inside a handler's reach -/
def AftX (l : Launch) (X : XT) (M : MT) (d : Nat) (Q : Ot → AH → Prop) (pc : Nat) (lv : List (Nat × Value)) (rest : List Value) : Ot → AH → Nat → Nat → Prop := fun o A' b1 b2 =>
  match o with
  | .inl v => G l X M d Q (pc + 3) lv (v.toList ++ rest) A' b1 b2
  | .inr E => ∃ (pre : List ExceptionTableEntry) (z : ExceptionTableEntry) (suf : List ExceptionTableEntry), tableOf M.2.2.2.2 = pre ++ z :: suf ∧ covers z pc = true ∧ z.catchType ≠ 0 ∧ (∃ nm, Cond.classLink M.1.cls z.catchType nm ∈ AL ∧ Cond.castable E nm ∈ NL) ∧
      (∀ y ∈ pre, y.catchType ≠ 0 ∧ ∃ nm, Cond.classLink M.1.cls y.catchType nm ∈ AL ∧ (E, nm) ∈ ncTab) ∧ ∀ q : Nat, G l X M d Q z.handlerPc lv [.ref q] A' b1 b2
theorem G_callVX {idx ci n b : Nat} {M' : MT} {fs As : List Value} (L : LV M.1.cls idx ci M' n) (hdg : decode M.2.1 pc = .ok (.invokevirtual idx, 3)) (hst : st = As.reverse ++ .ref b :: rest) (hn : As.length = n) (hcat : (rest.map fun v => v.category).sum ≤ 8) (hb : A.2 b = some (ob ci fs))
    (h : Cal l X d bc bs M' (.ref b :: As) A (AftX l X M d Q pc lv rest)) : G l X M d Q pc lv st A bc bs := by
  subst hst
  intro p e R s m args below meth c mc ms H locs cells slots ls S
  obtain ⟨d', mc', ms', k1, k2, k3, k4⟩ := h
  obtain ⟨C, hR, hlo, hsz, h3, h4, h5, h6, hl⟩ := id S
  obtain ⟨hx, hbb, hr, hml, hown, hlocks, htb, hmn, hK, hst0, hL0, hfr, hloc⟩ := id C
  obtain ⟨L0, g1, g2, T, N, g3⟩ := L
  refine run_W S k2 k3 (vx_runV (As := As) (rest := rest) (C := M'.1.cls) ⟨hx, hbb, hml, hown, fun w hw => AL_at hK hw _⟩ k4 ⟨callB_AL C L0 k1, AL_at hK g1 _, AL_at hK g2 _⟩ ⟨FrameBlind_PcO, va_recv hK.2.2.1 (va_P1 (hR.ob hb)) g3 (q0 := 0) rfl, fun U hU hW => ⟨rfl, by rw [hU]; exact hR, hK.warm hW⟩⟩ rfl hn hl.1 rfl (lv_room hcat) hdg ⟨by omega, by omega⟩) (fun v A' hq => hq) ?_
  intro E A' H1 locs1 q ce hq hR1 hlo1 hsz1 hce hcv hcl
  obtain ⟨pre, z, suf, e1, e2, e3, ⟨nm, e4, e5⟩, e6, e7⟩ := hq
  refine vx_catch hown pre z suf (htb.trans e1) (fun y hy => ?_) e2 e3 (AL_at hK e4 _) (va_Nw.use rfl (NL_at hK e5)) hce hcv hcl ?_
  · obtain ⟨q1, nm', q2, q3⟩ := e6 y hy
    exact Or.inr ⟨q1, nm', AL_at hK q2 _, hK.2.2.2.2.2.2.2.2.2.2.1 _ q3⟩
  · exact e7 q _ _ _ _ _ _ _ _ _ _ _ _ _ _ _ _ ⟨C, hR1, hlo1, hsz1, by omega, by omega, h5, h6, hl⟩
/-- a static method with handlers that lets nothing out -/
def LSX (own : String) (idx : Nat) (M' : MT) (n : Nat) : Prop :=
  Cond.methodLink own idx M'.1 ∈ AL ∧ Cond.initialized M'.1.cls ∈ AL ∧ Cond.codeWith M'.1 M'.2.1 M'.2.2.1 M'.2.2.2.1 M'.2.2.2.2 ∈ AL ∧ M'.2.2.2.2 ≠ [] ∧ (M'.1.cls ≠ "java/lang/invoke/MethodHandle" ∧ M'.1.cls ≠ "java/lang/invoke/VarHandle" ∧ (parseMethodDescriptor M'.1.desc).map (fun d => d.parameters.length) = some n) ∧ M'.2.2.1 ≤ 40 ∧ Cond.static M'.1 ∈ AL
theorem mcode_ofX {M : MT} (h : M.2.2.2.2 ≠ []) : mcode M = Cond.codeWith M.1 M.2.1 M.2.2.1 M.2.2.2.1 M.2.2.2.2 := by
  unfold mcode
  split
  · rename_i q; exact absurd q h
  · rfl
theorem G_callSX {idx n : Nat} {M' : MT} {As : List Value} (L : LSX M.1.cls idx M' n) (hdg : decode M.2.1 pc = .ok (.invokestatic idx, 3)) (hst : st = As.reverse ++ rest) (hn : As.length = n) (hcat : (rest.map fun v => v.category).sum ≤ 8)
    (h : Cal l X d bc bs M' As A (AftR l X M d Q (pc + 3) lv rest)) : G l X M d Q pc lv st A bc bs := by
  subst hst
  intro p e R s m args below meth c mc ms H locs cells slots ls S
  obtain ⟨d', mc', ms', k1, k2, k3, k4⟩ := h
  obtain ⟨C, hR, hlo, hsz, h3, h4, h5, h6, hl⟩ := id S
  obtain ⟨hx, hbb, hr, hml, hown, hlocks, htb, hmn, hK, hst0, hL0, hfr, hloc⟩ := id C
  obtain ⟨g1, g2, g3, g4, g5, g6, g7⟩ := L
  have hcm := mcode_ofX g4
  have hts : ∀ w ∈ AL, w.before args s = true := fun w hw => AL_at hK hw _
  have cb : vx_CSW R s args M.1.cls idx M'.1 M'.2.1 M'.2.2.1 M'.2.2.2.1 M'.2.2.2.2 (mcode M' :: AL) (rmd d' mc' ms') mc' ms' n := by
    refine ⟨⟨rfl, rfl, rm_ok1 k1 hfr, rm_ok2 k1 g6 hloc, pay_in hts (AL_in (by rw [hcm]; exact g3)), by rw [hcm]; exact List.mem_cons_self⟩, hts _ g3, hts _ g2, ⟨g5.1, g5.2.1⟩, fun sig h => ?_, hts _ g1, hts _ g7⟩
    have h2 := g5.2.2
    rw [h] at h2
    exact (Option.some.inj h2).symm
  exact run_M S k2 k3 (vx_runSW (As := As) (rest := rest) ⟨hx, hbb, hml, hown, hts⟩ (k4.met (fun E A' q => q)) cb (PreS_of hR hK) rfl hn hl.1 rfl (lv_room hcat) hdg ⟨by omega, by omega⟩) (fun v A' hq => hq)
/-- a contract of a method with handlers -/
theorem Ct.ofX (hl : l.stackTraces = false) {args : List Value} {mc ms : Nat} (ht : M.2.2.2.2 ≠ []) (hy : plainName M.1.cls = true) (hn : (lg_sl args).length ≤ M.2.2.1)
    (k : G l X M d Q 0 (lv_args 0 args) [] A mc ms) : Ct l X d M args A mc ms Q := by
  have hcode := mcode_ofX ht
  refine vx_ofWH (cc := M.2.1) (maxL := M.2.2.1) (ret := M.2.2.2.1) (hh := M.2.2.2.2) (ws' := AL) hy (by rw [hcode]) ?_
  intro p e s m args' below meth c s₁ B hml hP
  obtain ⟨rfl, hR, hK⟩ := hP
  rw [lg_entry_eq]
  have htab : c.exceptionTable.toList = tableOf M.2.2.2.2 := vx_table (x := M.1) B (atoms_spec (ws := mcode M :: AL) B.pre (Cond.codeWith M.1 M.2.1 M.2.2.1 M.2.2.2.1 M.2.2.2.2) (by rw [hcode]; exact List.mem_cons_self))
  refine k p e _ s m _ below meth c mc ms s.heap [] 0 0 _ ⟨⟨B.exec, B.bytes, B.returns, hml, findClass_of_methodNamed B.named, B.notSynchronized, htab, (name_of_methodNamed B.named B.method).1, hK, hl, hR.2.1, Nat.le_refl _, Nat.le_refl _⟩, hR, fun z h => (nomatch h), Nat.le_refl _, by omega, by omega, Nat.le_refl _, Nat.le_refl _, lv_entry args hn⟩
end GX
