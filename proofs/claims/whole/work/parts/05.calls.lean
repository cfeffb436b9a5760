/-! the rows of G that make cells, return, throw and call -/
section GM
variable {l : Launch} {X : XT} {M : MT} {d : Nat} {Q : Ot → AH → Prop} {pc : Nat} {lv lv' : List (Nat × Value)} {st rest : List Value} {A : AH} {bc bs : Nat}
/-- a row that makes a cell of n places -/
theorem G_mk {pc' n : Nat} {st' : List Value} {y : va_E} (h1 : 1 ≤ bc) (h2 : n ≤ bs) (kk : G l X M d Q pc' lv (.ref A.1 :: st') (nw A y) (bc - 1) (bs - n))
    (h : ∀ (p : Program) (e : Env) (R : Room) (s : State) (m : MethodId) (args : Array Value) (below : List Frame) (meth : Method) (c : Code) (H : Heap) (locs : List Loc) (cells slots : Nat) (ls : Array Slot) (Z : State → Prop), Cx l X M d p R s m meth c → Rel X A H → lv_has ls M.2.2.1 lv → cells + 1 ≤ R.cells → slots + n ≤ R.slots →
      (∀ (H1 : Heap), va_at (xD X) vwCl (H.size, y) H1 → H1.size = H.size + 1 → (∀ q : Nat, q < H.size → H1[q]? = H[q]?) → W p l e R s m args below meth c H1 locs (cells + 1) (slots + n) Z (F0 m pc' ls (.ref H.size :: st'))) → W p l e R s m args below meth c H locs cells slots Z (F0 m pc ls st)) : G l X M d Q pc lv st A bc bs := by
  intro p e R s m args below meth c mc ms H locs cells slots ls S
  obtain ⟨C, hR, hlo, hsz, h3, h4, h5, h6, hl⟩ := S
  refine h _ _ _ _ _ _ _ _ _ _ _ _ _ _ _ C hR hl (by omega) (by omega) fun H1 e1 z oq => ?_
  rw [hR.1]
  exact kk _ _ _ _ _ _ _ _ _ _ _ _ _ _ _ _ ⟨C, hR.push e1 z oq, hlo, by omega, by omega, by omega, h5, h6, hl⟩
/-- 'new' of an object of kind ci, N fields that hold fs at first -/
def NO (own : String) (idx ci N : Nat) (fs : List Value) : Prop :=
  ∃ (C : String) (T : u_T) (ty : Nat → FieldType), (∀ w ∈ u_ws C T N, w ∈ AL) ∧ (∀ k, k < N → parseFieldDescriptor (T k).2.2.1 = some (ty k)) ∧ Cond.classLink own idx C ∈ AL ∧ Cond.instantiable C N ∈ AL ∧ Cond.initialized C ∈ AL ∧ vwCl[ci]? = some (C, T, N) ∧ ∀ j, j < N → defaultValue (ty j) = vp_V fs j
theorem G_new {idx ci N : Nat} {fs : List Value} (L : NO M.1.cls idx ci N fs) (hdg : decode M.2.1 pc = .ok (.new idx, 3)) (h1 : 1 ≤ bc) (h2 : N ≤ bs) (kk : G l X M d Q (pc + 3) lv (.ref A.1 :: st) (nw A (ob ci fs)) (bc - 1) (bs - N)) : G l X M d Q pc lv st A bc bs := by
  refine G_mk h1 h2 kk fun p e R s m args below meth c H locs cells slots ls Z C hR hl hc hs w => ?_
  obtain ⟨Cn, T, ty, hin, hty, g1, g2, g3, g4, hfs⟩ := L
  have hK := C.2.2.2.2.2.2.2.2.1
  have hts : ∀ w ∈ AL, w.before args s = true := fun w hw => AL_at hK hw _
  have hKn := hK.2.2.1.1 ci _ g4
  refine W.newcK C.1 C.2.1 C.2.2.2.2.1 (hts _ g1) (hts _ g2) (hts _ g3) rfl hdg hc hs hKn.2.1 rfl fun H1 kC hkC e1 z1 o1 => ?_
  exact w H1 ⟨_, g4, (u_born ty hts hin hKn hkC e1 hty).to hfs⟩ z1 o1
theorem nA {n : Int32} {N : Nat} (h : ¬ n < 0) (hN : n.toNatClampNeg = N) : ¬ n < 0 ∧ n.toNatClampNeg = N := ⟨h, hN⟩
theorem G_newi {n : Int32} {N : Nat} (hw : Cond.arrayClass .int ∈ AL) (hdg : decode M.2.1 pc = .ok (.newarray .int, 2)) (hn : ¬ n < 0) (hN : n.toNatClampNeg = N) (hb : N ≤ 100000) (h1 : 1 ≤ bc) (h2 : N ≤ bs) (kk : G l X M d Q (pc + 2) lv (.ref A.1 :: st) (nw A (ia X N (fun _ => 0))) (bc - 1) (bs - N)) : G l X M d Q pc lv (.int n :: st) A bc bs := by
  refine G_mk h1 h2 kk fun p e R s m args below meth c H locs cells slots ls Z C hR hl hc hs w => ?_
  have hK := C.2.2.2.2.2.2.2.2.1
  refine va_newaK (atype := .int) C.1 C.2.1 (AL_at hK hw _) rfl hdg rfl hn hN (by show N * 4 ≤ _; omega) hc hs rfl fun H1 cA e1 z1 o1 _ hf => ?_
  have hcA : cA = xC X 0 := Option.some.inj (hf.symm.trans (hK.2.2.1.2 0 _ rfl).2)
  subst hcA
  exact w H1 e1 z1 o1
theorem G_newz {n : Int32} {N : Nat} (hw : Cond.arrayClass .boolean ∈ AL) (hdg : decode M.2.1 pc = .ok (.newarray .boolean, 2)) (hn : ¬ n < 0) (hN : n.toNatClampNeg = N) (hb : N ≤ 100000) (h1 : 1 ≤ bc) (h2 : N ≤ bs) (kk : G l X M d Q (pc + 2) lv (.ref A.1 :: st) (nw A (za X N (fun _ => 0))) (bc - 1) (bs - N)) : G l X M d Q pc lv (.int n :: st) A bc bs := by
  refine G_mk h1 h2 kk fun p e R s m args below meth c H locs cells slots ls Z C hR hl hc hs w => ?_
  have hK := C.2.2.2.2.2.2.2.2.1
  refine va_newaK (atype := .boolean) C.1 C.2.1 (AL_at hK hw _) rfl hdg rfl hn hN (by show N * 1 ≤ _; omega) hc hs rfl fun H1 cA e1 z1 o1 _ hf => ?_
  have hcA : cA = xC X 1 := Option.some.inj (hf.symm.trans (hK.2.2.1.2 1 _ rfl).2)
  subst hcA
  exact w H1 e1 z1 o1
theorem G_newl {n : Int32} {N : Nat} (hw : Cond.arrayClass .long ∈ AL) (hdg : decode M.2.1 pc = .ok (.newarray .long, 2)) (hn : ¬ n < 0) (hN : n.toNatClampNeg = N) (hb : N ≤ 100000) (h1 : 1 ≤ bc) (h2 : N ≤ bs) (kk : G l X M d Q (pc + 2) lv (.ref A.1 :: st) (nw A (la X N (fun _ => 0))) (bc - 1) (bs - N)) : G l X M d Q pc lv (.int n :: st) A bc bs := by
  refine G_mk h1 h2 kk fun p e R s m args below meth c H locs cells slots ls Z C hR hl hc hs w => ?_
  have hK := C.2.2.2.2.2.2.2.2.1
  refine va_newaK (atype := .long) C.1 C.2.1 (AL_at hK hw _) rfl hdg rfl hn hN (by show N * 8 ≤ _; omega) hc hs rfl fun H1 cA e1 z1 o1 _ hf => ?_
  have hcA : cA = xC X 2 := Option.some.inj (hf.symm.trans (hK.2.2.1.2 2 _ rfl).2)
  subst hcA
  exact w H1 e1 z1 o1
/-- a new array of references, of kind t -/
theorem G_newq {idx t : Nat} {Cn : String} {n : Int32} {N : Nat} (ht : (xtys X)[t]? = some (xC X t, .object Cn)) (hlink : Cond.classLink M.1.cls idx Cn ∈ AL) (hao : ∀ U : State, IK X U → va_AO Cn U) (hdg : decode M.2.1 pc = .ok (.anewarray idx, 3)) (hn : ¬ n < 0) (hN : n.toNatClampNeg = N) (hb : N ≤ 100000) (h1 : 1 ≤ bc) (h2 : N ≤ bs) (kk : G l X M d Q (pc + 3) lv (.ref A.1 :: st) (nw A (ra X t N (fun _ => none))) (bc - 1) (bs - N)) : G l X M d Q pc lv (.int n :: st) A bc bs := by
  refine G_mk h1 h2 kk fun p e R s m args below meth c H locs cells slots ls Z C hR hl hc hs w => ?_
  have hK := C.2.2.2.2.2.2.2.2.1
  subst hN
  refine W.anew C.1 C.2.1 C.2.2.2.2.1 (AL_at hK hlink _) (va_AO.use (hao s hK)) rfl hdg rfl hn (by omega) hc hs fun cA kA comp f1 f2 f3 f4 => ?_
  obtain ⟨kB, comp2, g1, g2, g3, g4⟩ := (hK.2.2.1.2 t _ ht).2
  have hcA : cA = xC X t := Option.some.inj (f1.symm.trans g4)
  subst hcA
  refine w _ ?_ (by rw [Array.size_push]) (fun q hq => by rw [Array.getElem?_push, if_neg (Nat.ne_of_lt hq)])
  show (Array.push _ _)[H.size]? = some (vp_cell _ _)
  rw [Array.getElem?_push_size]
  show some _ = some (arrV (xC X t) n.toNatClampNeg (fun _ => Value.null))
  rw [← arrV_new]
/-! ends -/
theorem G_iret {v : Int32} {ty : FieldType} (hr : M.2.2.2.1 = some ty) (hn : narrow ty (.int v) = .int v) (hdg : decode M.2.1 pc = .ok (.ireturn, 1)) (h : Q (Ri v) A) : G l X M d Q pc lv [.int v] A bc bs := by
  intro p e R s m args below meth c mc ms H locs cells slots ls S
  obtain ⟨C, hR, hlo, hsz, h3, h4, h5, h6, hl⟩ := S
  exact vx_ret (W.widen (by omega) (by omega) (W.zret C.1 C.2.1 (C.2.2.1.trans hr) hn (fun t ht _ => ⟨_, A, rfl, h, by rw [ht]; exact hR, by rw [ht]; exact hsz⟩) hlo hdg (hlocks := C.2.2.2.2.2.1)))
theorem G_fret {v : UInt32} (hr : M.2.2.2.1 = some .float) (hdg : decode M.2.1 pc = .ok (.freturn, 1)) (h : Q (Rf v) A) : G l X M d Q pc lv [.float v] A bc bs := by
  intro p e R s m args below meth c mc ms H locs cells slots ls S
  obtain ⟨C, hR, hlo, hsz, h3, h4, h5, h6, hl⟩ := S
  have hlocks : meth.locks = false := C.2.2.2.2.2.1
  exact vx_ret (W.widen (by omega) (by omega) (W.fret C.1 C.2.1 (C.2.2.1.trans hr) (fun t ht _ => ⟨_, A, rfl, h, by rw [ht]; exact hR, by rw [ht]; exact hsz⟩) hlo hdg (hlocks := hlocks)))
theorem G_vret (hr : M.2.2.2.1 = none) (hdg : decode M.2.1 pc = .ok (.return_, 1)) (h : Q Rv A) : G l X M d Q pc lv [] A bc bs := by
  intro p e R s m args below meth c mc ms H locs cells slots ls S
  obtain ⟨C, hR, hlo, hsz, h3, h4, h5, h6, hl⟩ := S
  exact vx_ret (W.widen (by omega) (by omega) (W.vret C.1 C.2.1 (C.2.2.1.trans hr) (fun t ht _ => ⟨_, A, rfl, h, by rw [ht]; exact hR, by rw [ht]; exact hsz⟩) hlo hdg (hlocks := C.2.2.2.2.2.1)))
theorem G_aretQ {r : Option Nat} {rt : FieldType} (hr : M.2.2.2.1 = some rt) (hrt : (∃ n, rt = .object n) ∨ ∃ t, rt = .array t) (hdg : decode M.2.1 pc = .ok (.areturn, 1)) (h : Q (Rq r) A) : G l X M d Q pc lv [va_rf r] A bc bs := by
  intro p e R s m args below meth c mc ms H locs cells slots ls S
  obtain ⟨C, hR, hlo, hsz, h3, h4, h5, h6, hl⟩ := S
  exact vx_ret (W.widen (by omega) (by omega) (W.aret C.1 C.2.1 (C.2.2.1.trans hr) hrt (by cases r with
    | none => exact Or.inl rfl
    | some a => exact Or.inr ⟨a, rfl⟩) (fun t ht _ => ⟨_, A, rfl, h, by rw [ht]; exact hR, by rw [ht]; exact hsz⟩) hlo hdg (hlocks := C.2.2.2.2.2.1)))
theorem G_aret {a : Nat} {rt : FieldType} (hr : M.2.2.2.1 = some rt) (hrt : (∃ n, rt = .object n) ∨ ∃ t, rt = .array t) (hdg : decode M.2.1 pc = .ok (.areturn, 1)) (h : Q (Ra a) A) : G l X M d Q pc lv [.ref a] A bc bs :=
  G_aretQ (r := some a) hr hrt hdg h
theorem Low.S {X : XT} {H0 H : Heap} {locs : List Loc} (h0 : Low X H0) (h : Low X H) (hz : H0.size ≤ H.size) (hlo : ∀ z ∈ locs, xA X z.base) : va_S (xA X) H0 H locs :=
  ⟨hz, fun q _ h2 => (h.2 q (Nat.lt_of_not_le h2)).trans (h0.2 q (Nat.lt_of_not_le h2)).symm, hlo⟩
theorem Low.at {X : XT} {H : Heap} (h : Low X H) : ∀ a : Nat, a < (xH X).size → ¬ xA X a → H[a]? = (xH X)[a]? := fun a ha _ => h.2 a ha
end GM
