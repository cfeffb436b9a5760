/-! the rows of G that read and write cells -/
theorem va_P1 {D : va_G} {cl : List vw_C} {a : Nat} {x : va_E} {H : Heap} (h : va_at D cl (a, x) H) : va_P D cl [(a, x)] H := by
  intro k q hq
  have hk : k < 1 := (List.getElem?_eq_some_iff.mp hq).1
  rw [show k = 0 by omega] at hq
  cases hq
  exact h
theorem Low.kept {X : XT} {H H1 : Heap} (h : Low X H) (hz : H.size ≤ H1.size) (hq : ∀ q, q < (xH X).size → H1[q]? = H[q]?) : Low X H1 := ⟨Nat.le_trans h.1 hz, fun q hq1 => (hq q hq1).trans (h.2 q hq1)⟩
/-- a cell is written -/
theorem Rel.set {X : XT} {A : AH} {H H1 : Heap} {a : Nat} {x : va_E} (h : Rel X A H) (ha : xA X a) (h1 : va_at (xD X) vwCl (a, x) H1) (z : H1.size = H.size) (oq : ∀ q : Nat, q ≠ a → H1[q]? = H[q]?) : Rel X (up A a x) H1 := by
  obtain ⟨r1, r2, r3⟩ := h
  refine ⟨z.trans r1, r2.kept (Nat.le_of_eq z.symm) (fun q hq => oq q (fun h => by rw [h] at hq; exact absurd hq (Nat.not_lt.mpr ha))), fun b y hb => ?_⟩
  simp only [up] at hb
  by_cases hba : b = a
  · rw [if_pos hba] at hb
    cases hb
    subst hba
    exact Or.inl ⟨h1, ha⟩
  · rw [if_neg hba] at hb
    exact (r3 b y hb).kept (oq b hba)
/-- a cell is made -/
theorem Rel.push {X : XT} {A : AH} {H H1 : Heap} {x : va_E} (h : Rel X A H) (h1 : va_at (xD X) vwCl (H.size, x) H1) (z : H1.size = H.size + 1) (oq : ∀ q : Nat, q < H.size → H1[q]? = H[q]?) : Rel X (nw A x) H1 := by
  obtain ⟨r1, r2, r3⟩ := h
  refine ⟨by rw [z, r1]; rfl, r2.kept (by omega) (fun q hq => oq q (Nat.lt_of_lt_of_le hq r2.1)), fun b y hb => ?_⟩
  simp only [nw] at hb
  by_cases hba : b = A.1
  · rw [if_pos hba] at hb
    cases hb
    subst hba
    rw [← r1]
    exact Or.inl ⟨h1, r2.1⟩
  · rw [if_neg hba] at hb
    exact (r3 b y hb).kept (oq b (r3 b y hb).lt)
/-- cells come behind, and nothing else changes -/
theorem Rel.grow {X : XT} {A : AH} {H H1 : Heap} (h : Rel X A H) (z : H.size ≤ H1.size) (oq : ∀ q : Nat, q < H.size → H1[q]? = H[q]?) : Rel X (H1.size, A.2) H1 := by
  obtain ⟨r1, r2, r3⟩ := h
  exact ⟨rfl, r2.kept z (fun q hq => oq q (Nat.lt_of_lt_of_le hq r2.1)), fun b y hb => (r3 b y hb).kept (oq b (r3 b y hb).lt)⟩
/-- in a method of the class own, getfield idx reads the field k of an object of kind ci -/
def GF (own : String) (idx ci k : Nat) : Prop :=
  ∀ {X : XT} {p : Program} {l : Launch} {e : Env} {R : Room} {s : State} {m : MethodId} {args : Array Value} {below : List Frame} {meth : Method} {c : Code} {H : Heap} {locs : List Loc} {cells slots : Nat} {Z : State → Prop} {cc : ByteArray} {pc : Nat} {ls : Array Slot} {rest : List Value} {a : Nat} {fs : List Value} {v : Value},
    p.tables.exec = Jvm.exec → c.code = cc → s.vm.findClass own = some m.cls → IK X s → va_at (xD X) vwCl (a, .inr (ci, fs)) H → fs[k]? = some v → decode cc pc = .ok (.getfield idx, 3) →
    W p l e R s m args below meth c H locs cells slots Z (F0 m (pc + 3) ls (v :: rest)) → W p l e R s m args below meth c H locs cells slots Z (F0 m pc ls (.ref a :: rest))
theorem GF.of {own ref C : String} {T : u_T} {N ci idx k : Nat} (hin : ∀ w ∈ u_ws C T N, w ∈ AL) (hc : vwCl[ci]? = some (C, T, N)) (hk : k < N) (hlink : Cond.fieldLink own idx ref (T k).2.1 (T k).2.2.1 ∈ AL) (hsame : (T k).1 = ref ∨ Cond.sameField ref (T k).1 (T k).2.1 (T k).2.2.1 ∈ AL) : GF own idx ci k := by
  intro X p l e R s m args below meth c H locs cells slots Z cc pc ls rest a fs v hx hb hown hK hat hv hdg w
  refine va_get hx hb (Ts := AL) (fun w hw => AL_at hK hw _) hin hown hK.2.2.1 (va_P1 hat) 0 rfl hc k hk (ref := ref) (AL_at hK hlink _) ?_ hv hdg w
  rcases hsame with h | h
  · rw [h]; exact fun _ h => h
  · exact fun x hx => u_same (AL_at hK h args) x hx
theorem GF.nest {own C host : String} {T : u_T} {N ci idx k : Nat} (hin : ∀ w ∈ u_ws C T N, w ∈ AL) (hc : vwCl[ci]? = some (C, T, N)) (hk : k < N) (hlink : Cond.fieldLinkNest own idx (T k).1 (T k).2.1 (T k).2.2.1 host ∈ NL) : GF own idx ci k := by
  intro X p l e R s m args below meth c H locs cells slots Z cc pc ls rest a fs v hx hb hown hK hat hv hdg w
  exact va_getN hx hb (Ts := AL) (fun w hw => AL_at hK hw _) hin hown hK.2.2.1 (va_P1 hat) 0 rfl hc k hk (va_Nw.use rfl (NL_at hK hlink)) (fun _ h => h) hv hdg w
/-- in a method of the class own with that name, putfield idx writes the field k (of that type) of an object of kind ci -/
def PF (own nm : String) (idx ci k : Nat) (ty : FieldType) : Prop :=
  ∀ {X : XT} {p : Program} {l : Launch} {e : Env} {R : Room} {s : State} {m : MethodId} {args : Array Value} {below : List Frame} {meth : Method} {c : Code} {H : Heap} {locs : List Loc} {cells slots : Nat} {Z : State → Prop} {cc : ByteArray} {pc : Nat} {ls : Array Slot} {rest : List Value} {a : Nat} {fs : List Value} {v : Value},
    p.tables.exec = Jvm.exec → c.code = cc → s.vm.findClass own = some m.cls → meth.name = nm → IK X s → va_at (xD X) vwCl (a, .inr (ci, fs)) H → k < fs.length → narrow ty v = v → fits ty v = true → decode cc pc = .ok (.putfield idx, 3) →
    (∀ (H1 : Heap) (i : Nat), va_at (xD X) vwCl (a, .inr (ci, fs.set k v)) H1 → H1.size = H.size → (∀ q : Nat, q ≠ a → H1[q]? = H[q]?) → W p l e R s m args below meth c H1 (locs ++ [⟨a, i⟩]) cells slots Z (F0 m (pc + 3) ls rest)) →
    W p l e R s m args below meth c H locs cells slots Z (F0 m pc ls (v :: .ref a :: rest))
theorem PF.of {own nm ref C : String} {T : u_T} {N ci idx k : Nat} {ty : FieldType} {ty0 : Nat → FieldType} (hin : ∀ w ∈ u_ws C T N, w ∈ AL) (hty : ∀ k, k < N → parseFieldDescriptor (T k).2.2.1 = some (ty0 k)) (hnm : ∀ a, a < N → ∀ b, b < N → a ≠ b → (T a).2.1 ≠ (T b).2.1) (hc : vwCl[ci]? = some (C, T, N)) (hk : k < N) (hlink : Cond.fieldLink own idx ref (T k).2.1 (T k).2.2.1 ∈ AL) (hsame : (T k).1 = ref ∨ Cond.sameField ref (T k).1 (T k).2.1 (T k).2.2.1 ∈ AL) (hfin : (T k).2.2.2 = false) (hd : parseFieldDescriptor (T k).2.2.1 = some ty) : PF own nm idx ci k ty := by
  intro X p l e R s m args below meth c H locs cells slots Z cc pc ls rest a fs v hx hb hown _ hK hat hl hn hfit hdg kk
  have hts : ∀ w ∈ AL, w.before args s = true := fun w hw => AL_at hK hw _
  have hap := va_apart (own := own) hts hin ty0 hty hnm hK.2.2.1 hc
  obtain ⟨r, h1, cell, q1, q2, q3, q4⟩ := hat
  have hr : r = (C, T, N) := Option.some.inj (h1.symm.trans hc)
  subst hr
  obtain ⟨hS, hfc, kC, hkC, hkind⟩ := hK.2.2.1.1 ci _ hc
  obtain ⟨cf, kf, fi, f, hi, hsl⟩ := hS k hk
  have hlay := hts _ (hin _ (u_in_lay hk))
  unfold u_lay at hlay
  rw [if_neg (by rw [hfin]; decide)] at hlay
  have hst := (u_facts hfc hkC (u_lays hts hin hk) hi).1
  have h6 := u_store hfc hkC hkind hlay hi hd hn hfit
  have hi2 : s.fieldFound? ref (T k).2.1 (T k).2.2.1 = some (cf, kf, fi, f) := by
    rcases hsame with h | h
    · rw [← h]; exact hi
    · exact u_same (AL_at hK h args) _ hi
  refine W.putK hx hb (f := f) ⟨hown, hts _ hlink, ⟨_, _, _, hi2⟩, hst⟩ (by rw [q2]; exact h6) q1 q3 (by rw [hsl]; exact k2_hasslot (q4 k hk)) rfl rfl hdg fun H' e1 e2 e3 => ?_
  rw [hsl] at e1 ⊢
  exact kk H' _ ⟨_, hc, t_OB.to (V := updV (vp_V fs) k v) ⟨_, e1, q2, q3, t_set q4 hap hk v⟩ (fun j _ => vp_updV_set hl v j)⟩ e2 e3
theorem PF.nest {own nm C host : String} {T : u_T} {N ci idx k : Nat} {ty : FieldType} {ty0 : Nat → FieldType} (hin : ∀ w ∈ u_ws C T N, w ∈ AL) (hty : ∀ k, k < N → parseFieldDescriptor (T k).2.2.1 = some (ty0 k)) (hnm : ∀ a, a < N → ∀ b, b < N → a ≠ b → (T a).2.1 ≠ (T b).2.1) (hc : vwCl[ci]? = some (C, T, N)) (hk : k < N) (hlink : Cond.fieldLinkNest own idx (T k).1 (T k).2.1 (T k).2.2.1 host ∈ NL) (hfin : (T k).2.2.2 = false) (hd : parseFieldDescriptor (T k).2.2.1 = some ty) : PF own nm idx ci k ty := by
  intro X p l e R s m args below meth c H locs cells slots Z cc pc ls rest a fs v hx hb hown _ hK hat hl hn hfit hdg kk
  have hts : ∀ w ∈ AL, w.before args s = true := fun w hw => AL_at hK hw _
  have hap := va_apart (own := own) hts hin ty0 hty hnm hK.2.2.1 hc
  obtain ⟨r, h1, cell, q1, q2, q3, q4⟩ := hat
  have hr : r = (C, T, N) := Option.some.inj (h1.symm.trans hc)
  subst hr
  obtain ⟨hS, hfc, kC, hkC, hkind⟩ := hK.2.2.1.1 ci _ hc
  obtain ⟨cf, kf, fi, f, hi, hsl⟩ := hS k hk
  have hlay := hts _ (hin _ (u_in_lay hk))
  unfold u_lay at hlay
  rw [if_neg (by rw [hfin]; decide)] at hlay
  have hst := (u_facts hfc hkC (u_lays hts hin hk) hi).1
  have h6 := u_store hfc hkC hkind hlay hi hd hn hfit
  refine va_WputK hx hb (f := f) hown (va_Nw.use rfl (NL_at hK hlink)) hi hst (by rw [q2]; exact h6) q1 q3 (by rw [hsl]; exact k2_hasslot (q4 k hk)) rfl rfl hdg fun H' e1 e2 e3 => ?_
  rw [hsl] at e1 ⊢
  exact kk H' _ ⟨_, hc, t_OB.to (V := updV (vp_V fs) k v) ⟨_, e1, q2, q3, t_set q4 hap hk v⟩ (fun j _ => vp_updV_set hl v j)⟩ e2 e3
theorem PF.fin {own ref C : String} {T : u_T} {N ci idx k : Nat} {ty : FieldType} {ty0 : Nat → FieldType} (hin : ∀ w ∈ u_ws C T N, w ∈ AL) (hty : ∀ k, k < N → parseFieldDescriptor (T k).2.2.1 = some (ty0 k)) (hnm : ∀ a, a < N → ∀ b, b < N → a ≠ b → (T a).2.1 ≠ (T b).2.1) (hc : vwCl[ci]? = some (C, T, N)) (hk : k < N) (hlink : Cond.fieldLink own idx ref (T k).2.1 (T k).2.2.1 ∈ AL) (href : (T k).1 = ref) (hfin : (T k).2.2.2 = true) (hdecl : (T k).1 = own) (hd : parseFieldDescriptor (T k).2.2.1 = some ty) : PF own "<init>" idx ci k ty := by
  intro X p l e R s m args below meth c H locs cells slots Z cc pc ls rest a fs v hx hb hown hin2 hK hat hl hn hfit hdg kk
  have hts : ∀ w ∈ AL, w.before args s = true := fun w hw => AL_at hK hw _
  have hap := va_apart (own := own) hts hin ty0 hty hnm hK.2.2.1 hc
  obtain ⟨r, h1, cell, q1, q2, q3, q4⟩ := hat
  have hr : r = (C, T, N) := Option.some.inj (h1.symm.trans hc)
  subst hr
  obtain ⟨hS, hfc, kC, hkC, hkind⟩ := hK.2.2.1.1 ci _ hc
  obtain ⟨cf, kf, fi, f, hi, hsl⟩ := hS k hk
  have hlay := hts _ (hin _ (u_in_lay hk))
  unfold u_lay at hlay
  rw [if_pos hfin] at hlay
  have hst := (u_facts hfc hkC (u_lays hts hin hk) hi).1
  have hcf : m.cls = cf := by
    obtain ⟨_, _, c', _, _, _, -, -, hf', -, -, -, hown2, -⟩ := Cond.laysFinal_spec hlay
    have e1 : c' = cf := by have := hi.symm.trans hf'; simp at this; exact this.1.symm
    rw [hdecl] at hown2
    rw [← e1]; exact Option.some.inj (hown.symm.trans hown2)
  have h6 := u_fits hfc hkC hkind (Or.inr hlay) hi hd hn hfit
  have hi2 : s.fieldFound? ref (T k).2.1 (T k).2.2.1 = some (cf, kf, fi, f) := by rw [← href]; exact hi
  refine W.putFinK hx hb hown (hts _ hlink) hi2 hst hcf hin2 (by rw [q2]; exact h6) q1 q3 (by rw [hsl]; exact k2_hasslot (q4 k hk)) rfl rfl hdg fun H' e1 e2 e3 => ?_
  rw [hsl] at e1 ⊢
  exact kk H' _ ⟨_, hc, t_OB.to (V := updV (vp_V fs) k v) ⟨_, e1, q2, q3, t_set q4 hap hk v⟩ (fun j _ => vp_updV_set hl v j)⟩ e2 e3
section GH
variable {l : Launch} {X : XT} {M : MT} {d : Nat} {Q : Ot → AH → Prop} {pc : Nat} {lv lv' : List (Nat × Value)} {st rest : List Value} {A : AH} {bc bs : Nat}
theorem G_get {idx ci k a : Nat} {fs : List Value} {v : Value} (F : GF M.1.cls idx ci k) (hdg : decode M.2.1 pc = .ok (.getfield idx, 3)) (ha : A.2 a = some (ob ci fs)) (hv : fs[k]? = some v) (kk : G l X M d Q (pc + 3) lv (v :: st) A bc bs) : G l X M d Q pc lv (.ref a :: st) A bc bs :=
  G_lift kk fun _ _ _ _ _ _ _ _ _ _ _ _ _ _ _ C hR _ w => F C.1 C.2.1 C.2.2.2.2.1 C.2.2.2.2.2.2.2.2.1 (hR.ob ha) hv hdg w
/-- a row that writes the cell a -/
theorem G_wr {pc' a : Nat} {st' : List Value} {x y : va_E} (ha : A.2 a = some x) (hne : x ≠ ra X 4 0 (fun _ => none)) (kk : G l X M d Q pc' lv st' (up A a y) bc bs)
    (h : ∀ (p : Program) (e : Env) (R : Room) (s : State) (m : MethodId) (args : Array Value) (below : List Frame) (meth : Method) (c : Code) (H : Heap) (locs : List Loc) (cells slots : Nat) (ls : Array Slot) (Z : State → Prop), Cx l X M d p R s m meth c → Rel X A H → lv_has ls M.2.2.1 lv → va_at (xD X) vwCl (a, x) H →
      (∀ (H1 : Heap) (i : Nat), va_at (xD X) vwCl (a, y) H1 → H1.size = H.size → (∀ q : Nat, q ≠ a → H1[q]? = H[q]?) → W p l e R s m args below meth c H1 (locs ++ [⟨a, i⟩]) cells slots Z (F0 m pc' ls st')) → W p l e R s m args below meth c H locs cells slots Z (F0 m pc ls st)) : G l X M d Q pc lv st A bc bs := by
  intro p e R s m args below meth c mc ms H locs cells slots ls S
  obtain ⟨C, hR, hlo, hsz, h1, h2, h3, h4, hl⟩ := S
  obtain ⟨g1, g3⟩ := hR.both ha hne
  refine h _ _ _ _ _ _ _ _ _ _ _ _ _ _ _ C hR hl g1 fun H1 i e1 z oq => ?_
  refine kk _ _ _ _ _ _ _ _ _ _ _ _ _ _ _ _ ⟨C, hR.set g3 e1 z oq, fun q hq => ?_, by rw [z]; exact hsz, h1, h2, h3, h4, hl⟩
  rcases List.mem_append.mp hq with q1 | q1
  · exact hlo q q1
  · rw [List.mem_singleton.mp q1]; exact g3
theorem G_put {idx ci k a : Nat} {fs : List Value} {v : Value} {ty : FieldType} (F : PF M.1.cls M.1.name idx ci k ty) (hdg : decode M.2.1 pc = .ok (.putfield idx, 3)) (ha : A.2 a = some (ob ci fs)) (hk : k < fs.length) (hn : narrow ty v = v) (hf : fits ty v = true) (kk : G l X M d Q (pc + 3) lv st (up A a (ob ci (fs.set k v))) bc bs) : G l X M d Q pc lv (v :: .ref a :: st) A bc bs :=
  G_wr ha (fun h => nomatch h) kk fun _ _ _ _ _ _ _ _ _ _ _ _ _ _ _ C _ _ g w => F C.1 C.2.1 C.2.2.2.2.1 C.2.2.2.2.2.2.2.1 C.2.2.2.2.2.2.2.2.1 g hk hn hf hdg w
theorem G_iald {a n : Nat} {f : Nat → Int32} {i : Int32} (hdg : decode M.2.1 pc = .ok (.iaload, 1)) (ha : A.2 a = some (ia X n f)) (hin : vp_in i n) (kk : G l X M d Q (pc + 1) lv (.int (f i.toNatClampNeg) :: st) A bc bs) : G l X M d Q pc lv (.int i :: .ref a :: st) A bc bs :=
  G_lift kk fun _ _ _ _ _ _ _ _ _ _ _ _ _ _ _ C hR _ w => va_iald C.1 C.2.1 C.2.2.2.2.2.2.2.2.1.2.2.1 (va_P1 (hR.ia ha)) 0 0 rfl rfl hin hdg w
theorem G_zald {a n : Nat} {f : Nat → Int32} {i : Int32} (hdg : decode M.2.1 pc = .ok (.baload, 1)) (ha : A.2 a = some (za X n f)) (hin : vp_in i n) (kk : G l X M d Q (pc + 1) lv (.int (f i.toNatClampNeg) :: st) A bc bs) : G l X M d Q pc lv (.int i :: .ref a :: st) A bc bs :=
  G_lift kk fun _ _ _ _ _ _ _ _ _ _ _ _ _ _ _ C hR _ w => va_zald C.1 C.2.1 C.2.2.2.2.2.2.2.2.1.2.2.1 (va_P1 (hR.ia ha)) 0 1 rfl rfl hin hdg w
theorem G_lald {a n : Nat} {f : Nat → Int64} {i : Int32} (hdg : decode M.2.1 pc = .ok (.laload, 1)) (ha : A.2 a = some (la X n f)) (hin : vp_in i n) (kk : G l X M d Q (pc + 1) lv (.long (f i.toNatClampNeg) :: st) A bc bs) : G l X M d Q pc lv (.int i :: .ref a :: st) A bc bs :=
  G_lift kk fun _ _ _ _ _ _ _ _ _ _ _ _ _ _ _ C hR _ w => va_lald C.1 C.2.1 C.2.2.2.2.2.2.2.2.1.2.2.1 (va_P1 (hR.la ha)) 0 2 rfl rfl hin hdg w
theorem G_aald3 {a n : Nat} {f : Nat → Option Nat} {i : Int32} (hdg : decode M.2.1 pc = .ok (.aaload, 1)) (ha : A.2 a = some (ra X 3 n f)) (hin : vp_in i n) (kk : G l X M d Q (pc + 1) lv (va_rf (f i.toNatClampNeg) :: st) A bc bs) : G l X M d Q pc lv (.int i :: .ref a :: st) A bc bs :=
  G_lift kk fun _ _ _ _ _ _ _ _ _ _ _ _ _ _ _ C hR _ w => va_aldq C.1 C.2.1 C.2.2.2.2.2.2.2.2.1.2.2.1 (va_P1 (hR.ra ha hin)) 0 3 rfl rfl hin hdg w
theorem G_aald4 {a n : Nat} {f : Nat → Option Nat} {i : Int32} (hdg : decode M.2.1 pc = .ok (.aaload, 1)) (ha : A.2 a = some (ra X 4 n f)) (hin : vp_in i n) (kk : G l X M d Q (pc + 1) lv (va_rf (f i.toNatClampNeg) :: st) A bc bs) : G l X M d Q pc lv (.int i :: .ref a :: st) A bc bs :=
  G_lift kk fun _ _ _ _ _ _ _ _ _ _ _ _ _ _ _ C hR _ w => va_aldq C.1 C.2.1 C.2.2.2.2.2.2.2.2.1.2.2.1 (va_P1 (hR.ra ha hin)) 0 4 rfl rfl hin hdg w
theorem G_alen {a t : Nat} {ty : FieldType} {x : vp_A} {v : Int32} (ht : (xtys X)[t]? = some (xC X t, ty)) (hdg : decode M.2.1 pc = .ok (.arraylength, 1)) (ha : A.2 a = some (.inl (xC X t, x))) (hv : Int32.ofNat x.1 = v) (kk : G l X M d Q (pc + 1) lv (.int v :: st) A bc bs) : G l X M d Q pc lv (.ref a :: st) A bc bs :=
  G_lift kk fun _ _ _ _ _ _ _ _ _ _ _ _ _ _ _ C hR _ w => by
    rcases hR.2.2 a _ ha with h | ⟨h1, cell, h2, h3, h4, h5, h6⟩
    · exact va_alen C.1 C.2.1 C.2.2.2.2.2.2.2.2.1.2.2.1 (va_P1 h.1) 0 t rfl ht hv hdg w
    · have hx0 : x.1 = 0 := by
        have e := congrArg (fun q : va_E => match q with
          | .inl y => y.2.1
          | .inr _ => 0) h1
        exact e
      subst hv
      refine W.alen (n := Int32.ofNat x.1) C.1 C.2.1 h2 (ty := .object "java/lang/Object") ⟨h6, ?_⟩ ?_ rfl rfl hdg w
      · rw [h3]
        exact ((C.2.2.2.2.2.2.2.2.1.2.2.1.2 4 _ rfl).1 0 (fun _ => .null)).2
      · rw [hx0]
        exact h4
theorem G_iast {a n : Nat} {f : Nat → Int32} {i x : Int32} (hdg : decode M.2.1 pc = .ok (.iastore, 1)) (ha : A.2 a = some (ia X n f)) (hin : vp_in i n) (kk : G l X M d Q (pc + 1) lv st (up A a (ia X n (upd f i.toNatClampNeg x))) bc bs) : G l X M d Q pc lv (.int x :: .int i :: .ref a :: st) A bc bs := by
  refine G_wr ha (fun h => by simp at h) kk fun _ _ _ _ _ _ _ _ _ _ _ _ _ _ _ C _ _ g w => ?_
  refine W.iast C.1 C.2.1 g ((C.2.2.2.2.2.2.2.2.1.2.2.1.2 0 _ rfl).1 n (fun j => .int (f j))) (fun q => by cases q) (by show ¬ (i < 0 ∨ (arrV _ _ _).slots.size ≤ _); rw [arrV_size]; exact hin) rfl rfl hdg fun H1 e z oq => ?_
  refine w H1 _ ?_ z oq
  show H1[a]? = some (vp_cell _ _)
  rw [e]
  rw [vp_cell_i, vp_cell_i, arrV_store]
  congr 2
  funext q
  by_cases hq : q = i.toNatClampNeg
  · simp [updV, upd, hq]
  · simp [updV, upd, hq]
theorem G_zast {a n : Nat} {f : Nat → Int32} {i x : Int32} (hdg : decode M.2.1 pc = .ok (.bastore, 1)) (ha : A.2 a = some (za X n f)) (hin : vp_in i n) (kk : G l X M d Q (pc + 1) lv st (up A a (za X n (upd f i.toNatClampNeg (vp_nar .boolean x)))) bc bs) : G l X M d Q pc lv (.int x :: .int i :: .ref a :: st) A bc bs := by
  refine G_wr ha (fun h => by simp at h) kk fun _ _ _ _ _ _ _ _ _ _ _ _ _ _ _ C _ _ g w => ?_
  refine W.zast C.1 C.2.1 g ((C.2.2.2.2.2.2.2.2.1.2.2.1.2 1 _ rfl).1 n (fun j => .int (f j))) (fun q => by cases q) (by show ¬ (i < 0 ∨ (arrV _ _ _).slots.size ≤ _); rw [arrV_size]; exact hin) rfl rfl hdg fun H1 e z oq => ?_
  refine w H1 _ ?_ z oq
  show H1[a]? = some (vp_cell _ _)
  rw [e]
  rw [vp_cell_i, vp_cell_i, arrV_store]
  congr 2
  funext q
  by_cases hq : q = i.toNatClampNeg
  · simp [updV, upd, vp_nar, narrow, hq]
  · simp [updV, upd, hq]
theorem G_last {a n : Nat} {f : Nat → Int64} {i : Int32} {x : Int64} (hdg : decode M.2.1 pc = .ok (.lastore, 1)) (ha : A.2 a = some (la X n f)) (hin : vp_in i n) (kk : G l X M d Q (pc + 1) lv st (up A a (la X n (vp_updL f i.toNatClampNeg x))) bc bs) : G l X M d Q pc lv (.long x :: .int i :: .ref a :: st) A bc bs := by
  refine G_wr ha (fun h => by simp at h) kk fun _ _ _ _ _ _ _ _ _ _ _ _ _ _ _ C _ _ g w => ?_
  refine W.last C.1 C.2.1 g ((C.2.2.2.2.2.2.2.2.1.2.2.1.2 2 _ rfl).1 n (fun j => .long (f j))) (fun q => by cases q) (by show ¬ (i < 0 ∨ (arrV _ _ _).slots.size ≤ _); rw [arrV_size]; exact hin) rfl rfl hdg fun H1 e z oq => ?_
  refine w H1 _ ?_ z oq
  show H1[a]? = some (vp_cell _ _)
  rw [e]
  rw [vp_cell_l, vp_cell_l, arrV_store]
  congr 2
  funext q
  by_cases hq : q = i.toNatClampNeg
  · simp [updV, vp_updL, hq]
  · simp [updV, vp_updL, hq]
end GH
