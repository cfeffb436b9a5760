/-! THE MAP OVER THE MACHINE: a method's frame over a map of cells (G), a method over a map (Ct); the rows below turn one instruction each. -/
/-- the words that every method takes along: the tables' good ones -/
def AL : List Cond := lw_tbl.filter goodWord
def isNest : Cond → Bool
  | .fieldLinkNest .. => true
  | .methodLinkNest .. => true
  | .castable .. => true
  | .declares .. => true
  | _ => false
/-- the words of nest mates, and of what can be cast -/
def NL : List Cond := tables_1.filter isNest
/-- what is fixed for a whole run: the heap that the law found, class numbers and places of fields, the arrays' classes, ArrayList's empty array, the texts, their bytes, the script -/
abbrev XT : Type := Heap × va_G × (Nat → ClassId) × Nat × (Nat → Nat) × (Nat → Nat) × Nat × Nat × (Nat → Int32)
abbrev xH (X : XT) : Heap := X.1
abbrev xD (X : XT) : va_G := X.2.1
abbrev xC (X : XT) : Nat → ClassId := X.2.2.1
abbrev xE (X : XT) : Nat := X.2.2.2.1
abbrev xK (X : XT) : Nat → Nat := X.2.2.2.2.1
abbrev xV (X : XT) : Nat → Nat := X.2.2.2.2.2.1
abbrev xb (X : XT) : Nat := X.2.2.2.2.2.2.1
abbrev xL (X : XT) : Nat := X.2.2.2.2.2.2.2.1
abbrev xs (X : XT) : Nat → Int32 := X.2.2.2.2.2.2.2.2
abbrev xA (X : XT) : Nat → Prop := fun q => (xH X).size ≤ q
abbrev xtys (X : XT) : List (ClassId × FieldType) := [(xC X 0, .int), (xC X 1, .boolean), (xC X 2, .long), (xC X 3, .object "PieceTransfer$Download"), (xC X 4, .object "java/lang/Object")]
/-- cells: an object of kind ci, an int array, a boolean array, a long array, an array of references of kind t (3: of Downloads, 4: of Objects) -/
abbrev ob (ci : Nat) (fs : List Value) : va_E := .inr (ci, fs)
abbrev ia (X : XT) (n : Nat) (f : Nat → Int32) : va_E := .inl (xC X 0, n, .inl f)
abbrev za (X : XT) (n : Nat) (f : Nat → Int32) : va_E := .inl (xC X 1, n, .inl f)
abbrev la (X : XT) (n : Nat) (f : Nat → Int64) : va_E := .inl (xC X 2, n, .inr (.inl f))
abbrev ra (X : XT) (t : Nat) (n : Nat) (f : Nat → Option Nat) : va_E := .inl (xC X t, n, .inr (.inr (.inr (.inr f))))
/-- a map of cells: the next free address, and what lies where -/
abbrev AH : Type := Nat × (Nat → Option va_E)
def up (A : AH) (a : Nat) (e : va_E) : AH := (A.1, fun b => if b = a then some e else A.2 b)
def nw (A : AH) (e : va_E) : AH := (A.1 + 1, fun b => if b = A.1 then some e else A.2 b)
def Low (X : XT) (H : Heap) : Prop := (xH X).size ≤ H.size ∧ ∀ q, q < (xH X).size → H[q]? = (xH X)[q]?
/-- ArrayList's empty array: what is known of its cell -/
def WK (X : XT) (a : Nat) (H : Heap) : Prop := ∃ cell : Cell, H[a]? = some cell ∧ cell.cls = xC X 4 ∧ cell.slots.size.toInt32 = Int32.ofNat 0 ∧ cell.vm ≠ .unknown ∧ ∀ k, cell.vm ≠ .statics k
/-- a cell of the map: made since the start, or ArrayList's empty array -/
def at4 (X : XT) (a : Nat) (e : va_E) (H : Heap) : Prop := (va_at (xD X) vwCl (a, e) H ∧ xA X a) ∨ (e = ra X 4 0 (fun _ => none) ∧ WK X a H)
theorem at4.kept {X : XT} {a : Nat} {e : va_E} {H H1 : Heap} (h : at4 X a e H) (hq : H1[a]? = H[a]?) : at4 X a e H1 := by
  rcases h with ⟨h1, h2⟩ | ⟨h1, cell, h2, h3⟩
  · exact Or.inl ⟨h1.kept hq, h2⟩
  · exact Or.inr ⟨h1, cell, hq.trans h2, h3⟩
theorem at4.lt {X : XT} {a : Nat} {e : va_E} {H : Heap} (h : at4 X a e H) : a < H.size := by
  rcases h with ⟨h1, h2⟩ | ⟨h1, cell, h2, h3⟩
  · exact h1.lt
  · exact (Array.getElem?_eq_some_iff.mp h2).1
def Rel (X : XT) (A : AH) (H : Heap) : Prop := H.size = A.1 ∧ Low X H ∧ ∀ (a : Nat) (e : va_E), A.2 a = some e → at4 X a e H
theorem Rel.both {X : XT} {A : AH} {H : Heap} {a : Nat} {e : va_E} (h : Rel X A H) (ha : A.2 a = some e) (hne : e ≠ ra X 4 0 (fun _ => none)) : va_at (xD X) vwCl (a, e) H ∧ xA X a := (h.2.2 a e ha).resolve_right fun q => hne q.1
theorem Rel.ob {X : XT} {A : AH} {H : Heap} {a ci : Nat} {fs : List Value} (h : Rel X A H) (ha : A.2 a = some (ob ci fs)) : va_at (xD X) vwCl (a, ob ci fs) H := (h.both ha (fun h => nomatch h)).1
theorem Rel.ia {X : XT} {A : AH} {H : Heap} {a n : Nat} {f : Nat → Int32} {c : ClassId} (h : Rel X A H) (ha : A.2 a = some (.inl (c, n, .inl f))) : va_at (xD X) vwCl (a, .inl (c, n, .inl f)) H := (h.both ha (fun h => by simp at h)).1
theorem Rel.la {X : XT} {A : AH} {H : Heap} {a n : Nat} {f : Nat → Int64} {c : ClassId} (h : Rel X A H) (ha : A.2 a = some (.inl (c, n, .inr (.inl f)))) : va_at (xD X) vwCl (a, .inl (c, n, .inr (.inl f))) H := (h.both ha (fun h => by simp at h)).1
theorem Rel.ra {X : XT} {A : AH} {H : Heap} {a n : Nat} {f : Nat → Option Nat} {c : ClassId} {i : Int32} (h : Rel X A H) (ha : A.2 a = some (.inl (c, n, .inr (.inr (.inr (.inr f)))))) (hi : vp_in i n) : va_at (xD X) vwCl (a, .inl (c, n, .inr (.inr (.inr (.inr f))))) H := (h.both ha (fun h => by
  have h0 : n ≠ 0 := fun q => hi (Or.inr (by rw [q]; exact Nat.zero_le _))
  simp at h
  exact h0 h.2.1)).1
/-- the texts: their owner's constant, its number, the text -/
def sTab : List (String × Nat × String) := [("PieceTransfer$Reader", 31, "file"), ("PieceTransfer$Reader", 41, "pieces"), ("PieceTransfer$Reader", 62, "flaw"), ("PieceTransfer$Reader", 72, "break"), ("PieceTransfer$Reader", 77, "cut"), ("PieceTransfer$Reader", 82, "blame"), ("PieceTransferModel", 116, "file"), ("PieceTransferModel", 126, "pieces"), ("PieceTransferModel", 131, "flaw"), ("PieceTransferModel", 141, "break"), ("PieceTransferModel", 143, "cut"), ("PieceTransferModel", 145, "blame"), ("PieceTransfer", 359, "this cannot be done now"), ("PieceTransfer", 357, "an argument is out of range"), ("PieceTransfer", 142, "what is not 0 to 11"), ("PieceTransfer", 354, "there is no such index"), ("PieceTransfer", 173, "what is not 0 to 4"), ("PieceTransfer", 209, "what is not 0 to 6"), ("PieceTransfer", 363, "there is none"), ("PieceTransfer", 328, "what is not 0 to 2"), ("PieceTransfer", 340, "there is no change to undo")]
def sLen : List Nat := [4, 6, 4, 5, 3, 5, 4, 6, 4, 5, 3, 5]
def sByt : List (List Int32) := [[102, 105, 108, 101], [112, 105, 101, 99, 101, 115], [102, 108, 97, 119], [98, 114, 101, 97, 107], [99, 117, 116], [98, 108, 97, 109, 101], [102, 105, 108, 101], [112, 105, 101, 99, 101, 115], [102, 108, 97, 119], [98, 114, 101, 97, 107], [99, 117, 116], [98, 108, 97, 109, 101]]
/-- the words of the texts (places 0 to 11 of sTab): their bytes; what String asks of its statics -/
def SK (X : XT) (U : State) : Prop :=
  va_Z "java/lang/String" "COMPACT_STRINGS" "Z" (.int 1) (xA X) U (xH X) ∧ va_Zq "jdk/internal/util/Preconditions" "SIOOBE_FORMATTER" "Ljava/util/function/BiFunction;" (xA X) U (xH X) ∧
  ∀ i : Nat, i < 12 → va_O "java/lang/String" (xK X i) (xA X) U (xH X) ∧ va_OF "java/lang/String" "coder" "B" (.int 0) (xK X i) (xA X) U (xH X) ∧ va_OF "java/lang/String" "value" "[B" (.ref (xV X i)) (xK X i) (xA X) U (xH X) ∧ va_T .byte (xV X i) (sLen.getD i 0) (fun j => .int ((sByt.getD i []).getD j 0)) (xA X) U (xH X)
theorem SK.moved {X : XT} {u U : State} (hvm : u.vm.Alike U.vm) (h : SK X u) : SK X U :=
  ⟨va_Z.moved hvm h.1, va_Zq.moved hvm h.2.1, fun i hi => ⟨va_O.moved hvm (h.2.2 i hi).1, va_OF.moved hvm (h.2.2 i hi).2.1, va_OF.moved hvm (h.2.2 i hi).2.2.1, va_T.moved hvm (h.2.2 i hi).2.2.2⟩⟩
/-- pairs of exceptions, the first none of the second -/
def ncTab : List (String × String) := [("java/lang/IllegalArgumentException", "java/lang/IndexOutOfBoundsException"), ("java/lang/IllegalStateException", "java/lang/IndexOutOfBoundsException"), ("java/util/NoSuchElementException", "java/lang/IndexOutOfBoundsException"), ("java/lang/IllegalStateException", "java/lang/IllegalArgumentException")]
/-- what the machine's tables say, all a run long -/
def IK (X : XT) (U : State) : Prop :=
  (∀ w ∈ AL, w.before #[] U = true) ∧ (∀ w ∈ NL, w.before #[] U = true) ∧ va_K (xD X) vwCl (xtys X) U ∧
  va_Z "java/util/ArrayList" "DEFAULTCAPACITY_EMPTY_ELEMENTDATA" "[Ljava/lang/Object;" (.ref (xE X)) (xA X) U (xH X) ∧
  vx_Zq Bundle.tN "UNASSIGNED_STACK" Bundle.steD (xA X) U (xH X) ∧ vx_Zq Bundle.tN "SUPPRESSED_SENTINEL" Bundle.listD (xA X) U (xH X) ∧
  (∀ (i : Nat) (q : String × Nat × String), sTab[i]? = some q → vk_R q.1 q.2.1 q.2.2 (xK X i) U) ∧
  va_AO "PieceTransfer$Download" U ∧ va_AO "java/lang/Object" U ∧ SK X U ∧ (∀ q ∈ ncTab, va_Nc q.1 q.2 U) ∧ va_X (xb X) (xL X) (xs X) U (xH X)
theorem NL_warm {w : Cond} (h : isNest w = true) {s U : State} (hW : s.WarmedH U.vm) (hs : w.before #[] s = true) : w.before #[] U = true := by
  cases w <;> first | exact va_Nw.warmF hW hs | exact va_Nw.warmM hW hs | exact va_Nw.warmC hW hs | exact va_Nw.warmD hW hs | (simp [isNest] at h)
theorem AL_word {X : XT} {s U : State} (h : IK X s) {w : Cond} (hw : w ∈ AL) (hW : s.WarmedH U.vm) (a' : Array Value) : w.before a' U = true :=
  word_at hW (good_of_word (List.mem_filter.mp hw).2) (h.1 w hw)
theorem AL_at {X : XT} {s : State} (h : IK X s) {w : Cond} (hw : w ∈ AL) (a' : Array Value) : w.before a' s = true := AL_word h hw (State.WarmedH.refl s) a'
theorem NL_ot {w : Cond} (h : w ∈ NL) : w.onTables = true := by
  have h := (List.mem_filter.mp h).2
  cases w <;> first | rfl | (simp [isNest] at h)
theorem NL_at {X : XT} {s : State} (h : IK X s) {w : Cond} (hw : w ∈ NL) : va_Nw w s := h.2.1 w hw
theorem IK.warm {X : XT} {s U : State} (hW : s.WarmedH U.vm) (h : IK X s) : IK X U := by
  obtain ⟨h1, h2, h3, h4, h5, h6, h7, h8, h9, h10, h11, h12⟩ := id h
  exact ⟨fun w hw => AL_word h hw hW _, fun w hw => NL_warm (List.mem_filter.mp hw).2 hW (h2 w hw), va_K.moved hW.alike h3, va_Z.moved hW.alike h4, vx_Zq.moved hW.alike h5, vx_Zq.moved hW.alike h6, fun i q hq => (h7 i q hq).warm hW, va_AO.moved hW.alike h8, va_AO.moved hW.alike h9, SK.moved hW.alike h10, fun q hq => va_Nc.moved hW.alike (h11 q hq), va_X.moved hW.alike h12⟩
/-- a method: its name, its code, its variables, what it returns, its handlers -/
abbrev MT : Type := MethodName × ByteArray × Nat × Option FieldType × List (Nat × Nat × Nat × Nat)
/-- how a method ends: with a value, with none, or with an exception -/
abbrev Ot : Type := Option Value ⊕ String
abbrev Ri (i : Int32) : Ot := .inl (some (.int i))
abbrev Ra (a : Nat) : Ot := .inl (some (.ref a))
abbrev Rq (o : Option Nat) : Ot := .inl (some (va_rf o))
abbrev Rf (x : UInt32) : Ot := .inl (some (.float x))
abbrev Rv : Ot := .inl none
abbrev Th (E : String) : Ot := .inr E
def mcode (M : MT) : Cond := match M.2.2.2.2 with
  | [] => .code M.1 M.2.1 M.2.2.1 M.2.2.2.1
  | hh => .codeWith M.1 M.2.1 M.2.2.1 M.2.2.2.1 hh
def rmd (d mc ms : Nat) : Room := { frames := d + 10, cells := mc, slots := ms, locals := 64 * d + 256 }
def Cx (l : Launch) (X : XT) (M : MT) (d : Nat) (p : Program) (R : Room) (s : State) (m : MethodId) (meth : Method) (c : Code) : Prop :=
  p.tables.exec = Jvm.exec ∧ c.code = M.2.1 ∧ meth.sig.returnType = M.2.2.2.1 ∧ c.maxLocals = M.2.2.1 ∧ s.vm.findClass M.1.cls = some m.cls ∧ meth.locks = false ∧ c.exceptionTable.toList = tableOf M.2.2.2.2 ∧ meth.name = M.1.name ∧ IK X s ∧ l.stackTraces = false ∧ Low X s.heap ∧ d + 10 ≤ R.frames ∧ 64 * d + 256 ≤ R.locals
def QcO (X : XT) (Q : Ot → AH → Prop) : Array Value → State → Outcome → State → Prop := fun _ st o t => ∃ (v : Option Value) (A : AH), o = .returned v ∧ Q (.inl v) A ∧ Rel X A t.heap ∧ st.heap.size ≤ t.heap.size
def XcO (X : XT) (Q : Ot → AH → Prop) : String → State → State → Prop := fun E st t => ∃ A : AH, Q (.inr E) A ∧ Rel X A t.heap ∧ st.heap.size ≤ t.heap.size
def Sit (l : Launch) (X : XT) (M : MT) (d : Nat) (A : AH) (lv : List (Nat × Value)) (bc bs : Nat) (p : Program) (R : Room) (s : State) (m : MethodId) (meth : Method) (c : Code) (mc ms : Nat) (H : Heap) (locs : List Loc) (cells slots : Nat) (ls : Array Slot) : Prop :=
  Cx l X M d p R s m meth c ∧ Rel X A H ∧ (∀ z ∈ locs, xA X z.base) ∧ s.heap.size ≤ H.size ∧ cells + bc ≤ mc ∧ slots + bs ≤ ms ∧ mc ≤ R.cells ∧ ms ≤ R.slots ∧ lv_has ls M.2.2.1 lv
/-- in a frame of the method M at pc, with these variables and this stack, over the map A, with room for bc cells of bs slots and d calls: it comes to an end with Q -/
def G (l : Launch) (X : XT) (M : MT) (d : Nat) (Q : Ot → AH → Prop) (pc : Nat) (lv : List (Nat × Value)) (st : List Value) (A : AH) (bc bs : Nat) : Prop :=
  ∀ (p : Program) (e : Env) (R : Room) (s : State) (m : MethodId) (args : Array Value) (below : List Frame) (meth : Method) (c : Code) (mc ms : Nat) (H : Heap) (locs : List Loc) (cells slots : Nat) (ls : Array Slot),
    Sit l X M d A lv bc bs p R s m meth c mc ms H locs cells slots ls → W p l e R s m args below meth c H locs cells slots (vx_MQ below (QcO X Q) (XcO X Q) args s mc ms (xA X)) (F0 m pc ls st)
def PcO (X : XT) (args : List Value) (A : AH) : Array Value → State → Prop := fun v U => v = args.toArray ∧ Rel X A U.heap ∧ IK X U
/-- the method M, called with these arguments over the map A, with room: it ends with Q -/
def Ct (l : Launch) (X : XT) (d : Nat) (M : MT) (args : List Value) (A : AH) (mc ms : Nat) (Q : Ot → AH → Prop) : Prop :=
  vx_Met l M.1 (mcode M :: AL) (rmd d mc ms) (PcO X args A) (QcO X Q) (XcO X Q) mc ms (xA X)
/-- a call of M from a frame with room for d calls -/
def Cal (l : Launch) (X : XT) (d bc bs : Nat) (M : MT) (args : List Value) (A : AH) (K : Ot → AH → Nat → Nat → Prop) : Prop :=
  ∃ d' mc ms, d' + 1 ≤ d ∧ mc ≤ bc ∧ ms ≤ bs ∧ Ct l X d' M args A mc ms (fun o A' => K o A' (bc - mc) (bs - ms))
theorem QcO.mono {X : XT} {Q Q' : Ot → AH → Prop} (h : ∀ o A, Q o A → Q' o A) {a : Array Value} {st : State} {o : Outcome} {t : State} (k : QcO X Q a st o t) : QcO X Q' a st o t := by
  obtain ⟨v, A, h1, h2, h3⟩ := k
  exact ⟨v, A, h1, h _ _ h2, h3⟩
theorem XcO.mono {X : XT} {Q Q' : Ot → AH → Prop} (h : ∀ o A, Q o A → Q' o A) {E : String} {st t : State} (k : XcO X Q E st t) : XcO X Q' E st t := by
  obtain ⟨A, h2, h3⟩ := k
  exact ⟨A, h _ _ h2, h3⟩
theorem vxT.mono {XC XC' : String → State → State → Prop} (h : ∀ E st t, XC E st t → XC' E st t) {st : State} {q : Addr} {t : State} {mc ms : Nat} {free : Addr → Prop} (k : vx_T XC st q t mc ms free) : vx_T XC' st q t mc ms free := by
  obtain ⟨E, ce, L, h1, h2⟩ := k
  exact ⟨E, ce, L, h _ _ _ h1, h2⟩
theorem Ct.mono {l : Launch} {X : XT} {d : Nat} {M : MT} {args : List Value} {A : AH} {mc ms : Nat} {Q Q' : Ot → AH → Prop} (k : Ct l X d M args A mc ms Q) (h : ∀ o A', Q o A' → Q' o A') : Ct l X d M args A mc ms Q' := by
  intro p e h1 h2 h3 s m args' below h4 h5 h6 h7
  obtain ⟨n, o, a1, a2, a3, a4⟩ := k p e h1 h2 h3 s m args' below h4 h5 h6 h7
  refine ⟨n, o, a1, a2, a3, ?_⟩
  rcases a4 with ⟨b1, b2⟩ | ⟨q, b1, b2⟩
  · exact Or.inl ⟨b1.mono h, b2⟩
  · exact Or.inr ⟨q, b1, vxT.mono (fun E st t => XcO.mono h) b2⟩
theorem Cal.mono {l : Launch} {X : XT} {d bc bs : Nat} {M : MT} {args : List Value} {A : AH} {K K' : Ot → AH → Nat → Nat → Prop} (k : Cal l X d bc bs M args A K) (h : ∀ o A' b1 b2, K o A' b1 b2 → K' o A' b1 b2) : Cal l X d bc bs M args A K' := by
  obtain ⟨d', mc, ms, h1, h2, h3, h4⟩ := k
  exact ⟨d', mc, ms, h1, h2, h3, h4.mono fun o A' => h o A' _ _⟩
/-- a contract, used at a call -/
theorem Cal.of {l : Launch} {X : XT} {d bc bs : Nat} {M : MT} {args : List Value} {A : AH} {K : Ot → AH → Nat → Nat → Prop} {Q : Ot → AH → Prop} {d' mc ms : Nat} (k : Ct l X d' M args A mc ms Q) (h1 : d' + 1 ≤ d) (h2 : mc ≤ bc) (h3 : ms ≤ bs) (h : ∀ o A', Q o A' → K o A' (bc - mc) (bs - ms)) : Cal l X d bc bs M args A K :=
  ⟨d', mc, ms, h1, h2, h3, k.mono h⟩
theorem FrameBlind_PcO {X : XT} {args : List Value} {A : AH} : FrameBlind (PcO X args A) := by
  intro a U g mk q
  obtain ⟨h1, h2, h3⟩ := q
  exact ⟨h1, h2, IK.warm (s := U) (U := U.calling g mk a) (State.WarmedH.refl U) h3⟩
/-- a contract out of a walk from the method's first row -/
theorem Ct.of {l : Launch} (hl : l.stackTraces = false) {X : XT} {d : Nat} {M : MT} {args : List Value} {A : AH} {mc ms : Nat} {Q : Ot → AH → Prop} (ht : M.2.2.2.2 = []) (hy : plainName M.1.cls = true) (hn : (lg_sl args).length ≤ M.2.2.1)
    (k : G l X M d Q 0 (lv_args 0 args) [] A mc ms) : Ct l X d M args A mc ms Q := by
  have hcode : mcode M = Cond.code M.1 M.2.1 M.2.2.1 M.2.2.2.1 := by unfold mcode; rw [ht]
  refine vx_ofW (cc := M.2.1) (maxL := M.2.2.1) (ret := M.2.2.2.1) (ws' := AL) hy (by rw [hcode]) ?_
  intro p e s m args' below meth c s₁ B hml htab hP
  obtain ⟨rfl, hR, hK⟩ := hP
  rw [lg_entry_eq]
  have htab2 : c.exceptionTable.toList = tableOf M.2.2.2.2 := by
    rw [ht]
    have : c.exceptionTable.toList = [] := List.eq_nil_iff_forall_not_mem.mpr htab
    rw [this]
    rfl
  refine k p e _ s m _ below meth c mc ms s.heap [] 0 0 _ ⟨⟨B.exec, B.bytes, B.returns, hml, findClass_of_methodNamed B.named, B.notSynchronized, htab2, (name_of_methodNamed B.named B.method).1, hK, hl, hR.2.1, Nat.le_refl _, Nat.le_refl _⟩, hR, fun z h => (nomatch h), Nat.le_refl _, by omega, by omega, Nat.le_refl _, Nat.le_refl _, lv_entry args hn⟩
