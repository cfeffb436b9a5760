/-! rows of G: copies of arrays, texts, handlers -/
theorem nn_i {z : Int32} (hz : ¬ z < 0) : z.toInt = (z.toNatClampNeg : Int) := by
  have hz0 : (0 : Int) ≤ z.toInt := by
    have := Int32.not_lt.mp hz
    simpa using Int32.le_iff_toInt_le.mp this
  show z.toInt = ((z.toInt.toNat : Nat) : Int)
  omega
def LC (own : String) (idx : Nat) : Prop := Cond.methodLink own idx arraycopyName ∈ AL ∧ Cond.native arraycopyName ∈ AL ∧ Cond.static arraycopyName ∈ AL ∧ Cond.initialized "java/lang/System" ∈ AL
section GP
variable {l : Launch} {X : XT} {M : MT} {d : Nat} {Q : Ot → AH → Prop} {pc : Nat} {lv lv' : List (Nat × Value)} {st rest : List Value} {A : AH} {bc bs : Nat}
/-- a row that writes places of the cell a -/
theorem G_wrL {pc' a : Nat} {st' : List Value} {x y : va_E} (ha : A.2 a = some x) (hne : x ≠ ra X 4 0 (fun _ => none)) (kk : G l X M d Q pc' lv st' (up A a y) bc bs)
    (h : ∀ (p : Program) (e : Env) (R : Room) (s : State) (m : MethodId) (args : Array Value) (below : List Frame) (meth : Method) (c : Code) (H : Heap) (locs : List Loc) (cells slots : Nat) (ls : Array Slot) (Z : State → Prop), Cx l X M d p R s m meth c → Rel X A H → lv_has ls M.2.2.1 lv → va_at (xD X) vwCl (a, x) H →
      (∀ (H1 : Heap) (L : List Loc), (∀ z ∈ L, z.base = a) → va_at (xD X) vwCl (a, y) H1 → H1.size = H.size → (∀ q : Nat, q ≠ a → H1[q]? = H[q]?) → W p l e R s m args below meth c H1 (locs ++ L) cells slots Z (F0 m pc' ls st')) → W p l e R s m args below meth c H locs cells slots Z (F0 m pc ls st)) : G l X M d Q pc lv st A bc bs := by
  intro p e R s m args below meth c mc ms H locs cells slots ls S
  obtain ⟨C, hR, hlo, hsz, h1, h2, h3, h4, hl⟩ := S
  obtain ⟨g1, g3⟩ := hR.both ha hne
  refine h _ _ _ _ _ _ _ _ _ _ _ _ _ _ _ C hR hl g1 fun H1 L hL e1 z oq => ?_
  refine kk _ _ _ _ _ _ _ _ _ _ _ _ _ _ _ _ ⟨C, hR.set g3 e1 z oq, fun q hq => ?_, by rw [z]; exact hsz, h1, h2, h3, h4, hl⟩
  rcases List.mem_append.mp hq with q1 | q1
  · exact hlo q q1
  · rw [hL q q1]; exact g3
theorem G_copyi {idx a0 a n0 n1 : Nat} {f g : Nat → Int32} {sp dp n : Int32} (L : LC M.1.cls idx) (hdg : decode M.2.1 pc = .ok (.invokestatic idx, 3)) (ha0 : A.2 a0 = some (ia X n0 f)) (ha1 : A.2 a = some (ia X n1 g)) (h1 : ¬ sp < 0) (h2 : ¬ dp < 0) (h3 : ¬ n < 0) (h4 : sp.toNatClampNeg + n.toNatClampNeg ≤ n0) (h5 : dp.toNatClampNeg + n.toNatClampNeg ≤ n1) (hcat : (st.map fun v => v.category).sum ≤ 8)
    (kk : G l X M d Q (pc + 3) lv st (up A a (ia X n1 (va_cpy f g sp.toNatClampNeg dp.toNatClampNeg n.toNatClampNeg))) bc bs) : G l X M d Q pc lv (.int n :: .int dp :: .ref a :: .int sp :: .ref a0 :: st) A bc bs := by
  refine G_wrL ha1 (fun h => by simp at h) kk fun p e R s m args below meth c H locs cells slots ls Z C hR hl hc1 w => ?_
  have hK := C.2.2.2.2.2.2.2.2.1
  have h9 := C.2.2.2.2.2.2.2.2.2.2.2
  intro T hT XX
  have hc0 : H[a0]? = some (vp_cell (xC X 0) (n0, .inl f)) := hR.ia ha0
  have hc1 : H[a]? = some (vp_cell (xC X 0) (n1, .inl g)) := hc1
  obtain ⟨-, k0, hk0, cm0, hkk0⟩ := (hK.2.2.1.2 0 _ rfl).1 n0 (fun j => .int (f j))
  obtain ⟨-, k1, hk1, cm1, hkk1⟩ := (hK.2.2.1.2 0 _ rfl).1 n1 (fun j => .int (g j))
  obtain ⟨vm', X', step⟩ := XX.arraycopy C.1 C.2.2.2.2.1 (AL_at hK L.1 _) (AL_at hK L.2.1 _) (AL_at hK L.2.2.1 _) (AL_at hK L.2.2.2 _) (src := a0) (dst := a) (cs := vp_cell (xC X 0) (n0, .inl f)) (cd := vp_cell (xC X 0) (n1, .inl g)) (srcPos := sp) (destPos := dp) (n := n) (by rw [hT]; exact hc0) (by rw [hT]; exact hc1)
    (fun _ h => by cases h) (fun _ h => by cases h) (fun h => by cases h) (fun h => by cases h) hk0 hk1 hkk0 hkk1 rfl h1 h2 h3
    (by rw [nn_i h1, nn_i h3]; show ¬ _ > ((arrV (xC X 0) n0 (fun j => .int (f j))).slots.size : Int); rw [arrV_size]; omega)
    (by rw [nn_i h2, nn_i h3]; show ¬ _ > ((arrV (xC X 0) n1 (fun j => .int (g j))).slots.size : Int); rw [arrV_size]; omega)
    (fun vm₁ _ i hi => by
      have e : (vp_cell (xC X 0) (n0, .inl f)).slots.getD (sp.toNatClampNeg + i) .null = .int (f (sp.toNatClampNeg + i)) := by
        show (arrV (xC X 0) n0 (fun j => .int (f j))).slots.getD _ _ = _
        rw [Array.getD_eq_getD_getElem?, arrV_read _ _ (by omega)]
        rfl
      refine ⟨?_, ?_⟩
      · rw [e]; rfl
      · rw [e]
        exact trivial)
    (g := F0 m pc ls (.int n :: .int dp :: .ref a :: .int sp :: .ref a0 :: st)) rfl (by rw [C.2.2.2.1]; exact hl.1) (rest := st) rfl (by rw [C.2.1]; exact hdg) (by omega) (by
      have e9 : nativeFrameWords "java/lang/System" "arraycopy" 5 ≤ 60 := by decide +kernel
      show 2 * 0 + _ + _ ≤ _; omega)
  have e1 : copied (vp_cell (xC X 0) (n0, .inl f)) (vp_cell (xC X 0) (n1, .inl g)) sp dp n = vp_cell (xC X 0) (n1, .inl (va_cpy f g sp.toNatClampNeg dp.toNatClampNeg n.toNatClampNeg)) := va_copied (fun z => .int z) (xC X 0) (xC X 0) f g h4
  rw [e1] at X' step
  have hl2 : a < H.size := (Array.getElem?_eq_some_iff.mp hc1).1
  have hheap : ((T.setVm vm').setCell a (vp_cell (xC X 0) (n1, .inl (va_cpy f g sp.toNatClampNeg dp.toNatClampNeg n.toNatClampNeg)))).heap = H.setIfInBounds a (vp_cell (xC X 0) (n1, .inl (va_cpy f g sp.toNatClampNeg dp.toNatClampNeg n.toNatClampNeg))) := by rw [← hT]; rfl
  obtain ⟨t, a1, b1⟩ := w _ _ (fun z hz => by obtain ⟨y, -, hy⟩ := List.mem_map.mp hz; rw [← hy]) (show (H.setIfInBounds a _)[a]? = some _ by simp [Array.getElem?_setIfInBounds, hl2]) (by simp) (fun q hq => by simp [Array.getElem?_setIfInBounds, Ne.symm hq]) _ hheap X'
  exact ⟨t, step t a1, b1⟩
/-- within one array of Objects that holds Partials -/
theorem G_copyq {idx a n0 : Nat} {f : Nat → Option Nat} {sp dp n : Int32} (L : LC M.1.cls idx) (hca : Cond.castable "PieceTransfer$Partial" "java/lang/Object" ∈ NL) (hdg : decode M.2.1 pc = .ok (.invokestatic idx, 3)) (ha : A.2 a = some (ra X 4 n0 f)) (h0 : 0 < n0) (hel : ∀ i : Nat, i < n.toNatClampNeg → ∀ y : Nat, f (sp.toNatClampNeg + i) = some y → ∃ fs, A.2 y = some (ob 3 fs)) (h1 : ¬ sp < 0) (h2 : ¬ dp < 0) (h3 : ¬ n < 0) (h4 : sp.toNatClampNeg + n.toNatClampNeg ≤ n0) (h5 : dp.toNatClampNeg + n.toNatClampNeg ≤ n0) (hcat : (st.map fun v => v.category).sum ≤ 8)
    (kk : G l X M d Q (pc + 3) lv st (up A a (ra X 4 n0 (va_cpy f f sp.toNatClampNeg dp.toNatClampNeg n.toNatClampNeg))) bc bs) : G l X M d Q pc lv (.int n :: .int dp :: .ref a :: .int sp :: .ref a :: st) A bc bs := by
  refine G_wrL ha (fun h => by simp at h; omega) kk fun p e R s m args below meth c H locs cells slots ls Z C hR hl hc1 w => ?_
  have hK := C.2.2.2.2.2.2.2.2.1
  have h9 := C.2.2.2.2.2.2.2.2.2.2.2
  intro T hT XX
  have hc1 : H[a]? = some (vp_cell (xC X 4) (n0, .inr (.inr (.inr (.inr f))))) := hc1
  obtain ⟨-, k0, hk0, cm0, hkk0⟩ := (hK.2.2.1.2 4 _ rfl).1 n0 (fun j => va_rf (f j))
  obtain ⟨vm', X', step⟩ := XX.arraycopy C.1 C.2.2.2.2.1 (AL_at hK L.1 _) (AL_at hK L.2.1 _) (AL_at hK L.2.2.1 _) (AL_at hK L.2.2.2 _) (src := a) (dst := a) (cs := vp_cell (xC X 4) (n0, .inr (.inr (.inr (.inr f))))) (cd := vp_cell (xC X 4) (n0, .inr (.inr (.inr (.inr f))))) (srcPos := sp) (destPos := dp) (n := n) (by rw [hT]; exact hc1) (by rw [hT]; exact hc1)
    (fun _ h => by cases h) (fun _ h => by cases h) (fun h => by cases h) (fun h => by cases h) hk0 hk0 hkk0 hkk0 rfl h1 h2 h3
    (by rw [nn_i h1, nn_i h3]; show ¬ _ > ((arrV (xC X 4) n0 (fun j => va_rf (f j))).slots.size : Int); rw [arrV_size]; omega)
    (by rw [nn_i h2, nn_i h3]; show ¬ _ > ((arrV (xC X 4) n0 (fun j => va_rf (f j))).slots.size : Int); rw [arrV_size]; omega)
    (fun vm₁ hal i hi => by
      have e : (vp_cell (xC X 4) (n0, .inr (.inr (.inr (.inr f))))).slots.getD (sp.toNatClampNeg + i) .null = va_rf (f (sp.toNatClampNeg + i)) := by
        show (arrV (xC X 4) n0 (fun j => va_rf (f j))).slots.getD _ _ = _
        rw [Array.getD_eq_getD_getElem?, arrV_read _ _ (by omega)]
        rfl
      rw [e]
      cases hy : f (sp.toNatClampNeg + i) with
      | none => exact ⟨rfl, trivial⟩
      | some y =>
        obtain ⟨fs, hfs⟩ := hel i hi y hy
        obtain ⟨cellV, g1, g2, g3⟩ := va_recv hK.2.2.1 (va_P1 (hR.ob hfs)) (ci := 3) (q := (RX2, TX2, 2)) (q0 := 0) rfl rfl
        obtain ⟨kA, comp, r1, r2, r3, -⟩ := (hK.2.2.1.2 4 _ rfl).2
        cases hk0.symm.trans r1
        cases hkk0.symm.trans r2
        obtain ⟨kC, hkC, -⟩ := Vm.findClass_spec g3
        obtain ⟨kE, hkE, -⟩ := Vm.findClass_spec r3
        obtain ⟨kC', hkC', -⟩ := hal.2.2 _ _ hkC
        obtain ⟨kE', hkE', -⟩ := hal.2.2 _ _ hkE
        refine ⟨rfl, cellV, (show T.heap[y]? = some cellV by rw [hT]; exact g1), (fun q h => by rw [h] at g2; cases g2), ⟨kC', hkC'⟩, ?_, ?_⟩
        · exact ⟨kE', hkE'⟩
        · show vm₁.assignable _ _ = true
          rw [hal.assignable]
          obtain ⟨c0, t1, f1, f2, f3⟩ := Cond.castable_spec (NL_at hK hca)
          cases g3.symm.trans f1
          cases r3.symm.trans f2
          exact f3)
    (g := F0 m pc ls (.int n :: .int dp :: .ref a :: .int sp :: .ref a :: st)) rfl (by rw [C.2.2.2.1]; exact hl.1) (rest := st) rfl (by rw [C.2.1]; exact hdg) (by omega) (by
      have e9 : nativeFrameWords "java/lang/System" "arraycopy" 5 ≤ 60 := by decide +kernel
      show 2 * 0 + _ + _ ≤ _; omega)
  have e1 : copied (vp_cell (xC X 4) (n0, .inr (.inr (.inr (.inr f))))) (vp_cell (xC X 4) (n0, .inr (.inr (.inr (.inr f))))) sp dp n = vp_cell (xC X 4) (n0, .inr (.inr (.inr (.inr (va_cpy f f sp.toNatClampNeg dp.toNatClampNeg n.toNatClampNeg))))) := by
    rw [vp_cell_q, vp_cell_q]
    exact va_copied (fun z => va_rf z) (xC X 4) (xC X 4) f f h4
  rw [e1] at X' step
  have hl2 : a < H.size := (Array.getElem?_eq_some_iff.mp hc1).1
  have hheap : ((T.setVm vm').setCell a (vp_cell (xC X 4) (n0, .inr (.inr (.inr (.inr (va_cpy f f sp.toNatClampNeg dp.toNatClampNeg n.toNatClampNeg))))))).heap = H.setIfInBounds a (vp_cell (xC X 4) (n0, .inr (.inr (.inr (.inr (va_cpy f f sp.toNatClampNeg dp.toNatClampNeg n.toNatClampNeg)))))) := by rw [← hT]; rfl
  obtain ⟨t, a1, b1⟩ := w _ _ (fun z hz => by obtain ⟨y, -, hy⟩ := List.mem_map.mp hz; rw [← hy]) (show (H.setIfInBounds a _)[a]? = some _ by simp [Array.getElem?_setIfInBounds, hl2]) (by simp) (fun q hq => by simp [Array.getElem?_setIfInBounds, Ne.symm hq]) _ hheap X'
  exact ⟨t, step t a1, b1⟩
def LCl (own : String) (idx : Nat) : Prop := Cond.methodLink own idx ⟨"[I", "clone", "()Ljava/lang/Object;"⟩ ∈ AL ∧ Cond.sameMethod "[I" "java/lang/Object" "clone" "()Ljava/lang/Object;" ∈ AL ∧ Cond.native ⟨"java/lang/Object", "clone", "()Ljava/lang/Object;"⟩ ∈ AL ∧ Cond.instanceMethod ⟨"java/lang/Object", "clone", "()Ljava/lang/Object;"⟩ ∈ AL ∧
  Cond.selects "[I" ⟨"[I", "clone", "()Ljava/lang/Object;"⟩ ⟨"java/lang/Object", "clone", "()Ljava/lang/Object;"⟩ ∈ AL ∧ Cond.castable "[I" "java/lang/Cloneable" ∈ NL
theorem G_clone {idx a n : Nat} {f : Nat → Int32} (L : LCl M.1.cls idx) (hdg : decode M.2.1 pc = .ok (.invokevirtual idx, 3)) (ha : A.2 a = some (ia X n f)) (hcat : (st.map fun v => v.category).sum ≤ 8) (h1 : 1 ≤ bc) (h2 : n ≤ bs) (kk : G l X M d Q (pc + 3) lv (.ref A.1 :: st) (nw A (ia X n f)) (bc - 1) (bs - n)) : G l X M d Q pc lv (.ref a :: st) A bc bs := by
  refine G_mk h1 h2 kk fun p e R s m args below meth c H locs cells slots ls Z C hR hl hc hs w => ?_
  have hK := C.2.2.2.2.2.2.2.2.1
  have h9 := C.2.2.2.2.2.2.2.2.2.2.2
  have hnm : s.vm.findClass "[I" = some (xC X 0) := (hK.2.2.1.2 0 _ rfl).2
  have hsz : (vp_cell (xC X 0) (n, .inl f)).slots.size = n := arrV_size _ _ _
  obtain ⟨c0, t0', f1, f2, f3⟩ := Cond.castable_spec (NL_at hK L.2.2.2.2.2)
  cases hnm.symm.trans f1
  intro T hT XX
  have hcellT : T.heap[a]? = some (vp_cell (xC X 0) (n, .inl f)) := by rw [hT]; exact hR.ia ha
  obtain ⟨-, kA, hkA, comp, hkind⟩ := State.isArrayOf_alike XX.warmed.alike ((hK.2.2.1.2 0 _ rfl).1 0 (fun _ => .null))
  obtain ⟨-, kS, hkS, compS, hkindS⟩ := (hK.2.2.1.2 0 _ rfl).1 0 (fun _ => .null)
  obtain ⟨vm', X', stp⟩ := XX.cloneArray C.1 C.2.2.2.2.1 (AL_at hK L.1 _) (AL_at hK L.2.1 _) (AL_at hK L.2.2.1 _) (AL_at hK L.2.2.2.1 _) (AL_at hK L.2.2.2.2.1 _) (a := a) (cell := vp_cell (xC X 0) (n, .inl f)) hcellT (fun k h => by cases h) (fun h => by cases h) hnm f2 f3
    (fun i v hv => by
      have hk' : T.vm.classes[xC X 0]? = some kA := hkA
      have hv2 : ∃ y, v = Value.int y := by
        have hi : i < n := by
          have := (Array.getElem?_eq_some_iff.mp hv).1
          rw [hsz] at this
          exact this
        have e : (vp_cell (xC X 0) (n, .inl f)).slots[i]? = some (.int (f i)) := by
          show (arrV _ _ _).slots[_]? = _
          rw [arrV_read _ _ hi]
        exact ⟨f i, Option.some.inj (hv.symm.trans e)⟩
      obtain ⟨y, rfl⟩ := hv2
      show State.fitsSlot _ (xC X 0) _ _ _ = true
      simp [State.fitsSlot, State.slotType?, hk', hkind, fits])
    (g := F0 m pc ls (.ref a :: st)) rfl (by rw [C.2.2.2.1]; exact hl.1) rfl (by rw [C.2.1]; exact hdg) (by omega) (by show 2 * 0 + _ + 14 ≤ _; omega) hc (by rw [hsz]; exact hs) (hloader := by exact Vm.clonesLoader_of_array hkS hkindS)
  rw [hsz] at X'
  have e1 : (H.push (vp_cell (xC X 0) (n, .inl f)))[H.size]? = some (vp_cell (xC X 0) (n, .inl f)) := by rw [Array.getElem?_push_size]
  obtain ⟨t, b1, b2⟩ := w (H.push (vp_cell (xC X 0) (n, .inl f))) e1 (by rw [Array.size_push]) (fun q hq => by rw [Array.getElem?_push, if_neg (Nat.ne_of_lt hq)]) ((T.setVm vm').pushCell (vp_cell (xC X 0) (n, .inl f))) (by rw [← hT]; rfl) X'
  refine ⟨t, stp t ?_, b2⟩
  rw [hT]
  exact b1
end GP
