/-! what an instruction asks of the map, and its row with a continuation -/
def gI (A : AH) (a ci k : Nat) (K : Int32 → Prop) : Prop := ∃ (fs : List Value) (i : Int32), A.2 a = some (ob ci fs) ∧ fs[k]? = some (.int i) ∧ K i
def gR (A : AH) (a ci k : Nat) (K : Nat → Prop) : Prop := ∃ (fs : List Value) (b : Nat), A.2 a = some (ob ci fs) ∧ fs[k]? = some (.ref b) ∧ K b
def gQ (A : AH) (a ci k : Nat) (K : Option Nat → Prop) : Prop := ∃ (fs : List Value) (o : Option Nat), A.2 a = some (ob ci fs) ∧ fs[k]? = some (va_rf o) ∧ K o
def pV (A : AH) (a ci k : Nat) (v : Value) (K : AH → Prop) : Prop := ∃ fs : List Value, A.2 a = some (ob ci fs) ∧ k < fs.length ∧ K (up A a (ob ci (fs.set k v)))
def aI (X : XT) (A : AH) (a : Nat) (i : Int32) (K : Int32 → Prop) : Prop := ∃ (n : Nat) (f : Nat → Int32), A.2 a = some (ia X n f) ∧ vp_in i n ∧ K (f i.toNatClampNeg)
def aZ (X : XT) (A : AH) (a : Nat) (i : Int32) (K : Int32 → Prop) : Prop := ∃ (n : Nat) (f : Nat → Int32), A.2 a = some (za X n f) ∧ vp_in i n ∧ K (f i.toNatClampNeg)
def aL (X : XT) (A : AH) (a : Nat) (i : Int32) (K : Int64 → Prop) : Prop := ∃ (n : Nat) (f : Nat → Int64), A.2 a = some (la X n f) ∧ vp_in i n ∧ K (f i.toNatClampNeg)
def aQ (X : XT) (t : Nat) (A : AH) (a : Nat) (i : Int32) (K : Option Nat → Prop) : Prop := ∃ (n : Nat) (f : Nat → Option Nat), A.2 a = some (ra X t n f) ∧ vp_in i n ∧ K (f i.toNatClampNeg)
def sI (X : XT) (A : AH) (a : Nat) (i x : Int32) (K : AH → Prop) : Prop := ∃ (n : Nat) (f : Nat → Int32), A.2 a = some (ia X n f) ∧ vp_in i n ∧ K (up A a (ia X n (upd f i.toNatClampNeg x)))
def sZ (X : XT) (A : AH) (a : Nat) (i x : Int32) (K : AH → Prop) : Prop := ∃ (n : Nat) (f : Nat → Int32), A.2 a = some (za X n f) ∧ vp_in i n ∧ K (up A a (za X n (upd f i.toNatClampNeg (vp_nar .boolean x))))
def sL (X : XT) (A : AH) (a : Nat) (i : Int32) (x : Int64) (K : AH → Prop) : Prop := ∃ (n : Nat) (f : Nat → Int64), A.2 a = some (la X n f) ∧ vp_in i n ∧ K (up A a (la X n (vp_updL f i.toNatClampNeg x)))
def sD (X : XT) (A : AH) (a : Nat) (i : Int32) (v : Nat) (K : AH → Prop) : Prop := ∃ (n : Nat) (f : Nat → Option Nat) (vs : List Value), A.2 a = some (ra X 3 n f) ∧ A.2 v = some (ob 2 vs) ∧ vp_in i n ∧ K (up A a (ra X 3 n (va_up f i.toNatClampNeg (some v))))
def sP (X : XT) (A : AH) (a : Nat) (i : Int32) (v : Nat) (K : AH → Prop) : Prop := ∃ (n : Nat) (f : Nat → Option Nat) (vs : List Value), A.2 a = some (ra X 4 n f) ∧ A.2 v = some (ob 3 vs) ∧ vp_in i n ∧ K (up A a (ra X 4 n (va_up f i.toNatClampNeg (some v))))
def sN (X : XT) (A : AH) (a : Nat) (i : Int32) (K : AH → Prop) : Prop := ∃ (n : Nat) (f : Nat → Option Nat), A.2 a = some (ra X 4 n f) ∧ vp_in i n ∧ K (up A a (ra X 4 n (va_up f i.toNatClampNeg none)))
def nI_ (X : XT) (A : AH) (a : Nat) (K : Int32 → Prop) : Prop := ∃ (n : Nat) (f : Nat → Int32), A.2 a = some (ia X n f) ∧ K (Int32.ofNat n)
def nQ_ (X : XT) (t : Nat) (A : AH) (a : Nat) (K : Int32 → Prop) : Prop := ∃ (n : Nat) (f : Nat → Option Nat), A.2 a = some (ra X t n f) ∧ K (Int32.ofNat n)
def mk (A : AH) (y : va_E) (N bc bs : Nat) (K : Nat → AH → Nat → Nat → Prop) : Prop := 1 ≤ bc ∧ N ≤ bs ∧ K A.1 (nw A y) (bc - 1) (bs - N)
def mkA (A : AH) (n : Int32) (y : Nat → va_E) (bc bs : Nat) (K : Nat → AH → Nat → Nat → Prop) : Prop := ∃ N : Nat, ¬ n < 0 ∧ n.toNatClampNeg = N ∧ N ≤ 100000 ∧ 1 ≤ bc ∧ N ≤ bs ∧ K A.1 (nw A (y N)) (bc - 1) (bs - N)
def thr (A : AH) (bc bs : Nat) (K : AH → Prop) : Prop := 1 ≤ bc ∧ 6 ≤ bs ∧ ∀ n, A.1 ≤ n → K (n, A.2)
def cpI (X : XT) (A : AH) (a0 : Nat) (sp : Int32) (a : Nat) (dp n : Int32) (K : AH → Prop) : Prop := ∃ (n0 n1 : Nat) (f g : Nat → Int32), A.2 a0 = some (ia X n0 f) ∧ A.2 a = some (ia X n1 g) ∧ ¬ sp < 0 ∧ ¬ dp < 0 ∧ ¬ n < 0 ∧ sp.toNatClampNeg + n.toNatClampNeg ≤ n0 ∧ dp.toNatClampNeg + n.toNatClampNeg ≤ n1 ∧ K (up A a (ia X n1 (va_cpy f g sp.toNatClampNeg dp.toNatClampNeg n.toNatClampNeg)))
def cpQ (X : XT) (A : AH) (a : Nat) (sp dp n : Int32) (K : AH → Prop) : Prop := ∃ (n0 : Nat) (f : Nat → Option Nat), A.2 a = some (ra X 4 n0 f) ∧ 0 < n0 ∧ (∀ i : Nat, i < n.toNatClampNeg → ∀ y : Nat, f (sp.toNatClampNeg + i) = some y → ∃ fs, A.2 y = some (ob 3 fs)) ∧ ¬ sp < 0 ∧ ¬ dp < 0 ∧ ¬ n < 0 ∧ sp.toNatClampNeg + n.toNatClampNeg ≤ n0 ∧ dp.toNatClampNeg + n.toNatClampNeg ≤ n0 ∧ K (up A a (ra X 4 n0 (va_cpy f f sp.toNatClampNeg dp.toNatClampNeg n.toNatClampNeg)))
def cln (X : XT) (A : AH) (a : Nat) (bc bs : Nat) (K : Nat → AH → Nat → Nat → Prop) : Prop := ∃ (n : Nat) (f : Nat → Int32), A.2 a = some (ia X n f) ∧ 1 ≤ bc ∧ n ≤ bs ∧ K A.1 (nw A (ia X n f)) (bc - 1) (bs - n)
def isO (A : AH) (a ci : Nat) : Prop := ∃ fs : List Value, A.2 a = some (ob ci fs)
/-- how a call came back: with an int, with nothing, with a reference, with one or null, with a float -/
def rI (o : Ot) (T : String → Prop) (K : Int32 → Prop) : Prop := (∃ i, o = Ri i ∧ K i) ∨ ∃ E, o = Th E ∧ T E
def rV (o : Ot) (T : String → Prop) (K : Prop) : Prop := (o = Rv ∧ K) ∨ ∃ E, o = Th E ∧ T E
def rR (o : Ot) (T : String → Prop) (K : Nat → Prop) : Prop := (∃ a, o = Ra a ∧ K a) ∨ ∃ E, o = Th E ∧ T E
def rQ (o : Ot) (T : String → Prop) (K : Option Nat → Prop) : Prop := (∃ r, o = Rq r ∧ K r) ∨ ∃ E, o = Th E ∧ T E
def rF (o : Ot) (T : String → Prop) (K : UInt32 → Prop) : Prop := (∃ x, o = Rf x ∧ K x) ∨ ∃ E, o = Th E ∧ T E
/-- .. of a callee that never throws -/
def zI (o : Ot) (K : Int32 → Prop) : Prop := ∃ i, o = Ri i ∧ K i
def zV (o : Ot) (K : Prop) : Prop := o = Rv ∧ K
def zR (o : Ot) (K : Nat → Prop) : Prop := ∃ a, o = Ra a ∧ K a
def zQ (o : Ot) (K : Option Nat → Prop) : Prop := ∃ r, o = Rq r ∧ K r
theorem dk_at {c : ByteArray} {t : List (Nat × Instr × Nat)} (h : t.all (fun q => decide (decode c q.1 = .ok q.2)) = true) (j : Nat) {pc : Nat} {i : Instr} {n : Nat} (hj : t[j]? = some (pc, i, n)) : decode c pc = .ok (i, n) := by
  have h1 := List.all_eq_true.mp h (pc, i, n) (List.mem_of_getElem? hj)
  exact of_decide_eq_true h1
section GK
variable {l : Launch} {X : XT} {M : MT} {d : Nat} {Q : Ot → AH → Prop} {pc : Nat} {lv lv' : List (Nat × Value)} {st rest : List Value} {A : AH} {bc bs : Nat}
theorem aftI {o : Ot} {K : Int32 → Prop} {A' : AH} {b1 c1 : Nat} (h : rI o (fun E => Q (.inr E) A') K) (k : ∀ i, K i → G l X M d Q pc lv (.int i :: rest) A' b1 c1) : Aft l X M d Q pc lv rest o A' b1 c1 := by
  rcases h with ⟨i, rfl, h⟩ | ⟨E, rfl, h⟩
  · exact k i h
  · exact h
theorem aftV {o : Ot} {K : Prop} {A' : AH} {b1 c1 : Nat} (h : rV o (fun E => Q (.inr E) A') K) (k : K → G l X M d Q pc lv rest A' b1 c1) : Aft l X M d Q pc lv rest o A' b1 c1 := by
  rcases h with ⟨rfl, h⟩ | ⟨E, rfl, h⟩
  · exact k h
  · exact h
theorem aftR {o : Ot} {K : Nat → Prop} {A' : AH} {b1 c1 : Nat} (h : rR o (fun E => Q (.inr E) A') K) (k : ∀ i, K i → G l X M d Q pc lv (.ref i :: rest) A' b1 c1) : Aft l X M d Q pc lv rest o A' b1 c1 := by
  rcases h with ⟨i, rfl, h⟩ | ⟨E, rfl, h⟩
  · exact k i h
  · exact h
theorem aftQ {o : Ot} {K : Option Nat → Prop} {A' : AH} {b1 c1 : Nat} (h : rQ o (fun E => Q (.inr E) A') K) (k : ∀ i, K i → G l X M d Q pc lv (va_rf i :: rest) A' b1 c1) : Aft l X M d Q pc lv rest o A' b1 c1 := by
  rcases h with ⟨i, rfl, h⟩ | ⟨E, rfl, h⟩
  · exact k i h
  · exact h
theorem aftF {o : Ot} {K : UInt32 → Prop} {A' : AH} {b1 c1 : Nat} (h : rF o (fun E => Q (.inr E) A') K) (k : ∀ i, K i → G l X M d Q pc lv (.float i :: rest) A' b1 c1) : Aft l X M d Q pc lv rest o A' b1 c1 := by
  rcases h with ⟨i, rfl, h⟩ | ⟨E, rfl, h⟩
  · exact k i h
  · exact h
theorem atfI {o : Ot} {K : Int32 → Prop} {A' : AH} {b1 c1 : Nat} (h : zI o K) (k : ∀ i, K i → G l X M d Q pc lv (.int i :: rest) A' b1 c1) : AftR l X M d Q pc lv rest o A' b1 c1 := by
  obtain ⟨i, rfl, h⟩ := h
  exact k i h
theorem atfV {o : Ot} {K : Prop} {A' : AH} {b1 c1 : Nat} (h : zV o K) (k : K → G l X M d Q pc lv rest A' b1 c1) : AftR l X M d Q pc lv rest o A' b1 c1 := by
  obtain ⟨rfl, h⟩ := h
  exact k h
theorem atfR {o : Ot} {K : Nat → Prop} {A' : AH} {b1 c1 : Nat} (h : zR o K) (k : ∀ i, K i → G l X M d Q pc lv (.ref i :: rest) A' b1 c1) : AftR l X M d Q pc lv rest o A' b1 c1 := by
  obtain ⟨i, rfl, h⟩ := h
  exact k i h
theorem atfQ {o : Ot} {K : Option Nat → Prop} {A' : AH} {b1 c1 : Nat} (h : zQ o K) (k : ∀ i, K i → G l X M d Q pc lv (va_rf i :: rest) A' b1 c1) : AftR l X M d Q pc lv rest o A' b1 c1 := by
  obtain ⟨i, rfl, h⟩ := h
  exact k i h
theorem K_gI {idx ci k a : Nat} {K : Int32 → Prop} (F : GF M.1.cls idx ci k) (hdg : decode M.2.1 pc = .ok (.getfield idx, 3)) (h : gI A a ci k K) (kk : ∀ i, K i → G l X M d Q (pc + 3) lv (.int i :: st) A bc bs) : G l X M d Q pc lv (.ref a :: st) A bc bs := by
  obtain ⟨fs, i, h1, h2, h3⟩ := h
  exact G_get F hdg h1 h2 (kk i h3)
theorem K_gR {idx ci k a : Nat} {K : Nat → Prop} (F : GF M.1.cls idx ci k) (hdg : decode M.2.1 pc = .ok (.getfield idx, 3)) (h : gR A a ci k K) (kk : ∀ i, K i → G l X M d Q (pc + 3) lv (.ref i :: st) A bc bs) : G l X M d Q pc lv (.ref a :: st) A bc bs := by
  obtain ⟨fs, i, h1, h2, h3⟩ := h
  exact G_get F hdg h1 h2 (kk i h3)
theorem K_gQ {idx ci k a : Nat} {K : Option Nat → Prop} (F : GF M.1.cls idx ci k) (hdg : decode M.2.1 pc = .ok (.getfield idx, 3)) (h : gQ A a ci k K) (kk : ∀ i, K i → G l X M d Q (pc + 3) lv (va_rf i :: st) A bc bs) : G l X M d Q pc lv (.ref a :: st) A bc bs := by
  obtain ⟨fs, i, h1, h2, h3⟩ := h
  exact G_get F hdg h1 h2 (kk i h3)
theorem K_pI {idx ci k a : Nat} {v : Int32} {K : AH → Prop} (F : PF M.1.cls M.1.name idx ci k .int) (hdg : decode M.2.1 pc = .ok (.putfield idx, 3)) (h : pV A a ci k (.int v) K) (kk : ∀ A1, K A1 → G l X M d Q (pc + 3) lv st A1 bc bs) : G l X M d Q pc lv (.int v :: .ref a :: st) A bc bs := by
  obtain ⟨fs, h1, h2, h3⟩ := h
  exact G_put F hdg h1 h2 rfl rfl (kk _ h3)
theorem K_pZ {idx ci k a : Nat} {v : Int32} {K : AH → Prop} (F : PF M.1.cls M.1.name idx ci k .boolean) (hdg : decode M.2.1 pc = .ok (.putfield idx, 3)) (h : (v = 0 ∨ v = 1) ∧ pV A a ci k (.int v) K) (kk : ∀ A1, K A1 → G l X M d Q (pc + 3) lv st A1 bc bs) : G l X M d Q pc lv (.int v :: .ref a :: st) A bc bs := by
  obtain ⟨hv, fs, h1, h2, h3⟩ := h
  rcases hv with rfl | rfl
  · exact G_put F hdg h1 h2 rfl rfl (kk _ h3)
  · exact G_put F hdg h1 h2 rfl rfl (kk _ h3)
theorem K_pR {idx ci k a b : Nat} {ty : FieldType} {K : AH → Prop} (F : PF M.1.cls M.1.name idx ci k ty) (hn : narrow ty (.ref b) = .ref b) (hf : fits ty (.ref b) = true) (hdg : decode M.2.1 pc = .ok (.putfield idx, 3)) (h : pV A a ci k (.ref b) K) (kk : ∀ A1, K A1 → G l X M d Q (pc + 3) lv st A1 bc bs) : G l X M d Q pc lv (.ref b :: .ref a :: st) A bc bs := by
  obtain ⟨fs, h1, h2, h3⟩ := h
  exact G_put F hdg h1 h2 hn hf (kk _ h3)
theorem K_pN {idx ci k a : Nat} {ty : FieldType} {K : AH → Prop} (F : PF M.1.cls M.1.name idx ci k ty) (hn : narrow ty .null = .null) (hf : fits ty .null = true) (hdg : decode M.2.1 pc = .ok (.putfield idx, 3)) (h : pV A a ci k .null K) (kk : ∀ A1, K A1 → G l X M d Q (pc + 3) lv st A1 bc bs) : G l X M d Q pc lv (.null :: .ref a :: st) A bc bs := by
  obtain ⟨fs, h1, h2, h3⟩ := h
  exact G_put F hdg h1 h2 hn hf (kk _ h3)
theorem K_pQ {idx ci k a : Nat} {r : Option Nat} {ty : FieldType} {K : AH → Prop} (F : PF M.1.cls M.1.name idx ci k ty) (hn : ∀ b, narrow ty (.ref b) = .ref b) (hf : ∀ b, fits ty (.ref b) = true) (hn0 : narrow ty .null = .null) (hf0 : fits ty .null = true) (hdg : decode M.2.1 pc = .ok (.putfield idx, 3)) (h : pV A a ci k (va_rf r) K) (kk : ∀ A1, K A1 → G l X M d Q (pc + 3) lv st A1 bc bs) : G l X M d Q pc lv (va_rf r :: .ref a :: st) A bc bs := by
  cases r with
  | none => exact K_pN F hn0 hf0 hdg h kk
  | some b => exact K_pR F (hn b) (hf b) hdg h kk
theorem K_aI {a : Nat} {i : Int32} {K : Int32 → Prop} (hdg : decode M.2.1 pc = .ok (.iaload, 1)) (h : aI X A a i K) (kk : ∀ x, K x → G l X M d Q (pc + 1) lv (.int x :: st) A bc bs) : G l X M d Q pc lv (.int i :: .ref a :: st) A bc bs := by
  obtain ⟨n, f, h1, h2, h3⟩ := h
  exact G_iald hdg h1 h2 (kk _ h3)
theorem K_aZ {a : Nat} {i : Int32} {K : Int32 → Prop} (hdg : decode M.2.1 pc = .ok (.baload, 1)) (h : aZ X A a i K) (kk : ∀ x, K x → G l X M d Q (pc + 1) lv (.int x :: st) A bc bs) : G l X M d Q pc lv (.int i :: .ref a :: st) A bc bs := by
  obtain ⟨n, f, h1, h2, h3⟩ := h
  exact G_zald hdg h1 h2 (kk _ h3)
theorem K_aL {a : Nat} {i : Int32} {K : Int64 → Prop} (hdg : decode M.2.1 pc = .ok (.laload, 1)) (h : aL X A a i K) (kk : ∀ x, K x → G l X M d Q (pc + 1) lv (.long x :: st) A bc bs) : G l X M d Q pc lv (.int i :: .ref a :: st) A bc bs := by
  obtain ⟨n, f, h1, h2, h3⟩ := h
  exact G_lald hdg h1 h2 (kk _ h3)
theorem K_aQ3 {a : Nat} {i : Int32} {K : Option Nat → Prop} (hdg : decode M.2.1 pc = .ok (.aaload, 1)) (h : aQ X 3 A a i K) (kk : ∀ x, K x → G l X M d Q (pc + 1) lv (va_rf x :: st) A bc bs) : G l X M d Q pc lv (.int i :: .ref a :: st) A bc bs := by
  obtain ⟨n, f, h1, h2, h3⟩ := h
  exact G_aald3 hdg h1 h2 (kk _ h3)
theorem K_aQ4 {a : Nat} {i : Int32} {K : Option Nat → Prop} (hdg : decode M.2.1 pc = .ok (.aaload, 1)) (h : aQ X 4 A a i K) (kk : ∀ x, K x → G l X M d Q (pc + 1) lv (va_rf x :: st) A bc bs) : G l X M d Q pc lv (.int i :: .ref a :: st) A bc bs := by
  obtain ⟨n, f, h1, h2, h3⟩ := h
  exact G_aald4 hdg h1 h2 (kk _ h3)
theorem K_sI {a : Nat} {i x : Int32} {K : AH → Prop} (hdg : decode M.2.1 pc = .ok (.iastore, 1)) (h : sI X A a i x K) (kk : ∀ A1, K A1 → G l X M d Q (pc + 1) lv st A1 bc bs) : G l X M d Q pc lv (.int x :: .int i :: .ref a :: st) A bc bs := by
  obtain ⟨n, f, h1, h2, h3⟩ := h
  exact G_iast hdg h1 h2 (kk _ h3)
theorem K_sZ {a : Nat} {i x : Int32} {K : AH → Prop} (hdg : decode M.2.1 pc = .ok (.bastore, 1)) (h : sZ X A a i x K) (kk : ∀ A1, K A1 → G l X M d Q (pc + 1) lv st A1 bc bs) : G l X M d Q pc lv (.int x :: .int i :: .ref a :: st) A bc bs := by
  obtain ⟨n, f, h1, h2, h3⟩ := h
  exact G_zast hdg h1 h2 (kk _ h3)
theorem K_sL {a : Nat} {i : Int32} {x : Int64} {K : AH → Prop} (hdg : decode M.2.1 pc = .ok (.lastore, 1)) (h : sL X A a i x K) (kk : ∀ A1, K A1 → G l X M d Q (pc + 1) lv st A1 bc bs) : G l X M d Q pc lv (.long x :: .int i :: .ref a :: st) A bc bs := by
  obtain ⟨n, f, h1, h2, h3⟩ := h
  exact G_last hdg h1 h2 (kk _ h3)
theorem K_sD {a v : Nat} {i : Int32} {K : AH → Prop} (hdg : decode M.2.1 pc = .ok (.aastore, 1)) (h : sD X A a i v K) (kk : ∀ A1, K A1 → G l X M d Q (pc + 1) lv st A1 bc bs) : G l X M d Q pc lv (.ref v :: .int i :: .ref a :: st) A bc bs := by
  obtain ⟨n, f, vs, h1, h2, h3, h4⟩ := h
  exact G_aast3 hdg h1 h2 h3 (kk _ h4)
theorem K_sP {a v : Nat} {i : Int32} {K : AH → Prop} (hca : Cond.castable "PieceTransfer$Partial" "java/lang/Object" ∈ NL) (hdg : decode M.2.1 pc = .ok (.aastore, 1)) (h : sP X A a i v K) (kk : ∀ A1, K A1 → G l X M d Q (pc + 1) lv st A1 bc bs) : G l X M d Q pc lv (.ref v :: .int i :: .ref a :: st) A bc bs := by
  obtain ⟨n, f, vs, h1, h2, h3, h4⟩ := h
  exact G_aast4 hca hdg h1 h2 h3 (kk _ h4)
theorem K_sN {a : Nat} {i : Int32} {K : AH → Prop} (hdg : decode M.2.1 pc = .ok (.aastore, 1)) (h : sN X A a i K) (kk : ∀ A1, K A1 → G l X M d Q (pc + 1) lv st A1 bc bs) : G l X M d Q pc lv (.null :: .int i :: .ref a :: st) A bc bs := by
  obtain ⟨n, f, h1, h2, h3⟩ := h
  exact G_aastN4 hdg h1 h2 (kk _ h3)
theorem K_nI {a : Nat} {K : Int32 → Prop} (hdg : decode M.2.1 pc = .ok (.arraylength, 1)) (h : nI_ X A a K) (kk : ∀ x, K x → G l X M d Q (pc + 1) lv (.int x :: st) A bc bs) : G l X M d Q pc lv (.ref a :: st) A bc bs := by
  obtain ⟨n, f, h1, h2⟩ := h
  exact G_alen (t := 0) (ty := .int) rfl hdg h1 rfl (kk _ h2)
theorem K_nQ4 {a : Nat} {K : Int32 → Prop} (hdg : decode M.2.1 pc = .ok (.arraylength, 1)) (h : nQ_ X 4 A a K) (kk : ∀ x, K x → G l X M d Q (pc + 1) lv (.int x :: st) A bc bs) : G l X M d Q pc lv (.ref a :: st) A bc bs := by
  obtain ⟨n, f, h1, h2⟩ := h
  exact G_alen (t := 4) (ty := .object "java/lang/Object") rfl hdg h1 rfl (kk _ h2)
theorem K_nQ3 {a : Nat} {K : Int32 → Prop} (hdg : decode M.2.1 pc = .ok (.arraylength, 1)) (h : nQ_ X 3 A a K) (kk : ∀ x, K x → G l X M d Q (pc + 1) lv (.int x :: st) A bc bs) : G l X M d Q pc lv (.ref a :: st) A bc bs := by
  obtain ⟨n, f, h1, h2⟩ := h
  exact G_alen (t := 3) (ty := .object "PieceTransfer$Download") rfl hdg h1 rfl (kk _ h2)
theorem K_new {idx ci N : Nat} {fs : List Value} {K : Nat → AH → Nat → Nat → Prop} (L : NO M.1.cls idx ci N fs) (hdg : decode M.2.1 pc = .ok (.new idx, 3)) (h : mk A (ob ci fs) N bc bs K) (kk : ∀ a A1 b1 c1, K a A1 b1 c1 → G l X M d Q (pc + 3) lv (.ref a :: st) A1 b1 c1) : G l X M d Q pc lv st A bc bs :=
  G_new L hdg h.1 h.2.1 (kk _ _ _ _ h.2.2)
theorem K_newi {n : Int32} {K : Nat → AH → Nat → Nat → Prop} (hw : Cond.arrayClass .int ∈ AL) (hdg : decode M.2.1 pc = .ok (.newarray .int, 2)) (h : mkA A n (fun N => ia X N (fun _ => 0)) bc bs K) (kk : ∀ a A1 b1 c1, K a A1 b1 c1 → G l X M d Q (pc + 2) lv (.ref a :: st) A1 b1 c1) : G l X M d Q pc lv (.int n :: st) A bc bs := by
  obtain ⟨N, h1, h2, h3, h4, h5, h6⟩ := h
  exact G_newi hw hdg h1 h2 h3 h4 h5 (kk _ _ _ _ h6)
theorem K_newz {n : Int32} {K : Nat → AH → Nat → Nat → Prop} (hw : Cond.arrayClass .boolean ∈ AL) (hdg : decode M.2.1 pc = .ok (.newarray .boolean, 2)) (h : mkA A n (fun N => za X N (fun _ => 0)) bc bs K) (kk : ∀ a A1 b1 c1, K a A1 b1 c1 → G l X M d Q (pc + 2) lv (.ref a :: st) A1 b1 c1) : G l X M d Q pc lv (.int n :: st) A bc bs := by
  obtain ⟨N, h1, h2, h3, h4, h5, h6⟩ := h
  exact G_newz hw hdg h1 h2 h3 h4 h5 (kk _ _ _ _ h6)
theorem K_newl {n : Int32} {K : Nat → AH → Nat → Nat → Prop} (hw : Cond.arrayClass .long ∈ AL) (hdg : decode M.2.1 pc = .ok (.newarray .long, 2)) (h : mkA A n (fun N => la X N (fun _ => 0)) bc bs K) (kk : ∀ a A1 b1 c1, K a A1 b1 c1 → G l X M d Q (pc + 2) lv (.ref a :: st) A1 b1 c1) : G l X M d Q pc lv (.int n :: st) A bc bs := by
  obtain ⟨N, h1, h2, h3, h4, h5, h6⟩ := h
  exact G_newl hw hdg h1 h2 h3 h4 h5 (kk _ _ _ _ h6)
theorem K_newq3 {idx : Nat} {n : Int32} {K : Nat → AH → Nat → Nat → Prop} (hlink : Cond.classLink M.1.cls idx "PieceTransfer$Download" ∈ AL) (hdg : decode M.2.1 pc = .ok (.anewarray idx, 3)) (h : mkA A n (fun N => ra X 3 N (fun _ => none)) bc bs K) (kk : ∀ a A1 b1 c1, K a A1 b1 c1 → G l X M d Q (pc + 3) lv (.ref a :: st) A1 b1 c1) : G l X M d Q pc lv (.int n :: st) A bc bs := by
  obtain ⟨N, h1, h2, h3, h4, h5, h6⟩ := h
  exact G_newq (t := 3) rfl hlink (fun U h => h.2.2.2.2.2.2.2.1) hdg h1 h2 h3 h4 h5 (kk _ _ _ _ h6)
theorem K_newq4 {idx : Nat} {n : Int32} {K : Nat → AH → Nat → Nat → Prop} (hlink : Cond.classLink M.1.cls idx "java/lang/Object" ∈ AL) (hdg : decode M.2.1 pc = .ok (.anewarray idx, 3)) (h : mkA A n (fun N => ra X 4 N (fun _ => none)) bc bs K) (kk : ∀ a A1 b1 c1, K a A1 b1 c1 → G l X M d Q (pc + 3) lv (.ref a :: st) A1 b1 c1) : G l X M d Q pc lv (.int n :: st) A bc bs := by
  obtain ⟨N, h1, h2, h3, h4, h5, h6⟩ := h
  exact G_newq (t := 4) rfl hlink (fun U h => h.2.2.2.2.2.2.2.2.1) hdg h1 h2 h3 h4 h5 (kk _ _ _ _ h6)
theorem K_cpI {idx a0 a : Nat} {sp dp n : Int32} {K : AH → Prop} (L : LC M.1.cls idx) (hdg : decode M.2.1 pc = .ok (.invokestatic idx, 3)) (hcat : (st.map fun v => v.category).sum ≤ 8) (h : cpI X A a0 sp a dp n K) (kk : ∀ A1, K A1 → G l X M d Q (pc + 3) lv st A1 bc bs) : G l X M d Q pc lv (.int n :: .int dp :: .ref a :: .int sp :: .ref a0 :: st) A bc bs := by
  obtain ⟨n0, n1, f, g, h1, h2, h3, h4, h5, h6, h7, h8⟩ := h
  exact G_copyi L hdg h1 h2 h3 h4 h5 h6 h7 hcat (kk _ h8)
theorem K_cpQ {idx a : Nat} {sp dp n : Int32} {K : AH → Prop} (L : LC M.1.cls idx) (hca : Cond.castable "PieceTransfer$Partial" "java/lang/Object" ∈ NL) (hdg : decode M.2.1 pc = .ok (.invokestatic idx, 3)) (hcat : (st.map fun v => v.category).sum ≤ 8) (h : cpQ X A a sp dp n K) (kk : ∀ A1, K A1 → G l X M d Q (pc + 3) lv st A1 bc bs) : G l X M d Q pc lv (.int n :: .int dp :: .ref a :: .int sp :: .ref a :: st) A bc bs := by
  obtain ⟨n0, f, h1, h2, h3, h4, h5, h6, h7, h8, h9⟩ := h
  exact G_copyq L hca hdg h1 h2 h3 h4 h5 h6 h7 h8 hcat (kk _ h9)
theorem K_cln {idx a : Nat} {K : Nat → AH → Nat → Nat → Prop} (L : LCl M.1.cls idx) (hdg : decode M.2.1 pc = .ok (.invokevirtual idx, 3)) (hcat : (st.map fun v => v.category).sum ≤ 8) (h : cln X A a bc bs K) (kk : ∀ a A1 b1 c1, K a A1 b1 c1 → G l X M d Q (pc + 3) lv (.ref a :: st) A1 b1 c1) : G l X M d Q pc lv (.ref a :: st) A bc bs := by
  obtain ⟨n, f, h1, h2, h3, h4⟩ := h
  exact G_clone L hdg h1 hcat h2 h3 (kk _ _ _ _ h4)
theorem K_castA {idx a : Nat} (g1 : Cond.classLink M.1.cls idx "[I" ∈ AL) (hdg : decode M.2.1 pc = .ok (.checkcast idx, 3)) {K : Prop} (h : (∃ (n : Nat) (f : Nat → Int32), A.2 a = some (ia X n f)) ∧ K) (kk : K → G l X M d Q (pc + 3) lv (.ref a :: st) A bc bs) : G l X M d Q pc lv (.ref a :: st) A bc bs := by
  obtain ⟨⟨n, f, h1⟩, h2⟩ := h
  exact G_castA g1 hdg h1 (kk h2)
theorem K_castP {idx : Nat} {r : Option Nat} {K : Nat → Prop} (g1 : Cond.classLink M.1.cls idx RX2 ∈ AL) (hdg : decode M.2.1 pc = .ok (.checkcast idx, 3)) (h : ∃ a, r = some a ∧ isO A a 3 ∧ K a) (kk : ∀ a, K a → G l X M d Q (pc + 3) lv (.ref a :: st) A bc bs) : G l X M d Q pc lv (va_rf r :: st) A bc bs := by
  obtain ⟨a, rfl, ⟨fs, h1⟩, h2⟩ := h
  exact G_castP g1 hdg h1 (kk a h2)
end GK
