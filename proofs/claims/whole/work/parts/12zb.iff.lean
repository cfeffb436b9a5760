/-! what an instruction asks, where the cell is known -/
section IF
variable {X : XT} {A : AH} {a ci k : Nat}
theorem gI_iff {fs : List Value} {i : Int32} {K : Int32 → Prop} (h : A.2 a = some (ob ci fs)) (hk : fs[k]? = some (.int i)) : gI A a ci k K ↔ K i := by
  constructor
  · rintro ⟨fs', i', h1, h2, h3⟩
    rw [h] at h1
    injection h1 with h1
    injection h1 with h1
    injection h1 with h0 h1
    subst h1
    rw [hk] at h2
    injection h2 with h2
    injection h2 with h2
    rw [h2]
    exact h3
  · exact fun q => ⟨fs, i, h, hk, q⟩
theorem gR_iff {fs : List Value} {i : Nat} {K : Nat → Prop} (h : A.2 a = some (ob ci fs)) (hk : fs[k]? = some (.ref i)) : gR A a ci k K ↔ K i := by
  constructor
  · rintro ⟨fs', i', h1, h2, h3⟩
    rw [h] at h1
    injection h1 with h1
    injection h1 with h1
    injection h1 with h0 h1
    subst h1
    rw [hk] at h2
    injection h2 with h2
    injection h2 with h2
    rw [h2]
    exact h3
  · exact fun q => ⟨fs, i, h, hk, q⟩
theorem gQ_of {fs : List Value} {o : Option Nat} {K : Option Nat → Prop} (h : A.2 a = some (ob ci fs)) (hk : fs[k]? = some (va_rf o)) (q : K o) : gQ A a ci k K := ⟨fs, o, h, hk, q⟩
theorem pV_iff {fs : List Value} {v : Value} {K : AH → Prop} (h : A.2 a = some (ob ci fs)) (hk : k < fs.length) : pV A a ci k v K ↔ K (up A a (ob ci (fs.set k v))) := by
  constructor
  · rintro ⟨fs', h1, h2, h3⟩
    rw [h] at h1
    injection h1 with h1
    injection h1 with h1
    injection h1 with h0 h1
    subst h1
    exact h3
  · exact fun q => ⟨fs, h, hk, q⟩
theorem ia_inj {n m : Nat} {f g : Nat → Int32} (h : some (ia X n f) = some (ia X m g)) : n = m ∧ f = g := by
  injection h with h
  injection h with h
  injection h with h0 h
  injection h with h1 h
  injection h with h2
  exact ⟨h1, h2⟩
theorem za_inj {n m : Nat} {f g : Nat → Int32} (h : some (za X n f) = some (za X m g)) : n = m ∧ f = g := by
  injection h with h
  injection h with h
  injection h with h0 h
  injection h with h1 h
  injection h with h2
  exact ⟨h1, h2⟩
theorem aI_iff {n : Nat} {f : Nat → Int32} {i : Int32} {K : Int32 → Prop} (h : A.2 a = some (ia X n f)) (hi : vp_in i n) : aI X A a i K ↔ K (f i.toNatClampNeg) := by
  constructor
  · rintro ⟨n', f', h1, h2, h3⟩
    obtain ⟨rfl, rfl⟩ := ia_inj (h.symm.trans h1)
    exact h3
  · exact fun q => ⟨n, f, h, hi, q⟩
theorem aZ_iff {n : Nat} {f : Nat → Int32} {i : Int32} {K : Int32 → Prop} (h : A.2 a = some (za X n f)) (hi : vp_in i n) : aZ X A a i K ↔ K (f i.toNatClampNeg) := by
  constructor
  · rintro ⟨n', f', h1, h2, h3⟩
    obtain ⟨rfl, rfl⟩ := za_inj (h.symm.trans h1)
    exact h3
  · exact fun q => ⟨n, f, h, hi, q⟩
theorem sI_iff {n : Nat} {f : Nat → Int32} {i x : Int32} {K : AH → Prop} (h : A.2 a = some (ia X n f)) (hi : vp_in i n) : sI X A a i x K ↔ K (up A a (ia X n (upd f i.toNatClampNeg x))) := by
  constructor
  · rintro ⟨n', f', h1, h2, h3⟩
    obtain ⟨rfl, rfl⟩ := ia_inj (h.symm.trans h1)
    exact h3
  · exact fun q => ⟨n, f, h, hi, q⟩
theorem sZ_iff {n : Nat} {f : Nat → Int32} {i x : Int32} {K : AH → Prop} (h : A.2 a = some (za X n f)) (hi : vp_in i n) : sZ X A a i x K ↔ K (up A a (za X n (upd f i.toNatClampNeg (vp_nar .boolean x)))) := by
  constructor
  · rintro ⟨n', f', h1, h2, h3⟩
    obtain ⟨rfl, rfl⟩ := za_inj (h.symm.trans h1)
    exact h3
  · exact fun q => ⟨n, f, h, hi, q⟩
theorem nI_iff {n : Nat} {f : Nat → Int32} {K : Int32 → Prop} (h : A.2 a = some (ia X n f)) : nI_ X A a K ↔ K (Int32.ofNat n) := by
  constructor
  · rintro ⟨n', f', h1, h3⟩
    obtain ⟨rfl, rfl⟩ := ia_inj (h.symm.trans h1)
    exact h3
  · exact fun q => ⟨n, f, h, q⟩
theorem isO_of {fs : List Value} (h : A.2 a = some (ob ci fs)) : isO A a ci := ⟨fs, h⟩
theorem rI_of {i : Int32} {T : String → Prop} {K : Int32 → Prop} : rI (Ri i) T K ↔ K i := by
  constructor
  · rintro (⟨i', h1, h2⟩ | ⟨E, h1, h2⟩)
    · injection h1 with h1
      injection h1 with h1
      injection h1 with h1
      rw [h1]
      exact h2
    · cases h1
  · exact fun h => Or.inl ⟨i, rfl, h⟩
theorem rV_of {T : String → Prop} {K : Prop} : rV Rv T K ↔ K := by
  constructor
  · rintro (⟨h1, h2⟩ | ⟨E, h1, h2⟩)
    · exact h2
    · cases h1
  · exact fun h => Or.inl ⟨rfl, h⟩
theorem rF_of {i : UInt32} {T : String → Prop} {K : UInt32 → Prop} : rF (Rf i) T K ↔ K i := by
  constructor
  · rintro (⟨i', h1, h2⟩ | ⟨E, h1, h2⟩)
    · injection h1 with h1
      injection h1 with h1
      injection h1 with h1
      rw [h1]
      exact h2
    · cases h1
  · exact fun h => Or.inl ⟨i, rfl, h⟩
theorem zI_of {i : Int32} {K : Int32 → Prop} : zI (Ri i) K ↔ K i := by
  constructor
  · rintro ⟨i', h1, h2⟩
    injection h1 with h1
    injection h1 with h1
    injection h1 with h1
    rw [h1]
    exact h2
  · exact fun h => ⟨i, rfl, h⟩
theorem zV_of {K : Prop} : zV Rv K ↔ K := ⟨fun h => h.2, fun h => ⟨rfl, h⟩⟩
theorem zR_of {i : Nat} {K : Nat → Prop} : zR (Ra i) K ↔ K i := by
  constructor
  · rintro ⟨i', h1, h2⟩
    injection h1 with h1
    injection h1 with h1
    injection h1 with h1
    rw [h1]
    exact h2
  · exact fun h => ⟨i, rfl, h⟩
/-- a method whose end is known -/
def Fn (l : Launch) (X : XT) (d : Nat) (M : MT) (args : List Value) (A : AH) (mc ms : Nat) (r : Ot) (A' : AH) : Prop := Ct l X d M args A mc ms (fun o A1 => o = r ∧ A1 = A')
theorem Fn.cal {l : Launch} {d d' bc bs mc ms : Nat} {M : MT} {args : List Value} {r : Ot} {A' : AH} {K : Ot → AH → Nat → Nat → Prop} (k : Fn l X d' M args A mc ms r A') (h1 : d' + 1 ≤ d) (h2 : mc ≤ bc) (h3 : ms ≤ bs) (h : K r A' (bc - mc) (bs - ms)) : Cal l X d bc bs M args A K := by
  refine Cal.of k h1 h2 h3 ?_
  rintro o A1 ⟨rfl, rfl⟩
  exact h
/-- .. and that takes no room -/
theorem Fn.cl0 {l : Launch} {d d' bc bs : Nat} {M : MT} {args : List Value} {r : Ot} {A' : AH} {K : Ot → AH → Nat → Nat → Prop} (k : Fn l X d' M args A 0 0 r A') (h1 : d' + 1 ≤ d) (h : K r A' bc bs) : Cal l X d bc bs M args A K :=
  Fn.cal k h1 (Nat.zero_le _) (Nat.zero_le _) h
theorem Fn.of {l : Launch} (hl : l.stackTraces = false) {d : Nat} {M : MT} {args : List Value} {mc ms : Nat} {r : Ot} {A' : AH} (ht : M.2.2.2.2 = []) (hy : plainName M.1.cls = true) (hn : (lg_sl args).length ≤ M.2.2.1)
    (k : G l X M d (fun o A1 => o = r ∧ A1 = A') 0 (lv_args 0 args) [] A mc ms) : Fn l X d M args A mc ms r A' := Ct.of hl ht hy hn k
end IF
