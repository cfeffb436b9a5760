/-! further rows of G: the library's members, constants, casts, references in arrays, texts, the script, handlers -/
section GN
variable {l : Launch} {X : XT} {M : MT} {d : Nat} {Q : Ot → AH → Prop} {pc : Nat} {lv lv' : List (Nat × Value)} {st rest : List Value} {A : AH} {bc bs : Nat}
/-- as G_lift, with what else is known of the frame -/
theorem G_liftS {pc' : Nat} {st' : List Value} (k : G l X M d Q pc' lv st' A bc bs)
    (h : ∀ (p : Program) (e : Env) (R : Room) (s : State) (m : MethodId) (args : Array Value) (below : List Frame) (meth : Method) (c : Code) (H : Heap) (locs : List Loc) (cells slots : Nat) (ls : Array Slot) (Z : State → Prop), Cx l X M d p R s m meth c → Rel X A H → lv_has ls M.2.2.1 lv → va_S (xA X) s.heap H locs → cells ≤ R.cells → slots ≤ R.slots →
      W p l e R s m args below meth c H locs cells slots Z (F0 m pc' ls st') → W p l e R s m args below meth c H locs cells slots Z (F0 m pc ls st)) : G l X M d Q pc lv st A bc bs := by
  intro p e R s m args below meth c mc ms H locs cells slots ls S
  obtain ⟨C, hR, hlo, hsz, h3, h4, h5, h6, hl⟩ := id S
  exact h _ _ _ _ _ _ _ _ _ _ _ _ _ _ _ C hR hl (C.2.2.2.2.2.2.2.2.2.2.1.S hR.2.1 hsz hlo) (by omega) (by omega) (k _ _ _ _ _ _ _ _ _ _ _ _ _ _ _ _ S)
theorem G_min {idx : Nat} {x y : Int32} (g1 : Cond.methodLink M.1.cls idx Lib.Math.min.name ∈ AL) (g2 : Cond.static Lib.Math.min.name ∈ AL) (g3 : Cond.initialized "java/lang/Math" ∈ AL) (g4 : Cond.code Lib.Math.min.name Lib.Math.min.code 2 (some .int) ∈ AL) (hdg : decode M.2.1 pc = .ok (.invokestatic idx, 3)) (hcat : (st.map fun v => v.category).sum ≤ 8) (k : G l X M d Q (pc + 3) lv (.int (if y < x then y else x) :: st) A bc bs) : G l X M d Q pc lv (.int y :: .int x :: st) A bc bs :=
  G_liftS k fun p e R s m args below meth c H locs cells slots ls Z C _ hl _ hc hs w => by
    have hK := C.2.2.2.2.2.2.2.2.1
    have h9 := C.2.2.2.2.2.2.2.2.2.2.2
    exact va_mmin C.1 C.2.1 (C.2.2.2.1.trans hl.1.symm) C.2.2.2.2.1 (AL_at hK g1 _) (AL_at hK g2 _) (AL_at hK g3 _) (AL_at hK g4 _) (by omega) (by omega) hc hs hdg w
theorem G_max {idx : Nat} {x y : Int32} (g1 : Cond.methodLink M.1.cls idx Lib.Math.max.name ∈ AL) (g2 : Cond.static Lib.Math.max.name ∈ AL) (g3 : Cond.initialized "java/lang/Math" ∈ AL) (g4 : Cond.code Lib.Math.max.name Lib.Math.max.code 2 (some .int) ∈ AL) (hdg : decode M.2.1 pc = .ok (.invokestatic idx, 3)) (hcat : (st.map fun v => v.category).sum ≤ 8) (k : G l X M d Q (pc + 3) lv (.int (if x < y then y else x) :: st) A bc bs) : G l X M d Q pc lv (.int y :: .int x :: st) A bc bs :=
  G_liftS k fun p e R s m args below meth c H locs cells slots ls Z C _ hl _ hc hs w => by
    have hK := C.2.2.2.2.2.2.2.2.1
    have h9 := C.2.2.2.2.2.2.2.2.2.2.2
    exact va_mmax C.1 C.2.1 (C.2.2.2.1.trans hl.1.symm) C.2.2.2.2.1 (AL_at hK g1 _) (AL_at hK g2 _) (AL_at hK g3 _) (AL_at hK g4 _) (by omega) (by omega) hc hs hdg w
theorem G_ldcI {idx : Nat} {v : Int32} (g1 : Cond.constant M.1.cls idx v ∈ AL) (hdg : decode M.2.1 pc = .ok (.ldc idx, 2)) (k : G l X M d Q (pc + 2) lv (.int v :: st) A bc bs) : G l X M d Q pc lv st A bc bs :=
  G_lift k fun p e R s m args below meth c H locs cells slots ls Z C _ hl w => lv_ldc C.1 C.2.1 C.2.2.2.2.1 (AL_at C.2.2.2.2.2.2.2.2.1 g1 _) hdg w
theorem G_ldcS {idx i : Nat} {own tx : String} (hown : M.1.cls = own) (g1 : sTab[i]? = some (own, idx, tx)) (hdg : decode M.2.1 pc = .ok (.ldc idx, 2)) (k : G l X M d Q (pc + 2) lv (.ref (xK X i) :: st) A bc bs) : G l X M d Q pc lv st A bc bs :=
  G_lift k fun p e R s m args below meth c H locs cells slots ls Z C _ hl w => by
    have hs : vk_R own idx tx (xK X i) s := C.2.2.2.2.2.2.2.2.1.2.2.2.2.2.2.1 i (own, idx, tx) g1
    have ho := C.2.2.2.2.1
    rw [hown] at ho
    exact va_ldcS C.1 C.2.1 ho hs hdg w
/-- ArrayList's empty array -/
theorem G_gsE {idx : Nat} (hown : M.1.cls = "java/util/ArrayList") (g1 : Cond.fieldLink "java/util/ArrayList" idx "java/util/ArrayList" "DEFAULTCAPACITY_EMPTY_ELEMENTDATA" "[Ljava/lang/Object;" ∈ AL) (hdg : decode M.2.1 pc = .ok (.getstatic idx, 3)) (k : G l X M d Q (pc + 3) lv (.ref (xE X) :: st) A bc bs) : G l X M d Q pc lv st A bc bs :=
  G_liftS k fun p e R s m args below meth c H locs cells slots ls Z C _ hl hS _ _ w => by
    have hK := C.2.2.2.2.2.2.2.2.1
    have ho := C.2.2.2.2.1
    rw [hown] at ho
    exact va_gets C.1 C.2.1 (hK.2.2.2.1.kept C.2.2.2.2.2.2.2.2.2.2.1.at) hS ho (AL_at hK g1 _) (fun _ h => h) hdg w
theorem G_acmp_eq {rx ry : Option Nat} {off : Int} {tgt : Nat} (hdg : decode M.2.1 pc = .ok (.if_acmp .eq off, 3)) (ht : (pc : Int) + off = (tgt : Int)) (kt : rx = ry → G l X M d Q tgt lv st A bc bs) (kf : ¬ rx = ry → G l X M d Q (pc + 3) lv st A bc bs) : G l X M d Q pc lv (va_rf ry :: va_rf rx :: st) A bc bs :=
  G_br kt kf fun _ _ _ _ _ _ _ _ _ _ _ _ _ _ _ C _ hl wt wf => lv_acmp_eq C.1 C.2.1 hdg ht wt wf
/-- a Download into an array of Downloads -/
theorem G_aast3 {a n v : Nat} {vs : List Value} {f : Nat → Option Nat} {i : Int32} (hdg : decode M.2.1 pc = .ok (.aastore, 1)) (ha : A.2 a = some (ra X 3 n f)) (hv : A.2 v = some (ob 2 vs)) (hin : vp_in i n) (kk : G l X M d Q (pc + 1) lv st (up A a (ra X 3 n (va_up f i.toNatClampNeg (some v)))) bc bs) : G l X M d Q pc lv (.ref v :: .int i :: .ref a :: st) A bc bs := by
  have hlt : i.toNatClampNeg < n := Nat.not_le.mp fun q => hin (Or.inr q)
  have h0 : ¬ i < 0 := fun q => hin (Or.inl q)
  refine G_wr ha (fun h => by simp at h; omega) kk fun p e R s m args below meth c H locs cells slots ls Z C hR _ g w => ?_
  have hK := C.2.2.2.2.2.2.2.2.1
  obtain ⟨r', hr', cellV, g1, g2, g3, -⟩ := hR.ob hv
  have hcls := (hK.2.2.1.1 2 (RX1, TX1, 17) rfl).2
  obtain ⟨kA, comp, k1, k2, k3, -⟩ := (hK.2.2.1.2 3 _ rfl).2
  have hcomp : comp = (xD X).1 2 := Option.some.inj (k3.symm.trans hcls.1)
  subst hcomp
  obtain ⟨kC, hkC, -⟩ := hcls.2
  refine W.aast C.1 C.2.1 g (fun q h => by cases h) (fun h => by cases h) k1 k2 rfl hkC ⟨h0, by show _ < (arrV _ _ _).slots.size; rw [arrV_size]; exact hlt⟩ g1 (fun q h => by rw [g3] at h; cases h) (by rw [g2]; exact hkC) (by rw [g2]; exact va_assign hcls) rfl rfl hdg fun H1 e z oq => ?_
  refine w H1 _ ?_ z oq
  show H1[a]? = some (vp_cell _ _)
  rw [e]
  rw [vp_cell_q, vp_cell_q, arrV_store]
  congr 2
  funext q
  by_cases hq : q = i.toNatClampNeg
  · simp [updV, va_up, va_rf, hq]
  · simp [updV, va_up, hq]
/-- a Partial into an array of Objects -/
theorem G_aast4 {a n v : Nat} {vs : List Value} {f : Nat → Option Nat} {i : Int32} (hca : Cond.castable "PieceTransfer$Partial" "java/lang/Object" ∈ NL) (hdg : decode M.2.1 pc = .ok (.aastore, 1)) (ha : A.2 a = some (ra X 4 n f)) (hv : A.2 v = some (ob 3 vs)) (hin : vp_in i n) (kk : G l X M d Q (pc + 1) lv st (up A a (ra X 4 n (va_up f i.toNatClampNeg (some v)))) bc bs) : G l X M d Q pc lv (.ref v :: .int i :: .ref a :: st) A bc bs := by
  have hlt : i.toNatClampNeg < n := Nat.not_le.mp fun q => hin (Or.inr q)
  have h0 : ¬ i < 0 := fun q => hin (Or.inl q)
  refine G_wr ha (fun h => by simp at h; omega) kk fun p e R s m args below meth c H locs cells slots ls Z C hR _ g w => ?_
  have hK := C.2.2.2.2.2.2.2.2.1
  obtain ⟨r', hr', cellV, g1, g2, g3, -⟩ := hR.ob hv
  have hcls := (hK.2.2.1.1 3 (RX2, TX2, 2) rfl).2
  obtain ⟨kA, comp, k1, k2, k3, -⟩ := (hK.2.2.1.2 4 _ rfl).2
  obtain ⟨kE, hkE, -⟩ := Vm.findClass_spec k3
  obtain ⟨c0, t1, f1, f2, f3⟩ := Cond.castable_spec (NL_at hK hca)
  cases hcls.1.symm.trans f1
  cases k3.symm.trans f2
  obtain ⟨kC, hkC, -⟩ := hcls.2
  refine W.aast C.1 C.2.1 g (fun q h => by cases h) (fun h => by cases h) k1 k2 rfl hkE ⟨h0, by show _ < (arrV _ _ _).slots.size; rw [arrV_size]; exact hlt⟩ g1 (fun q h => by rw [g3] at h; cases h) (by rw [g2]; exact hkC) (by rw [g2]; exact f3) rfl rfl hdg fun H1 e z oq => ?_
  refine w H1 _ ?_ z oq
  show H1[a]? = some (vp_cell _ _)
  rw [e]
  rw [vp_cell_q, vp_cell_q, arrV_store]
  congr 2
  funext q
  by_cases hq : q = i.toNatClampNeg
  · simp [updV, va_up, va_rf, hq]
  · simp [updV, va_up, hq]
theorem G_aastN4 {a n : Nat} {f : Nat → Option Nat} {i : Int32} (hdg : decode M.2.1 pc = .ok (.aastore, 1)) (ha : A.2 a = some (ra X 4 n f)) (hin : vp_in i n) (kk : G l X M d Q (pc + 1) lv st (up A a (ra X 4 n (va_up f i.toNatClampNeg none))) bc bs) : G l X M d Q pc lv (.null :: .int i :: .ref a :: st) A bc bs := by
  have hlt : i.toNatClampNeg < n := Nat.not_le.mp fun q => hin (Or.inr q)
  refine G_wr ha (fun h => by simp at h; omega) kk fun p e R s m args below meth c H locs cells slots ls Z C hR _ g w => ?_
  have hK := C.2.2.2.2.2.2.2.2.1
  refine va_WaastN (C := "java/lang/Object") C.1 C.2.1 g ((hK.2.2.1.2 4 _ rfl).1 n (fun j => va_rf (f j))) (fun h => by cases h) (by show ¬ (i < 0 ∨ (arrV _ _ _).slots.size ≤ _); rw [arrV_size]; exact hin) rfl rfl hdg fun H1 e z oq => ?_
  refine w H1 _ ?_ z oq
  show H1[a]? = some (vp_cell _ _)
  rw [e]
  rw [vp_cell_q, vp_cell_q, arrV_store]
  congr 2
  funext q
  by_cases hq : q = i.toNatClampNeg
  · simp [updV, va_up, va_rf, hq]
  · simp [updV, va_up, hq]
/-- a cast of a Partial, and of null -/
theorem G_castP {idx a : Nat} {fs : List Value} (g1 : Cond.classLink M.1.cls idx RX2 ∈ AL) (hdg : decode M.2.1 pc = .ok (.checkcast idx, 3)) (ha : A.2 a = some (ob 3 fs)) (k : G l X M d Q (pc + 3) lv (.ref a :: st) A bc bs) : G l X M d Q pc lv (.ref a :: st) A bc bs :=
  G_lift k fun p e R s m args below meth c H locs cells slots ls Z C hR hl w => by
    have hK := C.2.2.2.2.2.2.2.2.1
    exact va_castS C.1 C.2.1 C.2.2.2.2.1 (AL_at hK g1 _) (hK.2.2.1.1 3 (RX2, TX2, 2) rfl).2 (va_recv hK.2.2.1 (va_P1 (hR.ob ha)) (ci := 3) (q := (RX2, TX2, 2)) (q0 := 0) rfl rfl) hdg w
theorem G_castA {idx a n : Nat} {f : Nat → Int32} (g1 : Cond.classLink M.1.cls idx "[I" ∈ AL) (hdg : decode M.2.1 pc = .ok (.checkcast idx, 3)) (ha : A.2 a = some (ia X n f)) (k : G l X M d Q (pc + 3) lv (.ref a :: st) A bc bs) : G l X M d Q pc lv (.ref a :: st) A bc bs :=
  G_lift k fun p e R s m args below meth c H locs cells slots ls Z C hR hl w => by
    have hK := C.2.2.2.2.2.2.2.2.1
    exact va_castA C.1 C.2.1 C.2.2.2.2.1 (AL_at hK g1 _) (va_P1 (hR.ia ha)) 0 rfl (hK.2.2.1.2 0 _ rfl).2 hdg w
/-- the script -/
theorem G_sld {i : Int32} (hdg : decode M.2.1 pc = .ok (.iaload, 1)) (hin : vp_in i (xL X)) (k : G l X M d Q (pc + 1) lv (.int (xs X i.toNatClampNeg) :: st) A bc bs) : G l X M d Q pc lv (.int i :: .ref (xb X) :: st) A bc bs :=
  G_liftS k fun p e R s m args below meth c H locs cells slots ls Z C hR hl hS _ _ w => by
    have hx := C.2.2.2.2.2.2.2.2.1.2.2.2.2.2.2.2.2.2.2.2
    have hbl : xb X < (xH X).size := by obtain ⟨scr, q, -⟩ := hx; exact (Array.getElem?_eq_some_iff.mp q).1
    exact va_sld C.1 C.2.1 (A := xA X) (H0 := xH X) hx hbl (Nat.not_le.mpr hbl) ⟨hR.2.1.1, fun q q1 _ => hR.2.1.2 q q1, hS.2.2⟩ hin hdg w
theorem G_slen (hdg : decode M.2.1 pc = .ok (.arraylength, 1)) (k : G l X M d Q (pc + 1) lv (.int (Int32.ofNat (xL X)) :: st) A bc bs) : G l X M d Q pc lv (.ref (xb X) :: st) A bc bs :=
  G_liftS k fun p e R s m args below meth c H locs cells slots ls Z C hR hl hS _ _ w => by
    have hx := C.2.2.2.2.2.2.2.2.1.2.2.2.2.2.2.2.2.2.2.2
    have hbl : xb X < (xH X).size := by obtain ⟨scr, q, -⟩ := hx; exact (Array.getElem?_eq_some_iff.mp q).1
    exact va_slen C.1 C.2.1 (A := xA X) (H0 := xH X) hx hbl (Nat.not_le.mpr hbl) ⟨hR.2.1.1, fun q q1 _ => hR.2.1.2 q q1, hS.2.2⟩ hdg w
end GN
