/-! the law's helpers (laid by wip/whole/gen/mk85.py) -/
section LH
variable {l : Launch} {X : XT} {A A' : AH} {w w' : Nat → Nat} {t a : Nat} {V : Nat → Int → Int} {f : Nat → Option Nat} {c : Option Nat} {S : Nat → Int → Int}
/-- an answer of the class, the state after it -/
def LPP (X : XT) (A : AH) (w : Nat → Nat) (o t : Nat) (n : Int) (E1 E2 : String) (v : Ot) (T : Nat → Int → Int) : Ot → AH → Prop := fun o' A' => RS o' n E1 E2 v ∧ ∃ w' V' a' f' c', TAt X A' w' t V' a' f' c' T ∧ Fr w w' o A A'
theorem MP.lp {o : Nat} {n : Int} {E1 E2 : String} {v o' : Ot} {S1 : Nat → Int → Int} (h : MP X A w o t S n E1 E2 v S1 o' A') : LPP X A w o t n E1 E2 v (if n = 0 then S1 else S) o' A' := h
theorem QP.lp {o : Nat} {n : Int} {E1 E2 : String} {v v2 o' : Ot} (ht : TAt X A w t V a f c S) (hv : n = 0 → v = v2) (h : QP A n E1 E2 v o' A') : LPP X A w o t n E1 E2 v2 S o' A' := by
  obtain ⟨h1, h2, h3⟩ := h
  refine ⟨?_, w, V, a, f, c, ht.same h2 h3, Fr.same h2 h3⟩
  rcases h1 with ⟨a1, a2⟩ | h1 | h1
  · exact Or.inl ⟨a1, a2.trans (hv a1)⟩
  · exact Or.inr (Or.inl h1)
  · exact Or.inr (Or.inr h1)
/-- the reference's cells, and the law's own row -/
def OC (X : XT) (A : AH) (o u : Nat) (w : Nat → Nat) : Prop := (o + 9 < A.1 ∧ ∀ b, o ≤ b → b ≤ o + 9 → w b = o + 1) ∧ (u < A.1 ∧ w u = o + 1 ∧ (u < o ∨ o + 9 < u) ∧ ∃ f0 : Nat → Int64, A.2 u = some (la X 1 f0)) ∧ ∃ fs : List Value, A.2 o = some (ob 7 fs)
/-- after a helper -/
def LQ (X : XT) (A : AH) (w : Nat → Nat) (o t u : Nat) (n : Int) (x : Int64) (T : Nat → Int → Int) : Ot → AH → Prop := fun o' A' => o' = Ri (I n) ∧ ∃ w', (∃ V a f c, TAt X A' w' t V a f c T) ∧ A.1 ≤ A'.1 ∧ (∀ b, b < A.1 → w' b = w b) ∧ (∀ b, o ≤ b → b ≤ o + 9 → A'.2 b = A.2 b) ∧ ∃ f0 : Nat → Int64, A'.2 u = some (la X 1 f0) ∧ (n = 0 → f0 0 = x)
theorem LPP.th {o u : Nat} {n : Int} {E1 E2 : String} {v : Ot} {x : Int64} {T : Nat → Int → Int} {k : Nat} {z : Int32} {w1 : Nat → Nat} {V' : Nat → Int → Int} {a' : Nat} {f' : Nat → Option Nat} {c' : Option Nat} (hOC : OC X A o u w) (hz : z = I n) (hn : n ≠ 0) (h : TAt X A' w1 t V' a' f' c' T) (hf : Fr w w1 o A A') : LQ X A w o t u n x T (Ri z) A' := by
  obtain ⟨⟨o1, o2⟩, ⟨u1, u2, u3, f0, u4⟩, -⟩ := hOC
  obtain ⟨f1, f2, f3⟩ := hf
  exact ⟨by rw [hz], w1, ⟨_, _, _, _, h⟩, f1, f2, fun b b0 b1 => f3 b (by omega) (Or.inr (o2 b b0 b1)), f0, (f3 u u1 (Or.inr u2)).trans u4, fun q => absurd q hn⟩
theorem LPP.wr {o u : Nat} {n : Int} {x : Int64} {T : Nat → Int → Int} {w1 : Nat → Nat} {V' : Nat → Int → Int} {a' : Nat} {f' : Nat → Option Nat} {c' : Option Nat} (hto : t ≠ o) (hOC : OC X A o u w) (hn : n = 0) (h : TAt X A' w1 t V' a' f' c' T) (hf : Fr w w1 o A A') : sL X A' u 0 x fun A6 => LQ X A w o t u n x T (Ri 0) A6 := by
  obtain ⟨⟨o1, o2⟩, ⟨u1, u2, u3, f0, u4⟩, fs, ho⟩ := hOC
  obtain ⟨f1, f2, f3⟩ := hf
  have u5 := (f3 u u1 (Or.inr u2)).trans u4
  have ho' := (f3 o (by omega) (Or.inr (o2 o (by omega) (by omega)))).trans ho
  refine ⟨1, f0, u5, (in_I (z := 0) (by decide) (by decide) (by decide)), ?_⟩
  have cg : Chg w1 w1 (o + 1) A' (up A' u (la X 1 (vp_updL f0 (0 : Int32).toNatClampNeg x))) := ⟨Nat.le_refl _, fun _ _ => rfl, fun b b0 b1 => up_b (fun k => by rw [k, f2 u u1] at b1; exact b1 u2)⟩
  refine ⟨by rw [hn]; exact congrArg (fun z => Ri z) (I_n 0), w1, ⟨_, _, _, _, h.chg cg (by omega) (by omega) (fun d hd => fun k => hd.no ho' (by omega))⟩, f1, f2, fun b b0 b1 => (up_b (by omega)).trans (f3 b (by omega) (Or.inr (o2 b b0 b1))), _, up_q, fun _ => ?_⟩
  exact if_pos (by decide)
theorem L_cal2 {o u dd d bc bs mc ms : Nat} {M : MT} {args : List Value} {n v : Int} {E1 E2 : String} {T : Nat → Int → Int} (hto : t ≠ o) (hOC : OC X A o u w) (h : Ct l X dd M args A mc ms (LPP X A w o t n E1 E2 (Ri (I v)) T)) (hd : dd + 1 ≤ d) (hb : mc ≤ bc) (hs : ms ≤ bs) :
    Cal l X d bc bs M args A (fun o4 A1 _ _ => (∃ i5, o4 = Ri i5 ∧ sL X A1 u 0 (Int32.toInt64 i5) fun A6 => LQ X A w o t u n (Int32.toInt64 (I v)) T (Ri 0) A6) ∨ (o4 = Th E1 ∧ ∀ _ : Nat, LQ X A w o t u n (Int32.toInt64 (I v)) T (Ri 1) A1) ∨ (o4 = Th E2 ∧ ∀ _ : Nat, LQ X A w o t u n (Int32.toInt64 (I v)) T (Ri 2) A1)) := by
  refine Cal.of h hd hb hs ?_
  rintro o1 A1 ⟨h1, w1, V', a', f', c', h2, h3⟩
  rcases h1 with ⟨hn, rfl⟩ | ⟨hn, rfl⟩ | ⟨hn, rfl⟩
  · exact Or.inl ⟨_, rfl, LPP.wr hto hOC hn h2 h3⟩
  · exact Or.inr (Or.inl ⟨rfl, fun _ => LPP.th (E1 := E1) (E2 := E2) (v := Ri 0) (k := 0) hOC (by rw [hn]; exact I_n 1) (by omega) h2 h3⟩)
  · exact Or.inr (Or.inr ⟨rfl, fun _ => LPP.th (E1 := E1) (E2 := E2) (v := Ri 0) (k := 0) hOC (by rw [hn]; exact I_n 2) (by omega) h2 h3⟩)
theorem L_cal1 {o u dd d bc bs mc ms : Nat} {M : MT} {args : List Value} {n v : Int} {E1 E2 : String} {T : Nat → Int → Int} (hto : t ≠ o) (hOC : OC X A o u w) (h : Ct l X dd M args A mc ms (LPP X A w o t n E1 E2 (Ri (I v)) T)) (hn2 : n ≠ 2) (hd : dd + 1 ≤ d) (hb : mc ≤ bc) (hs : ms ≤ bs) :
    Cal l X d bc bs M args A (fun o4 A1 _ _ => (∃ i5, o4 = Ri i5 ∧ sL X A1 u 0 (Int32.toInt64 i5) fun A6 => LQ X A w o t u n (Int32.toInt64 (I v)) T (Ri 0) A6) ∨ (o4 = Th E1 ∧ ∀ _ : Nat, LQ X A w o t u n (Int32.toInt64 (I v)) T (Ri 1) A1)) := by
  refine Cal.of h hd hb hs ?_
  rintro o1 A1 ⟨h1, w1, V', a', f', c', h2, h3⟩
  rcases h1 with ⟨hn, rfl⟩ | ⟨hn, rfl⟩ | ⟨hn, rfl⟩
  · exact Or.inl ⟨_, rfl, LPP.wr hto hOC hn h2 h3⟩
  · exact Or.inr ⟨rfl, fun _ => LPP.th (E1 := E1) (E2 := E2) (v := Ri 0) (k := 0) hOC (by rw [hn]; exact I_n 1) (by omega) h2 h3⟩
  · exact absurd hn hn2
theorem c_L_append (hl : l.stackTraces = false) {o u dd mc ms : Nat} (h : TAt X A w t V a f c S) (hto : t ≠ o) (hOC : OC X A o u w) {v1 v2 v3 v4 v5 : Int32} {n v : Int} {E2 : String} {T : Nat → Int → Int} (hd : dd ≤ 30) (hmc : mc ≤ 60) (hms : ms ≤ 4000) (hn2 : n ≠ 2) (hc : Ct l X dd M_X5_append [.ref t, .int v1, .int v2, .int v3, .int v4, .int v5] A mc ms (LPP X A w o t n "java/lang/IllegalStateException" E2 (Ri (I v)) T)) : Ct l X 31 M_L_append [.ref t, .int v1, .int v2, .int v3, .int v4, .int v5, .ref u] A 60 4000 (LQ X A w o t u n (Int32.toInt64 (I v)) T) :=
  Ct.ofX hl (by decide) rfl (Nat.le_of_ble_eq_true rfl) (k_L_append_0 ⟨⟨_, h.1.1⟩, L_cal1 hto hOC hc hn2 (by omega) hmc hms⟩)
theorem c_L_load (hl : l.stackTraces = false) {o u dd mc ms : Nat} (h : TAt X A w t V a f c S) (hto : t ≠ o) (hOC : OC X A o u w) {v1 : Int32} {n v : Int} {E2 : String} {T : Nat → Int → Int} (hd : dd ≤ 30) (hmc : mc ≤ 60) (hms : ms ≤ 4000) (hn2 : n ≠ 2) (hc : Ct l X dd M_X5_load [.ref t, .int v1] A mc ms (LPP X A w o t n "java/lang/IllegalArgumentException" E2 (Ri (I v)) T)) : Ct l X 31 M_L_load [.ref t, .int v1, .ref u] A 60 4000 (LQ X A w o t u n (Int32.toInt64 (I v)) T) :=
  Ct.ofX hl (by decide) rfl (Nat.le_of_ble_eq_true rfl) (k_L_load_0 ⟨⟨_, h.1.1⟩, L_cal1 hto hOC hc hn2 (by omega) hmc hms⟩)
theorem c_L_count (hl : l.stackTraces = false) {o u dd mc ms : Nat} (h : TAt X A w t V a f c S) (hto : t ≠ o) (hOC : OC X A o u w) {v1 : Int32} {n v : Int} {E2 : String} {T : Nat → Int → Int} (hd : dd ≤ 30) (hmc : mc ≤ 60) (hms : ms ≤ 4000) (hn2 : n ≠ 2) (hc : Ct l X dd M_X5_count [.ref t, .int v1] A mc ms (LPP X A w o t n "java/lang/IllegalArgumentException" E2 (Ri (I v)) T)) : Ct l X 31 M_L_count [.ref t, .int v1, .ref u] A 60 4000 (LQ X A w o t u n (Int32.toInt64 (I v)) T) :=
  Ct.ofX hl (by decide) rfl (Nat.le_of_ble_eq_true rfl) (k_L_count_0 ⟨⟨_, h.1.1⟩, L_cal1 hto hOC hc hn2 (by omega) hmc hms⟩)
theorem c_L_source (hl : l.stackTraces = false) {o u dd mc ms : Nat} (h : TAt X A w t V a f c S) (hto : t ≠ o) (hOC : OC X A o u w) {v1 v2 : Int32} {n v : Int} {T : Nat → Int → Int} (hd : dd ≤ 30) (hmc : mc ≤ 60) (hms : ms ≤ 4000) (hc : Ct l X dd M_X5_source [.ref t, .int v1, .int v2] A mc ms (LPP X A w o t n "java/lang/IndexOutOfBoundsException" "java/lang/IllegalArgumentException" (Ri (I v)) T)) : Ct l X 31 M_L_source [.ref t, .int v1, .int v2, .ref u] A 60 4000 (LQ X A w o t u n (Int32.toInt64 (I v)) T) :=
  Ct.ofX hl (by decide) rfl (Nat.le_of_ble_eq_true rfl) (k_L_source_0 ⟨⟨_, h.1.1⟩, L_cal2 hto hOC hc (by omega) hmc hms⟩)
theorem c_L_sent (hl : l.stackTraces = false) {o u dd mc ms : Nat} (h : TAt X A w t V a f c S) (hto : t ≠ o) (hOC : OC X A o u w) {v1 v2 : Int32} {n v : Int} {E2 : String} {T : Nat → Int → Int} (hd : dd ≤ 30) (hmc : mc ≤ 60) (hms : ms ≤ 4000) (hn2 : n ≠ 2) (hc : Ct l X dd M_X5_sent [.ref t, .int v1, .int v2] A mc ms (LPP X A w o t n "java/lang/IndexOutOfBoundsException" E2 (Ri (I v)) T)) : Ct l X 31 M_L_sent [.ref t, .int v1, .int v2, .ref u] A 60 4000 (LQ X A w o t u n (Int32.toInt64 (I v)) T) :=
  Ct.ofX hl (by decide) rfl (Nat.le_of_ble_eq_true rfl) (k_L_sent_0 ⟨⟨_, h.1.1⟩, L_cal1 hto hOC hc hn2 (by omega) hmc hms⟩)
theorem c_L_got (hl : l.stackTraces = false) {o u dd mc ms : Nat} (h : TAt X A w t V a f c S) (hto : t ≠ o) (hOC : OC X A o u w) {v1 : Int32} {n v : Int} {E2 : String} {T : Nat → Int → Int} (hd : dd ≤ 30) (hmc : mc ≤ 60) (hms : ms ≤ 4000) (hn2 : n ≠ 2) (hc : Ct l X dd M_X5_got [.ref t, .int v1] A mc ms (LPP X A w o t n "java/lang/IndexOutOfBoundsException" E2 (Ri (I v)) T)) : Ct l X 31 M_L_got [.ref t, .int v1, .ref u] A 60 4000 (LQ X A w o t u n (Int32.toInt64 (I v)) T) :=
  Ct.ofX hl (by decide) rfl (Nat.le_of_ble_eq_true rfl) (k_L_got_0 ⟨⟨_, h.1.1⟩, L_cal1 hto hOC hc hn2 (by omega) hmc hms⟩)
theorem c_L_piece (hl : l.stackTraces = false) {o u dd mc ms : Nat} (h : TAt X A w t V a f c S) (hto : t ≠ o) (hOC : OC X A o u w) {v1 v2 : Int32} {n v : Int} {T : Nat → Int → Int} (hd : dd ≤ 30) (hmc : mc ≤ 60) (hms : ms ≤ 4000) (hc : Ct l X dd M_X5_piece [.ref t, .int v1, .int v2] A mc ms (LPP X A w o t n "java/lang/IndexOutOfBoundsException" "java/lang/IllegalArgumentException" (Ri (I v)) T)) : Ct l X 31 M_L_piece [.ref t, .int v1, .int v2, .ref u] A 60 4000 (LQ X A w o t u n (Int32.toInt64 (I v)) T) :=
  Ct.ofX hl (by decide) rfl (Nat.le_of_ble_eq_true rfl) (k_L_piece_0 ⟨⟨_, h.1.1⟩, L_cal2 hto hOC hc (by omega) hmc hms⟩)
theorem c_L_part (hl : l.stackTraces = false) {o u dd mc ms : Nat} (h : TAt X A w t V a f c S) (hto : t ≠ o) (hOC : OC X A o u w) {v1 v2 : Int32} {n v : Int} {T : Nat → Int → Int} (hd : dd ≤ 30) (hmc : mc ≤ 60) (hms : ms ≤ 4000) (hc : Ct l X dd M_X5_part [.ref t, .int v1, .int v2] A mc ms (LPP X A w o t n "java/lang/IndexOutOfBoundsException" "java/lang/IllegalArgumentException" (Ri (I v)) T)) : Ct l X 31 M_L_part [.ref t, .int v1, .int v2, .ref u] A 60 4000 (LQ X A w o t u n (Int32.toInt64 (I v)) T) :=
  Ct.ofX hl (by decide) rfl (Nat.le_of_ble_eq_true rfl) (k_L_part_0 ⟨⟨_, h.1.1⟩, L_cal2 hto hOC hc (by omega) hmc hms⟩)
theorem c_L_checksum (hl : l.stackTraces = false) {o u dd mc ms : Nat} (h : TAt X A w t V a f c S) (hto : t ≠ o) (hOC : OC X A o u w) {v1 v2 v3 : Int32} {n v : Int} {T : Nat → Int → Int} (hd : dd ≤ 30) (hmc : mc ≤ 60) (hms : ms ≤ 4000) (hc : Ct l X dd M_X5_checksum [.ref t, .int v1, .int v2, .int v3] A mc ms (LPP X A w o t n "java/lang/IndexOutOfBoundsException" "java/lang/IllegalArgumentException" (Ri (I v)) T)) : Ct l X 31 M_L_checksum [.ref t, .int v1, .int v2, .int v3, .ref u] A 60 4000 (LQ X A w o t u n (Int32.toInt64 (I v)) T) :=
  Ct.ofX hl (by decide) rfl (Nat.le_of_ble_eq_true rfl) (k_L_checksum_0 ⟨⟨_, h.1.1⟩, L_cal2 hto hOC hc (by omega) hmc hms⟩)
theorem c_L_fetch (hl : l.stackTraces = false) {o u dd mc ms : Nat} (h : TAt X A w t V a f c S) (hto : t ≠ o) (hOC : OC X A o u w) {v1 v2 : Int32} {n v : Int} {T : Nat → Int → Int} (hd : dd ≤ 30) (hmc : mc ≤ 60) (hms : ms ≤ 4000) (hc : Ct l X dd M_X5_fetch [.ref t, .int v1, .int v2] A mc ms (LPP X A w o t n "java/lang/IndexOutOfBoundsException" "java/lang/IllegalStateException" (Ri (I v)) T)) : Ct l X 31 M_L_fetch [.ref t, .int v1, .int v2, .ref u] A 60 4000 (LQ X A w o t u n (Int32.toInt64 (I v)) T) :=
  Ct.ofX hl (by decide) rfl (Nat.le_of_ble_eq_true rfl) (k_L_fetch_0 ⟨⟨_, h.1.1⟩, L_cal2 hto hOC hc (by omega) hmc hms⟩)
theorem c_L_search (hl : l.stackTraces = false) {o u dd mc ms : Nat} (h : TAt X A w t V a f c S) (hto : t ≠ o) (hOC : OC X A o u w) {v1 : Int32} {n v : Int} {T : Nat → Int → Int} (hd : dd ≤ 30) (hmc : mc ≤ 60) (hms : ms ≤ 4000) (hc : Ct l X dd M_X5_search [.ref t, .int v1] A mc ms (LPP X A w o t n "java/lang/IndexOutOfBoundsException" "java/lang/IllegalStateException" (Ri (I v)) T)) : Ct l X 31 M_L_search [.ref t, .int v1, .ref u] A 60 4000 (LQ X A w o t u n (Int32.toInt64 (I v)) T) :=
  Ct.ofX hl (by decide) rfl (Nat.le_of_ble_eq_true rfl) (k_L_search_0 ⟨⟨_, h.1.1⟩, L_cal2 hto hOC hc (by omega) hmc hms⟩)
theorem c_L_queriesFor (hl : l.stackTraces = false) {o u dd mc ms : Nat} (h : TAt X A w t V a f c S) (hto : t ≠ o) (hOC : OC X A o u w) {v1 : Int32} {n v : Int} {T : Nat → Int → Int} (hd : dd ≤ 30) (hmc : mc ≤ 60) (hms : ms ≤ 4000) (hc : Ct l X dd M_X5_queriesFor [.ref t, .int v1] A mc ms (LPP X A w o t n "java/lang/IndexOutOfBoundsException" "java/util/NoSuchElementException" (Ri (I v)) T)) : Ct l X 31 M_L_queriesFor [.ref t, .int v1, .ref u] A 60 4000 (LQ X A w o t u n (Int32.toInt64 (I v)) T) :=
  Ct.ofX hl (by decide) rfl (Nat.le_of_ble_eq_true rfl) (k_L_queriesFor_0 ⟨⟨_, h.1.1⟩, L_cal2 hto hOC hc (by omega) hmc hms⟩)
theorem c_L_drop (hl : l.stackTraces = false) {o u dd mc ms : Nat} (h : TAt X A w t V a f c S) (hto : t ≠ o) (hOC : OC X A o u w) {v1 : Int32} {n v : Int} {T : Nat → Int → Int} (hd : dd ≤ 30) (hmc : mc ≤ 60) (hms : ms ≤ 4000) (hc : Ct l X dd M_X5_drop [.ref t, .int v1] A mc ms (LPP X A w o t n "java/lang/IndexOutOfBoundsException" "java/lang/IllegalStateException" (Ri (I v)) T)) : Ct l X 31 M_L_drop [.ref t, .int v1, .ref u] A 60 4000 (LQ X A w o t u n (Int32.toInt64 (I v)) T) :=
  Ct.ofX hl (by decide) rfl (Nat.le_of_ble_eq_true rfl) (k_L_drop_0 ⟨⟨_, h.1.1⟩, L_cal2 hto hOC hc (by omega) hmc hms⟩)
theorem c_L_run (hl : l.stackTraces = false) {o u dd mc ms : Nat} (h : TAt X A w t V a f c S) (hto : t ≠ o) (hOC : OC X A o u w) {v1 : Int32} {n v : Int} {E2 : String} {T : Nat → Int → Int} (hd : dd ≤ 30) (hmc : mc ≤ 60) (hms : ms ≤ 4000) (hn2 : n ≠ 2) (hc : Ct l X dd M_X5_run [.ref t, .int v1] A mc ms (LPP X A w o t n "java/lang/IllegalArgumentException" E2 (Ri (I v)) T)) : Ct l X 31 M_L_run [.ref t, .int v1, .ref u] A 60 4000 (LQ X A w o t u n (Int32.toInt64 (I v)) T) :=
  Ct.ofX hl (by decide) rfl (Nat.le_of_ble_eq_true rfl) (k_L_run_0 ⟨⟨_, h.1.1⟩, L_cal1 hto hOC hc hn2 (by omega) hmc hms⟩)
theorem c_L_keep (hl : l.stackTraces = false) {o u dd mc ms : Nat} (h : TAt X A w t V a f c S) (hto : t ≠ o) (hOC : OC X A o u w) {v1 : Int32} {n v : Int} {T : Nat → Int → Int} (hd : dd ≤ 30) (hmc : mc ≤ 60) (hms : ms ≤ 4000) (hc : Ct l X dd M_X5_keep [.ref t, .int v1] A mc ms (LPP X A w o t n "java/lang/IllegalArgumentException" "java/lang/IllegalStateException" (Ri (I v)) T)) : Ct l X 31 M_L_keep [.ref t, .int v1, .ref u] A 60 4000 (LQ X A w o t u n (Int32.toInt64 (I v)) T) :=
  Ct.ofX hl (by decide) rfl (Nat.le_of_ble_eq_true rfl) (k_L_keep_0 ⟨⟨_, h.1.1⟩, L_cal2 hto hOC hc (by omega) hmc hms⟩)
theorem c_L_resume (hl : l.stackTraces = false) {o u dd mc ms : Nat} (h : TAt X A w t V a f c S) (hto : t ≠ o) (hOC : OC X A o u w) {v1 : Int32} {n v : Int} {T : Nat → Int → Int} (hd : dd ≤ 30) (hmc : mc ≤ 60) (hms : ms ≤ 4000) (hc : Ct l X dd M_X5_resume [.ref t, .int v1] A mc ms (LPP X A w o t n "java/lang/IndexOutOfBoundsException" "java/lang/IllegalStateException" (Ri (I v)) T)) : Ct l X 31 M_L_resume [.ref t, .int v1, .ref u] A 60 4000 (LQ X A w o t u n (Int32.toInt64 (I v)) T) :=
  Ct.ofX hl (by decide) rfl (Nat.le_of_ble_eq_true rfl) (k_L_resume_0 ⟨⟨_, h.1.1⟩, L_cal2 hto hOC hc (by omega) hmc hms⟩)
theorem c_L_named (hl : l.stackTraces = false) {o u dd mc ms : Nat} (h : TAt X A w t V a f c S) (hto : t ≠ o) (hOC : OC X A o u w) {v1 : Int32} {n v : Int} {E2 : String} {T : Nat → Int → Int} (hd : dd ≤ 30) (hmc : mc ≤ 60) (hms : ms ≤ 4000) (hn2 : n ≠ 2) (hc : Ct l X dd M_X5_named [.ref t, .int v1] A mc ms (LPP X A w o t n "java/util/NoSuchElementException" E2 (Ri (I v)) T)) : Ct l X 31 M_L_named [.ref t, .int v1, .ref u] A 60 4000 (LQ X A w o t u n (Int32.toInt64 (I v)) T) :=
  Ct.ofX hl (by decide) rfl (Nat.le_of_ble_eq_true rfl) (k_L_named_0 ⟨⟨_, h.1.1⟩, L_cal1 hto hOC hc hn2 (by omega) hmc hms⟩)
theorem c_L_sized (hl : l.stackTraces = false) {o u dd mc ms : Nat} (h : TAt X A w t V a f c S) (hto : t ≠ o) (hOC : OC X A o u w) {v1 : Int32} {n v : Int} {E2 : String} {T : Nat → Int → Int} (hd : dd ≤ 30) (hmc : mc ≤ 60) (hms : ms ≤ 4000) (hn2 : n ≠ 2) (hc : Ct l X dd M_X5_sized [.ref t, .int v1] A mc ms (LPP X A w o t n "java/util/NoSuchElementException" E2 (Ri (I v)) T)) : Ct l X 31 M_L_sized [.ref t, .int v1, .ref u] A 60 4000 (LQ X A w o t u n (Int32.toInt64 (I v)) T) :=
  Ct.ofX hl (by decide) rfl (Nat.le_of_ble_eq_true rfl) (k_L_sized_0 ⟨⟨_, h.1.1⟩, L_cal1 hto hOC hc hn2 (by omega) hmc hms⟩)
theorem c_L_rename (hl : l.stackTraces = false) {o u dd mc ms : Nat} (h : TAt X A w t V a f c S) (hto : t ≠ o) (hOC : OC X A o u w) {v1 v2 : Int32} {n v : Int} {T : Nat → Int → Int} (hd : dd ≤ 30) (hmc : mc ≤ 60) (hms : ms ≤ 4000) (hc : Ct l X dd M_X5_rename [.ref t, .int v1, .int v2] A mc ms (LPP X A w o t n "java/lang/IndexOutOfBoundsException" "java/lang/IllegalArgumentException" (Ri (I v)) T)) : Ct l X 31 M_L_rename [.ref t, .int v1, .int v2, .ref u] A 60 4000 (LQ X A w o t u n (Int32.toInt64 (I v)) T) :=
  Ct.ofX hl (by decide) rfl (Nat.le_of_ble_eq_true rfl) (k_L_rename_0 ⟨⟨_, h.1.1⟩, L_cal2 hto hOC hc (by omega) hmc hms⟩)
theorem c_L_spoil (hl : l.stackTraces = false) {o u dd mc ms : Nat} (h : TAt X A w t V a f c S) (hto : t ≠ o) (hOC : OC X A o u w) {v1 v2 v3 : Int32} {n v : Int} {T : Nat → Int → Int} (hd : dd ≤ 30) (hmc : mc ≤ 60) (hms : ms ≤ 4000) (hc : Ct l X dd M_X5_spoil [.ref t, .int v1, .int v2, .int v3] A mc ms (LPP X A w o t n "java/lang/IndexOutOfBoundsException" "java/lang/IllegalArgumentException" (Ri (I v)) T)) : Ct l X 31 M_L_spoil [.ref t, .int v1, .int v2, .int v3, .ref u] A 60 4000 (LQ X A w o t u n (Int32.toInt64 (I v)) T) :=
  Ct.ofX hl (by decide) rfl (Nat.le_of_ble_eq_true rfl) (k_L_spoil_0 ⟨⟨_, h.1.1⟩, L_cal2 hto hOC hc (by omega) hmc hms⟩)
theorem c_L_discard (hl : l.stackTraces = false) {o u dd mc ms : Nat} (h : TAt X A w t V a f c S) (hto : t ≠ o) (hOC : OC X A o u w) {v1 : Int32} {n v : Int} {E2 : String} {T : Nat → Int → Int} (hd : dd ≤ 30) (hmc : mc ≤ 60) (hms : ms ≤ 4000) (hn2 : n ≠ 2) (hc : Ct l X dd M_X5_discard [.ref t, .int v1] A mc ms (LPP X A w o t n "java/lang/IndexOutOfBoundsException" E2 (Ri (I v)) T)) : Ct l X 31 M_L_discard [.ref t, .int v1, .ref u] A 60 4000 (LQ X A w o t u n (Int32.toInt64 (I v)) T) :=
  Ct.ofX hl (by decide) rfl (Nat.le_of_ble_eq_true rfl) (k_L_discard_0 ⟨⟨_, h.1.1⟩, L_cal1 hto hOC hc hn2 (by omega) hmc hms⟩)
theorem c_L_partial (hl : l.stackTraces = false) {o u dd mc ms : Nat} (h : TAt X A w t V a f c S) (hto : t ≠ o) (hOC : OC X A o u w) {v1 v2 : Int32} {n v : Int} {T : Nat → Int → Int} (hd : dd ≤ 30) (hmc : mc ≤ 60) (hms : ms ≤ 4000) (hc : Ct l X dd M_X5_partial [.ref t, .int v1, .int v2] A mc ms (LPP X A w o t n "java/lang/IndexOutOfBoundsException" "java/lang/IllegalArgumentException" (Ri (I v)) T)) : Ct l X 31 M_L_partial [.ref t, .int v1, .int v2, .ref u] A 60 4000 (LQ X A w o t u n (Int32.toInt64 (I v)) T) :=
  Ct.ofX hl (by decide) rfl (Nat.le_of_ble_eq_true rfl) (k_L_partial_0 ⟨⟨_, h.1.1⟩, L_cal2 hto hOC hc (by omega) hmc hms⟩)
theorem c_L_event (hl : l.stackTraces = false) {o u dd mc ms : Nat} (h : TAt X A w t V a f c S) (hto : t ≠ o) (hOC : OC X A o u w) {v1 v2 : Int32} {n v : Int} {T : Nat → Int → Int} (hd : dd ≤ 30) (hmc : mc ≤ 60) (hms : ms ≤ 4000) (hc : Ct l X dd M_X5_event [.ref t, .int v1, .int v2] A mc ms (LPP X A w o t n "java/lang/IndexOutOfBoundsException" "java/lang/IllegalArgumentException" (Ri (I v)) T)) : Ct l X 31 M_L_event [.ref t, .int v1, .int v2, .ref u] A 60 4000 (LQ X A w o t u n (Int32.toInt64 (I v)) T) :=
  Ct.ofX hl (by decide) rfl (Nat.le_of_ble_eq_true rfl) (k_L_event_0 ⟨⟨_, h.1.1⟩, L_cal2 hto hOC hc (by omega) hmc hms⟩)
theorem c_L_events (hl : l.stackTraces = false) {o u dd mc ms : Nat} (h : TAt X A w t V a f c S) (hto : t ≠ o) (hOC : OC X A o u w) {v1 : Int32} {n v : Int} {E2 : String} {T : Nat → Int → Int} (hd : dd ≤ 30) (hmc : mc ≤ 60) (hms : ms ≤ 4000) (hn2 : n ≠ 2) (hc : Ct l X dd M_X5_events [.ref t, .int v1] A mc ms (LPP X A w o t n "java/lang/IllegalArgumentException" E2 (Ri (I v)) T)) : Ct l X 31 M_L_events [.ref t, .int v1, .ref u] A 60 4000 (LQ X A w o t u n (Int32.toInt64 (I v)) T) :=
  Ct.ofX hl (by decide) rfl (Nat.le_of_ble_eq_true rfl) (k_L_events_0 ⟨⟨_, h.1.1⟩, L_cal1 hto hOC hc hn2 (by omega) hmc hms⟩)
theorem c_L_writtenByte (hl : l.stackTraces = false) {o u dd mc ms : Nat} (h : TAt X A w t V a f c S) (hto : t ≠ o) (hOC : OC X A o u w) {v1 : Int32} {n v : Int} {E2 : String} {T : Nat → Int → Int} (hd : dd ≤ 30) (hmc : mc ≤ 60) (hms : ms ≤ 4000) (hn2 : n ≠ 2) (hc : Ct l X dd M_X5_writtenByte [.ref t, .int v1] A mc ms (LPP X A w o t n "java/lang/IndexOutOfBoundsException" E2 (Ri (I v)) T)) : Ct l X 31 M_L_writtenByte [.ref t, .int v1, .ref u] A 60 4000 (LQ X A w o t u n (Int32.toInt64 (I v)) T) :=
  Ct.ofX hl (by decide) rfl (Nat.le_of_ble_eq_true rfl) (k_L_writtenByte_0 ⟨⟨_, h.1.1⟩, L_cal1 hto hOC hc hn2 (by omega) hmc hms⟩)
theorem c_L_undo (hl : l.stackTraces = false) {o u dd mc ms : Nat} (h : TAt X A w t V a f c S) (hto : t ≠ o) (hOC : OC X A o u w) {n v : Int} {E2 : String} {T : Nat → Int → Int} (hd : dd ≤ 30) (hmc : mc ≤ 60) (hms : ms ≤ 4000) (hn2 : n ≠ 2) (hc : Ct l X dd M_X5_undo [.ref t] A mc ms (LPP X A w o t n "java/lang/IllegalStateException" E2 (Ri (I v)) T)) : Ct l X 31 M_L_undo [.ref t, .ref u] A 60 4000 (LQ X A w o t u n (Int32.toInt64 (I v)) T) :=
  Ct.ofX hl (by decide) rfl (Nat.le_of_ble_eq_true rfl) (k_L_undo_0 ⟨⟨_, h.1.1⟩, L_cal1 hto hOC hc hn2 (by omega) hmc hms⟩)
theorem c_L_connect (hl : l.stackTraces = false) {o u dd mc ms : Nat} (h : TAt X A w t V a f c S) (hto : t ≠ o) (hOC : OC X A o u w) {v1 v2 : Int32} {n v : Int} {T : Nat → Int → Int} (hv : v = 0 ∨ v = 1) (hd : dd ≤ 30) (hmc : mc ≤ 60) (hms : ms ≤ 4000) (hc : Ct l X dd M_X5_connect [.ref t, .int v1, .int v2] A mc ms (LPP X A w o t n "java/lang/IndexOutOfBoundsException" "java/lang/IllegalStateException" (Ri (I v)) T)) : Ct l X 31 M_L_connect [.ref t, .int v1, .int v2, .ref u] A 60 4000 (LQ X A w o t u n (Int32.toInt64 (I v)) T) := by
  refine Ct.ofX hl (by decide) rfl (Nat.le_of_ble_eq_true rfl) (k_L_connect_0 ⟨⟨_, h.1.1⟩, ?_⟩)
  refine Cal.of hc (by omega) hmc hms ?_
  rintro o1 A1 ⟨h1, w1, V', a', f', c', h2, h3⟩
  rcases h1 with ⟨hn, rfl⟩ | ⟨hn, rfl⟩ | ⟨hn, rfl⟩
  · have hw := LPP.wr (x := Int32.toInt64 (I v)) hto hOC hn h2 h3
    refine Or.inl ⟨_, rfl, fun q => ?_, fun q => ?_⟩
    · rw [q] at hw ⊢
      exact k_L_connect_16 hw
    · have hv1 : v = 1 := by
        rcases hv with rfl | rfl
        · exact absurd rfl q
        · rfl
      rw [hv1] at hw ⊢
      exact k_L_connect_16 hw
  · exact Or.inr (Or.inl ⟨rfl, fun _ => LPP.th (E1 := "") (E2 := "") (v := Ri 0) (k := 0) hOC (by rw [hn]; exact I_n 1) (by omega) h2 h3⟩)
  · exact Or.inr (Or.inr ⟨rfl, fun _ => LPP.th (E1 := "") (E2 := "") (v := Ri 0) (k := 0) hOC (by rw [hn]; exact I_n 2) (by omega) h2 h3⟩)
end LH
