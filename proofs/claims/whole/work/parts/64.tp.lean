/-! the class: a PieceTransfer over a map (laid by wip/whole/gen/mk64.py) -/
def tfs (t a : Nat) (c : Option Nat) (g : Int → Int) : List Value := [.ref (t + 1), .int (I (g 1)), .int (I (g 2)), .ref (t + 2), .int (I (g 4)), .ref a, .ref (t + 3), .int (I (g 7)), .int (I (g 8)), va_rf c]
def tp (X : XT) (t : Nat) (B : AH) (V : Nat → Int → Int) (a : Nat) (f : Nat → Option Nat) (c : Option Nat) : AH := (B.1, fun b => if b = t then some (ob 6 (tfs t a c (V 2))) else if b = t + 1 then some (ia X 400 (fun k => I (V 0 k))) else if b = t + 2 then some (ia X 60 (fun k => I (V 1 k))) else if b = t + 3 then some (ra X 3 8 f) else B.2 b)
def TlA (X : XT) (A : AH) (t : Nat) (V : Nat → Int → Int) (a : Nat) (f : Nat → Option Nat) (c : Option Nat) : Prop := A.2 t = some (ob 6 (tfs t a c (V 2))) ∧ A.2 (t + 1) = some (ia X 400 (fun k => I (V 0 k))) ∧ A.2 (t + 2) = some (ia X 60 (fun k => I (V 1 k))) ∧ A.2 (t + 3) = some (ra X 3 8 f)
section TP
variable {l : Launch} {X : XT} {t : Nat} {A A' B : AH} {V : Nat → Int → Int} {a : Nat} {f : Nat → Option Nat} {c : Option Nat}
theorem tp_k0 : (tp X t B V a f c).2 t = some (ob 6 (tfs t a c (V 2))) := by simp [tp]
theorem tp_k1 : (tp X t B V a f c).2 (t + 1) = some (ia X 400 (fun k => I (V 0 k))) := by simp [tp]
theorem tp_k2 : (tp X t B V a f c).2 (t + 2) = some (ia X 60 (fun k => I (V 1 k))) := by simp [tp]
theorem tp_k3 : (tp X t B V a f c).2 (t + 3) = some (ra X 3 8 f) := by simp [tp]
theorem tp_out {b : Nat} (h : b < t ∨ t + 3 < b) : (tp X t B V a f c).2 b = B.2 b := by
  unfold tp
  simp only []
  rw [if_neg (by omega), if_neg (by omega), if_neg (by omega), if_neg (by omega)]
theorem tp_tl : TlA X (tp X t B V a f c) t V a f c := ⟨tp_k0, tp_k1, tp_k2, tp_k3⟩
theorem TlA.of (h : TlA X A t V a f c) (e : ∀ b, t ≤ b → b ≤ t + 3 → A'.2 b = A.2 b) : TlA X A' t V a f c := ⟨(e _ (by omega) (by omega)).trans h.1, (e _ (by omega) (by omega)).trans h.2.1, (e _ (by omega) (by omega)).trans h.2.2.1, (e _ (by omega) (by omega)).trans h.2.2.2⟩
theorem tp_of (h : TlA X A t V a f c) : tp X t A V a f c = A := by
  refine Prod.ext rfl (funext fun b => ?_)
  by_cases h0 : b = t
  · rw [h0]
    exact tp_k0.trans h.1.symm
  by_cases h1 : b = t + 1
  · rw [h1]
    exact tp_k1.trans h.2.1.symm
  by_cases h2 : b = t + 2
  · rw [h2]
    exact tp_k2.trans h.2.2.1.symm
  by_cases h3 : b = t + 3
  · rw [h3]
    exact tp_k3.trans h.2.2.2.symm
  exact tp_out (by omega)
theorem tp_up0 {a' : Nat} {c' : Option Nat} {g : Int → Int} {V' : Nat → Int → Int} (h2 : V' 2 = g) (h0 : V' 0 = V 0) (h1 : V' 1 = V 1) : up (tp X t B V a f c) t (ob 6 (tfs t a' c' g)) = tp X t B V' a' f c' := by
  refine Prod.ext rfl (funext fun b => ?_)
  by_cases hb : b = t
  · rw [hb]
    refine up_q.trans (Eq.trans ?_ tp_k0.symm)
    rw [h2]
  · refine (up_b hb).trans ?_
    unfold tp
    simp only [if_neg hb, h0, h1]
theorem tp_gI1 {K : Int32 → Prop} : gI (tp X t B V a f c) t 6 1 K ↔ K (I (V 2 1)) := gI_iff tp_k0 rfl
theorem tp_pI1 {z : Int} {K : AH → Prop} : pV (tp X t B V a f c) t 6 1 (.int (I z)) K ↔ K (tp X t B (st V 2 1 z) a f c) := by
  rw [pV_iff (k := 1) tp_k0 (Nat.le_of_ble_eq_true rfl)]
  have e : (tfs t a c (V 2)).set 1 (.int (I z)) = tfs t a c (st V 2 1 z 2) := by simp [tfs, st]
  rw [e, tp_up0 rfl (st_row (by decide)) (st_row (by decide))]
theorem tp_gI2 {K : Int32 → Prop} : gI (tp X t B V a f c) t 6 2 K ↔ K (I (V 2 2)) := gI_iff tp_k0 rfl
theorem tp_pI2 {z : Int} {K : AH → Prop} : pV (tp X t B V a f c) t 6 2 (.int (I z)) K ↔ K (tp X t B (st V 2 2 z) a f c) := by
  rw [pV_iff (k := 2) tp_k0 (Nat.le_of_ble_eq_true rfl)]
  have e : (tfs t a c (V 2)).set 2 (.int (I z)) = tfs t a c (st V 2 2 z 2) := by simp [tfs, st]
  rw [e, tp_up0 rfl (st_row (by decide)) (st_row (by decide))]
theorem tp_gI4 {K : Int32 → Prop} : gI (tp X t B V a f c) t 6 4 K ↔ K (I (V 2 4)) := gI_iff tp_k0 rfl
theorem tp_pI4 {z : Int} {K : AH → Prop} : pV (tp X t B V a f c) t 6 4 (.int (I z)) K ↔ K (tp X t B (st V 2 4 z) a f c) := by
  rw [pV_iff (k := 4) tp_k0 (Nat.le_of_ble_eq_true rfl)]
  have e : (tfs t a c (V 2)).set 4 (.int (I z)) = tfs t a c (st V 2 4 z 2) := by simp [tfs, st]
  rw [e, tp_up0 rfl (st_row (by decide)) (st_row (by decide))]
theorem tp_gI7 {K : Int32 → Prop} : gI (tp X t B V a f c) t 6 7 K ↔ K (I (V 2 7)) := gI_iff tp_k0 rfl
theorem tp_pI7 {z : Int} {K : AH → Prop} : pV (tp X t B V a f c) t 6 7 (.int (I z)) K ↔ K (tp X t B (st V 2 7 z) a f c) := by
  rw [pV_iff (k := 7) tp_k0 (Nat.le_of_ble_eq_true rfl)]
  have e : (tfs t a c (V 2)).set 7 (.int (I z)) = tfs t a c (st V 2 7 z 2) := by simp [tfs, st]
  rw [e, tp_up0 rfl (st_row (by decide)) (st_row (by decide))]
theorem tp_gI8 {K : Int32 → Prop} : gI (tp X t B V a f c) t 6 8 K ↔ K (I (V 2 8)) := gI_iff tp_k0 rfl
theorem tp_pI8 {z : Int} {K : AH → Prop} : pV (tp X t B V a f c) t 6 8 (.int (I z)) K ↔ K (tp X t B (st V 2 8 z) a f c) := by
  rw [pV_iff (k := 8) tp_k0 (Nat.le_of_ble_eq_true rfl)]
  have e : (tfs t a c (V 2)).set 8 (.int (I z)) = tfs t a c (st V 2 8 z 2) := by simp [tfs, st]
  rw [e, tp_up0 rfl (st_row (by decide)) (st_row (by decide))]
theorem tp_gR0 {K : Nat → Prop} : gR (tp X t B V a f c) t 6 0 K ↔ K (t + 1) := gR_iff tp_k0 rfl
theorem tp_gR3 {K : Nat → Prop} : gR (tp X t B V a f c) t 6 3 K ↔ K (t + 2) := gR_iff tp_k0 rfl
theorem tp_gR6 {K : Nat → Prop} : gR (tp X t B V a f c) t 6 6 K ↔ K (t + 3) := gR_iff tp_k0 rfl
theorem tp_gR5 {K : Nat → Prop} : gR (tp X t B V a f c) t 6 5 K ↔ K a := gR_iff tp_k0 rfl
theorem tp_pR5 {b : Nat} {K : AH → Prop} : pV (tp X t B V a f c) t 6 5 (.ref b) K ↔ K (tp X t B V b f c) := by
  rw [pV_iff (k := 5) tp_k0 (Nat.le_of_ble_eq_true rfl)]
  have e : (tfs t a c (V 2)).set 5 (.ref b) = tfs t b c (V 2) := by simp [tfs]
  rw [e, tp_up0 rfl rfl rfl]
theorem tp_pR9 {b : Nat} {K : AH → Prop} : pV (tp X t B V a f c) t 6 9 (.ref b) K ↔ K (tp X t B V a f (some b)) := by
  rw [pV_iff (k := 9) tp_k0 (Nat.le_of_ble_eq_true rfl)]
  have e : (tfs t a c (V 2)).set 9 (.ref b) = tfs t a (some b) (V 2) := by simp [tfs, va_rf]
  rw [e, tp_up0 rfl rfl rfl]
theorem tp_gQ9 {K : Option Nat → Prop} (k : K c) : gQ (tp X t B V a f c) t 6 9 K := gQ_of tp_k0 rfl k
theorem tp_o : isO (tp X t B V a f c) t 6 ↔ True := ⟨fun _ => trivial, fun _ => ⟨_, tp_k0⟩⟩
theorem tp_aQ {i : Int} (h0 : 0 ≤ i) (h1 : i < 8) {K : Option Nat → Prop} (k : K (f i.toNat)) : aQ X 3 (tp X t B V a f c) (t + 3) (I i) K := by
  refine ⟨8, f, tp_k3, in_I h0 (by omega) (by decide), ?_⟩
  rw [cl_I ⟨by omega, by omega⟩]
  exact k
theorem tp_nQ {K : Int32 → Prop} (k : K (I 8)) : nQ_ X 3 (tp X t B V a f c) (t + 3) K := by
  refine ⟨8, f, tp_k3, ?_⟩
  rw [show Int32.ofNat 8 = I 8 by decide]
  exact k
theorem tp_sD {i : Int} {v : Nat} {vs : List Value} (hv : (tp X t B V a f c).2 v = some (ob 2 vs)) (h0 : 0 ≤ i) (h1 : i < 8) {K : AH → Prop} (k : K (tp X t B V a (va_up f i.toNat (some v)) c)) : sD X (tp X t B V a f c) (t + 3) (I i) v K := by
  refine ⟨8, f, vs, tp_k3, hv, in_I h0 (by omega) (by decide), ?_⟩
  rw [cl_I ⟨by omega, by omega⟩]
  have e : up (tp X t B V a f c) (t + 3) (ra X 3 8 (va_up f i.toNat (some v))) = tp X t B V a (va_up f i.toNat (some v)) c := by
    refine Prod.ext rfl (funext fun b => ?_)
    by_cases hb : b = t + 3
    · rw [hb]
      exact up_q.trans tp_k3.symm
    · refine (up_b hb).trans ?_
      unfold tp
      simp only [if_neg hb]
  rw [e]
  exact k
theorem at_t0 (hl : l.stackTraces = false) {k : Int} (h0 : 0 ≤ k) (h1 : k < 400) : Fn l X 0 M_X5_at [.ref (t + 1), .int (I k)] (tp X t B V a f c) 0 0 (Ri (I (V 0 k))) (tp X t B V a f c) := c_at hl tp_k1 (by decide) h0 h1
theorem put_t0 (hl : l.stackTraces = false) {k v : Int} (h0 : 0 ≤ k) (h1 : k < 400) : Fn l X 0 M_X5_put [.ref (t + 1), .int (I k), .int (I v)] (tp X t B V a f c) 0 0 Rv (tp X t B (st V 0 k v) a f c) := by
  have h := c_put (l := l) hl (tp_k1 (X := X) (t := t) (B := B) (V := V) (a := a) (f := f) (c := c)) (by decide) h0 h1 (v := I v)
  rw [upd_st (S := V) (i := 0) h0 (by omega)] at h
  have e : up (tp X t B V a f c) (t + 1) (ia X 400 (fun q : Nat => I (st V 0 k v 0 q))) = tp X t B (st V 0 k v) a f c := by
    refine Prod.ext rfl (funext fun b => ?_)
    by_cases hb : b = t + 1
    · rw [hb]
      exact up_q.trans tp_k1.symm
    · refine (up_b hb).trans ?_
      unfold tp
      simp only [if_neg hb, st_row (show (2 : Nat) ≠ 0 by decide), st_row (show (1 : Nat) ≠ 0 by decide)]
  rw [e] at h
  exact h
theorem at_t1 (hl : l.stackTraces = false) {k : Int} (h0 : 0 ≤ k) (h1 : k < 60) : Fn l X 0 M_X5_at [.ref (t + 2), .int (I k)] (tp X t B V a f c) 0 0 (Ri (I (V 1 k))) (tp X t B V a f c) := c_at hl tp_k2 (by decide) h0 h1
theorem put_t1 (hl : l.stackTraces = false) {k v : Int} (h0 : 0 ≤ k) (h1 : k < 60) : Fn l X 0 M_X5_put [.ref (t + 2), .int (I k), .int (I v)] (tp X t B V a f c) 0 0 Rv (tp X t B (st V 1 k v) a f c) := by
  have h := c_put (l := l) hl (tp_k2 (X := X) (t := t) (B := B) (V := V) (a := a) (f := f) (c := c)) (by decide) h0 h1 (v := I v)
  rw [upd_st (S := V) (i := 1) h0 (by omega)] at h
  have e : up (tp X t B V a f c) (t + 2) (ia X 60 (fun q : Nat => I (st V 1 k v 1 q))) = tp X t B (st V 1 k v) a f c := by
    refine Prod.ext rfl (funext fun b => ?_)
    by_cases hb : b = t + 2
    · rw [hb]
      exact up_q.trans tp_k2.symm
    · refine (up_b hb).trans ?_
      unfold tp
      simp only [if_neg hb, st_row (show (2 : Nat) ≠ 1 by decide), st_row (show (0 : Nat) ≠ 1 by decide)]
  rw [e] at h
  exact h
end TP
