/-! whole numbers for the machine's ints -/
def I (z : Int) : Int32 := Int32.ofInt z
def sm (z : Int) : Prop := -2147483648 ≤ z ∧ z < 2147483648
theorem sm_of {z : Int} (h1 : -2147483648 ≤ z) (h2 : z < 2147483648) : sm z := ⟨h1, h2⟩
theorem I_add (a b : Int) : I a + I b = I (a + b) := (Int32.ofInt_add a b).symm
theorem I_sub (a b : Int) : I a - I b = I (a - b) := (Int32.ofInt_sub a b).symm
theorem I_mul (a b : Int) : I a * I b = I (a * b) := (Int32.ofInt_mul a b).symm
theorem I_neg (a : Int) : -I a = I (-a) := Int32.neg_ofInt
theorem I_n (n : Nat) : (OfNat.ofNat n : Int32) = I (OfNat.ofNat n) := (Int32.ofInt_eq_ofNat (n := n)).symm
theorem I_ofNat (n : Nat) : Int32.ofNat n = I (n : Int) := (Int32.ofInt_eq_ofNat (n := n)).symm
theorem I_t (x : Int32) : I x.toInt = x := Int32.ofInt_toInt x
theorem t_I {z : Int} (h : sm z) : (I z).toInt = z := Int32.toInt_ofInt_of_le h.1 h.2
theorem sm_t (x : Int32) : sm x.toInt := ⟨Int32.le_toInt x, Int32.toInt_lt x⟩
theorem I_le {a b : Int} (ha : sm a) (hb : sm b) : I a ≤ I b ↔ a ≤ b := by rw [Int32.le_iff_toInt_le, t_I ha, t_I hb]
theorem I_lt {a b : Int} (ha : sm a) (hb : sm b) : I a < I b ↔ a < b := by rw [Int32.lt_iff_toInt_lt, t_I ha, t_I hb]
theorem I_eq {a b : Int} (ha : sm a) (hb : sm b) : I a = I b ↔ a = b := by rw [← Int32.toInt_inj, t_I ha, t_I hb]
theorem I_div {a b : Int} (ha : 0 ≤ a) (hb : 0 < b) (h1 : a < 2147483648) (h2 : b < 2147483648) : I a / I b = I (a / b) := by
  have sa : sm a := ⟨by omega, h1⟩
  have sb : sm b := ⟨by omega, h2⟩
  have h0 : 0 ≤ a / b := Int.ediv_nonneg ha (by omega)
  have h3 : a / b ≤ a := Int.ediv_le_self b ha
  have hne : I b ≠ -1 := by
    intro h
    have : (I b).toInt = (-1 : Int32).toInt := by rw [h]
    rw [t_I sb] at this
    have h4 : (-1 : Int32).toInt = -1 := by decide
    omega
  apply Int32.toInt_inj.mp
  rw [Int32.toInt_div_of_ne_right _ _ hne, t_I sa, t_I sb, t_I ⟨by omega, by omega⟩, Int.tdiv_eq_ediv_of_nonneg ha]
theorem cl_I {z : Int} (h : sm z) : (I z).toNatClampNeg = z.toNat := Int32.toNatClampNeg_ofInt_of_le h.1 h.2
theorem in_I {z : Int} {n : Nat} (h0 : 0 ≤ z) (h1 : z < n) (hn : n ≤ 2147483647) : vp_in (I z) n := by
  have hs : sm z := ⟨by omega, by omega⟩
  rintro (h | h)
  · have h2 : I z < I 0 := h
    rw [I_lt hs ⟨by omega, by omega⟩] at h2
    omega
  · rw [cl_I hs] at h
    omega
theorem ei_I {z : Int} (h0 : 0 ≤ z) (h1 : z < 2147483648) : (((I z).toNatClampNeg : Nat) : Int) = z := by
  rw [cl_I ⟨by omega, h1⟩]
  omega
/-- rows of numbers, numbered: row i, place k -/
def st (S : Nat → Int → Int) (i : Nat) (k v : Int) : Nat → Int → Int := fun a b => if a = i ∧ b = k then v else S a b
theorem st_eq {S : Nat → Int → Int} {i : Nat} {k v : Int} : st S i k v i k = v := if_pos ⟨rfl, rfl⟩
theorem st_i {S : Nat → Int → Int} {i j : Nat} {k v b : Int} (h : j ≠ i) : st S i k v j b = S j b := if_neg fun q => h q.1
theorem st_k {S : Nat → Int → Int} {i j : Nat} {k v b : Int} (h : b ≠ k) : st S i k v j b = S j b := if_neg fun q => h q.2
theorem st_if {S : Nat → Int → Int} {i : Nat} {k v b : Int} : st S i k v i b = if b = k then v else S i b := by
  unfold st
  by_cases h : b = k
  · simp [h]
  · simp [h]
theorem st_st {S : Nat → Int → Int} {i : Nat} {k v w : Int} : st (st S i k v) i k w = st S i k w := by
  funext a b
  unfold st
  by_cases h : a = i ∧ b = k
  · simp [h]
  · simp [h]
theorem st_row {S : Nat → Int → Int} {i : Nat} {k v : Int} {j : Nat} (h : j ≠ i) : st S i k v j = S j := by
  funext b
  exact st_i h
theorem upd_st {S : Nat → Int → Int} {i : Nat} {z v : Int} (h0 : 0 ≤ z) (h1 : z < 2147483648) : upd (fun k : Nat => I (S i k)) (I z).toNatClampNeg (I v) = fun k : Nat => I (st S i z v i k) := by
  funext k
  unfold upd
  rw [cl_I ⟨by omega, h1⟩, st_if]
  by_cases h : k = z.toNat
  · rw [if_pos h, if_pos (by omega)]
  · rw [if_neg h, if_neg (by omega)]
