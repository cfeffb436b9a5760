/-! the reference: looks -/
/-- what a search of the range of n parts from i finds (first part of the piece: f), and how many it asks -/
def look (r : Int → Int) (f : Int) : Nat → Int → Int → List Int × Int
  | 0, i, _ => ([i], 0)
  | d + 1, i, n => if n ≤ 1 then ([i], 0) else
    (((if gRt r (f + i) ((n + 1) / 2) = 1 then ([], 0) else look r f d i ((n + 1) / 2)).1 ++ (if gRt r (f + (i + (n + 1) / 2)) (n - (n + 1) / 2) = 1 then ([], 0) else look r f d (i + (n + 1) / 2) (n - (n + 1) / 2)).1),
     (if gRt r (f + i) ((n + 1) / 2) = 1 then ([], 0) else look r f d i ((n + 1) / 2)).2 + 1 + ((if gRt r (f + (i + (n + 1) / 2)) (n - (n + 1) / 2) = 1 then ([], 0) else look r f d (i + (n + 1) / 2) (n - (n + 1) / 2)).2 + 1))
def mark (fd : Int → Int) : List Int → Int → Int
  | [] => fd
  | x :: xs => mark (rs fd x 1) xs
theorem mark_app {xs ys : List Int} : ∀ {fd : Int → Int}, mark fd (xs ++ ys) = mark (mark fd xs) ys := by
  induction xs with
  | nil => intro fd; rfl
  | cons x xs ih => intro fd; exact ih
/-- the rows of a search: from, many, isFound, asked, found -/
def lkS (S : Nat → Int → Int) (F M fd : Int → Int) (a c : Int) : Nat → Int → Int := st (st (sw (sw (sw S 5 F) 6 M) 7 fd) 9 19 a) 9 20 c
section MV
variable {S : Nat → Int → Int} {F M fd : Int → Int} {a c : Int}
theorem lk_0 : lkS S F M fd a c 0 = S 0 := by
  unfold lkS
  rw [st9_0, st9_0, sw_j (by decide), sw_j (by decide), sw_j (by decide)]
theorem lk_5 : lkS S F M fd a c 5 = F := by
  unfold lkS
  rw [st9_j (by decide), st9_j (by decide), sw_j (by decide), sw_j (by decide), sw_i]
theorem lk_6 : lkS S F M fd a c 6 = M := by
  unfold lkS
  rw [st9_j (by decide), st9_j (by decide), sw_j (by decide), sw_i]
theorem lk_7 : lkS S F M fd a c 7 = fd := by
  unfold lkS
  rw [st9_j (by decide), st9_j (by decide), sw_i]
theorem lk_19 : lkS S F M fd a c 9 19 = a := by
  unfold lkS
  rw [st_k (by decide), st_eq]
theorem lk_20 : lkS S F M fd a c 9 20 = c := by
  unfold lkS
  rw [st_eq]
theorem lk_s5 {k v : Int} : st (lkS S F M fd a c) 5 k v = lkS S (rs F k v) M fd a c := by
  funext i b
  unfold lkS st sw rs
  by_cases h : i = 5
  · subst h
    simp
  · simp [h]
theorem lk_s6 {k v : Int} : st (lkS S F M fd a c) 6 k v = lkS S F (rs M k v) fd a c := by
  funext i b
  unfold lkS st sw rs
  by_cases h : i = 6
  · subst h
    simp
  · simp [h]
theorem lk_s7 {k v : Int} : st (lkS S F M fd a c) 7 k v = lkS S F M (rs fd k v) a c := by
  funext i b
  unfold lkS st sw rs
  by_cases h : i = 7
  · subst h
    simp
  · simp [h]
theorem lk_s19 {v : Int} : st (lkS S F M fd a c) 9 19 v = lkS S F M fd v c := by
  funext i b
  unfold lkS st sw
  by_cases h : i = 9
  · subst h
    by_cases h2 : b = 19
    · subst h2
      simp
    · simp [h2]
  · simp [h]
theorem lk_s20 {v : Int} : st (lkS S F M fd a c) 9 20 v = lkS S F M fd a v := by
  funext i b
  unfold lkS st sw
  by_cases h : i = 9
  · subst h
    by_cases h2 : b = 20
    · subst h2
      simp
    · simp [h2]
  · simp [h]
end MV
