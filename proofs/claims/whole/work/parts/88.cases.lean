/-! the law's cases (laid by wip/whole/gen/mk88.py) -/
section LC
variable {l : Launch} {X : XT} {A : AH} {w : Nat → Nat} {o t u : Nat} {S : Nat → Int → Int} {e : Int}
theorem I_of (x : Int32) : ∃ z, sm z ∧ x = I z := ⟨x.toInt, sm_t x, (I_t x).symm⟩
theorem law_append (hl : l.stackTraces = false) (hLS : LWS X A w o t u S e) (he : e + 8000000 ≤ 2000000000) {i : Int32} (hi : vp_in (i + 1) (xL X) ∧ vp_in (i + 2) (xL X) ∧ vp_in (i + 3) (xL X) ∧ vp_in (i + 4) (xL X) ∧ vp_in (i + 5) (xL X)) {Q : Ot → AH → Prop} {bc bs : Nat} (hb : 60 ≤ bc) (hs : 4000 ≤ bs) (K : ∀ A' w' S' b c, LWS X A' w' o t u S' (e + 3500000) → bc - 60 ≤ b → bs - 4000 ≤ c → G l X M_L_law 40 Q 2023 [(0, .ref (xb X)), (1, .ref t), (2, .ref o), (3, .ref u), (4, .int i)] [] A' b c) : G l X M_L_law 40 Q 188 [(0, .ref (xb X)), (1, .ref t), (2, .ref o), (3, .ref u), (4, .int i)] [] A bc bs := by
  obtain ⟨⟨V, a, f, c, h⟩, ri, hmp, hOC, hto⟩ := id hLS
  obtain ⟨fs, ho⟩ := hOC.2.2
  have hol : o < A.1 := by have := hOC.1.1; omega
  obtain ⟨p, D, P, la, g, m, hD, hP, hR, hDR, hL, hPT, hO, hOP, hd⟩ := h.2.2.1.1.parts
  refine k_L_law_188 ⟨hi.1, hi.2.1, hi.2.2.1, hi.2.2.2.1, hi.2.2.2.2, ?_⟩
  refine Cal.of (c_L_append hl h hto hOC (by decide) (by decide) (by decide) (n2 (if_b (by decide) (by decide))) ((m_append hl h ri ho hto hol).mono fun _ _ q => MP.lp q)) (by decide) hb hs ?_
  rintro o4 A1 ⟨rfl, hq⟩
  rw [zI_of]
  exact ⟨hi.1, hi.2.1, hi.2.2.1, hi.2.2.2.1, hi.2.2.2.2, law_inner hl hLS ⟨rfl, hq⟩ (r_append hl ri he) (b2 (if_b (by decide) (by decide))) (by decide) (by decide) (R := fun A b c => G l X M_L_law 40 Q 2023 [(0, .ref (xb X)), (1, .ref t), (2, .ref o), (3, .ref u), (4, .int i)] [] A b c) (fun A' w' S' k => K A' w' S' _ _ k (Nat.le_refl _) (Nat.le_refl _))⟩
theorem law_load (hl : l.stackTraces = false) (hLS : LWS X A w o t u S e) (he : e + 8000000 ≤ 2000000000) {i : Int32} (hi : vp_in (i + 1) (xL X) ∧ vp_in (i + 2) (xL X) ∧ vp_in (i + 3) (xL X) ∧ vp_in (i + 4) (xL X) ∧ vp_in (i + 5) (xL X)) {Q : Ot → AH → Prop} {bc bs : Nat} (hb : 60 ≤ bc) (hs : 4000 ≤ bs) (K : ∀ A' w' S' b c, LWS X A' w' o t u S' (e + 3500000) → bc - 60 ≤ b → bs - 4000 ≤ c → G l X M_L_law 40 Q 2023 [(0, .ref (xb X)), (1, .ref t), (2, .ref o), (3, .ref u), (4, .int i)] [] A' b c) : G l X M_L_law 40 Q 292 [(0, .ref (xb X)), (1, .ref t), (2, .ref o), (3, .ref u), (4, .int i)] [] A bc bs := by
  obtain ⟨⟨V, a, f, c, h⟩, ri, hmp, hOC, hto⟩ := id hLS
  obtain ⟨fs, ho⟩ := hOC.2.2
  have hol : o < A.1 := by have := hOC.1.1; omega
  obtain ⟨p, D, P, la, g, m, hD, hP, hR, hDR, hL, hPT, hO, hOP, hd⟩ := h.2.2.1.1.parts
  obtain ⟨k1, s1, x1⟩ := I_of (xs X (i + 1).toNatClampNeg)
  refine k_L_law_292 ⟨hi.1, ?_⟩
  rw [x1]
  refine Cal.of (c_L_load hl h hto hOC (by decide) (by decide) (by decide) (n2 (if_b (by decide) (by decide))) ((m_load hl h ri ho hto hol s1).mono fun _ _ q => MP.lp q)) (by decide) hb hs ?_
  rintro o4 A1 ⟨rfl, hq⟩
  rw [zI_of]
  exact ⟨hi.1, law_inner hl hLS ⟨rfl, hq⟩ (r_load hl ri he s1) (b2 (if_b (by decide) (by decide))) (by decide) (by decide) (R := fun A b c => G l X M_L_law 40 Q 2023 [(0, .ref (xb X)), (1, .ref t), (2, .ref o), (3, .ref u), (4, .int i)] [] A b c) (fun A' w' S' k => K A' w' S' _ _ k (Nat.le_refl _) (Nat.le_refl _))⟩
theorem law_count (hl : l.stackTraces = false) (hLS : LWS X A w o t u S e) (he : e + 8000000 ≤ 2000000000) {i : Int32} (hi : vp_in (i + 1) (xL X) ∧ vp_in (i + 2) (xL X) ∧ vp_in (i + 3) (xL X) ∧ vp_in (i + 4) (xL X) ∧ vp_in (i + 5) (xL X)) {Q : Ot → AH → Prop} {bc bs : Nat} (hb : 60 ≤ bc) (hs : 4000 ≤ bs) (K : ∀ A' w' S' b c, LWS X A' w' o t u S' (e + 3500000) → bc - 60 ≤ b → bs - 4000 ≤ c → G l X M_L_law 40 Q 2023 [(0, .ref (xb X)), (1, .ref t), (2, .ref o), (3, .ref u), (4, .int i)] [] A' b c) : G l X M_L_law 40 Q 361 [(0, .ref (xb X)), (1, .ref t), (2, .ref o), (3, .ref u), (4, .int i)] [] A bc bs := by
  obtain ⟨⟨V, a, f, c, h⟩, ri, hmp, hOC, hto⟩ := id hLS
  obtain ⟨fs, ho⟩ := hOC.2.2
  have hol : o < A.1 := by have := hOC.1.1; omega
  obtain ⟨p, D, P, la, g, m, hD, hP, hR, hDR, hL, hPT, hO, hOP, hd⟩ := h.2.2.1.1.parts
  obtain ⟨k1, s1, x1⟩ := I_of (xs X (i + 1).toNatClampNeg)
  refine k_L_law_361 ⟨hi.1, ?_⟩
  rw [x1]
  refine Cal.of (c_L_count hl h hto hOC (by decide) (by decide) (by decide) (n2 bi_b) ((q_count hl h.1 hD hP hR hDR ri.1 hd hL s1).mono fun _ _ q => QP.lp h (fun _ => rfl) q)) (by decide) hb hs ?_
  rintro o4 A1 ⟨rfl, hq⟩
  rw [zI_of]
  exact ⟨hi.1, law_inner hl hLS ⟨rfl, hq⟩ (r_count hl ri he s1) (b2 bi_b) (by decide) (by decide) (R := fun A b c => G l X M_L_law 40 Q 2023 [(0, .ref (xb X)), (1, .ref t), (2, .ref o), (3, .ref u), (4, .int i)] [] A b c) (fun A' w' S' k => K A' w' S' _ _ k (Nat.le_refl _) (Nat.le_refl _))⟩
theorem law_source (hl : l.stackTraces = false) (hLS : LWS X A w o t u S e) (he : e + 8000000 ≤ 2000000000) {i : Int32} (hi : vp_in (i + 1) (xL X) ∧ vp_in (i + 2) (xL X) ∧ vp_in (i + 3) (xL X) ∧ vp_in (i + 4) (xL X) ∧ vp_in (i + 5) (xL X)) {Q : Ot → AH → Prop} {bc bs : Nat} (hb : 60 ≤ bc) (hs : 4000 ≤ bs) (K : ∀ A' w' S' b c, LWS X A' w' o t u S' (e + 3500000) → bc - 60 ≤ b → bs - 4000 ≤ c → G l X M_L_law 40 Q 2023 [(0, .ref (xb X)), (1, .ref t), (2, .ref o), (3, .ref u), (4, .int i)] [] A' b c) : G l X M_L_law 40 Q 417 [(0, .ref (xb X)), (1, .ref t), (2, .ref o), (3, .ref u), (4, .int i)] [] A bc bs := by
  obtain ⟨⟨V, a, f, c, h⟩, ri, hmp, hOC, hto⟩ := id hLS
  obtain ⟨fs, ho⟩ := hOC.2.2
  have hol : o < A.1 := by have := hOC.1.1; omega
  obtain ⟨p, D, P, la, g, m, hD, hP, hR, hDR, hL, hPT, hO, hOP, hd⟩ := h.2.2.1.1.parts
  obtain ⟨k1, s1, x1⟩ := I_of (xs X (i + 1).toNatClampNeg)
  obtain ⟨k2, s2, x2⟩ := I_of (xs X (i + 2).toNatClampNeg)
  refine k_L_law_417 ⟨hi.1, hi.2.1, ?_⟩
  rw [x1, x2]
  refine Cal.of (c_L_source hl h hto hOC (by decide) (by decide) (by decide) ((q_source hl h.1 hD hP hR hDR ri.1 hd s1 s2).mono fun _ _ q => QP.lp h (fun _ => rfl) q)) (by decide) hb hs ?_
  rintro o4 A1 ⟨rfl, hq⟩
  rw [zI_of]
  exact ⟨hi.1, hi.2.1, law_inner hl hLS ⟨rfl, hq⟩ (r_source hl ri he s1 s2) (tr2_b) (by decide) (by decide) (R := fun A b c => G l X M_L_law 40 Q 2023 [(0, .ref (xb X)), (1, .ref t), (2, .ref o), (3, .ref u), (4, .int i)] [] A b c) (fun A' w' S' k => K A' w' S' _ _ k (Nat.le_refl _) (Nat.le_refl _))⟩
theorem law_sent (hl : l.stackTraces = false) (hLS : LWS X A w o t u S e) (he : e + 8000000 ≤ 2000000000) {i : Int32} (hi : vp_in (i + 1) (xL X) ∧ vp_in (i + 2) (xL X) ∧ vp_in (i + 3) (xL X) ∧ vp_in (i + 4) (xL X) ∧ vp_in (i + 5) (xL X)) {Q : Ot → AH → Prop} {bc bs : Nat} (hb : 60 ≤ bc) (hs : 4000 ≤ bs) (K : ∀ A' w' S' b c, LWS X A' w' o t u S' (e + 3500000) → bc - 60 ≤ b → bs - 4000 ≤ c → G l X M_L_law 40 Q 2023 [(0, .ref (xb X)), (1, .ref t), (2, .ref o), (3, .ref u), (4, .int i)] [] A' b c) : G l X M_L_law 40 Q 485 [(0, .ref (xb X)), (1, .ref t), (2, .ref o), (3, .ref u), (4, .int i)] [] A bc bs := by
  obtain ⟨⟨V, a, f, c, h⟩, ri, hmp, hOC, hto⟩ := id hLS
  obtain ⟨fs, ho⟩ := hOC.2.2
  have hol : o < A.1 := by have := hOC.1.1; omega
  obtain ⟨p, D, P, la, g, m, hD, hP, hR, hDR, hL, hPT, hO, hOP, hd⟩ := h.2.2.1.1.parts
  obtain ⟨k1, s1, x1⟩ := I_of (xs X (i + 1).toNatClampNeg)
  obtain ⟨k2, s2, x2⟩ := I_of (xs X (i + 2).toNatClampNeg)
  refine k_L_law_485 ⟨hi.1, hi.2.1, ?_⟩
  rw [x1, x2]
  refine Cal.of (c_L_sent hl h hto hOC (by decide) (by decide) (by decide) (n2 bi_b) ((q_sent hl h.1 hD hP hR hDR ri.1 hd s1 s2).mono fun _ _ q => QP.lp h (fun _ => rfl) q)) (by decide) hb hs ?_
  rintro o4 A1 ⟨rfl, hq⟩
  rw [zI_of]
  exact ⟨hi.1, hi.2.1, law_inner hl hLS ⟨rfl, hq⟩ (r_sent hl ri he s1 s2) (b2 bi_b) (by decide) (by decide) (R := fun A b c => G l X M_L_law 40 Q 2023 [(0, .ref (xb X)), (1, .ref t), (2, .ref o), (3, .ref u), (4, .int i)] [] A b c) (fun A' w' S' k => K A' w' S' _ _ k (Nat.le_refl _) (Nat.le_refl _))⟩
theorem law_got (hl : l.stackTraces = false) (hLS : LWS X A w o t u S e) (he : e + 8000000 ≤ 2000000000) {i : Int32} (hi : vp_in (i + 1) (xL X) ∧ vp_in (i + 2) (xL X) ∧ vp_in (i + 3) (xL X) ∧ vp_in (i + 4) (xL X) ∧ vp_in (i + 5) (xL X)) {Q : Ot → AH → Prop} {bc bs : Nat} (hb : 60 ≤ bc) (hs : 4000 ≤ bs) (K : ∀ A' w' S' b c, LWS X A' w' o t u S' (e + 3500000) → bc - 60 ≤ b → bs - 4000 ≤ c → G l X M_L_law 40 Q 2023 [(0, .ref (xb X)), (1, .ref t), (2, .ref o), (3, .ref u), (4, .int i)] [] A' b c) : G l X M_L_law 40 Q 553 [(0, .ref (xb X)), (1, .ref t), (2, .ref o), (3, .ref u), (4, .int i)] [] A bc bs := by
  obtain ⟨⟨V, a, f, c, h⟩, ri, hmp, hOC, hto⟩ := id hLS
  obtain ⟨fs, ho⟩ := hOC.2.2
  have hol : o < A.1 := by have := hOC.1.1; omega
  obtain ⟨p, D, P, la, g, m, hD, hP, hR, hDR, hL, hPT, hO, hOP, hd⟩ := h.2.2.1.1.parts
  obtain ⟨k1, s1, x1⟩ := I_of (xs X (i + 1).toNatClampNeg)
  refine k_L_law_553 ⟨hi.1, ?_⟩
  rw [x1]
  refine Cal.of (c_L_got hl h hto hOC (by decide) (by decide) (by decide) (n2 bi_b) ((q_got hl h.1 hD hP hR hDR ri.1 hd s1).mono fun _ _ q => QP.lp h (fun _ => rfl) q)) (by decide) hb hs ?_
  rintro o4 A1 ⟨rfl, hq⟩
  rw [zI_of]
  exact ⟨hi.1, law_inner hl hLS ⟨rfl, hq⟩ (r_got hl ri he s1) (b2 bi_b) (by decide) (by decide) (R := fun A b c => G l X M_L_law 40 Q 2023 [(0, .ref (xb X)), (1, .ref t), (2, .ref o), (3, .ref u), (4, .int i)] [] A b c) (fun A' w' S' k => K A' w' S' _ _ k (Nat.le_refl _) (Nat.le_refl _))⟩
theorem law_piece (hl : l.stackTraces = false) (hLS : LWS X A w o t u S e) (he : e + 8000000 ≤ 2000000000) {i : Int32} (hi : vp_in (i + 1) (xL X) ∧ vp_in (i + 2) (xL X) ∧ vp_in (i + 3) (xL X) ∧ vp_in (i + 4) (xL X) ∧ vp_in (i + 5) (xL X)) {Q : Ot → AH → Prop} {bc bs : Nat} (hb : 60 ≤ bc) (hs : 4000 ≤ bs) (K : ∀ A' w' S' b c, LWS X A' w' o t u S' (e + 3500000) → bc - 60 ≤ b → bs - 4000 ≤ c → G l X M_L_law 40 Q 2023 [(0, .ref (xb X)), (1, .ref t), (2, .ref o), (3, .ref u), (4, .int i)] [] A' b c) : G l X M_L_law 40 Q 609 [(0, .ref (xb X)), (1, .ref t), (2, .ref o), (3, .ref u), (4, .int i)] [] A bc bs := by
  obtain ⟨⟨V, a, f, c, h⟩, ri, hmp, hOC, hto⟩ := id hLS
  obtain ⟨fs, ho⟩ := hOC.2.2
  have hol : o < A.1 := by have := hOC.1.1; omega
  obtain ⟨p, D, P, la, g, m, hD, hP, hR, hDR, hL, hPT, hO, hOP, hd⟩ := h.2.2.1.1.parts
  obtain ⟨k1, s1, x1⟩ := I_of (xs X (i + 1).toNatClampNeg)
  obtain ⟨k2, s2, x2⟩ := I_of (xs X (i + 2).toNatClampNeg)
  refine k_L_law_609 ⟨hi.1, hi.2.1, ?_⟩
  rw [x1, x2]
  refine Cal.of (c_L_piece hl h hto hOC (by decide) (by decide) (by decide) ((q_piece hl h.1 hD hP hR hDR ri.1 hd s1 s2).mono fun _ _ q => QP.lp h (fun _ => rfl) q)) (by decide) hb hs ?_
  rintro o4 A1 ⟨rfl, hq⟩
  rw [zI_of]
  exact ⟨hi.1, hi.2.1, law_inner hl hLS ⟨rfl, hq⟩ (r_piece hl ri he s1 s2) (tr2_b) (by decide) (by decide) (R := fun A b c => G l X M_L_law 40 Q 2023 [(0, .ref (xb X)), (1, .ref t), (2, .ref o), (3, .ref u), (4, .int i)] [] A b c) (fun A' w' S' k => K A' w' S' _ _ k (Nat.le_refl _) (Nat.le_refl _))⟩
theorem law_part (hl : l.stackTraces = false) (hLS : LWS X A w o t u S e) (he : e + 8000000 ≤ 2000000000) {i : Int32} (hi : vp_in (i + 1) (xL X) ∧ vp_in (i + 2) (xL X) ∧ vp_in (i + 3) (xL X) ∧ vp_in (i + 4) (xL X) ∧ vp_in (i + 5) (xL X)) {Q : Ot → AH → Prop} {bc bs : Nat} (hb : 60 ≤ bc) (hs : 4000 ≤ bs) (K : ∀ A' w' S' b c, LWS X A' w' o t u S' (e + 3500000) → bc - 60 ≤ b → bs - 4000 ≤ c → G l X M_L_law 40 Q 2023 [(0, .ref (xb X)), (1, .ref t), (2, .ref o), (3, .ref u), (4, .int i)] [] A' b c) : G l X M_L_law 40 Q 677 [(0, .ref (xb X)), (1, .ref t), (2, .ref o), (3, .ref u), (4, .int i)] [] A bc bs := by
  obtain ⟨⟨V, a, f, c, h⟩, ri, hmp, hOC, hto⟩ := id hLS
  obtain ⟨fs, ho⟩ := hOC.2.2
  have hol : o < A.1 := by have := hOC.1.1; omega
  obtain ⟨p, D, P, la, g, m, hD, hP, hR, hDR, hL, hPT, hO, hOP, hd⟩ := h.2.2.1.1.parts
  obtain ⟨k1, s1, x1⟩ := I_of (xs X (i + 1).toNatClampNeg)
  obtain ⟨k2, s2, x2⟩ := I_of (xs X (i + 2).toNatClampNeg)
  refine k_L_law_677 ⟨hi.1, hi.2.1, ?_⟩
  rw [x1, x2]
  refine Cal.of (c_L_part hl h hto hOC (by decide) (by decide) (by decide) ((q_part hl h.1 hD hP hR hDR ri.1 hd s1 s2).mono fun _ _ q => QP.lp h (fun _ => rfl) q)) (by decide) hb hs ?_
  rintro o4 A1 ⟨rfl, hq⟩
  rw [zI_of]
  exact ⟨hi.1, hi.2.1, law_inner hl hLS ⟨rfl, hq⟩ (r_part hl ri he s1 s2) (tr2_b) (by decide) (by decide) (R := fun A b c => G l X M_L_law 40 Q 2023 [(0, .ref (xb X)), (1, .ref t), (2, .ref o), (3, .ref u), (4, .int i)] [] A b c) (fun A' w' S' k => K A' w' S' _ _ k (Nat.le_refl _) (Nat.le_refl _))⟩
theorem law_checksum (hl : l.stackTraces = false) (hLS : LWS X A w o t u S e) (he : e + 8000000 ≤ 2000000000) {i : Int32} (hi : vp_in (i + 1) (xL X) ∧ vp_in (i + 2) (xL X) ∧ vp_in (i + 3) (xL X) ∧ vp_in (i + 4) (xL X) ∧ vp_in (i + 5) (xL X)) {Q : Ot → AH → Prop} {bc bs : Nat} (hb : 60 ≤ bc) (hs : 4000 ≤ bs) (K : ∀ A' w' S' b c, LWS X A' w' o t u S' (e + 3500000) → bc - 60 ≤ b → bs - 4000 ≤ c → G l X M_L_law 40 Q 2023 [(0, .ref (xb X)), (1, .ref t), (2, .ref o), (3, .ref u), (4, .int i)] [] A' b c) : G l X M_L_law 40 Q 745 [(0, .ref (xb X)), (1, .ref t), (2, .ref o), (3, .ref u), (4, .int i)] [] A bc bs := by
  obtain ⟨⟨V, a, f, c, h⟩, ri, hmp, hOC, hto⟩ := id hLS
  obtain ⟨fs, ho⟩ := hOC.2.2
  have hol : o < A.1 := by have := hOC.1.1; omega
  obtain ⟨p, D, P, la, g, m, hD, hP, hR, hDR, hL, hPT, hO, hOP, hd⟩ := h.2.2.1.1.parts
  obtain ⟨k1, s1, x1⟩ := I_of (xs X (i + 1).toNatClampNeg)
  obtain ⟨k2, s2, x2⟩ := I_of (xs X (i + 2).toNatClampNeg)
  obtain ⟨k3, s3, x3⟩ := I_of (xs X (i + 3).toNatClampNeg)
  refine k_L_law_745 ⟨hi.1, hi.2.1, hi.2.2.1, ?_⟩
  rw [x1, x2, x3]
  refine Cal.of (c_L_checksum hl h hto hOC (by decide) (by decide) (by decide) ((q_checksum hl h.1 hD hP hR hDR ri.1 hd s1 s2 s3).mono fun _ _ q => QP.lp h (fun _ => rfl) q)) (by decide) hb hs ?_
  rintro o4 A1 ⟨rfl, hq⟩
  rw [zI_of]
  exact ⟨hi.1, hi.2.1, hi.2.2.1, law_inner hl hLS ⟨rfl, hq⟩ (r_checksum hl ri he s1 s2 s3) (tr2_b) (by decide) (by decide) (R := fun A b c => G l X M_L_law 40 Q 2023 [(0, .ref (xb X)), (1, .ref t), (2, .ref o), (3, .ref u), (4, .int i)] [] A b c) (fun A' w' S' k => K A' w' S' _ _ k (Nat.le_refl _) (Nat.le_refl _))⟩
theorem law_fetch (hl : l.stackTraces = false) (hLS : LWS X A w o t u S e) (he : e + 8000000 ≤ 2000000000) {i : Int32} (hi : vp_in (i + 1) (xL X) ∧ vp_in (i + 2) (xL X) ∧ vp_in (i + 3) (xL X) ∧ vp_in (i + 4) (xL X) ∧ vp_in (i + 5) (xL X)) {Q : Ot → AH → Prop} {bc bs : Nat} (hb : 60 ≤ bc) (hs : 4000 ≤ bs) (K : ∀ A' w' S' b c, LWS X A' w' o t u S' (e + 3500000) → bc - 60 ≤ b → bs - 4000 ≤ c → G l X M_L_law 40 Q 2023 [(0, .ref (xb X)), (1, .ref t), (2, .ref o), (3, .ref u), (4, .int i)] [] A' b c) : G l X M_L_law 40 Q 916 [(0, .ref (xb X)), (1, .ref t), (2, .ref o), (3, .ref u), (4, .int i)] [] A bc bs := by
  obtain ⟨⟨V, a, f, c, h⟩, ri, hmp, hOC, hto⟩ := id hLS
  obtain ⟨fs, ho⟩ := hOC.2.2
  have hol : o < A.1 := by have := hOC.1.1; omega
  obtain ⟨p, D, P, la, g, m, hD, hP, hR, hDR, hL, hPT, hO, hOP, hd⟩ := h.2.2.1.1.parts
  obtain ⟨k1, s1, x1⟩ := I_of (xs X (i + 1).toNatClampNeg)
  obtain ⟨k2, s2, x2⟩ := I_of (xs X (i + 2).toNatClampNeg)
  refine k_L_law_916 ⟨hi.1, hi.2.1, ?_⟩
  rw [x1, x2]
  refine Cal.of (c_L_fetch hl h hto hOC (by decide) (by decide) (by decide) ((m_fetch hl h ri ho hto hol (by omega) s1 s2).mono fun _ _ q => MP.lp q)) (by decide) hb hs ?_
  rintro o4 A1 ⟨rfl, hq⟩
  rw [zI_of]
  exact ⟨hi.1, hi.2.1, law_inner hl hLS ⟨rfl, hq⟩ (r_fetch hl ri he s1 s2) (tr2_b) (by decide) (by decide) (R := fun A b c => G l X M_L_law 40 Q 2023 [(0, .ref (xb X)), (1, .ref t), (2, .ref o), (3, .ref u), (4, .int i)] [] A b c) (fun A' w' S' k => K A' w' S' _ _ k (Nat.le_refl _) (Nat.le_refl _))⟩
theorem law_search (hl : l.stackTraces = false) (hLS : LWS X A w o t u S e) (he : e + 8000000 ≤ 2000000000) {i : Int32} (hi : vp_in (i + 1) (xL X) ∧ vp_in (i + 2) (xL X) ∧ vp_in (i + 3) (xL X) ∧ vp_in (i + 4) (xL X) ∧ vp_in (i + 5) (xL X)) {Q : Ot → AH → Prop} {bc bs : Nat} (hb : 60 ≤ bc) (hs : 4000 ≤ bs) (K : ∀ A' w' S' b c, LWS X A' w' o t u S' (e + 3500000) → bc - 60 ≤ b → bs - 4000 ≤ c → G l X M_L_law 40 Q 2023 [(0, .ref (xb X)), (1, .ref t), (2, .ref o), (3, .ref u), (4, .int i)] [] A' b c) : G l X M_L_law 40 Q 984 [(0, .ref (xb X)), (1, .ref t), (2, .ref o), (3, .ref u), (4, .int i)] [] A bc bs := by
  obtain ⟨⟨V, a, f, c, h⟩, ri, hmp, hOC, hto⟩ := id hLS
  obtain ⟨fs, ho⟩ := hOC.2.2
  have hol : o < A.1 := by have := hOC.1.1; omega
  obtain ⟨p, D, P, la, g, m, hD, hP, hR, hDR, hL, hPT, hO, hOP, hd⟩ := h.2.2.1.1.parts
  obtain ⟨k1, s1, x1⟩ := I_of (xs X (i + 1).toNatClampNeg)
  refine k_L_law_984 ⟨hi.1, ?_⟩
  rw [x1]
  refine Cal.of (c_L_search hl h hto hOC (by decide) (by decide) (by decide) ((m_search hl h ri ho hto hol (by omega) s1).mono fun _ _ q => MP.lp q)) (by decide) hb hs ?_
  rintro o4 A1 ⟨rfl, hq⟩
  rw [zI_of]
  exact ⟨hi.1, law_inner hl hLS ⟨rfl, hq⟩ (r_search hl ri he s1) (tr2_b) (by decide) (by decide) (R := fun A b c => G l X M_L_law 40 Q 2023 [(0, .ref (xb X)), (1, .ref t), (2, .ref o), (3, .ref u), (4, .int i)] [] A b c) (fun A' w' S' k => K A' w' S' _ _ k (Nat.le_refl _) (Nat.le_refl _))⟩
theorem law_queriesFor (hl : l.stackTraces = false) (hLS : LWS X A w o t u S e) (he : e + 8000000 ≤ 2000000000) {i : Int32} (hi : vp_in (i + 1) (xL X) ∧ vp_in (i + 2) (xL X) ∧ vp_in (i + 3) (xL X) ∧ vp_in (i + 4) (xL X) ∧ vp_in (i + 5) (xL X)) {Q : Ot → AH → Prop} {bc bs : Nat} (hb : 60 ≤ bc) (hs : 4000 ≤ bs) (K : ∀ A' w' S' b c, LWS X A' w' o t u S' (e + 3500000) → bc - 60 ≤ b → bs - 4000 ≤ c → G l X M_L_law 40 Q 2023 [(0, .ref (xb X)), (1, .ref t), (2, .ref o), (3, .ref u), (4, .int i)] [] A' b c) : G l X M_L_law 40 Q 1040 [(0, .ref (xb X)), (1, .ref t), (2, .ref o), (3, .ref u), (4, .int i)] [] A bc bs := by
  obtain ⟨⟨V, a, f, c, h⟩, ri, hmp, hOC, hto⟩ := id hLS
  obtain ⟨fs, ho⟩ := hOC.2.2
  have hol : o < A.1 := by have := hOC.1.1; omega
  obtain ⟨p, D, P, la, g, m, hD, hP, hR, hDR, hL, hPT, hO, hOP, hd⟩ := h.2.2.1.1.parts
  obtain ⟨k1, s1, x1⟩ := I_of (xs X (i + 1).toNatClampNeg)
  refine k_L_law_1040 ⟨hi.1, ?_⟩
  rw [x1]
  refine Cal.of (c_L_queriesFor hl h hto hOC (by decide) (by decide) (by decide) ((q_queriesFor hl h.1 hD hP hR hDR ri.1 hd s1).mono fun _ _ q => QP.lp h (fun _ => rfl) q)) (by decide) hb hs ?_
  rintro o4 A1 ⟨rfl, hq⟩
  rw [zI_of]
  exact ⟨hi.1, law_inner hl hLS ⟨rfl, hq⟩ (r_queriesFor hl ri he s1) (tr2_b) (by decide) (by decide) (R := fun A b c => G l X M_L_law 40 Q 2023 [(0, .ref (xb X)), (1, .ref t), (2, .ref o), (3, .ref u), (4, .int i)] [] A b c) (fun A' w' S' k => K A' w' S' _ _ k (Nat.le_refl _) (Nat.le_refl _))⟩
theorem law_drop (hl : l.stackTraces = false) (hLS : LWS X A w o t u S e) (he : e + 8000000 ≤ 2000000000) {i : Int32} (hi : vp_in (i + 1) (xL X) ∧ vp_in (i + 2) (xL X) ∧ vp_in (i + 3) (xL X) ∧ vp_in (i + 4) (xL X) ∧ vp_in (i + 5) (xL X)) {Q : Ot → AH → Prop} {bc bs : Nat} (hb : 60 ≤ bc) (hs : 4000 ≤ bs) (K : ∀ A' w' S' b c, LWS X A' w' o t u S' (e + 3500000) → bc - 60 ≤ b → bs - 4000 ≤ c → G l X M_L_law 40 Q 2023 [(0, .ref (xb X)), (1, .ref t), (2, .ref o), (3, .ref u), (4, .int i)] [] A' b c) : G l X M_L_law 40 Q 1096 [(0, .ref (xb X)), (1, .ref t), (2, .ref o), (3, .ref u), (4, .int i)] [] A bc bs := by
  obtain ⟨⟨V, a, f, c, h⟩, ri, hmp, hOC, hto⟩ := id hLS
  obtain ⟨fs, ho⟩ := hOC.2.2
  have hol : o < A.1 := by have := hOC.1.1; omega
  obtain ⟨p, D, P, la, g, m, hD, hP, hR, hDR, hL, hPT, hO, hOP, hd⟩ := h.2.2.1.1.parts
  obtain ⟨k1, s1, x1⟩ := I_of (xs X (i + 1).toNatClampNeg)
  refine k_L_law_1096 ⟨hi.1, ?_⟩
  rw [x1]
  refine Cal.of (c_L_drop hl h hto hOC (by decide) (by decide) (by decide) ((m_drop hl h ri ho hto hol s1).mono fun _ _ q => MP.lp q)) (by decide) hb hs ?_
  rintro o4 A1 ⟨rfl, hq⟩
  rw [zI_of]
  exact ⟨hi.1, law_inner hl hLS ⟨rfl, hq⟩ (r_drop hl ri he s1) (tr2_b) (by decide) (by decide) (R := fun A b c => G l X M_L_law 40 Q 2023 [(0, .ref (xb X)), (1, .ref t), (2, .ref o), (3, .ref u), (4, .int i)] [] A b c) (fun A' w' S' k => K A' w' S' _ _ k (Nat.le_refl _) (Nat.le_refl _))⟩
theorem law_run (hl : l.stackTraces = false) (hLS : LWS X A w o t u S e) (he : e + 8000000 ≤ 2000000000) {i : Int32} (hi : vp_in (i + 1) (xL X) ∧ vp_in (i + 2) (xL X) ∧ vp_in (i + 3) (xL X) ∧ vp_in (i + 4) (xL X) ∧ vp_in (i + 5) (xL X)) {Q : Ot → AH → Prop} {bc bs : Nat} (hb : 60 ≤ bc) (hs : 4000 ≤ bs) (K : ∀ A' w' S' b c, LWS X A' w' o t u S' (e + 3500000) → bc - 60 ≤ b → bs - 4000 ≤ c → G l X M_L_law 40 Q 2023 [(0, .ref (xb X)), (1, .ref t), (2, .ref o), (3, .ref u), (4, .int i)] [] A' b c) : G l X M_L_law 40 Q 1152 [(0, .ref (xb X)), (1, .ref t), (2, .ref o), (3, .ref u), (4, .int i)] [] A bc bs := by
  obtain ⟨⟨V, a, f, c, h⟩, ri, hmp, hOC, hto⟩ := id hLS
  obtain ⟨fs, ho⟩ := hOC.2.2
  have hol : o < A.1 := by have := hOC.1.1; omega
  obtain ⟨p, D, P, la, g, m, hD, hP, hR, hDR, hL, hPT, hO, hOP, hd⟩ := h.2.2.1.1.parts
  obtain ⟨k1, s1, x1⟩ := I_of (xs X (i + 1).toNatClampNeg)
  refine k_L_law_1152 ⟨hi.1, ?_⟩
  rw [x1]
  refine Cal.of (c_L_run hl h hto hOC (by decide) (by decide) (by decide) (n2 (if_b (by decide) (by decide))) ((m_run hl h ri ho hto hol (by omega) s1).mono fun _ _ q => MP.lp q)) (by decide) hb hs ?_
  rintro o4 A1 ⟨rfl, hq⟩
  rw [zI_of]
  exact ⟨hi.1, law_inner hl hLS ⟨rfl, hq⟩ (r_run hl ri he s1) (b2 (if_b (by decide) (by decide))) (by decide) (by decide) (R := fun A b c => G l X M_L_law 40 Q 2023 [(0, .ref (xb X)), (1, .ref t), (2, .ref o), (3, .ref u), (4, .int i)] [] A b c) (fun A' w' S' k => K A' w' S' _ _ k (Nat.le_refl _) (Nat.le_refl _))⟩
theorem law_keep (hl : l.stackTraces = false) (hLS : LWS X A w o t u S e) (he : e + 8000000 ≤ 2000000000) {i : Int32} (hi : vp_in (i + 1) (xL X) ∧ vp_in (i + 2) (xL X) ∧ vp_in (i + 3) (xL X) ∧ vp_in (i + 4) (xL X) ∧ vp_in (i + 5) (xL X)) {Q : Ot → AH → Prop} {bc bs : Nat} (hb : 60 ≤ bc) (hs : 4000 ≤ bs) (K : ∀ A' w' S' b c, LWS X A' w' o t u S' (e + 3500000) → bc - 60 ≤ b → bs - 4000 ≤ c → G l X M_L_law 40 Q 2023 [(0, .ref (xb X)), (1, .ref t), (2, .ref o), (3, .ref u), (4, .int i)] [] A' b c) : G l X M_L_law 40 Q 1221 [(0, .ref (xb X)), (1, .ref t), (2, .ref o), (3, .ref u), (4, .int i)] [] A bc bs := by
  obtain ⟨⟨V, a, f, c, h⟩, ri, hmp, hOC, hto⟩ := id hLS
  obtain ⟨fs, ho⟩ := hOC.2.2
  have hol : o < A.1 := by have := hOC.1.1; omega
  obtain ⟨p, D, P, la, g, m, hD, hP, hR, hDR, hL, hPT, hO, hOP, hd⟩ := h.2.2.1.1.parts
  obtain ⟨k1, s1, x1⟩ := I_of (xs X (i + 1).toNatClampNeg)
  refine k_L_law_1221 ⟨hi.1, ?_⟩
  rw [x1]
  refine Cal.of (c_L_keep hl h hto hOC (by decide) (by decide) (by decide) ((m_keep hl h ri ho hto hol (by omega) s1).mono fun _ _ q => MP.lp q)) (by decide) hb hs ?_
  rintro o4 A1 ⟨rfl, hq⟩
  rw [zI_of]
  exact ⟨hi.1, law_inner hl hLS ⟨rfl, hq⟩ (r_keep hl ri he s1) (tr2_b) (by decide) (by decide) (R := fun A b c => G l X M_L_law 40 Q 2023 [(0, .ref (xb X)), (1, .ref t), (2, .ref o), (3, .ref u), (4, .int i)] [] A b c) (fun A' w' S' k => K A' w' S' _ _ k (Nat.le_refl _) (Nat.le_refl _))⟩
theorem law_resume (hl : l.stackTraces = false) (hLS : LWS X A w o t u S e) (he : e + 8000000 ≤ 2000000000) {i : Int32} (hi : vp_in (i + 1) (xL X) ∧ vp_in (i + 2) (xL X) ∧ vp_in (i + 3) (xL X) ∧ vp_in (i + 4) (xL X) ∧ vp_in (i + 5) (xL X)) {Q : Ot → AH → Prop} {bc bs : Nat} (hb : 60 ≤ bc) (hs : 4000 ≤ bs) (K : ∀ A' w' S' b c, LWS X A' w' o t u S' (e + 3500000) → bc - 60 ≤ b → bs - 4000 ≤ c → G l X M_L_law 40 Q 2023 [(0, .ref (xb X)), (1, .ref t), (2, .ref o), (3, .ref u), (4, .int i)] [] A' b c) : G l X M_L_law 40 Q 1277 [(0, .ref (xb X)), (1, .ref t), (2, .ref o), (3, .ref u), (4, .int i)] [] A bc bs := by
  obtain ⟨⟨V, a, f, c, h⟩, ri, hmp, hOC, hto⟩ := id hLS
  obtain ⟨fs, ho⟩ := hOC.2.2
  have hol : o < A.1 := by have := hOC.1.1; omega
  obtain ⟨p, D, P, la, g, m, hD, hP, hR, hDR, hL, hPT, hO, hOP, hd⟩ := h.2.2.1.1.parts
  obtain ⟨k1, s1, x1⟩ := I_of (xs X (i + 1).toNatClampNeg)
  refine k_L_law_1277 ⟨hi.1, ?_⟩
  rw [x1]
  refine Cal.of (c_L_resume hl h hto hOC (by decide) (by decide) (by decide) ((m_resume hl h ri ho hto hol (by omega) s1).mono fun _ _ q => MP.lp q)) (by decide) hb hs ?_
  rintro o4 A1 ⟨rfl, hq⟩
  rw [zI_of]
  exact ⟨hi.1, law_inner hl hLS ⟨rfl, hq⟩ (r_resume hl ri he s1) (tr2_b) (by decide) (by decide) (R := fun A b c => G l X M_L_law 40 Q 2023 [(0, .ref (xb X)), (1, .ref t), (2, .ref o), (3, .ref u), (4, .int i)] [] A b c) (fun A' w' S' k => K A' w' S' _ _ k (Nat.le_refl _) (Nat.le_refl _))⟩
theorem law_named (hl : l.stackTraces = false) (hLS : LWS X A w o t u S e) (he : e + 8000000 ≤ 2000000000) {i : Int32} (hi : vp_in (i + 1) (xL X) ∧ vp_in (i + 2) (xL X) ∧ vp_in (i + 3) (xL X) ∧ vp_in (i + 4) (xL X) ∧ vp_in (i + 5) (xL X)) {Q : Ot → AH → Prop} {bc bs : Nat} (hb : 60 ≤ bc) (hs : 4000 ≤ bs) (K : ∀ A' w' S' b c, LWS X A' w' o t u S' (e + 3500000) → bc - 60 ≤ b → bs - 4000 ≤ c → G l X M_L_law 40 Q 2023 [(0, .ref (xb X)), (1, .ref t), (2, .ref o), (3, .ref u), (4, .int i)] [] A' b c) : G l X M_L_law 40 Q 1333 [(0, .ref (xb X)), (1, .ref t), (2, .ref o), (3, .ref u), (4, .int i)] [] A bc bs := by
  obtain ⟨⟨V, a, f, c, h⟩, ri, hmp, hOC, hto⟩ := id hLS
  obtain ⟨fs, ho⟩ := hOC.2.2
  have hol : o < A.1 := by have := hOC.1.1; omega
  obtain ⟨p, D, P, la, g, m, hD, hP, hR, hDR, hL, hPT, hO, hOP, hd⟩ := h.2.2.1.1.parts
  obtain ⟨k1, s1, x1⟩ := I_of (xs X (i + 1).toNatClampNeg)
  refine k_L_law_1333 ⟨hi.1, ?_⟩
  rw [x1]
  refine Cal.of (c_L_named hl h hto hOC (by decide) (by decide) (by decide) (n2 bi_b) ((q_named hl h.1 hD hP hR hDR ri.1 hd hL hPT s1).mono fun _ _ q => QP.lp h (fun _ => rfl) q)) (by decide) hb hs ?_
  rintro o4 A1 ⟨rfl, hq⟩
  rw [zI_of]
  exact ⟨hi.1, law_inner hl hLS ⟨rfl, hq⟩ (r_named hl ri he s1) (b2 bi_b) (by decide) (by decide) (R := fun A b c => G l X M_L_law 40 Q 2023 [(0, .ref (xb X)), (1, .ref t), (2, .ref o), (3, .ref u), (4, .int i)] [] A b c) (fun A' w' S' k => K A' w' S' _ _ k (Nat.le_refl _) (Nat.le_refl _))⟩
theorem law_sized (hl : l.stackTraces = false) (hLS : LWS X A w o t u S e) (he : e + 8000000 ≤ 2000000000) {i : Int32} (hi : vp_in (i + 1) (xL X) ∧ vp_in (i + 2) (xL X) ∧ vp_in (i + 3) (xL X) ∧ vp_in (i + 4) (xL X) ∧ vp_in (i + 5) (xL X)) {Q : Ot → AH → Prop} {bc bs : Nat} (hb : 60 ≤ bc) (hs : 4000 ≤ bs) (K : ∀ A' w' S' b c, LWS X A' w' o t u S' (e + 3500000) → bc - 60 ≤ b → bs - 4000 ≤ c → G l X M_L_law 40 Q 2023 [(0, .ref (xb X)), (1, .ref t), (2, .ref o), (3, .ref u), (4, .int i)] [] A' b c) : G l X M_L_law 40 Q 1389 [(0, .ref (xb X)), (1, .ref t), (2, .ref o), (3, .ref u), (4, .int i)] [] A bc bs := by
  obtain ⟨⟨V, a, f, c, h⟩, ri, hmp, hOC, hto⟩ := id hLS
  obtain ⟨fs, ho⟩ := hOC.2.2
  have hol : o < A.1 := by have := hOC.1.1; omega
  obtain ⟨p, D, P, la, g, m, hD, hP, hR, hDR, hL, hPT, hO, hOP, hd⟩ := h.2.2.1.1.parts
  obtain ⟨k1, s1, x1⟩ := I_of (xs X (i + 1).toNatClampNeg)
  refine k_L_law_1389 ⟨hi.1, ?_⟩
  rw [x1]
  refine Cal.of (c_L_sized hl h hto hOC (by decide) (by decide) (by decide) (n2 bi_b) ((q_sized hl h.1 hD hP hR hDR ri.1 hd hL hPT s1).mono fun _ _ q => QP.lp h (fun _ => rfl) q)) (by decide) hb hs ?_
  rintro o4 A1 ⟨rfl, hq⟩
  rw [zI_of]
  exact ⟨hi.1, law_inner hl hLS ⟨rfl, hq⟩ (r_sized hl ri he s1) (b2 bi_b) (by decide) (by decide) (R := fun A b c => G l X M_L_law 40 Q 2023 [(0, .ref (xb X)), (1, .ref t), (2, .ref o), (3, .ref u), (4, .int i)] [] A b c) (fun A' w' S' k => K A' w' S' _ _ k (Nat.le_refl _) (Nat.le_refl _))⟩
theorem law_rename (hl : l.stackTraces = false) (hLS : LWS X A w o t u S e) (he : e + 8000000 ≤ 2000000000) {i : Int32} (hi : vp_in (i + 1) (xL X) ∧ vp_in (i + 2) (xL X) ∧ vp_in (i + 3) (xL X) ∧ vp_in (i + 4) (xL X) ∧ vp_in (i + 5) (xL X)) {Q : Ot → AH → Prop} {bc bs : Nat} (hb : 60 ≤ bc) (hs : 4000 ≤ bs) (K : ∀ A' w' S' b c, LWS X A' w' o t u S' (e + 3500000) → bc - 60 ≤ b → bs - 4000 ≤ c → G l X M_L_law 40 Q 2023 [(0, .ref (xb X)), (1, .ref t), (2, .ref o), (3, .ref u), (4, .int i)] [] A' b c) : G l X M_L_law 40 Q 1445 [(0, .ref (xb X)), (1, .ref t), (2, .ref o), (3, .ref u), (4, .int i)] [] A bc bs := by
  obtain ⟨⟨V, a, f, c, h⟩, ri, hmp, hOC, hto⟩ := id hLS
  obtain ⟨fs, ho⟩ := hOC.2.2
  have hol : o < A.1 := by have := hOC.1.1; omega
  obtain ⟨p, D, P, la, g, m, hD, hP, hR, hDR, hL, hPT, hO, hOP, hd⟩ := h.2.2.1.1.parts
  obtain ⟨k1, s1, x1⟩ := I_of (xs X (i + 1).toNatClampNeg)
  obtain ⟨k2, s2, x2⟩ := I_of (xs X (i + 2).toNatClampNeg)
  refine k_L_law_1445 ⟨hi.1, hi.2.1, ?_⟩
  rw [x1, x2]
  refine Cal.of (c_L_rename hl h hto hOC (by decide) (by decide) (by decide) ((m_rename hl h ri ho hto hol s1 s2).mono fun _ _ q => MP.lp q)) (by decide) hb hs ?_
  rintro o4 A1 ⟨rfl, hq⟩
  rw [zI_of]
  exact ⟨hi.1, hi.2.1, law_inner hl hLS ⟨rfl, hq⟩ (r_rename hl ri he s1 s2) (tr2_b) (by decide) (by decide) (R := fun A b c => G l X M_L_law 40 Q 2023 [(0, .ref (xb X)), (1, .ref t), (2, .ref o), (3, .ref u), (4, .int i)] [] A b c) (fun A' w' S' k => K A' w' S' _ _ k (Nat.le_refl _) (Nat.le_refl _))⟩
theorem law_spoil (hl : l.stackTraces = false) (hLS : LWS X A w o t u S e) (he : e + 8000000 ≤ 2000000000) {i : Int32} (hi : vp_in (i + 1) (xL X) ∧ vp_in (i + 2) (xL X) ∧ vp_in (i + 3) (xL X) ∧ vp_in (i + 4) (xL X) ∧ vp_in (i + 5) (xL X)) {Q : Ot → AH → Prop} {bc bs : Nat} (hb : 60 ≤ bc) (hs : 4000 ≤ bs) (K : ∀ A' w' S' b c, LWS X A' w' o t u S' (e + 3500000) → bc - 60 ≤ b → bs - 4000 ≤ c → G l X M_L_law 40 Q 2023 [(0, .ref (xb X)), (1, .ref t), (2, .ref o), (3, .ref u), (4, .int i)] [] A' b c) : G l X M_L_law 40 Q 1513 [(0, .ref (xb X)), (1, .ref t), (2, .ref o), (3, .ref u), (4, .int i)] [] A bc bs := by
  obtain ⟨⟨V, a, f, c, h⟩, ri, hmp, hOC, hto⟩ := id hLS
  obtain ⟨fs, ho⟩ := hOC.2.2
  have hol : o < A.1 := by have := hOC.1.1; omega
  obtain ⟨p, D, P, la, g, m, hD, hP, hR, hDR, hL, hPT, hO, hOP, hd⟩ := h.2.2.1.1.parts
  obtain ⟨k1, s1, x1⟩ := I_of (xs X (i + 1).toNatClampNeg)
  obtain ⟨k2, s2, x2⟩ := I_of (xs X (i + 2).toNatClampNeg)
  obtain ⟨k3, s3, x3⟩ := I_of (xs X (i + 3).toNatClampNeg)
  refine k_L_law_1513 ⟨hi.1, hi.2.1, hi.2.2.1, ?_⟩
  rw [x1, x2, x3]
  refine Cal.of (c_L_spoil hl h hto hOC (by decide) (by decide) (by decide) ((m_spoil hl h ri ho hto hol s1 s2 s3).mono fun _ _ q => MP.lp q)) (by decide) hb hs ?_
  rintro o4 A1 ⟨rfl, hq⟩
  rw [zI_of]
  exact ⟨hi.1, hi.2.1, hi.2.2.1, law_inner hl hLS ⟨rfl, hq⟩ (r_spoil hl ri he s1 s2 s3) (tr2_b) (by decide) (by decide) (R := fun A b c => G l X M_L_law 40 Q 2023 [(0, .ref (xb X)), (1, .ref t), (2, .ref o), (3, .ref u), (4, .int i)] [] A b c) (fun A' w' S' k => K A' w' S' _ _ k (Nat.le_refl _) (Nat.le_refl _))⟩
theorem law_discard (hl : l.stackTraces = false) (hLS : LWS X A w o t u S e) (he : e + 8000000 ≤ 2000000000) {i : Int32} (hi : vp_in (i + 1) (xL X) ∧ vp_in (i + 2) (xL X) ∧ vp_in (i + 3) (xL X) ∧ vp_in (i + 4) (xL X) ∧ vp_in (i + 5) (xL X)) {Q : Ot → AH → Prop} {bc bs : Nat} (hb : 60 ≤ bc) (hs : 4000 ≤ bs) (K : ∀ A' w' S' b c, LWS X A' w' o t u S' (e + 3500000) → bc - 60 ≤ b → bs - 4000 ≤ c → G l X M_L_law 40 Q 2023 [(0, .ref (xb X)), (1, .ref t), (2, .ref o), (3, .ref u), (4, .int i)] [] A' b c) : G l X M_L_law 40 Q 1593 [(0, .ref (xb X)), (1, .ref t), (2, .ref o), (3, .ref u), (4, .int i)] [] A bc bs := by
  obtain ⟨⟨V, a, f, c, h⟩, ri, hmp, hOC, hto⟩ := id hLS
  obtain ⟨fs, ho⟩ := hOC.2.2
  have hol : o < A.1 := by have := hOC.1.1; omega
  obtain ⟨p, D, P, la, g, m, hD, hP, hR, hDR, hL, hPT, hO, hOP, hd⟩ := h.2.2.1.1.parts
  obtain ⟨k1, s1, x1⟩ := I_of (xs X (i + 1).toNatClampNeg)
  refine k_L_law_1593 ⟨hi.1, ?_⟩
  rw [x1]
  refine Cal.of (c_L_discard hl h hto hOC (by decide) (by decide) (by decide) (n2 (if_b (by decide) (by decide))) ((m_discard hl h ri ho hto hol s1).mono fun _ _ q => MP.lp q)) (by decide) hb hs ?_
  rintro o4 A1 ⟨rfl, hq⟩
  rw [zI_of]
  exact ⟨hi.1, law_inner hl hLS ⟨rfl, hq⟩ (r_discard hl ri he s1) (b2 (if_b (by decide) (by decide))) (by decide) (by decide) (R := fun A b c => G l X M_L_law 40 Q 2023 [(0, .ref (xb X)), (1, .ref t), (2, .ref o), (3, .ref u), (4, .int i)] [] A b c) (fun A' w' S' k => K A' w' S' _ _ k (Nat.le_refl _) (Nat.le_refl _))⟩
theorem law_partial (hl : l.stackTraces = false) (hLS : LWS X A w o t u S e) (he : e + 8000000 ≤ 2000000000) {i : Int32} (hi : vp_in (i + 1) (xL X) ∧ vp_in (i + 2) (xL X) ∧ vp_in (i + 3) (xL X) ∧ vp_in (i + 4) (xL X) ∧ vp_in (i + 5) (xL X)) {Q : Ot → AH → Prop} {bc bs : Nat} (hb : 60 ≤ bc) (hs : 4000 ≤ bs) (K : ∀ A' w' S' b c, LWS X A' w' o t u S' (e + 3500000) → bc - 60 ≤ b → bs - 4000 ≤ c → G l X M_L_law 40 Q 2023 [(0, .ref (xb X)), (1, .ref t), (2, .ref o), (3, .ref u), (4, .int i)] [] A' b c) : G l X M_L_law 40 Q 1649 [(0, .ref (xb X)), (1, .ref t), (2, .ref o), (3, .ref u), (4, .int i)] [] A bc bs := by
  obtain ⟨⟨V, a, f, c, h⟩, ri, hmp, hOC, hto⟩ := id hLS
  obtain ⟨fs, ho⟩ := hOC.2.2
  have hol : o < A.1 := by have := hOC.1.1; omega
  obtain ⟨p, D, P, la, g, m, hD, hP, hR, hDR, hL, hPT, hO, hOP, hd⟩ := h.2.2.1.1.parts
  obtain ⟨k1, s1, x1⟩ := I_of (xs X (i + 1).toNatClampNeg)
  obtain ⟨k2, s2, x2⟩ := I_of (xs X (i + 2).toNatClampNeg)
  refine k_L_law_1649 ⟨hi.1, hi.2.1, ?_⟩
  rw [x1, x2]
  refine Cal.of (c_L_partial hl h hto hOC (by decide) (by decide) (by decide) ((q_partial hl h.1 hD hP hR hDR ri.1 hd hL hPT s1 s2).mono fun _ _ q => QP.lp h (fun _ => rfl) q)) (by decide) hb hs ?_
  rintro o4 A1 ⟨rfl, hq⟩
  rw [zI_of]
  exact ⟨hi.1, hi.2.1, law_inner hl hLS ⟨rfl, hq⟩ (r_partial hl ri he s1 s2) (tr2_b) (by decide) (by decide) (R := fun A b c => G l X M_L_law 40 Q 2023 [(0, .ref (xb X)), (1, .ref t), (2, .ref o), (3, .ref u), (4, .int i)] [] A b c) (fun A' w' S' k => K A' w' S' _ _ k (Nat.le_refl _) (Nat.le_refl _))⟩
theorem law_event (hl : l.stackTraces = false) (hLS : LWS X A w o t u S e) (he : e + 8000000 ≤ 2000000000) {i : Int32} (hi : vp_in (i + 1) (xL X) ∧ vp_in (i + 2) (xL X) ∧ vp_in (i + 3) (xL X) ∧ vp_in (i + 4) (xL X) ∧ vp_in (i + 5) (xL X)) {Q : Ot → AH → Prop} {bc bs : Nat} (hb : 60 ≤ bc) (hs : 4000 ≤ bs) (K : ∀ A' w' S' b c, LWS X A' w' o t u S' (e + 3500000) → bc - 60 ≤ b → bs - 4000 ≤ c → G l X M_L_law 40 Q 2023 [(0, .ref (xb X)), (1, .ref t), (2, .ref o), (3, .ref u), (4, .int i)] [] A' b c) : G l X M_L_law 40 Q 1786 [(0, .ref (xb X)), (1, .ref t), (2, .ref o), (3, .ref u), (4, .int i)] [] A bc bs := by
  obtain ⟨⟨V, a, f, c, h⟩, ri, hmp, hOC, hto⟩ := id hLS
  obtain ⟨fs, ho⟩ := hOC.2.2
  have hol : o < A.1 := by have := hOC.1.1; omega
  obtain ⟨p, D, P, la, g, m, hD, hP, hR, hDR, hL, hPT, hO, hOP, hd⟩ := h.2.2.1.1.parts
  obtain ⟨k1, s1, x1⟩ := I_of (xs X (i + 1).toNatClampNeg)
  obtain ⟨k2, s2, x2⟩ := I_of (xs X (i + 2).toNatClampNeg)
  refine k_L_law_1786 ⟨hi.1, hi.2.1, ?_⟩
  rw [x1, x2]
  refine Cal.of (c_L_event hl h hto hOC (by decide) (by decide) (by decide) ((q_event hl h.1 hD hP hR hDR ri.1 hd s1 s2).mono fun _ _ q => QP.lp h (fun _ => rfl) q)) (by decide) hb hs ?_
  rintro o4 A1 ⟨rfl, hq⟩
  rw [zI_of]
  exact ⟨hi.1, hi.2.1, law_inner hl hLS ⟨rfl, hq⟩ (r_event hl ri he s1 s2) (tr2_b) (by decide) (by decide) (R := fun A b c => G l X M_L_law 40 Q 2023 [(0, .ref (xb X)), (1, .ref t), (2, .ref o), (3, .ref u), (4, .int i)] [] A b c) (fun A' w' S' k => K A' w' S' _ _ k (Nat.le_refl _) (Nat.le_refl _))⟩
theorem law_events (hl : l.stackTraces = false) (hLS : LWS X A w o t u S e) (he : e + 8000000 ≤ 2000000000) {i : Int32} (hi : vp_in (i + 1) (xL X) ∧ vp_in (i + 2) (xL X) ∧ vp_in (i + 3) (xL X) ∧ vp_in (i + 4) (xL X) ∧ vp_in (i + 5) (xL X)) {Q : Ot → AH → Prop} {bc bs : Nat} (hb : 60 ≤ bc) (hs : 4000 ≤ bs) (K : ∀ A' w' S' b c, LWS X A' w' o t u S' (e + 3500000) → bc - 60 ≤ b → bs - 4000 ≤ c → G l X M_L_law 40 Q 2023 [(0, .ref (xb X)), (1, .ref t), (2, .ref o), (3, .ref u), (4, .int i)] [] A' b c) : G l X M_L_law 40 Q 1854 [(0, .ref (xb X)), (1, .ref t), (2, .ref o), (3, .ref u), (4, .int i)] [] A bc bs := by
  obtain ⟨⟨V, a, f, c, h⟩, ri, hmp, hOC, hto⟩ := id hLS
  obtain ⟨fs, ho⟩ := hOC.2.2
  have hol : o < A.1 := by have := hOC.1.1; omega
  obtain ⟨p, D, P, la, g, m, hD, hP, hR, hDR, hL, hPT, hO, hOP, hd⟩ := h.2.2.1.1.parts
  obtain ⟨k1, s1, x1⟩ := I_of (xs X (i + 1).toNatClampNeg)
  refine k_L_law_1854 ⟨hi.1, ?_⟩
  rw [x1]
  refine Cal.of (c_L_events hl h hto hOC (by decide) (by decide) (by decide) (n2 bi_b) ((q_events hl h.1 hD hP hR hDR ri.1 hd s1).mono fun _ _ q => QP.lp h (fun _ => rfl) q)) (by decide) hb hs ?_
  rintro o4 A1 ⟨rfl, hq⟩
  rw [zI_of]
  exact ⟨hi.1, law_inner hl hLS ⟨rfl, hq⟩ (r_events hl ri he s1) (b2 bi_b) (by decide) (by decide) (R := fun A b c => G l X M_L_law 40 Q 2023 [(0, .ref (xb X)), (1, .ref t), (2, .ref o), (3, .ref u), (4, .int i)] [] A b c) (fun A' w' S' k => K A' w' S' _ _ k (Nat.le_refl _) (Nat.le_refl _))⟩
theorem law_undo (hl : l.stackTraces = false) (hLS : LWS X A w o t u S e) (he : e + 8000000 ≤ 2000000000) {i : Int32} (hi : vp_in (i + 1) (xL X) ∧ vp_in (i + 2) (xL X) ∧ vp_in (i + 3) (xL X) ∧ vp_in (i + 4) (xL X) ∧ vp_in (i + 5) (xL X)) {Q : Ot → AH → Prop} {bc bs : Nat} (hb : 60 ≤ bc) (hs : 4000 ≤ bs) (K : ∀ A' w' S' b c, LWS X A' w' o t u S' (e + 3500000) → bc - 60 ≤ b → bs - 4000 ≤ c → G l X M_L_law 40 Q 2023 [(0, .ref (xb X)), (1, .ref t), (2, .ref o), (3, .ref u), (4, .int i)] [] A' b c) : G l X M_L_law 40 Q 1979 [(0, .ref (xb X)), (1, .ref t), (2, .ref o), (3, .ref u), (4, .int i)] [] A bc bs := by
  obtain ⟨⟨V, a, f, c, h⟩, ri, hmp, hOC, hto⟩ := id hLS
  obtain ⟨fs, ho⟩ := hOC.2.2
  have hol : o < A.1 := by have := hOC.1.1; omega
  obtain ⟨p, D, P, la, g, m, hD, hP, hR, hDR, hL, hPT, hO, hOP, hd⟩ := h.2.2.1.1.parts
  refine k_L_law_1979 ?_
  refine Cal.of (c_L_undo hl h hto hOC (by decide) (by decide) (by decide) (n2 (if_b (by decide) (by decide))) ((m_undo hl h ri ho hto hol).mono fun _ _ q => MP.lp q)) (by decide) hb hs ?_
  rintro o4 A1 ⟨rfl, hq⟩
  rw [zI_of]
  exact law_inner hl hLS ⟨rfl, hq⟩ (r_undo hl ri he) (b2 (if_b (by decide) (by decide))) (by decide) (by decide) (R := fun A b c => G l X M_L_law 40 Q 2023 [(0, .ref (xb X)), (1, .ref t), (2, .ref o), (3, .ref u), (4, .int i)] [] A b c) (fun A' w' S' k => K A' w' S' _ _ k (Nat.le_refl _) (Nat.le_refl _))
theorem law_errorPosition (hl : l.stackTraces = false) (hLS : LWS X A w o t u S e) (he : e + 8000000 ≤ 2000000000) {i : Int32} (hi : vp_in (i + 1) (xL X) ∧ vp_in (i + 2) (xL X) ∧ vp_in (i + 3) (xL X) ∧ vp_in (i + 4) (xL X) ∧ vp_in (i + 5) (xL X)) {Q : Ot → AH → Prop} {bc bs : Nat} (hb : 60 ≤ bc) (hs : 4000 ≤ bs) (K : ∀ A' w' S' b c, LWS X A' w' o t u S' (e + 3500000) → bc - 60 ≤ b → bs - 4000 ≤ c → G l X M_L_law 40 Q 2023 [(0, .ref (xb X)), (1, .ref t), (2, .ref o), (3, .ref u), (4, .int i)] [] A' b c) : G l X M_L_law 40 Q 348 [(0, .ref (xb X)), (1, .ref t), (2, .ref o), (3, .ref u), (4, .int i)] [] A bc bs := by
  obtain ⟨⟨V, a, f, c, h⟩, ri, hmp, hOC, hto⟩ := id hLS
  obtain ⟨fs, ho⟩ := hOC.2.2
  have hol : o < A.1 := by have := hOC.1.1; omega
  obtain ⟨p, D, P, la, g, m, hD, hP, hR, hDR, hL, hPT, hO, hOP, hd⟩ := h.2.2.1.1.parts
  refine k_L_law_348 ⟨⟨_, h.1.1⟩, Cal.of (q_errorPosition hl h.1 hD hP hR hDR ri.1 hd) (by decide) (by omega) (by omega) ?_⟩
  rintro o4 A1 hq
  exact law_inner2 hLS (QP.lp h (fun _ => by rw [h.2.2.2.2.2.1]) hq) (r_errorPosition hl ri he) (by decide) (R := fun A b c => G l X M_L_law 40 Q 2023 [(0, .ref (xb X)), (1, .ref t), (2, .ref o), (3, .ref u), (4, .int i)] [] A b c) (fun A' w' S' k => K A' w' S' _ _ k (by omega) (by omega))
theorem law_ticksLeft (hl : l.stackTraces = false) (hLS : LWS X A w o t u S e) (he : e + 8000000 ≤ 2000000000) {i : Int32} (hi : vp_in (i + 1) (xL X) ∧ vp_in (i + 2) (xL X) ∧ vp_in (i + 3) (xL X) ∧ vp_in (i + 4) (xL X) ∧ vp_in (i + 5) (xL X)) {Q : Ot → AH → Prop} {bc bs : Nat} (hb : 60 ≤ bc) (hs : 4000 ≤ bs) (K : ∀ A' w' S' b c, LWS X A' w' o t u S' (e + 3500000) → bc - 60 ≤ b → bs - 4000 ≤ c → G l X M_L_law 40 Q 2023 [(0, .ref (xb X)), (1, .ref t), (2, .ref o), (3, .ref u), (4, .int i)] [] A' b c) : G l X M_L_law 40 Q 1208 [(0, .ref (xb X)), (1, .ref t), (2, .ref o), (3, .ref u), (4, .int i)] [] A bc bs := by
  obtain ⟨⟨V, a, f, c, h⟩, ri, hmp, hOC, hto⟩ := id hLS
  obtain ⟨fs, ho⟩ := hOC.2.2
  have hol : o < A.1 := by have := hOC.1.1; omega
  obtain ⟨p, D, P, la, g, m, hD, hP, hR, hDR, hL, hPT, hO, hOP, hd⟩ := h.2.2.1.1.parts
  refine k_L_law_1208 ⟨⟨_, h.1.1⟩, Cal.of (m_ticksLeft hl h ri ho hto hol he) (by decide) (by omega) (by omega) ?_⟩
  rintro o4 A1 hq
  exact law_inner2 hLS (MP.lp hq) (r_ticksLeft hl ri he) (by decide) (R := fun A b c => G l X M_L_law 40 Q 2023 [(0, .ref (xb X)), (1, .ref t), (2, .ref o), (3, .ref u), (4, .int i)] [] A b c) (fun A' w' S' k => K A' w' S' _ _ k (by omega) (by omega))
theorem law_wrongBytes (hl : l.stackTraces = false) (hLS : LWS X A w o t u S e) (he : e + 8000000 ≤ 2000000000) {i : Int32} (hi : vp_in (i + 1) (xL X) ∧ vp_in (i + 2) (xL X) ∧ vp_in (i + 3) (xL X) ∧ vp_in (i + 4) (xL X) ∧ vp_in (i + 5) (xL X)) {Q : Ot → AH → Prop} {bc bs : Nat} (hb : 60 ≤ bc) (hs : 4000 ≤ bs) (K : ∀ A' w' S' b c, LWS X A' w' o t u S' (e + 3500000) → bc - 60 ≤ b → bs - 4000 ≤ c → G l X M_L_law 40 Q 2023 [(0, .ref (xb X)), (1, .ref t), (2, .ref o), (3, .ref u), (4, .int i)] [] A' b c) : G l X M_L_law 40 Q 1717 [(0, .ref (xb X)), (1, .ref t), (2, .ref o), (3, .ref u), (4, .int i)] [] A bc bs := by
  obtain ⟨⟨V, a, f, c, h⟩, ri, hmp, hOC, hto⟩ := id hLS
  obtain ⟨fs, ho⟩ := hOC.2.2
  have hol : o < A.1 := by have := hOC.1.1; omega
  obtain ⟨p, D, P, la, g, m, hD, hP, hR, hDR, hL, hPT, hO, hOP, hd⟩ := h.2.2.1.1.parts
  refine k_L_law_1717 ⟨⟨_, h.1.1⟩, Cal.of (q_wrongBytes hl h.1 hD hP hR hDR ri.1 hd) (by decide) (by omega) (by omega) ?_⟩
  rintro o4 A1 hq
  exact law_inner2 hLS (QP.lp h (fun _ => rfl) hq) (r_wrongBytes hl ri he) (by decide) (R := fun A b c => G l X M_L_law 40 Q 2023 [(0, .ref (xb X)), (1, .ref t), (2, .ref o), (3, .ref u), (4, .int i)] [] A b c) (fun A' w' S' k => K A' w' S' _ _ k (by omega) (by omega))
theorem law_differingParts (hl : l.stackTraces = false) (hLS : LWS X A w o t u S e) (he : e + 8000000 ≤ 2000000000) {i : Int32} (hi : vp_in (i + 1) (xL X) ∧ vp_in (i + 2) (xL X) ∧ vp_in (i + 3) (xL X) ∧ vp_in (i + 4) (xL X) ∧ vp_in (i + 5) (xL X)) {Q : Ot → AH → Prop} {bc bs : Nat} (hb : 60 ≤ bc) (hs : 4000 ≤ bs) (K : ∀ A' w' S' b c, LWS X A' w' o t u S' (e + 3500000) → bc - 60 ≤ b → bs - 4000 ≤ c → G l X M_L_law 40 Q 2023 [(0, .ref (xb X)), (1, .ref t), (2, .ref o), (3, .ref u), (4, .int i)] [] A' b c) : G l X M_L_law 40 Q 1730 [(0, .ref (xb X)), (1, .ref t), (2, .ref o), (3, .ref u), (4, .int i)] [] A bc bs := by
  obtain ⟨⟨V, a, f, c, h⟩, ri, hmp, hOC, hto⟩ := id hLS
  obtain ⟨fs, ho⟩ := hOC.2.2
  have hol : o < A.1 := by have := hOC.1.1; omega
  obtain ⟨p, D, P, la, g, m, hD, hP, hR, hDR, hL, hPT, hO, hOP, hd⟩ := h.2.2.1.1.parts
  refine k_L_law_1730 ⟨⟨_, h.1.1⟩, Cal.of (q_differingParts hl h.1 hD hP hR hDR ri.1 hd) (by decide) (by omega) (by omega) ?_⟩
  rintro o4 A1 hq
  exact law_inner2 hLS (QP.lp h (fun _ => rfl) hq) (r_differingParts hl ri he) (by decide) (R := fun A b c => G l X M_L_law 40 Q 2023 [(0, .ref (xb X)), (1, .ref t), (2, .ref o), (3, .ref u), (4, .int i)] [] A b c) (fun A' w' S' k => K A' w' S' _ _ k (by omega) (by omega))
theorem law_writeMap (hl : l.stackTraces = false) (hLS : LWS X A w o t u S e) (he : e + 8000000 ≤ 2000000000) {i : Int32} (hi : vp_in (i + 1) (xL X) ∧ vp_in (i + 2) (xL X) ∧ vp_in (i + 3) (xL X) ∧ vp_in (i + 4) (xL X) ∧ vp_in (i + 5) (xL X)) {Q : Ot → AH → Prop} {bc bs : Nat} (hb : 60 ≤ bc) (hs : 4000 ≤ bs) (K : ∀ A' w' S' b c, LWS X A' w' o t u S' (e + 3500000) → bc - 60 ≤ b → bs - 4000 ≤ c → G l X M_L_law 40 Q 2023 [(0, .ref (xb X)), (1, .ref t), (2, .ref o), (3, .ref u), (4, .int i)] [] A' b c) : G l X M_L_law 40 Q 1910 [(0, .ref (xb X)), (1, .ref t), (2, .ref o), (3, .ref u), (4, .int i)] [] A bc bs := by
  obtain ⟨⟨V, a, f, c, h⟩, ri, hmp, hOC, hto⟩ := id hLS
  obtain ⟨fs, ho⟩ := hOC.2.2
  have hol : o < A.1 := by have := hOC.1.1; omega
  obtain ⟨p, D, P, la, g, m, hD, hP, hR, hDR, hL, hPT, hO, hOP, hd⟩ := h.2.2.1.1.parts
  refine k_L_law_1910 ⟨⟨_, h.1.1⟩, Cal.of (m_writeMap hl h ri ho hto hol) (by decide) (by omega) (by omega) ?_⟩
  rintro o4 A1 hq
  exact law_inner2 hLS (MP.lp hq) (r_writeMap hl ri he) (by decide) (R := fun A b c => G l X M_L_law 40 Q 2023 [(0, .ref (xb X)), (1, .ref t), (2, .ref o), (3, .ref u), (4, .int i)] [] A b c) (fun A' w' S' k => K A' w' S' _ _ k (by omega) (by omega))
theorem law_writtenByte (hl : l.stackTraces = false) (hLS : LWS X A w o t u S e) (he : e + 8000000 ≤ 2000000000) {i : Int32} (hi : vp_in (i + 1) (xL X) ∧ vp_in (i + 2) (xL X) ∧ vp_in (i + 3) (xL X) ∧ vp_in (i + 4) (xL X) ∧ vp_in (i + 5) (xL X)) {Q : Ot → AH → Prop} {bc bs : Nat} (hb : 60 ≤ bc) (hs : 4000 ≤ bs) (K : ∀ A' w' S' b c, LWS X A' w' o t u S' (e + 3500000) → bc - 60 ≤ b → bs - 4000 ≤ c → G l X M_L_law 40 Q 2023 [(0, .ref (xb X)), (1, .ref t), (2, .ref o), (3, .ref u), (4, .int i)] [] A' b c) : G l X M_L_law 40 Q 1923 [(0, .ref (xb X)), (1, .ref t), (2, .ref o), (3, .ref u), (4, .int i)] [] A bc bs := by
  obtain ⟨⟨V, a, f, c, h⟩, ri, hmp, hOC, hto⟩ := id hLS
  obtain ⟨fs, ho⟩ := hOC.2.2
  have hol : o < A.1 := by have := hOC.1.1; omega
  obtain ⟨p, D, P, la, g, m, hD, hP, hR, hDR, hL, hPT, hO, hOP, hd⟩ := h.2.2.1.1.parts
  obtain ⟨k1, s1, x1⟩ := I_of (xs X (i + 1).toNatClampNeg)
  refine k_L_law_1923 ⟨hi.1, ?_⟩
  rw [x1]
  have h23 := h.2.2.2.2.2.2.2.1
  have h8 := h.2.2.2.2.2.2.2.2
  have c23 := ri.2.2.2.2.2
  have hc := q_writtenByte hl h.1 hD hP hR hDR ri.1 hd (by rw [h23]; exact c23) s1
  rw [h23] at hc
  refine Cal.of (c_L_writtenByte hl h hto hOC (v := S 8 k1) (by decide) (by decide) (by decide) (n2 bi_b) (hc.mono fun _ _ q => QP.lp h (fun hn => ?_) q)) (by decide) hb hs ?_
  · have hr : 0 ≤ k1 ∧ k1 ≤ S 9 23 - 1 := by
      by_cases hh : 0 ≤ k1 ∧ k1 ≤ S 9 23 - 1
      · exact hh
      · rw [bi_t hh] at hn
        exact absurd hn (by decide)
    rw [h8 k1 hr.1 (by omega)]
  rintro o4 A1 ⟨rfl, hq⟩
  rw [zI_of]
  exact ⟨hi.1, law_inner hl hLS ⟨rfl, hq⟩ (r_writtenByte hl ri he s1) (b2 bi_b) (by decide) (by decide) (R := fun A b c => G l X M_L_law 40 Q 2023 [(0, .ref (xb X)), (1, .ref t), (2, .ref o), (3, .ref u), (4, .int i)] [] A b c) (fun A' w' S' k => K A' w' S' _ _ k (Nat.le_refl _) (Nat.le_refl _))⟩
theorem law_progress (hl : l.stackTraces = false) (hLS : LWS X A w o t u S e) (he : e + 8000000 ≤ 2000000000) {i : Int32} (hi : vp_in (i + 1) (xL X) ∧ vp_in (i + 2) (xL X) ∧ vp_in (i + 3) (xL X) ∧ vp_in (i + 4) (xL X) ∧ vp_in (i + 5) (xL X)) {Q : Ot → AH → Prop} {bc bs : Nat} (hb : 60 ≤ bc) (hs : 4000 ≤ bs) (K : ∀ A' w' S' b c, LWS X A' w' o t u S' (e + 3500000) → bc - 60 ≤ b → bs - 4000 ≤ c → G l X M_L_law 40 Q 2023 [(0, .ref (xb X)), (1, .ref t), (2, .ref o), (3, .ref u), (4, .int i)] [] A' b c) : G l X M_L_law 40 Q 1743 [(0, .ref (xb X)), (1, .ref t), (2, .ref o), (3, .ref u), (4, .int i)] [] A bc bs := by
  obtain ⟨⟨V, a, f, c, h⟩, ri, hmp, hOC, hto⟩ := id hLS
  obtain ⟨fs, ho⟩ := hOC.2.2
  have hol : o < A.1 := by have := hOC.1.1; omega
  obtain ⟨p, D, P, la, g, m, hD, hP, hR, hDR, hL, hPT, hO, hOP, hd⟩ := h.2.2.1.1.parts
  obtain ⟨g1, g2, -⟩ := id ri.1.1
  have hsum := gLen_sum ri.1.1 (gN (S 0)).toNat (by have := gN_b ri.1.1; omega)
  obtain ⟨f1, f2⟩ := f2d_ok (fdiv_nn (a := gPg (S 0)) (b := S 0 0) hsum.2.2 hsum.2.1 g1 g2)
  refine k_L_law_1743 ⟨⟨_, h.1.1⟩, Cal.of (q_progress hl h.1 hD hP hR hDR ri.1 hd fp_ok) (by decide) (by omega) (by omega) ?_⟩
  rintro o4 A1 hq
  obtain ⟨h0, w1, V', a', f', c', ht, v1, v2, v3⟩ := QP.lp (o := o) h (fun _ => rfl) hq
  obtain ⟨⟨o1, o2⟩, ⟨u1, u2, u3, f0, u4⟩, -⟩ := hOC
  have h3 : ∀ b, o ≤ b → b ≤ o + 9 → A1.2 b = A.2 b := fun b b0 b1 => v3 b (by omega) (Or.inr (o2 b b0 b1))
  have e1 := mp_self (A1 := A1) hmp h3
  have ho1 : A1.2 o = some (ob 7 (mfs o (S 9))) := by rw [← e1]; exact mp_o
  rcases h0 with ⟨-, rfl⟩ | ⟨q, -⟩ | ⟨q, -⟩
  · rw [rF_of]
    have hc := c_X6_progress (X := X) (o := o) (B := A1) hl fp_ok ri.1
    unfold Fn at hc
    rw [e1] at hc
    refine ⟨f1, ⟨_, ho1⟩, Cal.of hc (by decide) (Nat.zero_le _) (Nat.zero_le _) ?_⟩
    rintro o9 A6 ⟨rfl, rfl⟩
    rw [rF_of]
    obtain ⟨-, ls⟩ := hLS.next ⟨_, _, _, _, ht⟩ v1 v2 h3 ⟨f0, (v3 u u1 (Or.inr u2)).trans u4⟩ CG_5 ((RI.up (e := e) (e' := e + 3500000) ri (by omega) (by omega)).cg CG_5)
    refine ⟨f1, fun _ => K _ _ _ _ _ ls (by omega) (by omega), fun q => absurd f2 q⟩
  · exact absurd q (by decide)
  · exact absurd q (by decide)
theorem law_con (hl : l.stackTraces = false) (hLS : LWS X A w o t u S e) {A1 : AH} {n v e' : Int} {T : Nat → Int → Int} {o4 : Ot} {M6 : MT} {a6 : List Value} {dR d b2 c3 : Nat} {Q : Ot → AH → Prop} {R : AH → Nat → Nat → Prop} (hq : LQ X A w o t u n (Int32.toInt64 (I (bi (S 0 (14 + v) = 1)))) T o4 A1) (hR : REF l X o dR M6 a6 S n (bi (S 0 (14 + v) = 1)) T e') (hn : 0 ≤ n ∧ n ≤ 2) (hd : dR + 1 ≤ d) (hd1 : 1 ≤ d) (K : ∀ A' w' S', LWS X A' w' o t u S' e' → R A' b2 c3) :
    isO A1 o 7 ∧ Cal l X d b2 c3 M6 (.ref o :: a6) A1 (fun o9 A6 b7 c8 => rI o9 (fun E => Q (.inr E) A6) fun i5 => isO A6 o 7 ∧ Cal l X d b7 c8 M_X6_thrown [.ref o] A6 fun o14 A11 b12 c13 => rI o14 (fun E => Q (.inr E) A11) fun i15 => (i15 = I n → (¬ I n = 0 → R A11 b12 c13) ∧ (I n = 0 → aL X A11 u 0 fun i16 => (i5 = 0 → (lg_cmp i16 0 = 0 → R A11 b12 c13) ∧ (¬ lg_cmp i16 0 = 0 → Q (Ri 0) A11)) ∧ (¬ i5 = 0 → (lg_cmp i16 1 = 0 → R A11 b12 c13) ∧ (¬ lg_cmp i16 1 = 0 → Q (Ri 0) A11)))) ∧ (¬ i15 = I n → Q (Ri 0) A11)) := by
  obtain ⟨-, w1, ht, h1, h2, h3, f0, h4, h5⟩ := hq
  have e1 := mp_self (A1 := A1) hLS.2.2.1 h3
  have ho1 : A1.2 o = some (ob 7 (mfs o (S 9))) := by rw [← e1]; exact mp_o
  have hc := hR A1
  rw [e1] at hc
  refine ⟨⟨_, ho1⟩, Cal.of hc hd (Nat.zero_le _) (Nat.zero_le _) ?_⟩
  rintro o9 A6 ⟨⟨z, rfl, hz⟩, S', rfl, h6, cg, ri⟩
  obtain ⟨-, ls⟩ := hLS.next ht h1 h2 h3 ⟨f0, h4⟩ cg ri
  rw [rI_of]
  refine ⟨⟨_, mp_o⟩, (c_X6_thrown hl).cl0 (by omega) ?_⟩
  rw [rI_of, h6]
  have k := K _ _ _ ls
  refine ⟨fun _ => ⟨fun _ => k, fun q => ?_⟩, fun q => absurd rfl q⟩
  have hn0 : n = 0 := by
    rw [I_n 0, I_eq ⟨by omega, by omega⟩ ⟨by decide, by decide⟩] at q
    exact q
  have u4 := ls.2.2.2.1.2.1
  have e2 : f0 (0 : Int32).toNatClampNeg = f0 0 := rfl
  have bb := bi_b (p := S 0 (14 + v) = 1)
  refine ⟨1, f0, (mp_out u4.2.2.1).trans h4, in_I (z := 0) (by decide) (by decide) (by decide), fun q3 => ⟨fun _ => k, fun q2 => ?_⟩, fun q3 => ⟨fun _ => k, fun q2 => ?_⟩⟩
  · rw [hz hn0, I_n 0, I_eq ⟨by omega, by omega⟩ ⟨by decide, by decide⟩] at q3
    rw [e2, h5 hn0, q3] at q2
    exact absurd ((lg_cmp_eq _ _).mpr (by decide)) q2
  · have q4 : bi (S 0 (14 + v) = 1) = 1 := by
      by_cases hh : bi (S 0 (14 + v) = 1) = 0
      · refine absurd ?_ q3
        rw [hz hn0, hh]
        decide
      · omega
    rw [e2, h5 hn0, q4] at q2
    exact absurd ((lg_cmp_eq _ _).mpr (by decide)) q2
theorem law_connect (hl : l.stackTraces = false) (hLS : LWS X A w o t u S e) (he : e + 8000000 ≤ 2000000000) {i : Int32} (hi : vp_in (i + 1) (xL X) ∧ vp_in (i + 2) (xL X) ∧ vp_in (i + 3) (xL X) ∧ vp_in (i + 4) (xL X) ∧ vp_in (i + 5) (xL X)) {Q : Ot → AH → Prop} {bc bs : Nat} (hb : 60 ≤ bc) (hs : 4000 ≤ bs) (K : ∀ A' w' S' b c, LWS X A' w' o t u S' (e + 3500000) → bc - 60 ≤ b → bs - 4000 ≤ c → G l X M_L_law 40 Q 2023 [(0, .ref (xb X)), (1, .ref t), (2, .ref o), (3, .ref u), (4, .int i)] [] A' b c) : G l X M_L_law 40 Q 825 [(0, .ref (xb X)), (1, .ref t), (2, .ref o), (3, .ref u), (4, .int i)] [] A bc bs := by
  obtain ⟨⟨V, a, f, c, h⟩, ri, hmp, hOC, hto⟩ := id hLS
  obtain ⟨fs, ho⟩ := hOC.2.2
  have hol : o < A.1 := by have := hOC.1.1; omega
  obtain ⟨p, D, P, la, g, m, hD, hP, hR, hDR, hL, hPT, hO, hOP, hd⟩ := h.2.2.1.1.parts
  obtain ⟨k1, s1, x1⟩ := I_of (xs X (i + 1).toNatClampNeg)
  have main : ∀ v : Int, (v = 0 ∧ xs X (i + 2).toNatClampNeg = 0 ∨ v = 1 ∧ ¬ xs X (i + 2).toNatClampNeg = 0) → G l X M_L_law 40 Q 846 [(0, .ref (xb X)), (1, .ref t), (2, .ref o), (3, .ref u), (4, .int i)] [.int (I v), .int (I k1), .ref t] A bc bs := by
    intro v hv
    have v01 : 0 ≤ v ∧ v ≤ 1 := by omega
    refine k_L_law_846 ?_
    refine Cal.of (c_L_connect hl h hto hOC (by have := bi_b (p := S 0 (14 + k1) = 1); omega) (by decide) (by decide) (by decide) ((m_connect hl h ri ho hto hol s1 v01).mono fun _ _ q => MP.lp q)) (by decide) hb hs ?_
    rintro o4 A1 ⟨rfl, hq⟩
    rw [zI_of, x1]
    have inner := law_con hl hLS ⟨rfl, hq⟩ (r_connect hl ri he s1 v01) tCon_b (by decide) (by decide) (Q := Q) (d := 40) (R := fun A b c => G l X M_L_law 40 Q 2023 [(0, .ref (xb X)), (1, .ref t), (2, .ref o), (3, .ref u), (4, .int i)] [] A b c) (fun A' w' S' k => K A' w' S' _ _ k (Nat.le_refl _) (Nat.le_refl _))
    have go : ∀ z : Int, z = v → G l X M_L_law 40 Q 873 [(0, .ref (xb X)), (1, .ref t), (2, .ref o), (3, .ref u), (4, .int i), (5, .int (I (tCon (S 0) k1 v)))] [.int (I z), .int (I k1), .ref o] A1 (bc - 60) (bs - 4000) := by
      rintro z rfl
      refine k_L_law_873 ⟨inner.1, inner.2.mono ?_⟩
      intro o9 A6 b7 c8 h9
      rcases h9 with ⟨i5, rfl, h9⟩ | ⟨E, rfl, h9⟩
      · refine Or.inl ⟨i5, rfl, h9.1, h9.2.mono ?_⟩
        intro o14 A11 b12 c13 h14
        rcases h14 with ⟨i10, rfl, h14⟩ | ⟨E, rfl, h14⟩
        · refine Or.inl ⟨i10, rfl, fun q => ⟨(h14.1 q).1, fun q2 => ?_⟩, h14.2⟩
          obtain ⟨n', f', y1, y2, y3, y4⟩ := (h14.1 q).2 q2
          exact ⟨n', f', y1, y2, fun q3 => k_L_law_907 (y3 q3), fun q3 => k_L_law_907 (y4 q3)⟩
        · exact Or.inr ⟨E, rfl, h14⟩
      · exact Or.inr ⟨E, rfl, h9⟩
    exact ⟨hi.1, hi.2.1, fun q => go 0 (by rcases hv with ⟨a, -⟩ | ⟨-, b⟩; exact a.symm; exact absurd q b), fun q => go 1 (by rcases hv with ⟨-, b⟩ | ⟨a, -⟩; exact absurd b q; exact a.symm)⟩
  refine k_L_law_825 ⟨hi.1, hi.2.1, fun q => ?_, fun q => ?_⟩
  · rw [x1]
    exact main 0 (Or.inl ⟨rfl, q⟩)
  · rw [x1]
    exact main 1 (Or.inr ⟨rfl, q⟩)
end LC
