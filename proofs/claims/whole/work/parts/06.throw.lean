section GT
def xn1 : String := "java/lang/RuntimeException"
def xnr : List String := ["java/lang/Exception"]
theorem xn_fit : Bundle.fit xn1 = true ∧ ∀ n ∈ xnr, Bundle.fit n = true := by decide +kernel
variable {l : Launch} {X : XT} {M : MT} {d : Nat} {Q : Ot → AH → Prop} {pc : Nat} {lv lv' : List (Nat × Value)} {st rest : List Value} {A : AH} {bc bs : Nat}
/-- 'throw new E("text")' in the class own: new at ik, the text is .., its constructor at ic -/
def TO (own : String) (ik is ic : Nat) (E : String) : Prop :=
  ∃ (i : Nat) (tx : String) (ix : Nat) (rx : ByteArray), (decode rx 0 = .ok (.aload_n 0, 1) ∧ decode rx 1 = .ok (.aload_n 1, 1) ∧ decode rx 2 = .ok (.invokespecial ix, 3) ∧ decode rx 5 = .ok (.return_, 1)) ∧ sTab[i]? = some (own, is, tx) ∧ Bundle.fit E = true ∧ Cond.classLink own ik E ∈ AL ∧ Cond.initialized E ∈ AL ∧ (∀ w ∈ nx_at own ic E ix rx xn1 xnr, w ∈ AL ∨ w ∈ NL)
theorem G_throw {ik is ic : Nat} {E : String} (L : TO M.1.cls ik is ic E) (htab : M.2.2.2.2 = []) (d0 : decode M.2.1 pc = .ok (.new ik, 3)) (d3 : decode M.2.1 (pc + 3) = .ok (.dup, 1)) (d4 : decode M.2.1 (pc + 4) = .ok (.ldc is, 2)) (d6 : decode M.2.1 (pc + 6) = .ok (.invokespecial ic, 3)) (d9 : decode M.2.1 (pc + 9) = .ok (.athrow, 1))
    (hcat : (st.map fun v => v.category).sum ≤ 8) (h1 : 1 ≤ bc) (h2 : 6 ≤ bs) (h : ∀ n, A.1 ≤ n → Q (Th E) (n, A.2)) : G l X M d Q pc lv st A bc bs := by
  intro p e R s m args below meth c mc ms H locs cells slots ls S
  obtain ⟨C, hR, hlo, hsz, h3, h4, h5, h6, hl⟩ := S
  obtain ⟨hx, hb, hr, hml, hown, hlocks, htb, hmn, hK, hst, hL0, hfr, hloc⟩ := C
  obtain ⟨i, tx, ix, rx, ⟨y0, y1, y2, y5⟩, g1, g2, g3, g4, g5⟩ := L
  have hn := xn_fit
  have hs : vk_R M.1.cls is tx (xK X i) s := hK.2.2.2.2.2.2.1 i (M.1.cls, is, tx) g1
  refine nx_throwS hx hb hst y0 y1 y2 y5 hown g2 hn.1 hn.2 (AL_at hK g3 _) (AL_at hK g4 _) hs (fun w hw => (g5 w hw).elim (fun h => AL_at hK h _) (fun h => va_Nw.use (NL_ot h) (NL_at hK h))) ?_ (hK.2.2.2.2.1.kept hL0.at) (hK.2.2.2.2.2.1.kept hL0.at) (hL0.S hR.2.1 hsz hlo) (hl.1.trans hml.symm) d0 d3 d4 d6 d9 ?_ ?_ ?_ (by omega) (by omega) hlocks ?_ hlo (by omega) (by omega)
  · intro w hw
    have hg : goodWord w = true ∨ w.onTables = true := by
      rcases List.mem_cons.mp hw with q | q
      · rw [q]; exact Or.inl (List.mem_filter.mp g3).2
      · rcases List.mem_cons.mp q with q | q
        · rw [q]; exact Or.inl (List.mem_filter.mp g4).2
        · exact (g5 w q).elim (fun h => Or.inl (List.mem_filter.mp h).2) (fun h => Or.inr (NL_ot h))
    rcases hg with hg | hg
    · simp [vx_ot, hg]
    · simp [vx_ot, hg]
  · intro x hx
    rw [htb, htab] at hx
    cases hx
  · show 2 + 3 < R.frames
    omega
  · show _ + (13 * (2 + 1) + 43) ≤ R.locals
    omega
  · intro t _ hz hq
    exact ⟨(t.heap.size, A.2), h _ (by rw [← hR.1]; exact hz), hR.grow hz hq, Nat.le_trans hsz hz⟩
theorem G_throwW {ik is ic : Nat} {E : String} (L : TO M.1.cls ik is ic E) (htab : M.2.2.2.2 = []) (d0 : decode M.2.1 pc = .ok (.new ik, 3)) (d3 : decode M.2.1 (pc + 3) = .ok (.dup, 1)) (d4 : decode M.2.1 (pc + 4) = .ok (.ldc_w is, 3)) (d7 : decode M.2.1 (pc + 7) = .ok (.invokespecial ic, 3)) (d10 : decode M.2.1 (pc + 10) = .ok (.athrow, 1))
    (hcat : (st.map fun v => v.category).sum ≤ 8) (h1 : 1 ≤ bc) (h2 : 6 ≤ bs) (h : ∀ n, A.1 ≤ n → Q (Th E) (n, A.2)) : G l X M d Q pc lv st A bc bs := by
  intro p e R s m args below meth c mc ms H locs cells slots ls S
  obtain ⟨C, hR, hlo, hsz, h3, h4, h5, h6, hl⟩ := S
  obtain ⟨hx, hb, hr, hml, hown, hlocks, htb, hmn, hK, hst, hL0, hfr, hloc⟩ := C
  obtain ⟨i, tx, ix, rx, ⟨y0, y1, y2, y5⟩, g1, g2, g3, g4, g5⟩ := L
  have hn := xn_fit
  have hs : vk_R M.1.cls is tx (xK X i) s := hK.2.2.2.2.2.2.1 i (M.1.cls, is, tx) g1
  refine nx_throwSW hx hb hst y0 y1 y2 y5 hown g2 hn.1 hn.2 (AL_at hK g3 _) (AL_at hK g4 _) hs (fun w hw => (g5 w hw).elim (fun h => AL_at hK h _) (fun h => va_Nw.use (NL_ot h) (NL_at hK h))) ?_ (hK.2.2.2.2.1.kept hL0.at) (hK.2.2.2.2.2.1.kept hL0.at) (hL0.S hR.2.1 hsz hlo) (hl.1.trans hml.symm) d0 d3 d4 d7 d10 ?_ ?_ ?_ (by omega) (by omega) hlocks ?_ hlo (by omega) (by omega)
  · intro w hw
    have hg : goodWord w = true ∨ w.onTables = true := by
      rcases List.mem_cons.mp hw with q | q
      · rw [q]; exact Or.inl (List.mem_filter.mp g3).2
      · rcases List.mem_cons.mp q with q | q
        · rw [q]; exact Or.inl (List.mem_filter.mp g4).2
        · exact (g5 w q).elim (fun h => Or.inl (List.mem_filter.mp h).2) (fun h => Or.inr (NL_ot h))
    rcases hg with hg | hg
    · simp [vx_ot, hg]
    · simp [vx_ot, hg]
  · intro x hx
    rw [htb, htab] at hx
    cases hx
  · show 2 + 3 < R.frames
    omega
  · show _ + (13 * (2 + 1) + 43) ≤ R.locals
    omega
  · intro t _ hz hq
    exact ⟨(t.heap.size, A.2), h _ (by rw [← hR.1]; exact hz), hR.grow hz hq, Nat.le_trans hsz hz⟩
end GT
