/-! the quotients of a progress: numbers -/
def fOk (k : Nat) : Bool := match FP.Core.decode FP.Core.b32 (FP.i2f (I (k : Int))).toNat with
  | .fin _ c _ => k == 0 || c != 0
  | _ => false
theorem fOk_all : ∀ k : Fin 241, fOk k.1 = true := by decide +kernel
theorem fOk_of {z : Int} (h0 : 0 ≤ z) (h1 : z ≤ 240) : ∃ s c q, FP.Core.val32 (FP.i2f (I z)) = .fin s c q ∧ (z ≠ 0 → c ≠ 0) := by
  have k := fOk_all ⟨z.toNat, by omega⟩
  unfold fOk at k
  rw [show ((z.toNat : Nat) : Int) = z by omega] at k
  show ∃ s c q, FP.Core.decode FP.Core.b32 (FP.i2f (I z)).toNat = .fin s c q ∧ (z ≠ 0 → c ≠ 0)
  revert k
  cases FP.Core.decode FP.Core.b32 (FP.i2f (I z)).toNat with
  | nan => intro k; exact absurd k Bool.false_ne_true
  | inf s => intro k; exact absurd k Bool.false_ne_true
  | fin s c q =>
    intro k
    refine ⟨s, c, q, rfl, fun hz hc => ?_⟩
    rw [hc] at k
    simp at k
    omega
theorem settle_nn {f : FP.Core.Fmt} {s : Bool} {c : Nat} {q : Int} : FP.Core.settle f s c q ≠ .nan := by
  unfold FP.Core.settle FP.Core.bound
  split
  · split <;> simp
  · split <;> simp
theorem ratio_nn {f : FP.Core.Fmt} {s : Bool} {a b : Nat} {q : Int} : FP.Core.roundRatio f s a b q ≠ .nan := by
  unfold FP.Core.roundRatio
  split
  · simp
  · exact settle_nn
theorem round_nn {f : FP.Core.Fmt} {d : FP.Core.Datum} (h : d ≠ .nan) : FP.Core.round f d ≠ .nan := by
  cases d with
  | nan => exact absurd rfl h
  | inf s => simp [FP.Core.round]
  | fin s c q => exact ratio_nn
theorem n32_of {x : UInt32} (h : FP.Core.val32 x ≠ .nan) : vf_n32 x := by
  have e : (x &&& 0x7fffffff).toNat = x.toNat % 2 ^ 31 := by
    rw [UInt32.toNat_and, show (0x7fffffff : UInt32).toNat = 2 ^ 31 - 1 from rfl, Nat.and_two_pow_sub_one_eq_mod]
  unfold vf_n32
  rw [UInt32.le_iff_toNat_le, e, show (0x7f800000 : UInt32).toNat = 2139095040 from rfl]
  by_cases hn : x.toNat % 2 ^ 31 ≤ 2139095040
  · exact hn
  · refine absurd ?_ h
    have e1 : FP.Core.fieldE FP.Core.b32 x.toNat = FP.Core.b32.exps - 1 := by
      show x.toNat / 2 ^ 23 % 2 ^ 8 = 2 ^ 8 - 1
      omega
    have e2 : ¬ FP.Core.fieldT FP.Core.b32 x.toNat = 0 := by
      show ¬ x.toNat % 2 ^ 23 = 0
      omega
    unfold FP.Core.val32 FP.Core.decode
    rw [if_pos e1, if_neg e2]
theorem n64_of {x : UInt64} (h : FP.Core.val64 x ≠ .nan) : vf_n64 x := by
  have e : (x &&& 0x7fffffffffffffff).toNat = x.toNat % 2 ^ 63 := by
    rw [UInt64.toNat_and, show (0x7fffffffffffffff : UInt64).toNat = 2 ^ 63 - 1 from rfl, Nat.and_two_pow_sub_one_eq_mod]
  unfold vf_n64
  rw [UInt64.le_iff_toNat_le, e, show (0x7ff0000000000000 : UInt64).toNat = 9218868437227405312 from rfl]
  by_cases hn : x.toNat % 2 ^ 63 ≤ 9218868437227405312
  · exact hn
  · refine absurd ?_ h
    have e1 : FP.Core.fieldE FP.Core.b64 x.toNat = FP.Core.b64.exps - 1 := by
      show x.toNat / 2 ^ 52 % 2 ^ 11 = 2 ^ 11 - 1
      omega
    have e2 : ¬ FP.Core.fieldT FP.Core.b64 x.toNat = 0 := by
      show ¬ x.toNat % 2 ^ 52 = 0
      omega
    unfold FP.Core.val64 FP.Core.decode
    rw [if_pos e1, if_neg e2]
theorem fdiv_nn {a b : Int} (h0 : 0 ≤ a) (h1 : a ≤ b) (h2 : 1 ≤ b) (h3 : b ≤ 240) : FP.Core.val32 (FP.fdiv (FP.i2f (I a)) (FP.i2f (I b))) ≠ .nan := by
  obtain ⟨s, c, q, e1, -⟩ := fOk_of h0 (show a ≤ 240 by omega)
  obtain ⟨s', c', q', e2, n2⟩ := fOk_of (show 0 ≤ b by omega) h3
  have e : FP.Core.val32 (FP.fdiv (FP.i2f (I a)) (FP.i2f (I b))) = FP.Core.quotient FP.Core.b32 (FP.Core.val32 (FP.i2f (I a))) (FP.Core.val32 (FP.i2f (I b))) := FP.Core.val32_fdiv _ _
  rw [e, e1, e2]
  have hc := n2 (by omega)
  show (if c' = 0 then _ else _) ≠ FP.Core.Datum.nan
  rw [if_neg hc]
  exact ratio_nn
theorem f2d_ok {x : UInt32} (h : FP.Core.val32 x ≠ .nan) : vf_n64 (FP.f2d x) ∧ Op.cmpValue (FP.dcmp (FP.f2d x) (FP.f2d x)) CmpOp.l = 0 := by
  have e1 : FP.Core.fIsNaN x = false := by
    show decide (FP.Core.decode FP.Core.b32 x.toNat = .nan) = false
    exact decide_eq_false h
  have e2 : FP.f2d x = FP.Core.f2d x := by
    unfold FP.f2d
    rw [e1]
    rfl
  have e3 : FP.Core.val64 (FP.f2d x) ≠ .nan := by
    rw [e2, FP.Core.val64_f2d]
    exact round_nn h
  refine ⟨n64_of e3, ?_⟩
  have cs : ∀ z : Int, compare z z = .eq := fun z => by simp
  have e4 : FP.dcmp (FP.f2d x) (FP.f2d x) = some .eq := by
    show FP.Core.order (FP.Core.val64 (FP.f2d x)) (FP.Core.val64 (FP.f2d x)) = some .eq
    revert e3
    cases FP.Core.val64 (FP.f2d x) with
    | nan => intro e3; exact absurd rfl e3
    | inf s => intro _; exact congrArg some (cs _)
    | fin s c q => intro _; exact congrArg some (cs _)
  rw [e4]
  rfl
