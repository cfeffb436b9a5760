/-! the texts' length and characters -/
theorem ws_val : Cond.fieldLink "java/lang/String" 9 "java/lang/String" "value" "[B" ∈ AL := by decide +kernel
theorem ws_cod : Cond.fieldLink "java/lang/String" 15 "java/lang/String" "coder" "B" ∈ AL := by decide +kernel
theorem ws_cmp : Cond.fieldLink "java/lang/String" 38 "java/lang/String" "COMPACT_STRINGS" "Z" ∈ AL := by decide +kernel
theorem ws_fmt : Cond.fieldLink "java/lang/String" 1053 "jdk/internal/util/Preconditions" "SIOOBE_FORMATTER" "Ljava/util/function/BiFunction;" ∈ AL := by decide +kernel
theorem lk_J0_335 : LVs RJ0 335 M_J0_coder_7d493 0 := ⟨⟨by decide +kernel, by decide +kernel, by decide +kernel, rfl, by decide +kernel, by decide⟩, by decide +kernel, by decide +kernel, rfl⟩
theorem lk_J0_492 : LVs RJ0 492 M_J0_isLatin1_aae02 0 := ⟨⟨by decide +kernel, by decide +kernel, by decide +kernel, rfl, by decide +kernel, by decide⟩, by decide +kernel, by decide +kernel, rfl⟩
theorem lk_J0_495 : LSt RJ0 495 M_J1_charAt_3b067 2 := ⟨⟨by decide +kernel, by decide +kernel, by decide +kernel, rfl, by decide +kernel, by decide⟩, by decide +kernel⟩
theorem lk_J1_9 : LSt RJ1 9 M_J0_checkIndex_df160 2 := ⟨⟨by decide +kernel, by decide +kernel, by decide +kernel, rfl, by decide +kernel, by decide⟩, by decide +kernel⟩
theorem lk_J0_1059 : LSt RJ0 1059 M_J3_checkIndex_8e157 3 := ⟨⟨by decide +kernel, by decide +kernel, by decide +kernel, rfl, by decide +kernel, by decide⟩, by decide +kernel⟩
def tW : List (List Int) := [[102, 105, 108, 101], [112, 105, 101, 99, 101, 115], [102, 108, 97, 119], [98, 114, 101, 97, 107], [99, 117, 116], [98, 108, 97, 109, 101], [102, 105, 108, 101], [112, 105, 101, 99, 101, 115], [102, 108, 97, 119], [98, 114, 101, 97, 107], [99, 117, 116], [98, 108, 97, 109, 101]]
def tL (i : Nat) : Int := ((tW.getD i []).length : Int)
def tC (i : Nat) (j : Int) : Int := (tW.getD i []).getD j.toNat 0
theorem tL_e : ∀ i, i < 12 → Int32.ofNat (sLen.getD i 0) = I (tL i) := by decide +kernel
theorem tL_n : ∀ i, i < 12 → (sLen.getD i 0 : Int) = tL i := by decide +kernel
theorem tL_b : ∀ i, i < 12 → 3 ≤ tL i ∧ tL i ≤ 6 := by decide +kernel
theorem tC_e : ∀ i, i < 12 → ∀ j : Nat, j < sLen.getD i 0 → (Int32.toUInt32 ((sByt.getD i []).getD j 0 &&& 255) % 65536).toInt32 = I (tC i j) := by decide +kernel
theorem tC_n : ∀ i, i < 12 → ∀ j : Nat, j < sLen.getD i 0 → narrow .char (.int (I (tC i j))) = .int (I (tC i j)) := by decide +kernel
theorem tC_b : ∀ i, i < 12 → ∀ j : Nat, j < sLen.getD i 0 → 97 ≤ tC i j ∧ tC i j ≤ 122 := by decide +kernel
theorem tC_same : ∀ i, i < 6 → tL (i + 6) = tL i ∧ ∀ j : Nat, j < 6 → tC (i + 6) j = tC i j := by decide +kernel
theorem shr0 (x : Int32) : x >>> (0 &&& 31) = x := by
  rw [show (0 &&& 31 : Int32) = 0 by decide]
  exact Int32.shiftRight_zero
section MZJ
variable {l : Launch} {X : XT} {A : AH}
theorem c_J3_checkIndex (hl : l.stackTraces = false) {a b : Int} (h0 : 0 ≤ a) (h1 : a < b) (h2 : b < 2147483648) {r : Option Nat} : Fn l X 0 M_J3_checkIndex_8e157 [.int (I a), .int (I b), va_rf r] A 0 0 (Ri (I a)) A := by
  refine Fn.of hl rfl rfl (by cases r <;> exact Nat.le_of_ble_eq_true rfl) ?_
  have e : lv_args 0 [.int (I a), .int (I b), va_rf r] = [(0, .int (I a)), (1, .int (I b)), (2, va_rf r)] := by cases r <;> rfl
  rw [e]
  refine k_J3_checkIndex_8e157_0 ?_
  simp (disch := omega) only [I_n, I_neg, I_add, I_sub, I_mul, I_le4, I_lt4, I_eq4, I_div4, I_bi0, I_bi01, I_bi1, nor_em, rI_of, rV_of, zI_of, zV_of, nz_and, br_T, br_F, br_T2, br_F2, st_eq, st9_0, st_k, st_i, true_and, and_true, Classical.not_not, mp_isO, mp_gI4, mp_gI5, mp_gI7, mp_gI8, mp_gI9, mp_gI10, mp_gI11, mp_gI12, mp_gI13, mp_gI14, mp_gI15, mp_gI19, mp_gI20, mp_gI21, mp_gI23, mp_pI4, mp_pI5, mp_pI7, mp_pI8, mp_pI9, mp_pI10, mp_pI11, mp_pI12, mp_pI13, mp_pI14, mp_pI15, mp_pI19, mp_pI20, mp_pI21, mp_pI23, mp_gR0, mp_gR1, mp_gR2, mp_gR3, mp_gR6, mp_gR16, mp_gR17, mp_gR18, mp_gR22, mp_aI0, mp_aI1, mp_aI2, mp_aI3, mp_aI4, mp_aI5, mp_aI6, mp_aZ7, mp_aI8, mp_sI0, mp_sI1, mp_sI2, mp_sI3, mp_sI4, mp_sI5, mp_sI6, mp_sI8, mp_sZ0, mp_sZ1]
  all_goals first | rfl | exact ⟨rfl, rfl⟩
theorem c_J0_checkIndex (hl : l.stackTraces = false) {a b : Int} (h0 : 0 ≤ a) (h1 : a < b) (h2 : b < 2147483648) : Fn l X 1 M_J0_checkIndex_df160 [.int (I a), .int (I b)] A 0 0 Rv A := by
  refine Fn.of hl rfl rfl (Nat.le_of_ble_eq_true rfl) ?_
  refine G_iload_n 0 (dk_at dk_J0_checkIndex_df160 0 rfl) rfl ?_
  refine G_iload_n 1 (dk_at dk_J0_checkIndex_df160 1 rfl) rfl ?_
  refine G_gsF rfl ws_fmt (dk_at dk_J0_checkIndex_df160 2 rfl) fun r => ?_
  refine G_callS (As := [.int (I a), .int (I b), va_rf r]) (rest := []) lk_J0_1059 rfl (dk_at dk_J0_checkIndex_df160 3 rfl) rfl rfl (Nat.le_of_ble_eq_true rfl) ((c_J3_checkIndex hl h0 h1 h2).cl0 (by decide) ?_)
  change G l X M_J0_checkIndex_df160 1 _ _ _ _ _ _ _
  refine G_pop (dk_at dk_J0_checkIndex_df160 4 rfl) rfl ?_
  exact G_vret rfl (dk_at dk_J0_checkIndex_df160 5 rfl) ⟨rfl, rfl⟩
theorem c_J0_coder (hl : l.stackTraces = false) {i : Nat} (hi : i < 12) : Fn l X 0 M_J0_coder_7d493 [.ref (xK X i)] A 0 0 (Ri 0) A := by
  refine Fn.of hl rfl rfl (Nat.le_of_ble_eq_true rfl) ?_
  refine G_gsC rfl ws_cmp (dk_at dk_J0_coder_7d493 0 rfl) ?_
  refine G_if_eq (tgt := 13) (dk_at dk_J0_coder_7d493 1 rfl) (by decide) (fun c => absurd c (by decide)) (fun c => ?_)
  refine G_aload_n 0 (dk_at dk_J0_coder_7d493 2 rfl) rfl ?_
  refine G_scod hi rfl ws_cod (dk_at dk_J0_coder_7d493 3 rfl) ?_
  refine G_goto (tgt := 14) (dk_at dk_J0_coder_7d493 4 rfl) (by decide) ?_
  exact G_iret (ty := .byte) rfl rfl (dk_at dk_J0_coder_7d493 6 rfl) ⟨rfl, rfl⟩
theorem c_J0_isLatin1 (hl : l.stackTraces = false) {i : Nat} (hi : i < 12) : Fn l X 0 M_J0_isLatin1_aae02 [.ref (xK X i)] A 0 0 (Ri 1) A := by
  refine Fn.of hl rfl rfl (Nat.le_of_ble_eq_true rfl) ?_
  refine G_gsC rfl ws_cmp (dk_at dk_J0_isLatin1_aae02 0 rfl) ?_
  refine G_if_eq (tgt := 17) (dk_at dk_J0_isLatin1_aae02 1 rfl) (by decide) (fun c => absurd c (by decide)) (fun c => ?_)
  refine G_aload_n 0 (dk_at dk_J0_isLatin1_aae02 2 rfl) rfl ?_
  refine G_scod hi rfl ws_cod (dk_at dk_J0_isLatin1_aae02 3 rfl) ?_
  refine G_if_ne (tgt := 17) (dk_at dk_J0_isLatin1_aae02 4 rfl) (by decide) (fun c => absurd rfl c) (fun c => ?_)
  refine G_iconst (v := 1) (dk_at dk_J0_isLatin1_aae02 5 rfl) (by decide) ?_
  refine G_goto (tgt := 18) (dk_at dk_J0_isLatin1_aae02 6 rfl) (by decide) ?_
  exact G_iret (ty := .boolean) rfl rfl (dk_at dk_J0_isLatin1_aae02 8 rfl) ⟨rfl, rfl⟩
theorem c_J0_length (hl : l.stackTraces = false) {i : Nat} (hi : i < 12) : Fn l X 1 M_J0_length_8abf5 [.ref (xK X i)] A 0 0 (Ri (I (tL i))) A := by
  refine Fn.of hl rfl rfl (Nat.le_of_ble_eq_true rfl) ?_
  refine G_aload_n 0 (dk_at dk_J0_length_8abf5 0 rfl) rfl ?_
  refine G_sval hi rfl ws_val (dk_at dk_J0_length_8abf5 1 rfl) ?_
  refine G_slenB hi (tL_e i hi) (dk_at dk_J0_length_8abf5 2 rfl) ?_
  refine G_aload_n 0 (dk_at dk_J0_length_8abf5 3 rfl) rfl ?_
  refine G_callVs (As := []) (rest := [.int (I (tL i))]) hi lk_J0_335 (dk_at dk_J0_length_8abf5 4 rfl) rfl rfl (Nat.le_of_ble_eq_true rfl) ((c_J0_coder hl hi).cl0 (by decide) ?_)
  change G l X M_J0_length_8abf5 1 _ _ _ _ _ _ _
  refine G_ishr (dk_at dk_J0_length_8abf5 5 rfl) ?_
  rw [shr0]
  exact G_iret (ty := .int) rfl rfl (dk_at dk_J0_length_8abf5 6 rfl) ⟨rfl, rfl⟩
theorem c_J1_charAt (hl : l.stackTraces = false) {i : Nat} (hi : i < 12) {j : Nat} (hj : j < sLen.getD i 0) : Fn l X 2 M_J1_charAt_3b067 [.ref (xV X i), .int (I j)] A 0 0 (Ri (I (tC i j))) A := by
  have hn := tL_n i hi
  have hb := tL_b i hi
  have hin : vp_in (I j) (sLen.getD i 0) := in_I (by omega) (by omega) (by omega)
  have hcl : (I (j : Int)).toNatClampNeg = j := by rw [cl_I ⟨by omega, by omega⟩]; omega
  refine Fn.of hl rfl rfl (Nat.le_of_ble_eq_true rfl) ?_
  refine G_iload_n 1 (dk_at dk_J1_charAt_3b067 0 rfl) rfl ?_
  refine G_aload_n 0 (dk_at dk_J1_charAt_3b067 1 rfl) rfl ?_
  refine G_slenB hi (tL_e i hi) (dk_at dk_J1_charAt_3b067 2 rfl) ?_
  refine G_callS (As := [.int (I j), .int (I (tL i))]) (rest := []) lk_J1_9 rfl (dk_at dk_J1_charAt_3b067 3 rfl) rfl rfl (Nat.le_of_ble_eq_true rfl) ((c_J0_checkIndex hl (by omega) (by omega) (by omega)).cl0 (by decide) ?_)
  change G l X M_J1_charAt_3b067 2 _ _ _ _ _ _ _
  refine G_aload_n 0 (dk_at dk_J1_charAt_3b067 4 rfl) rfl ?_
  refine G_iload_n 1 (dk_at dk_J1_charAt_3b067 5 rfl) rfl ?_
  refine G_sbald hi hin (dk_at dk_J1_charAt_3b067 6 rfl) ?_
  refine G_sipush (v := 255) (dk_at dk_J1_charAt_3b067 7 rfl) (by decide) ?_
  refine G_iand (dk_at dk_J1_charAt_3b067 8 rfl) ?_
  refine G_i2c (dk_at dk_J1_charAt_3b067 9 rfl) rfl ?_
  rw [hcl, tC_e i hi j hj]
  exact G_iret (ty := .char) rfl (tC_n i hi j hj) (dk_at dk_J1_charAt_3b067 10 rfl) ⟨rfl, rfl⟩
theorem c_J0_charAt (hl : l.stackTraces = false) {i : Nat} (hi : i < 12) {j : Int} (h0 : 0 ≤ j) (h1 : j < tL i) : Fn l X 3 M_J0_charAt_5068e [.ref (xK X i), .int (I j)] A 0 0 (Ri (I (tC i j))) A := by
  have hn := tL_n i hi
  have hb := tL_b i hi
  have hj : j.toNat < sLen.getD i 0 := by omega
  have e : j = ((j.toNat : Nat) : Int) := by omega
  rw [e]
  refine Fn.of hl rfl rfl (Nat.le_of_ble_eq_true rfl) ?_
  refine G_aload_n 0 (dk_at dk_J0_charAt_5068e 0 rfl) rfl ?_
  refine G_callVs (As := []) (rest := []) hi lk_J0_492 (dk_at dk_J0_charAt_5068e 1 rfl) rfl rfl (Nat.le_of_ble_eq_true rfl) ((c_J0_isLatin1 hl hi).cl0 (by decide) ?_)
  change G l X M_J0_charAt_5068e 3 _ _ _ _ _ _ _
  refine G_if_eq (tgt := 16) (dk_at dk_J0_charAt_5068e 2 rfl) (by decide) (fun c => absurd c (by decide)) (fun c => ?_)
  refine G_aload_n 0 (dk_at dk_J0_charAt_5068e 3 rfl) rfl ?_
  refine G_sval hi rfl ws_val (dk_at dk_J0_charAt_5068e 4 rfl) ?_
  refine G_iload_n 1 (dk_at dk_J0_charAt_5068e 5 rfl) rfl ?_
  refine G_callS (As := [.ref (xV X i), .int (I ((j.toNat : Nat) : Int))]) (rest := []) lk_J0_495 rfl (dk_at dk_J0_charAt_5068e 6 rfl) rfl rfl (Nat.le_of_ble_eq_true rfl) ((c_J1_charAt hl hi hj).cl0 (by decide) ?_)
  change G l X M_J0_charAt_5068e 3 _ _ _ _ _ _ _
  exact G_iret (ty := .char) rfl (tC_n i hi _ hj) (dk_at dk_J0_charAt_5068e 7 rfl) ⟨rfl, rfl⟩
end MZJ
