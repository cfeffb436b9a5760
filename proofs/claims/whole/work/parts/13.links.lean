/-! the links: what the tables say of each constant (laid by wip/whole/gen) -/
theorem tsw_out {x : Int32} {n : Nat} (h : ∀ k : Nat, k ≤ n → ¬ x = Int32.ofNat k) : x.toInt < 0 ∨ (n : Int) < x.toInt := by
  by_cases h0 : x.toInt < 0
  · exact Or.inl h0
  · refine Or.inr (Int.not_le.mp fun h1 => h x.toInt.toNat (by omega) ?_)
    apply Int32.toInt_inj.mp
    have h2 := Int32.toInt_lt x
    rw [Int32.toInt_ofNat_of_lt (by omega)]
    omega
theorem ca_P : Cond.castable "PieceTransfer$Partial" "java/lang/Object" ∈ NL := by decide +kernel
theorem wo_1 : Cond.instanceMethod Lib.objectInit ∈ AL := by decide +kernel
theorem wo_2 : Cond.code Lib.objectInit ⟨#[0xb1]⟩ 1 none ∈ AL := by decide +kernel
theorem wm_min1 : Cond.static Lib.Math.min.name ∈ AL := by decide +kernel
theorem wm_min3 : Cond.code Lib.Math.min.name Lib.Math.min.code 2 (some .int) ∈ AL := by decide +kernel
theorem wm_max1 : Cond.static Lib.Math.max.name ∈ AL := by decide +kernel
theorem wm_max3 : Cond.code Lib.Math.max.name Lib.Math.max.code 2 (some .int) ∈ AL := by decide +kernel
theorem wm_2 : Cond.initialized "java/lang/Math" ∈ AL := by decide +kernel
theorem wa_i : Cond.arrayClass .int ∈ AL := by decide +kernel
theorem wa_z : Cond.arrayClass .boolean ∈ AL := by decide +kernel
theorem wa_l : Cond.arrayClass .long ∈ AL := by decide +kernel
theorem wd_0 : Cond.methodLink RJxa1e45 1 Lib.objectInit ∈ AL := by decide +kernel
theorem wd_1 : Cond.fieldLink "java/util/ArrayList" 39 "java/util/ArrayList" "DEFAULTCAPACITY_EMPTY_ELEMENTDATA" "[Ljava/lang/Object;" ∈ AL := by decide +kernel
theorem wd_2 : Cond.methodLink RJx4a65c 79 Lib.Math.max.name ∈ AL := by decide +kernel
theorem wd_3 : Cond.classLink RJx4a65c 7 "java/lang/Object" ∈ AL := by decide +kernel
theorem wd_4 : Cond.methodLink RJ7 304 Lib.Math.min.name ∈ AL := by decide +kernel
theorem wd_5 : Cond.classLink RJ7 317 "[I" ∈ AL := by decide +kernel
theorem wd_6 : Cond.methodLink RX0 3 Lib.objectInit ∈ AL := by decide +kernel
theorem wd_7 : Cond.methodLink RX0 29 Lib.Math.min.name ∈ AL := by decide +kernel
theorem wd_8 : Cond.methodLink RX2 1 Lib.objectInit ∈ AL := by decide +kernel
theorem wd_9 : Cond.methodLink RX3 3 Lib.objectInit ∈ AL := by decide +kernel
theorem wd_10 : Cond.methodLink RX3 65 Lib.Math.min.name ∈ AL := by decide +kernel
theorem wd_11 : Cond.methodLink RX1 3 Lib.objectInit ∈ AL := by decide +kernel
theorem wd_12 : Cond.classLink RX1 101 "PieceTransfer$Partial" ∈ AL := by decide +kernel
theorem wd_13 : Cond.methodLink RX1 250 Lib.Math.max.name ∈ AL := by decide +kernel
theorem wd_14 : Cond.methodLink RX4 3 Lib.objectInit ∈ AL := by decide +kernel
theorem wd_15 : Cond.constant RX4 125 100000 ∈ AL := by decide +kernel
theorem wd_16 : Cond.methodLink RX4 126 Lib.Math.min.name ∈ AL := by decide +kernel
theorem wd_17 : Cond.methodLink RX5 1 Lib.objectInit ∈ AL := by decide +kernel
theorem wd_18 : Cond.classLink RX5 26 "PieceTransfer$Download" ∈ AL := by decide +kernel
theorem wd_19 : Cond.classLink RX5 273 "PieceTransfer$Partial" ∈ AL := by decide +kernel
theorem wd_20 : Cond.classLink RX5 294 "[I" ∈ AL := by decide +kernel
theorem wd_21 : Cond.methodLink RX5 347 Lib.Math.min.name ∈ AL := by decide +kernel
theorem wd_22 : Cond.methodLink RX6 1 Lib.objectInit ∈ AL := by decide +kernel
theorem wd_23 : Cond.classLink RL 13 "java/lang/IllegalStateException" ∈ AL := by decide +kernel
theorem wd_24 : Cond.castable "java/lang/IllegalStateException" "java/lang/IllegalStateException" ∈ NL := by decide +kernel
theorem wd_25 : Cond.classLink RL 19 "java/lang/IllegalArgumentException" ∈ AL := by decide +kernel
theorem wd_26 : Cond.castable "java/lang/IllegalArgumentException" "java/lang/IllegalArgumentException" ∈ NL := by decide +kernel
theorem wd_27 : Cond.classLink RL 28 "java/lang/IndexOutOfBoundsException" ∈ AL := by decide +kernel
theorem wd_28 : Cond.castable "java/lang/IndexOutOfBoundsException" "java/lang/IndexOutOfBoundsException" ∈ NL := by decide +kernel
theorem wd_29 : Cond.classLink RL 59 "java/util/NoSuchElementException" ∈ AL := by decide +kernel
theorem wd_30 : Cond.castable "java/util/NoSuchElementException" "java/util/NoSuchElementException" ∈ NL := by decide +kernel
theorem uw_0 : ∀ w ∈ u_ws RJx4a65c TJx4a65c 3, w ∈ AL := by decide +kernel
def df_0 : List Value := [.int 0, .null, .int 0]
theorem uw_1 : ∀ w ∈ u_ws RX0 TX0 4, w ∈ AL := by decide +kernel
def df_1 : List Value := [.null, .null, .null, .int 0]
theorem uw_2 : ∀ w ∈ u_ws RX1 TX1 17, w ∈ AL := by decide +kernel
def df_2 : List Value := [.null, .null, .null, .null, .null, .int 0, .int 0, .int 0, .int 0, .int 0, .int 0, .null, .null, .null, .int 0, .null, .null]
theorem uw_3 : ∀ w ∈ u_ws RX2 TX2 2, w ∈ AL := by decide +kernel
def df_3 : List Value := [.int 0, .null]
theorem uw_4 : ∀ w ∈ u_ws RX3 TX3 16, w ∈ AL := by decide +kernel
def df_4 : List Value := [.int 0, .int 0, .int 0, .int 0, .null, .null, .null, .null, .null, .null, .null, .null, .null, .int 0, .null, .int 0]
theorem uw_5 : ∀ w ∈ u_ws RX4 TX4 6, w ∈ AL := by decide +kernel
def df_5 : List Value := [.null, .int 0, .int 0, .int 0, .int 0, .int 0]
theorem uw_6 : ∀ w ∈ u_ws RX5 TX5 10, w ∈ AL := by decide +kernel
def df_6 : List Value := [.null, .int 0, .int 0, .null, .int 0, .null, .null, .int 0, .int 0, .null]
theorem uw_7 : ∀ w ∈ u_ws RX6 TX6 24, w ∈ AL := by decide +kernel
def df_7 : List Value := [.null, .null, .null, .null, .int 0, .int 0, .null, .int 0, .int 0, .int 0, .int 0, .int 0, .int 0, .int 0, .int 0, .int 0, .null, .null, .null, .int 0, .int 0, .int 0, .null, .int 0]
theorem gf_Jx4a65c_9 : GF RJx4a65c 9 0 1 := GF.of (ref := "java/util/ArrayList") (C := RJx4a65c) (T := TJx4a65c) (N := 3) uw_0 rfl (by decide) (by decide +kernel) (Or.inl rfl)
theorem gf_Jx4a65c_48 : GF RJx4a65c 48 0 2 := GF.of (ref := "java/util/ArrayList") (C := RJx4a65c) (T := TJx4a65c) (N := 3) uw_0 rfl (by decide) (by decide +kernel) (Or.inl rfl)
theorem gf_Jx4a65c_63 : GF RJx4a65c 63 0 0 := GF.of (ref := "java/util/ArrayList") (C := RJx4a65c) (T := TJx4a65c) (N := 3) uw_0 rfl (by decide) (by decide +kernel) (Or.inr (by decide +kernel))
theorem gf_X0_21 : GF RX0 21 1 3 := GF.of (ref := "PieceTransfer$Audit") (C := RX0) (T := TX0) (N := 4) uw_1 rfl (by decide) (by decide +kernel) (Or.inl rfl)
theorem gf_X0_9 : GF RX0 9 1 0 := GF.of (ref := "PieceTransfer$Audit") (C := RX0) (T := TX0) (N := 4) uw_1 rfl (by decide) (by decide +kernel) (Or.inl rfl)
theorem gf_X0_15 : GF RX0 15 1 1 := GF.of (ref := "PieceTransfer$Audit") (C := RX0) (T := TX0) (N := 4) uw_1 rfl (by decide) (by decide +kernel) (Or.inl rfl)
theorem gf_X0_18 : GF RX0 18 1 2 := GF.of (ref := "PieceTransfer$Audit") (C := RX0) (T := TX0) (N := 4) uw_1 rfl (by decide) (by decide +kernel) (Or.inl rfl)
theorem gf_X3_21 : GF RX3 21 4 4 := GF.of (ref := "PieceTransfer$Plan") (C := RX3) (T := TX3) (N := 16) uw_4 rfl (by decide) (by decide +kernel) (Or.inl rfl)
theorem gf_X3_25 : GF RX3 25 4 5 := GF.of (ref := "PieceTransfer$Plan") (C := RX3) (T := TX3) (N := 16) uw_4 rfl (by decide) (by decide +kernel) (Or.inl rfl)
theorem gf_X3_31 : GF RX3 31 4 7 := GF.of (ref := "PieceTransfer$Plan") (C := RX3) (T := TX3) (N := 16) uw_4 rfl (by decide) (by decide +kernel) (Or.inl rfl)
theorem gf_X3_15 : GF RX3 15 4 2 := GF.of (ref := "PieceTransfer$Plan") (C := RX3) (T := TX3) (N := 16) uw_4 rfl (by decide) (by decide +kernel) (Or.inl rfl)
theorem gf_X3_34 : GF RX3 34 4 8 := GF.of (ref := "PieceTransfer$Plan") (C := RX3) (T := TX3) (N := 16) uw_4 rfl (by decide) (by decide +kernel) (Or.inl rfl)
theorem gf_X3_18 : GF RX3 18 4 3 := GF.of (ref := "PieceTransfer$Plan") (C := RX3) (T := TX3) (N := 16) uw_4 rfl (by decide) (by decide +kernel) (Or.inl rfl)
theorem gf_X3_37 : GF RX3 37 4 9 := GF.of (ref := "PieceTransfer$Plan") (C := RX3) (T := TX3) (N := 16) uw_4 rfl (by decide) (by decide +kernel) (Or.inl rfl)
theorem gf_X3_28 : GF RX3 28 4 6 := GF.of (ref := "PieceTransfer$Plan") (C := RX3) (T := TX3) (N := 16) uw_4 rfl (by decide) (by decide +kernel) (Or.inl rfl)
theorem gf_X3_40 : GF RX3 40 4 10 := GF.of (ref := "PieceTransfer$Plan") (C := RX3) (T := TX3) (N := 16) uw_4 rfl (by decide) (by decide +kernel) (Or.inl rfl)
theorem gf_X3_43 : GF RX3 43 4 11 := GF.of (ref := "PieceTransfer$Plan") (C := RX3) (T := TX3) (N := 16) uw_4 rfl (by decide) (by decide +kernel) (Or.inl rfl)
theorem gf_X3_46 : GF RX3 46 4 12 := GF.of (ref := "PieceTransfer$Plan") (C := RX3) (T := TX3) (N := 16) uw_4 rfl (by decide) (by decide +kernel) (Or.inl rfl)
theorem gf_X3_49 : GF RX3 49 4 13 := GF.of (ref := "PieceTransfer$Plan") (C := RX3) (T := TX3) (N := 16) uw_4 rfl (by decide) (by decide +kernel) (Or.inl rfl)
theorem gf_X3_52 : GF RX3 52 4 14 := GF.of (ref := "PieceTransfer$Plan") (C := RX3) (T := TX3) (N := 16) uw_4 rfl (by decide) (by decide +kernel) (Or.inl rfl)
theorem gf_X3_55 : GF RX3 55 4 15 := GF.of (ref := "PieceTransfer$Plan") (C := RX3) (T := TX3) (N := 16) uw_4 rfl (by decide) (by decide +kernel) (Or.inl rfl)
theorem gf_X1_43 : GF RX1 43 2 11 := GF.of (ref := "PieceTransfer$Download") (C := RX1) (T := TX1) (N := 17) uw_2 rfl (by decide) (by decide +kernel) (Or.inl rfl)
theorem gf_X1_46 : GF RX1 46 2 12 := GF.of (ref := "PieceTransfer$Download") (C := RX1) (T := TX1) (N := 17) uw_2 rfl (by decide) (by decide +kernel) (Or.inl rfl)
theorem gf_X1_49 : GF RX1 49 2 13 := GF.of (ref := "PieceTransfer$Download") (C := RX1) (T := TX1) (N := 17) uw_2 rfl (by decide) (by decide +kernel) (Or.inl rfl)
theorem gf_X1_59 : GF RX1 59 2 15 := GF.of (ref := "PieceTransfer$Download") (C := RX1) (T := TX1) (N := 17) uw_2 rfl (by decide) (by decide +kernel) (Or.inl rfl)
theorem gf_X1_66 : GF RX1 66 2 16 := GF.of (ref := "PieceTransfer$Download") (C := RX1) (T := TX1) (N := 17) uw_2 rfl (by decide) (by decide +kernel) (Or.inl rfl)
theorem gf_X1_70 : GF RX1 70 2 0 := GF.of (ref := "PieceTransfer$Download") (C := RX1) (T := TX1) (N := 17) uw_2 rfl (by decide) (by decide +kernel) (Or.inl rfl)
theorem gf_X1_24 : GF RX1 24 2 5 := GF.of (ref := "PieceTransfer$Download") (C := RX1) (T := TX1) (N := 17) uw_2 rfl (by decide) (by decide +kernel) (Or.inl rfl)
theorem gf_X1_28 : GF RX1 28 2 6 := GF.of (ref := "PieceTransfer$Download") (C := RX1) (T := TX1) (N := 17) uw_2 rfl (by decide) (by decide +kernel) (Or.inl rfl)
theorem gf_X1_31 : GF RX1 31 2 7 := GF.of (ref := "PieceTransfer$Download") (C := RX1) (T := TX1) (N := 17) uw_2 rfl (by decide) (by decide +kernel) (Or.inl rfl)
theorem gf_X1_34 : GF RX1 34 2 8 := GF.of (ref := "PieceTransfer$Download") (C := RX1) (T := TX1) (N := 17) uw_2 rfl (by decide) (by decide +kernel) (Or.inl rfl)
theorem gf_X1_37 : GF RX1 37 2 9 := GF.of (ref := "PieceTransfer$Download") (C := RX1) (T := TX1) (N := 17) uw_2 rfl (by decide) (by decide +kernel) (Or.inl rfl)
theorem gf_X1_40 : GF RX1 40 2 10 := GF.of (ref := "PieceTransfer$Download") (C := RX1) (T := TX1) (N := 17) uw_2 rfl (by decide) (by decide +kernel) (Or.inl rfl)
theorem gf_X1_52 : GF RX1 52 2 14 := GF.of (ref := "PieceTransfer$Download") (C := RX1) (T := TX1) (N := 17) uw_2 rfl (by decide) (by decide +kernel) (Or.inl rfl)
theorem gf_X1_9 : GF RX1 9 2 1 := GF.of (ref := "PieceTransfer$Download") (C := RX1) (T := TX1) (N := 17) uw_2 rfl (by decide) (by decide +kernel) (Or.inl rfl)
theorem gf_X1_15 : GF RX1 15 2 2 := GF.of (ref := "PieceTransfer$Download") (C := RX1) (T := TX1) (N := 17) uw_2 rfl (by decide) (by decide +kernel) (Or.inl rfl)
theorem gf_X1_18 : GF RX1 18 2 3 := GF.of (ref := "PieceTransfer$Download") (C := RX1) (T := TX1) (N := 17) uw_2 rfl (by decide) (by decide +kernel) (Or.inl rfl)
theorem gf_X1_21 : GF RX1 21 2 4 := GF.of (ref := "PieceTransfer$Download") (C := RX1) (T := TX1) (N := 17) uw_2 rfl (by decide) (by decide +kernel) (Or.inl rfl)
theorem gf_X1_115 : GF RX1 115 4 2 := GF.nest (C := RX3) (T := TX3) (N := 16) (host := "PieceTransfer") uw_4 rfl (by decide) (by decide +kernel)
theorem gf_X1_120 : GF RX1 120 4 3 := GF.nest (C := RX3) (T := TX3) (N := 16) (host := "PieceTransfer") uw_4 rfl (by decide) (by decide +kernel)
theorem gf_X1_127 : GF RX1 127 4 4 := GF.nest (C := RX3) (T := TX3) (N := 16) (host := "PieceTransfer") uw_4 rfl (by decide) (by decide +kernel)
theorem gf_X1_192 : GF RX1 192 4 10 := GF.nest (C := RX3) (T := TX3) (N := 16) (host := "PieceTransfer") uw_4 rfl (by decide) (by decide +kernel)
theorem gf_X1_203 : GF RX1 203 4 13 := GF.nest (C := RX3) (T := TX3) (N := 16) (host := "PieceTransfer") uw_4 rfl (by decide) (by decide +kernel)
theorem gf_X1_206 : GF RX1 206 4 12 := GF.nest (C := RX3) (T := TX3) (N := 16) (host := "PieceTransfer") uw_4 rfl (by decide) (by decide +kernel)
theorem gf_X1_222 : GF RX1 222 4 6 := GF.nest (C := RX3) (T := TX3) (N := 16) (host := "PieceTransfer") uw_4 rfl (by decide) (by decide +kernel)
theorem gf_X1_244 : GF RX1 244 4 1 := GF.nest (C := RX3) (T := TX3) (N := 16) (host := "PieceTransfer") uw_4 rfl (by decide) (by decide +kernel)
theorem gf_X1_247 : GF RX1 247 4 0 := GF.nest (C := RX3) (T := TX3) (N := 16) (host := "PieceTransfer") uw_4 rfl (by decide) (by decide +kernel)
theorem gf_X1_264 : GF RX1 264 3 0 := GF.nest (C := RX2) (T := TX2) (N := 2) (host := "PieceTransfer") uw_3 rfl (by decide) (by decide +kernel)
theorem gf_X1_263 : GF RX1 263 3 1 := GF.nest (C := RX2) (T := TX2) (N := 2) (host := "PieceTransfer") uw_3 rfl (by decide) (by decide +kernel)
theorem gf_X4_18 : GF RX4 18 5 4 := GF.of (ref := "PieceTransfer$Reader") (C := RX4) (T := TX4) (N := 6) uw_5 rfl (by decide) (by decide +kernel) (Or.inl rfl)
theorem gf_X4_28 : GF RX4 28 5 1 := GF.of (ref := "PieceTransfer$Reader") (C := RX4) (T := TX4) (N := 6) uw_5 rfl (by decide) (by decide +kernel) (Or.inl rfl)
theorem gf_X4_9 : GF RX4 9 5 2 := GF.of (ref := "PieceTransfer$Reader") (C := RX4) (T := TX4) (N := 6) uw_5 rfl (by decide) (by decide +kernel) (Or.inl rfl)
theorem gf_X4_15 : GF RX4 15 5 3 := GF.of (ref := "PieceTransfer$Reader") (C := RX4) (T := TX4) (N := 6) uw_5 rfl (by decide) (by decide +kernel) (Or.inl rfl)
theorem gf_X4_91 : GF RX4 91 4 0 := GF.nest (C := RX3) (T := TX3) (N := 16) (host := "PieceTransfer") uw_4 rfl (by decide) (by decide +kernel)
theorem gf_X4_95 : GF RX4 95 4 13 := GF.nest (C := RX3) (T := TX3) (N := 16) (host := "PieceTransfer") uw_4 rfl (by decide) (by decide +kernel)
theorem gf_X4_102 : GF RX4 102 4 15 := GF.nest (C := RX3) (T := TX3) (N := 16) (host := "PieceTransfer") uw_4 rfl (by decide) (by decide +kernel)
theorem gf_X4_24 : GF RX4 24 5 0 := GF.of (ref := "PieceTransfer$Reader") (C := RX4) (T := TX4) (N := 6) uw_5 rfl (by decide) (by decide +kernel) (Or.inl rfl)
theorem gf_X5_50 : GF RX5 50 6 5 := GF.of (ref := "PieceTransfer") (C := RX5) (T := TX5) (N := 10) uw_6 rfl (by decide) (by decide +kernel) (Or.inl rfl)
theorem gf_X5_13 : GF RX5 13 6 1 := GF.of (ref := "PieceTransfer") (C := RX5) (T := TX5) (N := 10) uw_6 rfl (by decide) (by decide +kernel) (Or.inl rfl)
theorem gf_X5_9 : GF RX5 9 6 0 := GF.of (ref := "PieceTransfer") (C := RX5) (T := TX5) (N := 10) uw_6 rfl (by decide) (by decide +kernel) (Or.inl rfl)
theorem gf_X5_80 : GF RX5 80 5 5 := GF.nest (C := RX4) (T := TX4) (N := 6) (host := "PieceTransfer") uw_5 rfl (by decide) (by decide +kernel)
theorem gf_X5_87 : GF RX5 87 4 3 := GF.nest (C := RX3) (T := TX3) (N := 16) (host := "PieceTransfer") uw_4 rfl (by decide) (by decide +kernel)
theorem gf_X5_81 : GF RX5 81 5 4 := GF.nest (C := RX4) (T := TX4) (N := 6) (host := "PieceTransfer") uw_5 rfl (by decide) (by decide +kernel)
theorem gf_X5_17 : GF RX5 17 6 2 := GF.of (ref := "PieceTransfer") (C := RX5) (T := TX5) (N := 10) uw_6 rfl (by decide) (by decide +kernel) (Or.inl rfl)
theorem gf_X5_90 : GF RX5 90 2 0 := GF.nest (C := RX1) (T := TX1) (N := 17) (host := "PieceTransfer") uw_2 rfl (by decide) (by decide +kernel)
theorem gf_X5_94 : GF RX5 94 4 0 := GF.nest (C := RX3) (T := TX3) (N := 16) (host := "PieceTransfer") uw_4 rfl (by decide) (by decide +kernel)
theorem gf_X5_97 : GF RX5 97 4 2 := GF.nest (C := RX3) (T := TX3) (N := 16) (host := "PieceTransfer") uw_4 rfl (by decide) (by decide +kernel)
theorem gf_X5_100 : GF RX5 100 2 8 := GF.nest (C := RX1) (T := TX1) (N := 17) (host := "PieceTransfer") uw_2 rfl (by decide) (by decide +kernel)
theorem gf_X5_103 : GF RX5 103 2 9 := GF.nest (C := RX1) (T := TX1) (N := 17) (host := "PieceTransfer") uw_2 rfl (by decide) (by decide +kernel)
theorem gf_X5_106 : GF RX5 106 2 6 := GF.nest (C := RX1) (T := TX1) (N := 17) (host := "PieceTransfer") uw_2 rfl (by decide) (by decide +kernel)
theorem gf_X5_109 : GF RX5 109 2 7 := GF.nest (C := RX1) (T := TX1) (N := 17) (host := "PieceTransfer") uw_2 rfl (by decide) (by decide +kernel)
theorem gf_X5_112 : GF RX5 112 2 5 := GF.nest (C := RX1) (T := TX1) (N := 17) (host := "PieceTransfer") uw_2 rfl (by decide) (by decide +kernel)
theorem gf_X5_115 : GF RX5 115 2 15 := GF.nest (C := RX1) (T := TX1) (N := 17) (host := "PieceTransfer") uw_2 rfl (by decide) (by decide +kernel)
theorem gf_X5_125 : GF RX5 125 2 16 := GF.nest (C := RX1) (T := TX1) (N := 17) (host := "PieceTransfer") uw_2 rfl (by decide) (by decide +kernel)
theorem gf_X5_129 : GF RX5 129 1 3 := GF.nest (C := RX0) (T := TX0) (N := 4) (host := "PieceTransfer") uw_1 rfl (by decide) (by decide +kernel)
theorem gf_X5_134 : GF RX5 134 2 10 := GF.nest (C := RX1) (T := TX1) (N := 17) (host := "PieceTransfer") uw_2 rfl (by decide) (by decide +kernel)
theorem gf_X5_137 : GF RX5 137 4 1 := GF.nest (C := RX3) (T := TX3) (N := 16) (host := "PieceTransfer") uw_4 rfl (by decide) (by decide +kernel)
theorem gf_X5_155 : GF RX5 155 2 14 := GF.nest (C := RX1) (T := TX1) (N := 17) (host := "PieceTransfer") uw_2 rfl (by decide) (by decide +kernel)
theorem gf_X5_159 : GF RX5 159 2 12 := GF.nest (C := RX1) (T := TX1) (N := 17) (host := "PieceTransfer") uw_2 rfl (by decide) (by decide +kernel)
theorem gf_X5_166 : GF RX5 166 2 13 := GF.nest (C := RX1) (T := TX1) (N := 17) (host := "PieceTransfer") uw_2 rfl (by decide) (by decide +kernel)
theorem gf_X5_179 : GF RX5 179 4 11 := GF.nest (C := RX3) (T := TX3) (N := 16) (host := "PieceTransfer") uw_4 rfl (by decide) (by decide +kernel)
theorem gf_X5_185 : GF RX5 185 2 1 := GF.nest (C := RX1) (T := TX1) (N := 17) (host := "PieceTransfer") uw_2 rfl (by decide) (by decide +kernel)
theorem gf_X5_200 : GF RX5 200 2 3 := GF.nest (C := RX1) (T := TX1) (N := 17) (host := "PieceTransfer") uw_2 rfl (by decide) (by decide +kernel)
theorem gf_X5_203 : GF RX5 203 4 6 := GF.nest (C := RX3) (T := TX3) (N := 16) (host := "PieceTransfer") uw_4 rfl (by decide) (by decide +kernel)
theorem gf_X5_206 : GF RX5 206 2 4 := GF.nest (C := RX1) (T := TX1) (N := 17) (host := "PieceTransfer") uw_2 rfl (by decide) (by decide +kernel)
theorem gf_X5_217 : GF RX5 217 4 10 := GF.nest (C := RX3) (T := TX3) (N := 16) (host := "PieceTransfer") uw_4 rfl (by decide) (by decide +kernel)
theorem gf_X5_220 : GF RX5 220 2 2 := GF.nest (C := RX1) (T := TX1) (N := 17) (host := "PieceTransfer") uw_2 rfl (by decide) (by decide +kernel)
theorem gf_X5_230 : GF RX5 230 2 11 := GF.nest (C := RX1) (T := TX1) (N := 17) (host := "PieceTransfer") uw_2 rfl (by decide) (by decide +kernel)
theorem gf_X5_38 : GF RX5 38 6 9 := GF.of (ref := "PieceTransfer") (C := RX5) (T := TX5) (N := 10) uw_6 rfl (by decide) (by decide +kernel) (Or.inl rfl)
theorem gf_X5_282 : GF RX5 282 3 0 := GF.nest (C := RX2) (T := TX2) (N := 2) (host := "PieceTransfer") uw_3 rfl (by decide) (by decide +kernel)
theorem gf_X5_285 : GF RX5 285 3 1 := GF.nest (C := RX2) (T := TX2) (N := 2) (host := "PieceTransfer") uw_3 rfl (by decide) (by decide +kernel)
theorem gf_X5_301 : GF RX5 301 4 4 := GF.nest (C := RX3) (T := TX3) (N := 16) (host := "PieceTransfer") uw_4 rfl (by decide) (by decide +kernel)
theorem gf_X5_312 : GF RX5 312 4 5 := GF.nest (C := RX3) (T := TX3) (N := 16) (host := "PieceTransfer") uw_4 rfl (by decide) (by decide +kernel)
theorem gf_X5_319 : GF RX5 319 1 0 := GF.nest (C := RX0) (T := TX0) (N := 4) (host := "PieceTransfer") uw_1 rfl (by decide) (by decide +kernel)
theorem gf_X5_322 : GF RX5 322 1 1 := GF.nest (C := RX0) (T := TX0) (N := 4) (host := "PieceTransfer") uw_1 rfl (by decide) (by decide +kernel)
theorem gf_X5_325 : GF RX5 325 1 2 := GF.nest (C := RX0) (T := TX0) (N := 4) (host := "PieceTransfer") uw_1 rfl (by decide) (by decide +kernel)
theorem gf_X5_23 : GF RX5 23 6 4 := GF.of (ref := "PieceTransfer") (C := RX5) (T := TX5) (N := 10) uw_6 rfl (by decide) (by decide +kernel) (Or.inl rfl)
theorem gf_X5_20 : GF RX5 20 6 3 := GF.of (ref := "PieceTransfer") (C := RX5) (T := TX5) (N := 10) uw_6 rfl (by decide) (by decide +kernel) (Or.inl rfl)
theorem gf_X5_32 : GF RX5 32 6 7 := GF.of (ref := "PieceTransfer") (C := RX5) (T := TX5) (N := 10) uw_6 rfl (by decide) (by decide +kernel) (Or.inl rfl)
theorem gf_X5_35 : GF RX5 35 6 8 := GF.of (ref := "PieceTransfer") (C := RX5) (T := TX5) (N := 10) uw_6 rfl (by decide) (by decide +kernel) (Or.inl rfl)
theorem gf_X5_28 : GF RX5 28 6 6 := GF.of (ref := "PieceTransfer") (C := RX5) (T := TX5) (N := 10) uw_6 rfl (by decide) (by decide +kernel) (Or.inl rfl)
theorem gf_X6_13 : GF RX6 13 7 1 := GF.of (ref := "PieceTransferModel") (C := RX6) (T := TX6) (N := 24) uw_7 rfl (by decide) (by decide +kernel) (Or.inl rfl)
theorem gf_X6_7 : GF RX6 7 7 0 := GF.of (ref := "PieceTransferModel") (C := RX6) (T := TX6) (N := 24) uw_7 rfl (by decide) (by decide +kernel) (Or.inl rfl)
theorem gf_X6_16 : GF RX6 16 7 2 := GF.of (ref := "PieceTransferModel") (C := RX6) (T := TX6) (N := 24) uw_7 rfl (by decide) (by decide +kernel) (Or.inl rfl)
theorem gf_X6_50 : GF RX6 50 7 5 := GF.of (ref := "PieceTransferModel") (C := RX6) (T := TX6) (N := 24) uw_7 rfl (by decide) (by decide +kernel) (Or.inl rfl)
theorem gf_X6_53 : GF RX6 53 7 4 := GF.of (ref := "PieceTransferModel") (C := RX6) (T := TX6) (N := 24) uw_7 rfl (by decide) (by decide +kernel) (Or.inl rfl)
theorem gf_X6_19 : GF RX6 19 7 3 := GF.of (ref := "PieceTransferModel") (C := RX6) (T := TX6) (N := 24) uw_7 rfl (by decide) (by decide +kernel) (Or.inl rfl)
theorem gf_X6_56 : GF RX6 56 7 7 := GF.of (ref := "PieceTransferModel") (C := RX6) (T := TX6) (N := 24) uw_7 rfl (by decide) (by decide +kernel) (Or.inl rfl)
theorem gf_X6_22 : GF RX6 22 7 6 := GF.of (ref := "PieceTransferModel") (C := RX6) (T := TX6) (N := 24) uw_7 rfl (by decide) (by decide +kernel) (Or.inl rfl)
theorem gf_X6_59 : GF RX6 59 7 8 := GF.of (ref := "PieceTransferModel") (C := RX6) (T := TX6) (N := 24) uw_7 rfl (by decide) (by decide +kernel) (Or.inl rfl)
theorem gf_X6_66 : GF RX6 66 7 10 := GF.of (ref := "PieceTransferModel") (C := RX6) (T := TX6) (N := 24) uw_7 rfl (by decide) (by decide +kernel) (Or.inl rfl)
theorem gf_X6_69 : GF RX6 69 7 9 := GF.of (ref := "PieceTransferModel") (C := RX6) (T := TX6) (N := 24) uw_7 rfl (by decide) (by decide +kernel) (Or.inl rfl)
theorem gf_X6_86 : GF RX6 86 7 12 := GF.of (ref := "PieceTransferModel") (C := RX6) (T := TX6) (N := 24) uw_7 rfl (by decide) (by decide +kernel) (Or.inl rfl)
theorem gf_X6_89 : GF RX6 89 7 13 := GF.of (ref := "PieceTransferModel") (C := RX6) (T := TX6) (N := 24) uw_7 rfl (by decide) (by decide +kernel) (Or.inl rfl)
theorem gf_X6_76 : GF RX6 76 7 11 := GF.of (ref := "PieceTransferModel") (C := RX6) (T := TX6) (N := 24) uw_7 rfl (by decide) (by decide +kernel) (Or.inl rfl)
theorem gf_X6_102 : GF RX6 102 7 14 := GF.of (ref := "PieceTransferModel") (C := RX6) (T := TX6) (N := 24) uw_7 rfl (by decide) (by decide +kernel) (Or.inl rfl)
theorem gf_X6_25 : GF RX6 25 7 15 := GF.of (ref := "PieceTransferModel") (C := RX6) (T := TX6) (N := 24) uw_7 rfl (by decide) (by decide +kernel) (Or.inl rfl)
theorem gf_X6_249 : GF RX6 249 7 19 := GF.of (ref := "PieceTransferModel") (C := RX6) (T := TX6) (N := 24) uw_7 rfl (by decide) (by decide +kernel) (Or.inl rfl)
theorem gf_X6_29 : GF RX6 29 7 16 := GF.of (ref := "PieceTransferModel") (C := RX6) (T := TX6) (N := 24) uw_7 rfl (by decide) (by decide +kernel) (Or.inl rfl)
theorem gf_X6_32 : GF RX6 32 7 17 := GF.of (ref := "PieceTransferModel") (C := RX6) (T := TX6) (N := 24) uw_7 rfl (by decide) (by decide +kernel) (Or.inl rfl)
theorem gf_X6_35 : GF RX6 35 7 18 := GF.of (ref := "PieceTransferModel") (C := RX6) (T := TX6) (N := 24) uw_7 rfl (by decide) (by decide +kernel) (Or.inl rfl)
theorem gf_X6_252 : GF RX6 252 7 20 := GF.of (ref := "PieceTransferModel") (C := RX6) (T := TX6) (N := 24) uw_7 rfl (by decide) (by decide +kernel) (Or.inl rfl)
theorem gf_X6_307 : GF RX6 307 7 23 := GF.of (ref := "PieceTransferModel") (C := RX6) (T := TX6) (N := 24) uw_7 rfl (by decide) (by decide +kernel) (Or.inl rfl)
theorem gf_X6_39 : GF RX6 39 7 22 := GF.of (ref := "PieceTransferModel") (C := RX6) (T := TX6) (N := 24) uw_7 rfl (by decide) (by decide +kernel) (Or.inl rfl)
theorem pf_Jxc12de_7 {nm : String} : PF RJxc12de nm 7 0 0 (.int) := PF.of (ref := "java/util/AbstractList") (C := RJx4a65c) (T := TJx4a65c) (N := 3) uw_0 tyJx4a65c_ok nmJx4a65c rfl (by decide) (by decide +kernel) (Or.inl rfl) rfl (by decide +kernel)
theorem pf_Jx4a65c_9 {nm : String} : PF RJx4a65c nm 9 0 1 (.array (.object "java/lang/Object")) := PF.of (ref := "java/util/ArrayList") (C := RJx4a65c) (T := TJx4a65c) (N := 3) uw_0 tyJx4a65c_ok nmJx4a65c rfl (by decide) (by decide +kernel) (Or.inl rfl) rfl (by decide +kernel)
theorem pf_Jx4a65c_48 {nm : String} : PF RJx4a65c nm 48 0 2 (.int) := PF.of (ref := "java/util/ArrayList") (C := RJx4a65c) (T := TJx4a65c) (N := 3) uw_0 tyJx4a65c_ok nmJx4a65c rfl (by decide) (by decide +kernel) (Or.inl rfl) rfl (by decide +kernel)
theorem pf_Jx4a65c_63 {nm : String} : PF RJx4a65c nm 63 0 0 (.int) := PF.of (ref := "java/util/ArrayList") (C := RJx4a65c) (T := TJx4a65c) (N := 3) uw_0 tyJx4a65c_ok nmJx4a65c rfl (by decide) (by decide +kernel) (Or.inr (by decide +kernel)) rfl (by decide +kernel)
theorem pf_X0_9 : PF RX0 "<init>" 9 1 0 (.array .int) := PF.fin (ci := 1) (k := 0) (ref := "PieceTransfer$Audit") (C := RX0) (T := TX0) (N := 4) uw_1 tyX0_ok nmX0 rfl (by decide) (by decide +kernel) rfl rfl rfl (by decide +kernel)
theorem pf_X0_15 : PF RX0 "<init>" 15 1 1 (.array .int) := PF.fin (ci := 1) (k := 1) (ref := "PieceTransfer$Audit") (C := RX0) (T := TX0) (N := 4) uw_1 tyX0_ok nmX0 rfl (by decide) (by decide +kernel) rfl rfl rfl (by decide +kernel)
theorem pf_X0_18 : PF RX0 "<init>" 18 1 2 (.array .int) := PF.fin (ci := 1) (k := 2) (ref := "PieceTransfer$Audit") (C := RX0) (T := TX0) (N := 4) uw_1 tyX0_ok nmX0 rfl (by decide) (by decide +kernel) rfl rfl rfl (by decide +kernel)
theorem pf_X0_21 {nm : String} : PF RX0 nm 21 1 3 (.int) := PF.of (ref := "PieceTransfer$Audit") (C := RX0) (T := TX0) (N := 4) uw_1 tyX0_ok nmX0 rfl (by decide) (by decide +kernel) (Or.inl rfl) rfl (by decide +kernel)
theorem pf_X2_7 : PF RX2 "<init>" 7 3 0 (.int) := PF.fin (ci := 3) (k := 0) (ref := "PieceTransfer$Partial") (C := RX2) (T := TX2) (N := 2) uw_3 tyX2_ok nmX2 rfl (by decide) (by decide +kernel) rfl rfl rfl (by decide +kernel)
theorem pf_X2_13 : PF RX2 "<init>" 13 3 1 (.array .int) := PF.fin (ci := 3) (k := 1) (ref := "PieceTransfer$Partial") (C := RX2) (T := TX2) (N := 2) uw_3 tyX2_ok nmX2 rfl (by decide) (by decide +kernel) rfl rfl rfl (by decide +kernel)
theorem pf_X3_9 {nm : String} : PF RX3 nm 9 4 1 (.int) := PF.of (ref := "PieceTransfer$Plan") (C := RX3) (T := TX3) (N := 16) uw_4 tyX3_ok nmX3 rfl (by decide) (by decide +kernel) (Or.inl rfl) rfl (by decide +kernel)
theorem pf_X3_15 {nm : String} : PF RX3 nm 15 4 2 (.int) := PF.of (ref := "PieceTransfer$Plan") (C := RX3) (T := TX3) (N := 16) uw_4 tyX3_ok nmX3 rfl (by decide) (by decide +kernel) (Or.inl rfl) rfl (by decide +kernel)
theorem pf_X3_18 {nm : String} : PF RX3 nm 18 4 3 (.int) := PF.of (ref := "PieceTransfer$Plan") (C := RX3) (T := TX3) (N := 16) uw_4 tyX3_ok nmX3 rfl (by decide) (by decide +kernel) (Or.inl rfl) rfl (by decide +kernel)
theorem pf_X3_21 : PF RX3 "<init>" 21 4 4 (.array .int) := PF.fin (ci := 4) (k := 4) (ref := "PieceTransfer$Plan") (C := RX3) (T := TX3) (N := 16) uw_4 tyX3_ok nmX3 rfl (by decide) (by decide +kernel) rfl rfl rfl (by decide +kernel)
theorem pf_X3_25 : PF RX3 "<init>" 25 4 5 (.array .int) := PF.fin (ci := 4) (k := 5) (ref := "PieceTransfer$Plan") (C := RX3) (T := TX3) (N := 16) uw_4 tyX3_ok nmX3 rfl (by decide) (by decide +kernel) rfl rfl rfl (by decide +kernel)
theorem pf_X3_28 : PF RX3 "<init>" 28 4 6 (.array .int) := PF.fin (ci := 4) (k := 6) (ref := "PieceTransfer$Plan") (C := RX3) (T := TX3) (N := 16) uw_4 tyX3_ok nmX3 rfl (by decide) (by decide +kernel) rfl rfl rfl (by decide +kernel)
theorem pf_X3_31 : PF RX3 "<init>" 31 4 7 (.array .int) := PF.fin (ci := 4) (k := 7) (ref := "PieceTransfer$Plan") (C := RX3) (T := TX3) (N := 16) uw_4 tyX3_ok nmX3 rfl (by decide) (by decide +kernel) rfl rfl rfl (by decide +kernel)
theorem pf_X3_34 : PF RX3 "<init>" 34 4 8 (.array .int) := PF.fin (ci := 4) (k := 8) (ref := "PieceTransfer$Plan") (C := RX3) (T := TX3) (N := 16) uw_4 tyX3_ok nmX3 rfl (by decide) (by decide +kernel) rfl rfl rfl (by decide +kernel)
theorem pf_X3_37 : PF RX3 "<init>" 37 4 9 (.array .int) := PF.fin (ci := 4) (k := 9) (ref := "PieceTransfer$Plan") (C := RX3) (T := TX3) (N := 16) uw_4 tyX3_ok nmX3 rfl (by decide) (by decide +kernel) rfl rfl rfl (by decide +kernel)
theorem pf_X3_40 : PF RX3 "<init>" 40 4 10 (.array .int) := PF.fin (ci := 4) (k := 10) (ref := "PieceTransfer$Plan") (C := RX3) (T := TX3) (N := 16) uw_4 tyX3_ok nmX3 rfl (by decide) (by decide +kernel) rfl rfl rfl (by decide +kernel)
theorem pf_X3_43 : PF RX3 "<init>" 43 4 11 (.array .int) := PF.fin (ci := 4) (k := 11) (ref := "PieceTransfer$Plan") (C := RX3) (T := TX3) (N := 16) uw_4 tyX3_ok nmX3 rfl (by decide) (by decide +kernel) rfl rfl rfl (by decide +kernel)
theorem pf_X3_46 : PF RX3 "<init>" 46 4 12 (.array .int) := PF.fin (ci := 4) (k := 12) (ref := "PieceTransfer$Plan") (C := RX3) (T := TX3) (N := 16) uw_4 tyX3_ok nmX3 rfl (by decide) (by decide +kernel) rfl rfl rfl (by decide +kernel)
theorem pf_X3_49 {nm : String} : PF RX3 nm 49 4 13 (.int) := PF.of (ref := "PieceTransfer$Plan") (C := RX3) (T := TX3) (N := 16) uw_4 tyX3_ok nmX3 rfl (by decide) (by decide +kernel) (Or.inl rfl) rfl (by decide +kernel)
theorem pf_X3_52 : PF RX3 "<init>" 52 4 14 (.array .int) := PF.fin (ci := 4) (k := 14) (ref := "PieceTransfer$Plan") (C := RX3) (T := TX3) (N := 16) uw_4 tyX3_ok nmX3 rfl (by decide) (by decide +kernel) rfl rfl rfl (by decide +kernel)
theorem pf_X3_55 {nm : String} : PF RX3 nm 55 4 15 (.int) := PF.of (ref := "PieceTransfer$Plan") (C := RX3) (T := TX3) (N := 16) uw_4 tyX3_ok nmX3 rfl (by decide) (by decide +kernel) (Or.inl rfl) rfl (by decide +kernel)
theorem pf_X3_58 : PF RX3 "<init>" 58 4 0 (.int) := PF.fin (ci := 4) (k := 0) (ref := "PieceTransfer$Plan") (C := RX3) (T := TX3) (N := 16) uw_4 tyX3_ok nmX3 rfl (by decide) (by decide +kernel) rfl rfl rfl (by decide +kernel)
theorem pf_X1_9 : PF RX1 "<init>" 9 2 1 (.array .int) := PF.fin (ci := 2) (k := 1) (ref := "PieceTransfer$Download") (C := RX1) (T := TX1) (N := 17) uw_2 tyX1_ok nmX1 rfl (by decide) (by decide +kernel) rfl rfl rfl (by decide +kernel)
theorem pf_X1_15 : PF RX1 "<init>" 15 2 2 (.array .int) := PF.fin (ci := 2) (k := 2) (ref := "PieceTransfer$Download") (C := RX1) (T := TX1) (N := 17) uw_2 tyX1_ok nmX1 rfl (by decide) (by decide +kernel) rfl rfl rfl (by decide +kernel)
theorem pf_X1_18 : PF RX1 "<init>" 18 2 3 (.array .int) := PF.fin (ci := 2) (k := 3) (ref := "PieceTransfer$Download") (C := RX1) (T := TX1) (N := 17) uw_2 tyX1_ok nmX1 rfl (by decide) (by decide +kernel) rfl rfl rfl (by decide +kernel)
theorem pf_X1_21 : PF RX1 "<init>" 21 2 4 (.array .int) := PF.fin (ci := 2) (k := 4) (ref := "PieceTransfer$Download") (C := RX1) (T := TX1) (N := 17) uw_2 tyX1_ok nmX1 rfl (by decide) (by decide +kernel) rfl rfl rfl (by decide +kernel)
theorem pf_X1_24 {nm : String} : PF RX1 nm 24 2 5 (.int) := PF.of (ref := "PieceTransfer$Download") (C := RX1) (T := TX1) (N := 17) uw_2 tyX1_ok nmX1 rfl (by decide) (by decide +kernel) (Or.inl rfl) rfl (by decide +kernel)
theorem pf_X1_28 {nm : String} : PF RX1 nm 28 2 6 (.int) := PF.of (ref := "PieceTransfer$Download") (C := RX1) (T := TX1) (N := 17) uw_2 tyX1_ok nmX1 rfl (by decide) (by decide +kernel) (Or.inl rfl) rfl (by decide +kernel)
theorem pf_X1_31 {nm : String} : PF RX1 nm 31 2 7 (.int) := PF.of (ref := "PieceTransfer$Download") (C := RX1) (T := TX1) (N := 17) uw_2 tyX1_ok nmX1 rfl (by decide) (by decide +kernel) (Or.inl rfl) rfl (by decide +kernel)
theorem pf_X1_34 {nm : String} : PF RX1 nm 34 2 8 (.int) := PF.of (ref := "PieceTransfer$Download") (C := RX1) (T := TX1) (N := 17) uw_2 tyX1_ok nmX1 rfl (by decide) (by decide +kernel) (Or.inl rfl) rfl (by decide +kernel)
theorem pf_X1_37 {nm : String} : PF RX1 nm 37 2 9 (.int) := PF.of (ref := "PieceTransfer$Download") (C := RX1) (T := TX1) (N := 17) uw_2 tyX1_ok nmX1 rfl (by decide) (by decide +kernel) (Or.inl rfl) rfl (by decide +kernel)
theorem pf_X1_40 {nm : String} : PF RX1 nm 40 2 10 (.int) := PF.of (ref := "PieceTransfer$Download") (C := RX1) (T := TX1) (N := 17) uw_2 tyX1_ok nmX1 rfl (by decide) (by decide +kernel) (Or.inl rfl) rfl (by decide +kernel)
theorem pf_X1_43 : PF RX1 "<init>" 43 2 11 (.array .int) := PF.fin (ci := 2) (k := 11) (ref := "PieceTransfer$Download") (C := RX1) (T := TX1) (N := 17) uw_2 tyX1_ok nmX1 rfl (by decide) (by decide +kernel) rfl rfl rfl (by decide +kernel)
theorem pf_X1_46 : PF RX1 "<init>" 46 2 12 (.array .int) := PF.fin (ci := 2) (k := 12) (ref := "PieceTransfer$Download") (C := RX1) (T := TX1) (N := 17) uw_2 tyX1_ok nmX1 rfl (by decide) (by decide +kernel) rfl rfl rfl (by decide +kernel)
theorem pf_X1_49 : PF RX1 "<init>" 49 2 13 (.array .int) := PF.fin (ci := 2) (k := 13) (ref := "PieceTransfer$Download") (C := RX1) (T := TX1) (N := 17) uw_2 tyX1_ok nmX1 rfl (by decide) (by decide +kernel) rfl rfl rfl (by decide +kernel)
theorem pf_X1_52 {nm : String} : PF RX1 nm 52 2 14 (.boolean) := PF.of (ref := "PieceTransfer$Download") (C := RX1) (T := TX1) (N := 17) uw_2 tyX1_ok nmX1 rfl (by decide) (by decide +kernel) (Or.inl rfl) rfl (by decide +kernel)
theorem pf_X1_59 : PF RX1 "<init>" 59 2 15 (.object "java/util/ArrayList") := PF.fin (ci := 2) (k := 15) (ref := "PieceTransfer$Download") (C := RX1) (T := TX1) (N := 17) uw_2 tyX1_ok nmX1 rfl (by decide) (by decide +kernel) rfl rfl rfl (by decide +kernel)
theorem pf_X1_66 : PF RX1 "<init>" 66 2 16 (.object "PieceTransfer$Audit") := PF.fin (ci := 2) (k := 16) (ref := "PieceTransfer$Download") (C := RX1) (T := TX1) (N := 17) uw_2 tyX1_ok nmX1 rfl (by decide) (by decide +kernel) rfl rfl rfl (by decide +kernel)
theorem pf_X1_70 {nm : String} : PF RX1 nm 70 2 0 (.object "PieceTransfer$Plan") := PF.of (ref := "PieceTransfer$Download") (C := RX1) (T := TX1) (N := 17) uw_2 tyX1_ok nmX1 rfl (by decide) (by decide +kernel) (Or.inl rfl) rfl (by decide +kernel)
theorem pf_X1_83 {nm : String} : PF RX1 nm 83 1 3 (.int) := PF.nest (C := RX0) (T := TX0) (N := 4) (host := "PieceTransfer") uw_1 tyX0_ok nmX0 rfl (by decide) (by decide +kernel) rfl (by decide +kernel)
theorem pf_X4_9 {nm : String} : PF RX4 nm 9 5 2 (.int) := PF.of (ref := "PieceTransfer$Reader") (C := RX4) (T := TX4) (N := 6) uw_5 tyX4_ok nmX4 rfl (by decide) (by decide +kernel) (Or.inl rfl) rfl (by decide +kernel)
theorem pf_X4_15 {nm : String} : PF RX4 nm 15 5 3 (.int) := PF.of (ref := "PieceTransfer$Reader") (C := RX4) (T := TX4) (N := 6) uw_5 tyX4_ok nmX4 rfl (by decide) (by decide +kernel) (Or.inl rfl) rfl (by decide +kernel)
theorem pf_X4_18 {nm : String} : PF RX4 nm 18 5 4 (.int) := PF.of (ref := "PieceTransfer$Reader") (C := RX4) (T := TX4) (N := 6) uw_5 tyX4_ok nmX4 rfl (by decide) (by decide +kernel) (Or.inl rfl) rfl (by decide +kernel)
theorem pf_X4_21 {nm : String} : PF RX4 nm 21 5 5 (.int) := PF.of (ref := "PieceTransfer$Reader") (C := RX4) (T := TX4) (N := 6) uw_5 tyX4_ok nmX4 rfl (by decide) (by decide +kernel) (Or.inl rfl) rfl (by decide +kernel)
theorem pf_X4_24 : PF RX4 "<init>" 24 5 0 (.array .int) := PF.fin (ci := 5) (k := 0) (ref := "PieceTransfer$Reader") (C := RX4) (T := TX4) (N := 6) uw_5 tyX4_ok nmX4 rfl (by decide) (by decide +kernel) rfl rfl rfl (by decide +kernel)
theorem pf_X4_28 : PF RX4 "<init>" 28 5 1 (.int) := PF.fin (ci := 5) (k := 1) (ref := "PieceTransfer$Reader") (C := RX4) (T := TX4) (N := 6) uw_5 tyX4_ok nmX4 rfl (by decide) (by decide +kernel) rfl rfl rfl (by decide +kernel)
theorem pf_X4_84 {nm : String} : PF RX4 nm 84 4 1 (.int) := PF.nest (C := RX3) (T := TX3) (N := 16) (host := "PieceTransfer") uw_4 tyX3_ok nmX3 rfl (by decide) (by decide +kernel) rfl (by decide +kernel)
theorem pf_X5_9 : PF RX5 "<init>" 9 6 0 (.array .int) := PF.fin (ci := 6) (k := 0) (ref := "PieceTransfer") (C := RX5) (T := TX5) (N := 10) uw_6 tyX5_ok nmX5 rfl (by decide) (by decide +kernel) rfl rfl rfl (by decide +kernel)
theorem pf_X5_13 {nm : String} : PF RX5 nm 13 6 1 (.int) := PF.of (ref := "PieceTransfer") (C := RX5) (T := TX5) (N := 10) uw_6 tyX5_ok nmX5 rfl (by decide) (by decide +kernel) (Or.inl rfl) rfl (by decide +kernel)
theorem pf_X5_17 {nm : String} : PF RX5 nm 17 6 2 (.int) := PF.of (ref := "PieceTransfer") (C := RX5) (T := TX5) (N := 10) uw_6 tyX5_ok nmX5 rfl (by decide) (by decide +kernel) (Or.inl rfl) rfl (by decide +kernel)
theorem pf_X5_20 : PF RX5 "<init>" 20 6 3 (.array .int) := PF.fin (ci := 6) (k := 3) (ref := "PieceTransfer") (C := RX5) (T := TX5) (N := 10) uw_6 tyX5_ok nmX5 rfl (by decide) (by decide +kernel) rfl rfl rfl (by decide +kernel)
theorem pf_X5_23 {nm : String} : PF RX5 nm 23 6 4 (.int) := PF.of (ref := "PieceTransfer") (C := RX5) (T := TX5) (N := 10) uw_6 tyX5_ok nmX5 rfl (by decide) (by decide +kernel) (Or.inl rfl) rfl (by decide +kernel)
theorem pf_X5_28 : PF RX5 "<init>" 28 6 6 (.array (.object "PieceTransfer$Download")) := PF.fin (ci := 6) (k := 6) (ref := "PieceTransfer") (C := RX5) (T := TX5) (N := 10) uw_6 tyX5_ok nmX5 rfl (by decide) (by decide +kernel) rfl rfl rfl (by decide +kernel)
theorem pf_X5_32 {nm : String} : PF RX5 nm 32 6 7 (.int) := PF.of (ref := "PieceTransfer") (C := RX5) (T := TX5) (N := 10) uw_6 tyX5_ok nmX5 rfl (by decide) (by decide +kernel) (Or.inl rfl) rfl (by decide +kernel)
theorem pf_X5_35 {nm : String} : PF RX5 nm 35 6 8 (.int) := PF.of (ref := "PieceTransfer") (C := RX5) (T := TX5) (N := 10) uw_6 tyX5_ok nmX5 rfl (by decide) (by decide +kernel) (Or.inl rfl) rfl (by decide +kernel)
theorem pf_X5_38 {nm : String} : PF RX5 nm 38 6 9 (.object "PieceTransfer$Download") := PF.of (ref := "PieceTransfer") (C := RX5) (T := TX5) (N := 10) uw_6 tyX5_ok nmX5 rfl (by decide) (by decide +kernel) (Or.inl rfl) rfl (by decide +kernel)
theorem pf_X5_50 {nm : String} : PF RX5 nm 50 6 5 (.object "PieceTransfer$Download") := PF.of (ref := "PieceTransfer") (C := RX5) (T := TX5) (N := 10) uw_6 tyX5_ok nmX5 rfl (by decide) (by decide +kernel) (Or.inl rfl) rfl (by decide +kernel)
theorem pf_X6_7 : PF RX6 "<init>" 7 7 0 (.array .int) := PF.fin (ci := 7) (k := 0) (ref := "PieceTransferModel") (C := RX6) (T := TX6) (N := 24) uw_7 tyX6_ok nmX6 rfl (by decide) (by decide +kernel) rfl rfl rfl (by decide +kernel)
theorem pf_X6_13 : PF RX6 "<init>" 13 7 1 (.array .int) := PF.fin (ci := 7) (k := 1) (ref := "PieceTransferModel") (C := RX6) (T := TX6) (N := 24) uw_7 tyX6_ok nmX6 rfl (by decide) (by decide +kernel) rfl rfl rfl (by decide +kernel)
theorem pf_X6_16 : PF RX6 "<init>" 16 7 2 (.array .int) := PF.fin (ci := 7) (k := 2) (ref := "PieceTransferModel") (C := RX6) (T := TX6) (N := 24) uw_7 tyX6_ok nmX6 rfl (by decide) (by decide +kernel) rfl rfl rfl (by decide +kernel)
theorem pf_X6_19 : PF RX6 "<init>" 19 7 3 (.array .int) := PF.fin (ci := 7) (k := 3) (ref := "PieceTransferModel") (C := RX6) (T := TX6) (N := 24) uw_7 tyX6_ok nmX6 rfl (by decide) (by decide +kernel) rfl rfl rfl (by decide +kernel)
theorem pf_X6_22 : PF RX6 "<init>" 22 7 6 (.array .int) := PF.fin (ci := 7) (k := 6) (ref := "PieceTransferModel") (C := RX6) (T := TX6) (N := 24) uw_7 tyX6_ok nmX6 rfl (by decide) (by decide +kernel) rfl rfl rfl (by decide +kernel)
theorem pf_X6_25 {nm : String} : PF RX6 nm 25 7 15 (.int) := PF.of (ref := "PieceTransferModel") (C := RX6) (T := TX6) (N := 24) uw_7 tyX6_ok nmX6 rfl (by decide) (by decide +kernel) (Or.inl rfl) rfl (by decide +kernel)
theorem pf_X6_29 : PF RX6 "<init>" 29 7 16 (.array .int) := PF.fin (ci := 7) (k := 16) (ref := "PieceTransferModel") (C := RX6) (T := TX6) (N := 24) uw_7 tyX6_ok nmX6 rfl (by decide) (by decide +kernel) rfl rfl rfl (by decide +kernel)
theorem pf_X6_32 : PF RX6 "<init>" 32 7 17 (.array .int) := PF.fin (ci := 7) (k := 17) (ref := "PieceTransferModel") (C := RX6) (T := TX6) (N := 24) uw_7 tyX6_ok nmX6 rfl (by decide) (by decide +kernel) rfl rfl rfl (by decide +kernel)
theorem pf_X6_35 : PF RX6 "<init>" 35 7 18 (.array .boolean) := PF.fin (ci := 7) (k := 18) (ref := "PieceTransferModel") (C := RX6) (T := TX6) (N := 24) uw_7 tyX6_ok nmX6 rfl (by decide) (by decide +kernel) rfl rfl rfl (by decide +kernel)
theorem pf_X6_39 : PF RX6 "<init>" 39 7 22 (.array .int) := PF.fin (ci := 7) (k := 22) (ref := "PieceTransferModel") (C := RX6) (T := TX6) (N := 24) uw_7 tyX6_ok nmX6 rfl (by decide) (by decide +kernel) rfl rfl rfl (by decide +kernel)
theorem pf_X6_53 {nm : String} : PF RX6 nm 53 7 4 (.int) := PF.of (ref := "PieceTransferModel") (C := RX6) (T := TX6) (N := 24) uw_7 tyX6_ok nmX6 rfl (by decide) (by decide +kernel) (Or.inl rfl) rfl (by decide +kernel)
theorem pf_X6_50 {nm : String} : PF RX6 nm 50 7 5 (.int) := PF.of (ref := "PieceTransferModel") (C := RX6) (T := TX6) (N := 24) uw_7 tyX6_ok nmX6 rfl (by decide) (by decide +kernel) (Or.inl rfl) rfl (by decide +kernel)
theorem pf_X6_56 {nm : String} : PF RX6 nm 56 7 7 (.int) := PF.of (ref := "PieceTransferModel") (C := RX6) (T := TX6) (N := 24) uw_7 tyX6_ok nmX6 rfl (by decide) (by decide +kernel) (Or.inl rfl) rfl (by decide +kernel)
theorem pf_X6_69 {nm : String} : PF RX6 nm 69 7 9 (.int) := PF.of (ref := "PieceTransferModel") (C := RX6) (T := TX6) (N := 24) uw_7 tyX6_ok nmX6 rfl (by decide) (by decide +kernel) (Or.inl rfl) rfl (by decide +kernel)
theorem pf_X6_66 {nm : String} : PF RX6 nm 66 7 10 (.int) := PF.of (ref := "PieceTransferModel") (C := RX6) (T := TX6) (N := 24) uw_7 tyX6_ok nmX6 rfl (by decide) (by decide +kernel) (Or.inl rfl) rfl (by decide +kernel)
theorem pf_X6_76 {nm : String} : PF RX6 nm 76 7 11 (.int) := PF.of (ref := "PieceTransferModel") (C := RX6) (T := TX6) (N := 24) uw_7 tyX6_ok nmX6 rfl (by decide) (by decide +kernel) (Or.inl rfl) rfl (by decide +kernel)
theorem pf_X6_86 {nm : String} : PF RX6 nm 86 7 12 (.int) := PF.of (ref := "PieceTransferModel") (C := RX6) (T := TX6) (N := 24) uw_7 tyX6_ok nmX6 rfl (by decide) (by decide +kernel) (Or.inl rfl) rfl (by decide +kernel)
theorem pf_X6_89 {nm : String} : PF RX6 nm 89 7 13 (.int) := PF.of (ref := "PieceTransferModel") (C := RX6) (T := TX6) (N := 24) uw_7 tyX6_ok nmX6 rfl (by decide) (by decide +kernel) (Or.inl rfl) rfl (by decide +kernel)
theorem pf_X6_102 {nm : String} : PF RX6 nm 102 7 14 (.int) := PF.of (ref := "PieceTransferModel") (C := RX6) (T := TX6) (N := 24) uw_7 tyX6_ok nmX6 rfl (by decide) (by decide +kernel) (Or.inl rfl) rfl (by decide +kernel)
theorem pf_X6_59 {nm : String} : PF RX6 nm 59 7 8 (.int) := PF.of (ref := "PieceTransferModel") (C := RX6) (T := TX6) (N := 24) uw_7 tyX6_ok nmX6 rfl (by decide) (by decide +kernel) (Or.inl rfl) rfl (by decide +kernel)
theorem pf_X6_249 {nm : String} : PF RX6 nm 249 7 19 (.int) := PF.of (ref := "PieceTransferModel") (C := RX6) (T := TX6) (N := 24) uw_7 tyX6_ok nmX6 rfl (by decide) (by decide +kernel) (Or.inl rfl) rfl (by decide +kernel)
theorem pf_X6_252 {nm : String} : PF RX6 nm 252 7 20 (.int) := PF.of (ref := "PieceTransferModel") (C := RX6) (T := TX6) (N := 24) uw_7 tyX6_ok nmX6 rfl (by decide) (by decide +kernel) (Or.inl rfl) rfl (by decide +kernel)
theorem pf_X6_274 {nm : String} : PF RX6 nm 274 7 21 (.int) := PF.of (ref := "PieceTransferModel") (C := RX6) (T := TX6) (N := 24) uw_7 tyX6_ok nmX6 rfl (by decide) (by decide +kernel) (Or.inl rfl) rfl (by decide +kernel)
theorem pf_X6_307 {nm : String} : PF RX6 nm 307 7 23 (.int) := PF.of (ref := "PieceTransferModel") (C := RX6) (T := TX6) (N := 24) uw_7 tyX6_ok nmX6 rfl (by decide) (by decide +kernel) (Or.inl rfl) rfl (by decide +kernel)
theorem no_X1_56 : NO RX1 56 0 3 df_0 := ⟨RJx4a65c, TJx4a65c, tyJx4a65c, uw_0, tyJx4a65c_ok, by decide +kernel, by decide +kernel, by decide +kernel, rfl, by decide +kernel⟩
theorem no_X1_63 : NO RX1 63 1 4 df_1 := ⟨RX0, TX0, tyX0, uw_1, tyX0_ok, by decide +kernel, by decide +kernel, by decide +kernel, rfl, by decide +kernel⟩
theorem no_X1_101 : NO RX1 101 3 2 df_3 := ⟨RX2, TX2, tyX2, uw_3, tyX2_ok, by decide +kernel, by decide +kernel, by decide +kernel, rfl, by decide +kernel⟩
theorem no_X4_46 : NO RX4 46 4 16 df_4 := ⟨RX3, TX3, tyX3, uw_4, tyX3_ok, by decide +kernel, by decide +kernel, by decide +kernel, rfl, by decide +kernel⟩
theorem no_X5_42 : NO RX5 42 4 16 df_4 := ⟨RX3, TX3, tyX3, uw_4, tyX3_ok, by decide +kernel, by decide +kernel, by decide +kernel, rfl, by decide +kernel⟩
theorem no_X5_26 : NO RX5 26 2 17 df_2 := ⟨RX1, TX1, tyX1, uw_2, tyX1_ok, by decide +kernel, by decide +kernel, by decide +kernel, rfl, by decide +kernel⟩
theorem no_X5_71 : NO RX5 71 5 6 df_5 := ⟨RX4, TX4, tyX4, uw_5, tyX4_ok, by decide +kernel, by decide +kernel, by decide +kernel, rfl, by decide +kernel⟩
theorem no_X5_273 : NO RX5 273 3 2 df_3 := ⟨RX2, TX2, tyX2, uw_3, tyX2_ok, by decide +kernel, by decide +kernel, by decide +kernel, rfl, by decide +kernel⟩
theorem no_L_8 : NO RL 8 6 10 df_6 := ⟨RX5, TX5, tyX5, uw_6, tyX5_ok, by decide +kernel, by decide +kernel, by decide +kernel, rfl, by decide +kernel⟩
theorem no_L_105 : NO RL 105 7 24 df_7 := ⟨RX6, TX6, tyX6, uw_7, tyX6_ok, by decide +kernel, by decide +kernel, by decide +kernel, rfl, by decide +kernel⟩
theorem lk_Jxc12de_1 : LI RJxc12de 1 M_Jxa1e45_init_da8c8 0 := ⟨⟨by decide +kernel, by decide +kernel, by decide +kernel, rfl, by decide +kernel, by decide⟩, by decide +kernel, rfl, rfl⟩
