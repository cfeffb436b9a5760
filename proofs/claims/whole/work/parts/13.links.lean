/-! the links: what the tables say of each constant (laid by wip/whole/gen) -/
theorem tsw_out {x : Int32} {n : Nat} (h : ∀ k : Nat, k ≤ n → ¬ x = Int32.ofNat k) : x.toInt < 0 ∨ (n : Int) < x.toInt := by
  by_cases h0 : x.toInt < 0
  · exact Or.inl h0
  · refine Or.inr (Int.not_le.mp fun h1 => h x.toInt.toNat (by omega) ?_)
    apply Int32.toInt_inj.mp
    have h2 := Int32.toInt_lt x
    rw [Int32.toInt_ofNat_of_lt (by omega)]
    omega
theorem ca_P : Cond.castable "PieceTransfer$Partial" "java/lang/Object" ∈ NL := sorry
theorem wo_1 : Cond.instanceMethod Lib.objectInit ∈ AL := sorry
theorem wo_2 : Cond.code Lib.objectInit ⟨#[0xb1]⟩ 1 none ∈ AL := sorry
theorem wm_min1 : Cond.static Lib.Math.min.name ∈ AL := sorry
theorem wm_min3 : Cond.code Lib.Math.min.name Lib.Math.min.code 2 (some .int) ∈ AL := sorry
theorem wm_max1 : Cond.static Lib.Math.max.name ∈ AL := sorry
theorem wm_max3 : Cond.code Lib.Math.max.name Lib.Math.max.code 2 (some .int) ∈ AL := sorry
theorem wm_2 : Cond.initialized "java/lang/Math" ∈ AL := sorry
theorem wa_i : Cond.arrayClass .int ∈ AL := sorry
theorem wa_z : Cond.arrayClass .boolean ∈ AL := sorry
theorem wa_l : Cond.arrayClass .long ∈ AL := sorry
theorem wd_0 : Cond.methodLink RJxa1e45 1 Lib.objectInit ∈ AL := sorry
theorem wd_1 : Cond.fieldLink "java/util/ArrayList" 39 "java/util/ArrayList" "DEFAULTCAPACITY_EMPTY_ELEMENTDATA" "[Ljava/lang/Object;" ∈ AL := sorry
theorem wd_2 : Cond.methodLink RJx4a65c 79 Lib.Math.max.name ∈ AL := sorry
theorem wd_3 : Cond.classLink RJx4a65c 7 "java/lang/Object" ∈ AL := sorry
theorem wd_4 : Cond.methodLink RJ7 304 Lib.Math.min.name ∈ AL := sorry
theorem wd_5 : Cond.classLink RJ7 317 "[I" ∈ AL := sorry
theorem wd_6 : Cond.methodLink RX0 3 Lib.objectInit ∈ AL := sorry
theorem wd_7 : Cond.methodLink RX0 29 Lib.Math.min.name ∈ AL := sorry
theorem wd_8 : Cond.methodLink RX2 1 Lib.objectInit ∈ AL := sorry
theorem wd_9 : Cond.methodLink RX3 3 Lib.objectInit ∈ AL := sorry
theorem wd_10 : Cond.methodLink RX3 65 Lib.Math.min.name ∈ AL := sorry
theorem wd_11 : Cond.methodLink RX1 3 Lib.objectInit ∈ AL := sorry
theorem wd_12 : Cond.classLink RX1 101 "PieceTransfer$Partial" ∈ AL := sorry
theorem wd_13 : Cond.methodLink RX1 250 Lib.Math.max.name ∈ AL := sorry
theorem wd_14 : Cond.methodLink RX4 3 Lib.objectInit ∈ AL := sorry
theorem wd_15 : Cond.constant RX4 125 100000 ∈ AL := sorry
theorem wd_16 : Cond.methodLink RX4 126 Lib.Math.min.name ∈ AL := sorry
theorem wd_17 : Cond.methodLink RX5 1 Lib.objectInit ∈ AL := sorry
theorem wd_18 : Cond.classLink RX5 26 "PieceTransfer$Download" ∈ AL := sorry
theorem wd_19 : Cond.classLink RX5 274 "PieceTransfer$Partial" ∈ AL := sorry
theorem wd_20 : Cond.classLink RX5 295 "[I" ∈ AL := sorry
theorem wd_21 : Cond.methodLink RX5 335 Lib.Math.min.name ∈ AL := sorry
theorem wd_22 : Cond.methodLink RX6 1 Lib.objectInit ∈ AL := sorry
theorem wd_23 : Cond.classLink RL 13 "java/lang/IllegalStateException" ∈ AL := sorry
theorem wd_24 : Cond.castable "java/lang/IllegalStateException" "java/lang/IllegalStateException" ∈ NL := sorry
theorem wd_25 : Cond.classLink RL 19 "java/lang/IllegalArgumentException" ∈ AL := sorry
theorem wd_26 : Cond.castable "java/lang/IllegalArgumentException" "java/lang/IllegalArgumentException" ∈ NL := sorry
theorem wd_27 : Cond.classLink RL 28 "java/lang/IndexOutOfBoundsException" ∈ AL := sorry
theorem wd_28 : Cond.castable "java/lang/IndexOutOfBoundsException" "java/lang/IndexOutOfBoundsException" ∈ NL := sorry
theorem wd_29 : Cond.classLink RL 59 "java/util/NoSuchElementException" ∈ AL := sorry
theorem wd_30 : Cond.castable "java/util/NoSuchElementException" "java/util/NoSuchElementException" ∈ NL := sorry
theorem uw_0 : ∀ w ∈ u_ws RJx4a65c TJx4a65c 3, w ∈ AL := sorry
def df_0 : List Value := [.int 0, .null, .int 0]
theorem uw_1 : ∀ w ∈ u_ws RX0 TX0 4, w ∈ AL := sorry
def df_1 : List Value := [.null, .null, .null, .int 0]
theorem uw_2 : ∀ w ∈ u_ws RX1 TX1 17, w ∈ AL := sorry
def df_2 : List Value := [.null, .null, .null, .null, .null, .int 0, .int 0, .int 0, .int 0, .int 0, .int 0, .null, .null, .null, .int 0, .null, .null]
theorem uw_3 : ∀ w ∈ u_ws RX2 TX2 2, w ∈ AL := sorry
def df_3 : List Value := [.int 0, .null]
theorem uw_4 : ∀ w ∈ u_ws RX3 TX3 16, w ∈ AL := sorry
def df_4 : List Value := [.int 0, .int 0, .int 0, .int 0, .null, .null, .null, .null, .null, .null, .null, .null, .null, .int 0, .null, .int 0]
theorem uw_5 : ∀ w ∈ u_ws RX4 TX4 6, w ∈ AL := sorry
def df_5 : List Value := [.null, .int 0, .int 0, .int 0, .int 0, .int 0]
theorem uw_6 : ∀ w ∈ u_ws RX5 TX5 10, w ∈ AL := sorry
def df_6 : List Value := [.null, .int 0, .int 0, .null, .int 0, .null, .null, .int 0, .int 0, .null]
theorem uw_7 : ∀ w ∈ u_ws RX6 TX6 24, w ∈ AL := sorry
def df_7 : List Value := [.null, .null, .null, .null, .int 0, .int 0, .null, .int 0, .int 0, .int 0, .int 0, .int 0, .int 0, .int 0, .int 0, .int 0, .null, .null, .null, .int 0, .int 0, .int 0, .null, .int 0]
theorem gf_Jx4a65c_9 : GF RJx4a65c 9 0 1 := GF.of (ref := "java/util/ArrayList") (C := RJx4a65c) (T := TJx4a65c) (N := 3) uw_0 rfl sorry sorry (Or.inl rfl)
theorem gf_Jx4a65c_48 : GF RJx4a65c 48 0 2 := GF.of (ref := "java/util/ArrayList") (C := RJx4a65c) (T := TJx4a65c) (N := 3) uw_0 rfl sorry sorry (Or.inl rfl)
theorem gf_Jx4a65c_63 : GF RJx4a65c 63 0 0 := GF.of (ref := "java/util/ArrayList") (C := RJx4a65c) (T := TJx4a65c) (N := 3) uw_0 rfl sorry sorry (Or.inr sorry)
theorem gf_X0_21 : GF RX0 21 1 3 := GF.of (ref := "PieceTransfer$Audit") (C := RX0) (T := TX0) (N := 4) uw_1 rfl sorry sorry (Or.inl rfl)
theorem gf_X0_9 : GF RX0 9 1 0 := GF.of (ref := "PieceTransfer$Audit") (C := RX0) (T := TX0) (N := 4) uw_1 rfl sorry sorry (Or.inl rfl)
theorem gf_X0_15 : GF RX0 15 1 1 := GF.of (ref := "PieceTransfer$Audit") (C := RX0) (T := TX0) (N := 4) uw_1 rfl sorry sorry (Or.inl rfl)
theorem gf_X0_18 : GF RX0 18 1 2 := GF.of (ref := "PieceTransfer$Audit") (C := RX0) (T := TX0) (N := 4) uw_1 rfl sorry sorry (Or.inl rfl)
theorem gf_X3_21 : GF RX3 21 4 4 := GF.of (ref := "PieceTransfer$Plan") (C := RX3) (T := TX3) (N := 16) uw_4 rfl sorry sorry (Or.inl rfl)
theorem gf_X3_25 : GF RX3 25 4 5 := GF.of (ref := "PieceTransfer$Plan") (C := RX3) (T := TX3) (N := 16) uw_4 rfl sorry sorry (Or.inl rfl)
theorem gf_X3_31 : GF RX3 31 4 7 := GF.of (ref := "PieceTransfer$Plan") (C := RX3) (T := TX3) (N := 16) uw_4 rfl sorry sorry (Or.inl rfl)
theorem gf_X3_15 : GF RX3 15 4 2 := GF.of (ref := "PieceTransfer$Plan") (C := RX3) (T := TX3) (N := 16) uw_4 rfl sorry sorry (Or.inl rfl)
theorem gf_X3_34 : GF RX3 34 4 8 := GF.of (ref := "PieceTransfer$Plan") (C := RX3) (T := TX3) (N := 16) uw_4 rfl sorry sorry (Or.inl rfl)
theorem gf_X3_18 : GF RX3 18 4 3 := GF.of (ref := "PieceTransfer$Plan") (C := RX3) (T := TX3) (N := 16) uw_4 rfl sorry sorry (Or.inl rfl)
theorem gf_X3_37 : GF RX3 37 4 9 := GF.of (ref := "PieceTransfer$Plan") (C := RX3) (T := TX3) (N := 16) uw_4 rfl sorry sorry (Or.inl rfl)
theorem gf_X3_28 : GF RX3 28 4 6 := GF.of (ref := "PieceTransfer$Plan") (C := RX3) (T := TX3) (N := 16) uw_4 rfl sorry sorry (Or.inl rfl)
theorem gf_X3_40 : GF RX3 40 4 10 := GF.of (ref := "PieceTransfer$Plan") (C := RX3) (T := TX3) (N := 16) uw_4 rfl sorry sorry (Or.inl rfl)
theorem gf_X3_43 : GF RX3 43 4 11 := GF.of (ref := "PieceTransfer$Plan") (C := RX3) (T := TX3) (N := 16) uw_4 rfl sorry sorry (Or.inl rfl)
theorem gf_X3_46 : GF RX3 46 4 12 := GF.of (ref := "PieceTransfer$Plan") (C := RX3) (T := TX3) (N := 16) uw_4 rfl sorry sorry (Or.inl rfl)
theorem gf_X3_49 : GF RX3 49 4 13 := GF.of (ref := "PieceTransfer$Plan") (C := RX3) (T := TX3) (N := 16) uw_4 rfl sorry sorry (Or.inl rfl)
theorem gf_X3_52 : GF RX3 52 4 14 := GF.of (ref := "PieceTransfer$Plan") (C := RX3) (T := TX3) (N := 16) uw_4 rfl sorry sorry (Or.inl rfl)
theorem gf_X3_55 : GF RX3 55 4 15 := GF.of (ref := "PieceTransfer$Plan") (C := RX3) (T := TX3) (N := 16) uw_4 rfl sorry sorry (Or.inl rfl)
theorem gf_X1_43 : GF RX1 43 2 11 := GF.of (ref := "PieceTransfer$Download") (C := RX1) (T := TX1) (N := 17) uw_2 rfl sorry sorry (Or.inl rfl)
theorem gf_X1_46 : GF RX1 46 2 12 := GF.of (ref := "PieceTransfer$Download") (C := RX1) (T := TX1) (N := 17) uw_2 rfl sorry sorry (Or.inl rfl)
theorem gf_X1_49 : GF RX1 49 2 13 := GF.of (ref := "PieceTransfer$Download") (C := RX1) (T := TX1) (N := 17) uw_2 rfl sorry sorry (Or.inl rfl)
theorem gf_X1_59 : GF RX1 59 2 15 := GF.of (ref := "PieceTransfer$Download") (C := RX1) (T := TX1) (N := 17) uw_2 rfl sorry sorry (Or.inl rfl)
theorem gf_X1_66 : GF RX1 66 2 16 := GF.of (ref := "PieceTransfer$Download") (C := RX1) (T := TX1) (N := 17) uw_2 rfl sorry sorry (Or.inl rfl)
theorem gf_X1_70 : GF RX1 70 2 0 := GF.of (ref := "PieceTransfer$Download") (C := RX1) (T := TX1) (N := 17) uw_2 rfl sorry sorry (Or.inl rfl)
theorem gf_X1_24 : GF RX1 24 2 5 := GF.of (ref := "PieceTransfer$Download") (C := RX1) (T := TX1) (N := 17) uw_2 rfl sorry sorry (Or.inl rfl)
theorem gf_X1_28 : GF RX1 28 2 6 := GF.of (ref := "PieceTransfer$Download") (C := RX1) (T := TX1) (N := 17) uw_2 rfl sorry sorry (Or.inl rfl)
theorem gf_X1_31 : GF RX1 31 2 7 := GF.of (ref := "PieceTransfer$Download") (C := RX1) (T := TX1) (N := 17) uw_2 rfl sorry sorry (Or.inl rfl)
theorem gf_X1_34 : GF RX1 34 2 8 := GF.of (ref := "PieceTransfer$Download") (C := RX1) (T := TX1) (N := 17) uw_2 rfl sorry sorry (Or.inl rfl)
theorem gf_X1_37 : GF RX1 37 2 9 := GF.of (ref := "PieceTransfer$Download") (C := RX1) (T := TX1) (N := 17) uw_2 rfl sorry sorry (Or.inl rfl)
theorem gf_X1_40 : GF RX1 40 2 10 := GF.of (ref := "PieceTransfer$Download") (C := RX1) (T := TX1) (N := 17) uw_2 rfl sorry sorry (Or.inl rfl)
theorem gf_X1_52 : GF RX1 52 2 14 := GF.of (ref := "PieceTransfer$Download") (C := RX1) (T := TX1) (N := 17) uw_2 rfl sorry sorry (Or.inl rfl)
theorem gf_X1_9 : GF RX1 9 2 1 := GF.of (ref := "PieceTransfer$Download") (C := RX1) (T := TX1) (N := 17) uw_2 rfl sorry sorry (Or.inl rfl)
theorem gf_X1_15 : GF RX1 15 2 2 := GF.of (ref := "PieceTransfer$Download") (C := RX1) (T := TX1) (N := 17) uw_2 rfl sorry sorry (Or.inl rfl)
theorem gf_X1_18 : GF RX1 18 2 3 := GF.of (ref := "PieceTransfer$Download") (C := RX1) (T := TX1) (N := 17) uw_2 rfl sorry sorry (Or.inl rfl)
theorem gf_X1_21 : GF RX1 21 2 4 := GF.of (ref := "PieceTransfer$Download") (C := RX1) (T := TX1) (N := 17) uw_2 rfl sorry sorry (Or.inl rfl)
theorem gf_X1_115 : GF RX1 115 4 2 := GF.nest (C := RX3) (T := TX3) (N := 16) (host := "PieceTransfer") uw_4 rfl sorry sorry
theorem gf_X1_120 : GF RX1 120 4 3 := GF.nest (C := RX3) (T := TX3) (N := 16) (host := "PieceTransfer") uw_4 rfl sorry sorry
theorem gf_X1_127 : GF RX1 127 4 4 := GF.nest (C := RX3) (T := TX3) (N := 16) (host := "PieceTransfer") uw_4 rfl sorry sorry
theorem gf_X1_192 : GF RX1 192 4 10 := GF.nest (C := RX3) (T := TX3) (N := 16) (host := "PieceTransfer") uw_4 rfl sorry sorry
theorem gf_X1_203 : GF RX1 203 4 13 := GF.nest (C := RX3) (T := TX3) (N := 16) (host := "PieceTransfer") uw_4 rfl sorry sorry
theorem gf_X1_206 : GF RX1 206 4 12 := GF.nest (C := RX3) (T := TX3) (N := 16) (host := "PieceTransfer") uw_4 rfl sorry sorry
theorem gf_X1_222 : GF RX1 222 4 6 := GF.nest (C := RX3) (T := TX3) (N := 16) (host := "PieceTransfer") uw_4 rfl sorry sorry
theorem gf_X1_244 : GF RX1 244 4 1 := GF.nest (C := RX3) (T := TX3) (N := 16) (host := "PieceTransfer") uw_4 rfl sorry sorry
theorem gf_X1_247 : GF RX1 247 4 0 := GF.nest (C := RX3) (T := TX3) (N := 16) (host := "PieceTransfer") uw_4 rfl sorry sorry
theorem gf_X1_264 : GF RX1 264 3 0 := GF.nest (C := RX2) (T := TX2) (N := 2) (host := "PieceTransfer") uw_3 rfl sorry sorry
theorem gf_X1_263 : GF RX1 263 3 1 := GF.nest (C := RX2) (T := TX2) (N := 2) (host := "PieceTransfer") uw_3 rfl sorry sorry
theorem gf_X4_18 : GF RX4 18 5 4 := GF.of (ref := "PieceTransfer$Reader") (C := RX4) (T := TX4) (N := 6) uw_5 rfl sorry sorry (Or.inl rfl)
theorem gf_X4_28 : GF RX4 28 5 1 := GF.of (ref := "PieceTransfer$Reader") (C := RX4) (T := TX4) (N := 6) uw_5 rfl sorry sorry (Or.inl rfl)
theorem gf_X4_9 : GF RX4 9 5 2 := GF.of (ref := "PieceTransfer$Reader") (C := RX4) (T := TX4) (N := 6) uw_5 rfl sorry sorry (Or.inl rfl)
theorem gf_X4_15 : GF RX4 15 5 3 := GF.of (ref := "PieceTransfer$Reader") (C := RX4) (T := TX4) (N := 6) uw_5 rfl sorry sorry (Or.inl rfl)
theorem gf_X4_91 : GF RX4 91 4 0 := GF.nest (C := RX3) (T := TX3) (N := 16) (host := "PieceTransfer") uw_4 rfl sorry sorry
theorem gf_X4_95 : GF RX4 95 4 13 := GF.nest (C := RX3) (T := TX3) (N := 16) (host := "PieceTransfer") uw_4 rfl sorry sorry
theorem gf_X4_102 : GF RX4 102 4 15 := GF.nest (C := RX3) (T := TX3) (N := 16) (host := "PieceTransfer") uw_4 rfl sorry sorry
theorem gf_X4_24 : GF RX4 24 5 0 := GF.of (ref := "PieceTransfer$Reader") (C := RX4) (T := TX4) (N := 6) uw_5 rfl sorry sorry (Or.inl rfl)
theorem gf_X5_50 : GF RX5 50 6 5 := GF.of (ref := "PieceTransfer") (C := RX5) (T := TX5) (N := 10) uw_6 rfl sorry sorry (Or.inl rfl)
theorem gf_X5_13 : GF RX5 13 6 1 := GF.of (ref := "PieceTransfer") (C := RX5) (T := TX5) (N := 10) uw_6 rfl sorry sorry (Or.inl rfl)
theorem gf_X5_9 : GF RX5 9 6 0 := GF.of (ref := "PieceTransfer") (C := RX5) (T := TX5) (N := 10) uw_6 rfl sorry sorry (Or.inl rfl)
theorem gf_X5_80 : GF RX5 80 5 5 := GF.nest (C := RX4) (T := TX4) (N := 6) (host := "PieceTransfer") uw_5 rfl sorry sorry
theorem gf_X5_87 : GF RX5 87 4 3 := GF.nest (C := RX3) (T := TX3) (N := 16) (host := "PieceTransfer") uw_4 rfl sorry sorry
theorem gf_X5_81 : GF RX5 81 5 4 := GF.nest (C := RX4) (T := TX4) (N := 6) (host := "PieceTransfer") uw_5 rfl sorry sorry
theorem gf_X5_17 : GF RX5 17 6 2 := GF.of (ref := "PieceTransfer") (C := RX5) (T := TX5) (N := 10) uw_6 rfl sorry sorry (Or.inl rfl)
theorem gf_X5_90 : GF RX5 90 2 0 := GF.nest (C := RX1) (T := TX1) (N := 17) (host := "PieceTransfer") uw_2 rfl sorry sorry
theorem gf_X5_94 : GF RX5 94 4 0 := GF.nest (C := RX3) (T := TX3) (N := 16) (host := "PieceTransfer") uw_4 rfl sorry sorry
theorem gf_X5_97 : GF RX5 97 4 2 := GF.nest (C := RX3) (T := TX3) (N := 16) (host := "PieceTransfer") uw_4 rfl sorry sorry
theorem gf_X5_100 : GF RX5 100 2 8 := GF.nest (C := RX1) (T := TX1) (N := 17) (host := "PieceTransfer") uw_2 rfl sorry sorry
theorem gf_X5_103 : GF RX5 103 2 9 := GF.nest (C := RX1) (T := TX1) (N := 17) (host := "PieceTransfer") uw_2 rfl sorry sorry
theorem gf_X5_106 : GF RX5 106 2 6 := GF.nest (C := RX1) (T := TX1) (N := 17) (host := "PieceTransfer") uw_2 rfl sorry sorry
theorem gf_X5_109 : GF RX5 109 2 7 := GF.nest (C := RX1) (T := TX1) (N := 17) (host := "PieceTransfer") uw_2 rfl sorry sorry
theorem gf_X5_112 : GF RX5 112 2 5 := GF.nest (C := RX1) (T := TX1) (N := 17) (host := "PieceTransfer") uw_2 rfl sorry sorry
theorem gf_X5_115 : GF RX5 115 2 15 := GF.nest (C := RX1) (T := TX1) (N := 17) (host := "PieceTransfer") uw_2 rfl sorry sorry
theorem gf_X5_125 : GF RX5 125 2 16 := GF.nest (C := RX1) (T := TX1) (N := 17) (host := "PieceTransfer") uw_2 rfl sorry sorry
theorem gf_X5_129 : GF RX5 129 1 3 := GF.nest (C := RX0) (T := TX0) (N := 4) (host := "PieceTransfer") uw_1 rfl sorry sorry
theorem gf_X5_134 : GF RX5 134 2 10 := GF.nest (C := RX1) (T := TX1) (N := 17) (host := "PieceTransfer") uw_2 rfl sorry sorry
theorem gf_X5_137 : GF RX5 137 4 1 := GF.nest (C := RX3) (T := TX3) (N := 16) (host := "PieceTransfer") uw_4 rfl sorry sorry
theorem gf_X5_155 : GF RX5 155 2 14 := GF.nest (C := RX1) (T := TX1) (N := 17) (host := "PieceTransfer") uw_2 rfl sorry sorry
theorem gf_X5_159 : GF RX5 159 2 12 := GF.nest (C := RX1) (T := TX1) (N := 17) (host := "PieceTransfer") uw_2 rfl sorry sorry
theorem gf_X5_166 : GF RX5 166 2 13 := GF.nest (C := RX1) (T := TX1) (N := 17) (host := "PieceTransfer") uw_2 rfl sorry sorry
theorem gf_X5_179 : GF RX5 179 4 11 := GF.nest (C := RX3) (T := TX3) (N := 16) (host := "PieceTransfer") uw_4 rfl sorry sorry
theorem gf_X5_185 : GF RX5 185 2 1 := GF.nest (C := RX1) (T := TX1) (N := 17) (host := "PieceTransfer") uw_2 rfl sorry sorry
theorem gf_X5_200 : GF RX5 200 2 3 := GF.nest (C := RX1) (T := TX1) (N := 17) (host := "PieceTransfer") uw_2 rfl sorry sorry
theorem gf_X5_203 : GF RX5 203 4 6 := GF.nest (C := RX3) (T := TX3) (N := 16) (host := "PieceTransfer") uw_4 rfl sorry sorry
theorem gf_X5_206 : GF RX5 206 2 4 := GF.nest (C := RX1) (T := TX1) (N := 17) (host := "PieceTransfer") uw_2 rfl sorry sorry
theorem gf_X5_217 : GF RX5 217 4 10 := GF.nest (C := RX3) (T := TX3) (N := 16) (host := "PieceTransfer") uw_4 rfl sorry sorry
theorem gf_X5_220 : GF RX5 220 2 2 := GF.nest (C := RX1) (T := TX1) (N := 17) (host := "PieceTransfer") uw_2 rfl sorry sorry
theorem gf_X5_230 : GF RX5 230 2 11 := GF.nest (C := RX1) (T := TX1) (N := 17) (host := "PieceTransfer") uw_2 rfl sorry sorry
theorem gf_X5_38 : GF RX5 38 6 9 := GF.of (ref := "PieceTransfer") (C := RX5) (T := TX5) (N := 10) uw_6 rfl sorry sorry (Or.inl rfl)
theorem gf_X5_283 : GF RX5 283 3 0 := GF.nest (C := RX2) (T := TX2) (N := 2) (host := "PieceTransfer") uw_3 rfl sorry sorry
theorem gf_X5_286 : GF RX5 286 3 1 := GF.nest (C := RX2) (T := TX2) (N := 2) (host := "PieceTransfer") uw_3 rfl sorry sorry
theorem gf_X5_302 : GF RX5 302 4 4 := GF.nest (C := RX3) (T := TX3) (N := 16) (host := "PieceTransfer") uw_4 rfl sorry sorry
theorem gf_X5_313 : GF RX5 313 4 5 := GF.nest (C := RX3) (T := TX3) (N := 16) (host := "PieceTransfer") uw_4 rfl sorry sorry
theorem gf_X5_320 : GF RX5 320 1 0 := GF.nest (C := RX0) (T := TX0) (N := 4) (host := "PieceTransfer") uw_1 rfl sorry sorry
theorem gf_X5_323 : GF RX5 323 1 1 := GF.nest (C := RX0) (T := TX0) (N := 4) (host := "PieceTransfer") uw_1 rfl sorry sorry
theorem gf_X5_326 : GF RX5 326 1 2 := GF.nest (C := RX0) (T := TX0) (N := 4) (host := "PieceTransfer") uw_1 rfl sorry sorry
theorem gf_X5_23 : GF RX5 23 6 4 := GF.of (ref := "PieceTransfer") (C := RX5) (T := TX5) (N := 10) uw_6 rfl sorry sorry (Or.inl rfl)
theorem gf_X5_20 : GF RX5 20 6 3 := GF.of (ref := "PieceTransfer") (C := RX5) (T := TX5) (N := 10) uw_6 rfl sorry sorry (Or.inl rfl)
theorem gf_X5_32 : GF RX5 32 6 7 := GF.of (ref := "PieceTransfer") (C := RX5) (T := TX5) (N := 10) uw_6 rfl sorry sorry (Or.inl rfl)
theorem gf_X5_28 : GF RX5 28 6 6 := GF.of (ref := "PieceTransfer") (C := RX5) (T := TX5) (N := 10) uw_6 rfl sorry sorry (Or.inl rfl)
theorem gf_X5_35 : GF RX5 35 6 8 := GF.of (ref := "PieceTransfer") (C := RX5) (T := TX5) (N := 10) uw_6 rfl sorry sorry (Or.inl rfl)
theorem gf_X6_13 : GF RX6 13 7 1 := GF.of (ref := "PieceTransferModel") (C := RX6) (T := TX6) (N := 24) uw_7 rfl sorry sorry (Or.inl rfl)
theorem gf_X6_7 : GF RX6 7 7 0 := GF.of (ref := "PieceTransferModel") (C := RX6) (T := TX6) (N := 24) uw_7 rfl sorry sorry (Or.inl rfl)
theorem gf_X6_16 : GF RX6 16 7 2 := GF.of (ref := "PieceTransferModel") (C := RX6) (T := TX6) (N := 24) uw_7 rfl sorry sorry (Or.inl rfl)
theorem gf_X6_50 : GF RX6 50 7 5 := GF.of (ref := "PieceTransferModel") (C := RX6) (T := TX6) (N := 24) uw_7 rfl sorry sorry (Or.inl rfl)
theorem gf_X6_53 : GF RX6 53 7 4 := GF.of (ref := "PieceTransferModel") (C := RX6) (T := TX6) (N := 24) uw_7 rfl sorry sorry (Or.inl rfl)
theorem gf_X6_19 : GF RX6 19 7 3 := GF.of (ref := "PieceTransferModel") (C := RX6) (T := TX6) (N := 24) uw_7 rfl sorry sorry (Or.inl rfl)
theorem gf_X6_56 : GF RX6 56 7 7 := GF.of (ref := "PieceTransferModel") (C := RX6) (T := TX6) (N := 24) uw_7 rfl sorry sorry (Or.inl rfl)
theorem gf_X6_22 : GF RX6 22 7 6 := GF.of (ref := "PieceTransferModel") (C := RX6) (T := TX6) (N := 24) uw_7 rfl sorry sorry (Or.inl rfl)
theorem gf_X6_59 : GF RX6 59 7 8 := GF.of (ref := "PieceTransferModel") (C := RX6) (T := TX6) (N := 24) uw_7 rfl sorry sorry (Or.inl rfl)
theorem gf_X6_66 : GF RX6 66 7 10 := GF.of (ref := "PieceTransferModel") (C := RX6) (T := TX6) (N := 24) uw_7 rfl sorry sorry (Or.inl rfl)
theorem gf_X6_69 : GF RX6 69 7 9 := GF.of (ref := "PieceTransferModel") (C := RX6) (T := TX6) (N := 24) uw_7 rfl sorry sorry (Or.inl rfl)
theorem gf_X6_86 : GF RX6 86 7 12 := GF.of (ref := "PieceTransferModel") (C := RX6) (T := TX6) (N := 24) uw_7 rfl sorry sorry (Or.inl rfl)
theorem gf_X6_89 : GF RX6 89 7 13 := GF.of (ref := "PieceTransferModel") (C := RX6) (T := TX6) (N := 24) uw_7 rfl sorry sorry (Or.inl rfl)
theorem gf_X6_76 : GF RX6 76 7 11 := GF.of (ref := "PieceTransferModel") (C := RX6) (T := TX6) (N := 24) uw_7 rfl sorry sorry (Or.inl rfl)
theorem gf_X6_102 : GF RX6 102 7 14 := GF.of (ref := "PieceTransferModel") (C := RX6) (T := TX6) (N := 24) uw_7 rfl sorry sorry (Or.inl rfl)
theorem gf_X6_25 : GF RX6 25 7 15 := GF.of (ref := "PieceTransferModel") (C := RX6) (T := TX6) (N := 24) uw_7 rfl sorry sorry (Or.inl rfl)
theorem gf_X6_249 : GF RX6 249 7 19 := GF.of (ref := "PieceTransferModel") (C := RX6) (T := TX6) (N := 24) uw_7 rfl sorry sorry (Or.inl rfl)
theorem gf_X6_29 : GF RX6 29 7 16 := GF.of (ref := "PieceTransferModel") (C := RX6) (T := TX6) (N := 24) uw_7 rfl sorry sorry (Or.inl rfl)
theorem gf_X6_32 : GF RX6 32 7 17 := GF.of (ref := "PieceTransferModel") (C := RX6) (T := TX6) (N := 24) uw_7 rfl sorry sorry (Or.inl rfl)
theorem gf_X6_35 : GF RX6 35 7 18 := GF.of (ref := "PieceTransferModel") (C := RX6) (T := TX6) (N := 24) uw_7 rfl sorry sorry (Or.inl rfl)
theorem gf_X6_252 : GF RX6 252 7 20 := GF.of (ref := "PieceTransferModel") (C := RX6) (T := TX6) (N := 24) uw_7 rfl sorry sorry (Or.inl rfl)
theorem gf_X6_307 : GF RX6 307 7 23 := GF.of (ref := "PieceTransferModel") (C := RX6) (T := TX6) (N := 24) uw_7 rfl sorry sorry (Or.inl rfl)
theorem gf_X6_39 : GF RX6 39 7 22 := GF.of (ref := "PieceTransferModel") (C := RX6) (T := TX6) (N := 24) uw_7 rfl sorry sorry (Or.inl rfl)
theorem pf_Jxc12de_7 {nm : String} : PF RJxc12de nm 7 0 0 (.int) := PF.of (ref := "java/util/AbstractList") (C := RJx4a65c) (T := TJx4a65c) (N := 3) uw_0 tyJx4a65c_ok nmJx4a65c rfl sorry sorry (Or.inl rfl) rfl sorry
theorem pf_Jx4a65c_9 {nm : String} : PF RJx4a65c nm 9 0 1 (.array (.object "java/lang/Object")) := PF.of (ref := "java/util/ArrayList") (C := RJx4a65c) (T := TJx4a65c) (N := 3) uw_0 tyJx4a65c_ok nmJx4a65c rfl sorry sorry (Or.inl rfl) rfl sorry
theorem pf_Jx4a65c_48 {nm : String} : PF RJx4a65c nm 48 0 2 (.int) := PF.of (ref := "java/util/ArrayList") (C := RJx4a65c) (T := TJx4a65c) (N := 3) uw_0 tyJx4a65c_ok nmJx4a65c rfl sorry sorry (Or.inl rfl) rfl sorry
theorem pf_Jx4a65c_63 {nm : String} : PF RJx4a65c nm 63 0 0 (.int) := PF.of (ref := "java/util/ArrayList") (C := RJx4a65c) (T := TJx4a65c) (N := 3) uw_0 tyJx4a65c_ok nmJx4a65c rfl sorry sorry (Or.inr sorry) rfl sorry
theorem pf_X0_9 : PF RX0 "<init>" 9 1 0 (.array .int) := PF.fin (ci := 1) (k := 0) (ref := "PieceTransfer$Audit") (C := RX0) (T := TX0) (N := 4) uw_1 tyX0_ok nmX0 rfl sorry sorry rfl rfl rfl sorry
theorem pf_X0_15 : PF RX0 "<init>" 15 1 1 (.array .int) := PF.fin (ci := 1) (k := 1) (ref := "PieceTransfer$Audit") (C := RX0) (T := TX0) (N := 4) uw_1 tyX0_ok nmX0 rfl sorry sorry rfl rfl rfl sorry
theorem pf_X0_18 : PF RX0 "<init>" 18 1 2 (.array .int) := PF.fin (ci := 1) (k := 2) (ref := "PieceTransfer$Audit") (C := RX0) (T := TX0) (N := 4) uw_1 tyX0_ok nmX0 rfl sorry sorry rfl rfl rfl sorry
theorem pf_X0_21 {nm : String} : PF RX0 nm 21 1 3 (.int) := PF.of (ref := "PieceTransfer$Audit") (C := RX0) (T := TX0) (N := 4) uw_1 tyX0_ok nmX0 rfl sorry sorry (Or.inl rfl) rfl sorry
theorem pf_X2_7 : PF RX2 "<init>" 7 3 0 (.int) := PF.fin (ci := 3) (k := 0) (ref := "PieceTransfer$Partial") (C := RX2) (T := TX2) (N := 2) uw_3 tyX2_ok nmX2 rfl sorry sorry rfl rfl rfl sorry
theorem pf_X2_13 : PF RX2 "<init>" 13 3 1 (.array .int) := PF.fin (ci := 3) (k := 1) (ref := "PieceTransfer$Partial") (C := RX2) (T := TX2) (N := 2) uw_3 tyX2_ok nmX2 rfl sorry sorry rfl rfl rfl sorry
theorem pf_X3_9 {nm : String} : PF RX3 nm 9 4 1 (.int) := PF.of (ref := "PieceTransfer$Plan") (C := RX3) (T := TX3) (N := 16) uw_4 tyX3_ok nmX3 rfl sorry sorry (Or.inl rfl) rfl sorry
theorem pf_X3_15 {nm : String} : PF RX3 nm 15 4 2 (.int) := PF.of (ref := "PieceTransfer$Plan") (C := RX3) (T := TX3) (N := 16) uw_4 tyX3_ok nmX3 rfl sorry sorry (Or.inl rfl) rfl sorry
theorem pf_X3_18 {nm : String} : PF RX3 nm 18 4 3 (.int) := PF.of (ref := "PieceTransfer$Plan") (C := RX3) (T := TX3) (N := 16) uw_4 tyX3_ok nmX3 rfl sorry sorry (Or.inl rfl) rfl sorry
theorem pf_X3_21 : PF RX3 "<init>" 21 4 4 (.array .int) := PF.fin (ci := 4) (k := 4) (ref := "PieceTransfer$Plan") (C := RX3) (T := TX3) (N := 16) uw_4 tyX3_ok nmX3 rfl sorry sorry rfl rfl rfl sorry
theorem pf_X3_25 : PF RX3 "<init>" 25 4 5 (.array .int) := PF.fin (ci := 4) (k := 5) (ref := "PieceTransfer$Plan") (C := RX3) (T := TX3) (N := 16) uw_4 tyX3_ok nmX3 rfl sorry sorry rfl rfl rfl sorry
theorem pf_X3_28 : PF RX3 "<init>" 28 4 6 (.array .int) := PF.fin (ci := 4) (k := 6) (ref := "PieceTransfer$Plan") (C := RX3) (T := TX3) (N := 16) uw_4 tyX3_ok nmX3 rfl sorry sorry rfl rfl rfl sorry
theorem pf_X3_31 : PF RX3 "<init>" 31 4 7 (.array .int) := PF.fin (ci := 4) (k := 7) (ref := "PieceTransfer$Plan") (C := RX3) (T := TX3) (N := 16) uw_4 tyX3_ok nmX3 rfl sorry sorry rfl rfl rfl sorry
theorem pf_X3_34 : PF RX3 "<init>" 34 4 8 (.array .int) := PF.fin (ci := 4) (k := 8) (ref := "PieceTransfer$Plan") (C := RX3) (T := TX3) (N := 16) uw_4 tyX3_ok nmX3 rfl sorry sorry rfl rfl rfl sorry
theorem pf_X3_37 : PF RX3 "<init>" 37 4 9 (.array .int) := PF.fin (ci := 4) (k := 9) (ref := "PieceTransfer$Plan") (C := RX3) (T := TX3) (N := 16) uw_4 tyX3_ok nmX3 rfl sorry sorry rfl rfl rfl sorry
theorem pf_X3_40 : PF RX3 "<init>" 40 4 10 (.array .int) := PF.fin (ci := 4) (k := 10) (ref := "PieceTransfer$Plan") (C := RX3) (T := TX3) (N := 16) uw_4 tyX3_ok nmX3 rfl sorry sorry rfl rfl rfl sorry
theorem pf_X3_43 : PF RX3 "<init>" 43 4 11 (.array .int) := PF.fin (ci := 4) (k := 11) (ref := "PieceTransfer$Plan") (C := RX3) (T := TX3) (N := 16) uw_4 tyX3_ok nmX3 rfl sorry sorry rfl rfl rfl sorry
theorem pf_X3_46 : PF RX3 "<init>" 46 4 12 (.array .int) := PF.fin (ci := 4) (k := 12) (ref := "PieceTransfer$Plan") (C := RX3) (T := TX3) (N := 16) uw_4 tyX3_ok nmX3 rfl sorry sorry rfl rfl rfl sorry
theorem pf_X3_49 {nm : String} : PF RX3 nm 49 4 13 (.int) := PF.of (ref := "PieceTransfer$Plan") (C := RX3) (T := TX3) (N := 16) uw_4 tyX3_ok nmX3 rfl sorry sorry (Or.inl rfl) rfl sorry
theorem pf_X3_52 : PF RX3 "<init>" 52 4 14 (.array .int) := PF.fin (ci := 4) (k := 14) (ref := "PieceTransfer$Plan") (C := RX3) (T := TX3) (N := 16) uw_4 tyX3_ok nmX3 rfl sorry sorry rfl rfl rfl sorry
theorem pf_X3_55 {nm : String} : PF RX3 nm 55 4 15 (.int) := PF.of (ref := "PieceTransfer$Plan") (C := RX3) (T := TX3) (N := 16) uw_4 tyX3_ok nmX3 rfl sorry sorry (Or.inl rfl) rfl sorry
theorem pf_X3_58 : PF RX3 "<init>" 58 4 0 (.int) := PF.fin (ci := 4) (k := 0) (ref := "PieceTransfer$Plan") (C := RX3) (T := TX3) (N := 16) uw_4 tyX3_ok nmX3 rfl sorry sorry rfl rfl rfl sorry
theorem pf_X1_9 : PF RX1 "<init>" 9 2 1 (.array .int) := PF.fin (ci := 2) (k := 1) (ref := "PieceTransfer$Download") (C := RX1) (T := TX1) (N := 17) uw_2 tyX1_ok nmX1 rfl sorry sorry rfl rfl rfl sorry
theorem pf_X1_15 : PF RX1 "<init>" 15 2 2 (.array .int) := PF.fin (ci := 2) (k := 2) (ref := "PieceTransfer$Download") (C := RX1) (T := TX1) (N := 17) uw_2 tyX1_ok nmX1 rfl sorry sorry rfl rfl rfl sorry
theorem pf_X1_18 : PF RX1 "<init>" 18 2 3 (.array .int) := PF.fin (ci := 2) (k := 3) (ref := "PieceTransfer$Download") (C := RX1) (T := TX1) (N := 17) uw_2 tyX1_ok nmX1 rfl sorry sorry rfl rfl rfl sorry
theorem pf_X1_21 : PF RX1 "<init>" 21 2 4 (.array .int) := PF.fin (ci := 2) (k := 4) (ref := "PieceTransfer$Download") (C := RX1) (T := TX1) (N := 17) uw_2 tyX1_ok nmX1 rfl sorry sorry rfl rfl rfl sorry
theorem pf_X1_24 {nm : String} : PF RX1 nm 24 2 5 (.int) := PF.of (ref := "PieceTransfer$Download") (C := RX1) (T := TX1) (N := 17) uw_2 tyX1_ok nmX1 rfl sorry sorry (Or.inl rfl) rfl sorry
theorem pf_X1_28 {nm : String} : PF RX1 nm 28 2 6 (.int) := PF.of (ref := "PieceTransfer$Download") (C := RX1) (T := TX1) (N := 17) uw_2 tyX1_ok nmX1 rfl sorry sorry (Or.inl rfl) rfl sorry
theorem pf_X1_31 {nm : String} : PF RX1 nm 31 2 7 (.int) := PF.of (ref := "PieceTransfer$Download") (C := RX1) (T := TX1) (N := 17) uw_2 tyX1_ok nmX1 rfl sorry sorry (Or.inl rfl) rfl sorry
theorem pf_X1_34 {nm : String} : PF RX1 nm 34 2 8 (.int) := PF.of (ref := "PieceTransfer$Download") (C := RX1) (T := TX1) (N := 17) uw_2 tyX1_ok nmX1 rfl sorry sorry (Or.inl rfl) rfl sorry
theorem pf_X1_37 {nm : String} : PF RX1 nm 37 2 9 (.int) := PF.of (ref := "PieceTransfer$Download") (C := RX1) (T := TX1) (N := 17) uw_2 tyX1_ok nmX1 rfl sorry sorry (Or.inl rfl) rfl sorry
theorem pf_X1_40 {nm : String} : PF RX1 nm 40 2 10 (.int) := PF.of (ref := "PieceTransfer$Download") (C := RX1) (T := TX1) (N := 17) uw_2 tyX1_ok nmX1 rfl sorry sorry (Or.inl rfl) rfl sorry
theorem pf_X1_43 : PF RX1 "<init>" 43 2 11 (.array .int) := PF.fin (ci := 2) (k := 11) (ref := "PieceTransfer$Download") (C := RX1) (T := TX1) (N := 17) uw_2 tyX1_ok nmX1 rfl sorry sorry rfl rfl rfl sorry
theorem pf_X1_46 : PF RX1 "<init>" 46 2 12 (.array .int) := PF.fin (ci := 2) (k := 12) (ref := "PieceTransfer$Download") (C := RX1) (T := TX1) (N := 17) uw_2 tyX1_ok nmX1 rfl sorry sorry rfl rfl rfl sorry
theorem pf_X1_49 : PF RX1 "<init>" 49 2 13 (.array .int) := PF.fin (ci := 2) (k := 13) (ref := "PieceTransfer$Download") (C := RX1) (T := TX1) (N := 17) uw_2 tyX1_ok nmX1 rfl sorry sorry rfl rfl rfl sorry
theorem pf_X1_52 {nm : String} : PF RX1 nm 52 2 14 (.boolean) := PF.of (ref := "PieceTransfer$Download") (C := RX1) (T := TX1) (N := 17) uw_2 tyX1_ok nmX1 rfl sorry sorry (Or.inl rfl) rfl sorry
theorem pf_X1_59 : PF RX1 "<init>" 59 2 15 (.object "java/util/ArrayList") := PF.fin (ci := 2) (k := 15) (ref := "PieceTransfer$Download") (C := RX1) (T := TX1) (N := 17) uw_2 tyX1_ok nmX1 rfl sorry sorry rfl rfl rfl sorry
theorem pf_X1_66 : PF RX1 "<init>" 66 2 16 (.object "PieceTransfer$Audit") := PF.fin (ci := 2) (k := 16) (ref := "PieceTransfer$Download") (C := RX1) (T := TX1) (N := 17) uw_2 tyX1_ok nmX1 rfl sorry sorry rfl rfl rfl sorry
theorem pf_X1_70 {nm : String} : PF RX1 nm 70 2 0 (.object "PieceTransfer$Plan") := PF.of (ref := "PieceTransfer$Download") (C := RX1) (T := TX1) (N := 17) uw_2 tyX1_ok nmX1 rfl sorry sorry (Or.inl rfl) rfl sorry
theorem pf_X1_83 {nm : String} : PF RX1 nm 83 1 3 (.int) := PF.nest (C := RX0) (T := TX0) (N := 4) (host := "PieceTransfer") uw_1 tyX0_ok nmX0 rfl sorry sorry rfl sorry
theorem pf_X4_9 {nm : String} : PF RX4 nm 9 5 2 (.int) := PF.of (ref := "PieceTransfer$Reader") (C := RX4) (T := TX4) (N := 6) uw_5 tyX4_ok nmX4 rfl sorry sorry (Or.inl rfl) rfl sorry
theorem pf_X4_15 {nm : String} : PF RX4 nm 15 5 3 (.int) := PF.of (ref := "PieceTransfer$Reader") (C := RX4) (T := TX4) (N := 6) uw_5 tyX4_ok nmX4 rfl sorry sorry (Or.inl rfl) rfl sorry
theorem pf_X4_18 {nm : String} : PF RX4 nm 18 5 4 (.int) := PF.of (ref := "PieceTransfer$Reader") (C := RX4) (T := TX4) (N := 6) uw_5 tyX4_ok nmX4 rfl sorry sorry (Or.inl rfl) rfl sorry
theorem pf_X4_21 {nm : String} : PF RX4 nm 21 5 5 (.int) := PF.of (ref := "PieceTransfer$Reader") (C := RX4) (T := TX4) (N := 6) uw_5 tyX4_ok nmX4 rfl sorry sorry (Or.inl rfl) rfl sorry
theorem pf_X4_24 : PF RX4 "<init>" 24 5 0 (.array .int) := PF.fin (ci := 5) (k := 0) (ref := "PieceTransfer$Reader") (C := RX4) (T := TX4) (N := 6) uw_5 tyX4_ok nmX4 rfl sorry sorry rfl rfl rfl sorry
theorem pf_X4_28 : PF RX4 "<init>" 28 5 1 (.int) := PF.fin (ci := 5) (k := 1) (ref := "PieceTransfer$Reader") (C := RX4) (T := TX4) (N := 6) uw_5 tyX4_ok nmX4 rfl sorry sorry rfl rfl rfl sorry
theorem pf_X4_84 {nm : String} : PF RX4 nm 84 4 1 (.int) := PF.nest (C := RX3) (T := TX3) (N := 16) (host := "PieceTransfer") uw_4 tyX3_ok nmX3 rfl sorry sorry rfl sorry
theorem pf_X5_9 : PF RX5 "<init>" 9 6 0 (.array .int) := PF.fin (ci := 6) (k := 0) (ref := "PieceTransfer") (C := RX5) (T := TX5) (N := 10) uw_6 tyX5_ok nmX5 rfl sorry sorry rfl rfl rfl sorry
theorem pf_X5_13 {nm : String} : PF RX5 nm 13 6 1 (.int) := PF.of (ref := "PieceTransfer") (C := RX5) (T := TX5) (N := 10) uw_6 tyX5_ok nmX5 rfl sorry sorry (Or.inl rfl) rfl sorry
theorem pf_X5_17 {nm : String} : PF RX5 nm 17 6 2 (.int) := PF.of (ref := "PieceTransfer") (C := RX5) (T := TX5) (N := 10) uw_6 tyX5_ok nmX5 rfl sorry sorry (Or.inl rfl) rfl sorry
theorem pf_X5_20 : PF RX5 "<init>" 20 6 3 (.array .int) := PF.fin (ci := 6) (k := 3) (ref := "PieceTransfer") (C := RX5) (T := TX5) (N := 10) uw_6 tyX5_ok nmX5 rfl sorry sorry rfl rfl rfl sorry
theorem pf_X5_23 {nm : String} : PF RX5 nm 23 6 4 (.int) := PF.of (ref := "PieceTransfer") (C := RX5) (T := TX5) (N := 10) uw_6 tyX5_ok nmX5 rfl sorry sorry (Or.inl rfl) rfl sorry
theorem pf_X5_28 : PF RX5 "<init>" 28 6 6 (.array (.object "PieceTransfer$Download")) := PF.fin (ci := 6) (k := 6) (ref := "PieceTransfer") (C := RX5) (T := TX5) (N := 10) uw_6 tyX5_ok nmX5 rfl sorry sorry rfl rfl rfl sorry
theorem pf_X5_32 {nm : String} : PF RX5 nm 32 6 7 (.int) := PF.of (ref := "PieceTransfer") (C := RX5) (T := TX5) (N := 10) uw_6 tyX5_ok nmX5 rfl sorry sorry (Or.inl rfl) rfl sorry
theorem pf_X5_35 {nm : String} : PF RX5 nm 35 6 8 (.int) := PF.of (ref := "PieceTransfer") (C := RX5) (T := TX5) (N := 10) uw_6 tyX5_ok nmX5 rfl sorry sorry (Or.inl rfl) rfl sorry
theorem pf_X5_38 {nm : String} : PF RX5 nm 38 6 9 (.object "PieceTransfer$Download") := PF.of (ref := "PieceTransfer") (C := RX5) (T := TX5) (N := 10) uw_6 tyX5_ok nmX5 rfl sorry sorry (Or.inl rfl) rfl sorry
theorem pf_X5_50 {nm : String} : PF RX5 nm 50 6 5 (.object "PieceTransfer$Download") := PF.of (ref := "PieceTransfer") (C := RX5) (T := TX5) (N := 10) uw_6 tyX5_ok nmX5 rfl sorry sorry (Or.inl rfl) rfl sorry
theorem pf_X6_7 : PF RX6 "<init>" 7 7 0 (.array .int) := PF.fin (ci := 7) (k := 0) (ref := "PieceTransferModel") (C := RX6) (T := TX6) (N := 24) uw_7 tyX6_ok nmX6 rfl sorry sorry rfl rfl rfl sorry
theorem pf_X6_13 : PF RX6 "<init>" 13 7 1 (.array .int) := PF.fin (ci := 7) (k := 1) (ref := "PieceTransferModel") (C := RX6) (T := TX6) (N := 24) uw_7 tyX6_ok nmX6 rfl sorry sorry rfl rfl rfl sorry
theorem pf_X6_16 : PF RX6 "<init>" 16 7 2 (.array .int) := PF.fin (ci := 7) (k := 2) (ref := "PieceTransferModel") (C := RX6) (T := TX6) (N := 24) uw_7 tyX6_ok nmX6 rfl sorry sorry rfl rfl rfl sorry
theorem pf_X6_19 : PF RX6 "<init>" 19 7 3 (.array .int) := PF.fin (ci := 7) (k := 3) (ref := "PieceTransferModel") (C := RX6) (T := TX6) (N := 24) uw_7 tyX6_ok nmX6 rfl sorry sorry rfl rfl rfl sorry
theorem pf_X6_22 : PF RX6 "<init>" 22 7 6 (.array .int) := PF.fin (ci := 7) (k := 6) (ref := "PieceTransferModel") (C := RX6) (T := TX6) (N := 24) uw_7 tyX6_ok nmX6 rfl sorry sorry rfl rfl rfl sorry
theorem pf_X6_25 {nm : String} : PF RX6 nm 25 7 15 (.int) := PF.of (ref := "PieceTransferModel") (C := RX6) (T := TX6) (N := 24) uw_7 tyX6_ok nmX6 rfl sorry sorry (Or.inl rfl) rfl sorry
theorem pf_X6_29 : PF RX6 "<init>" 29 7 16 (.array .int) := PF.fin (ci := 7) (k := 16) (ref := "PieceTransferModel") (C := RX6) (T := TX6) (N := 24) uw_7 tyX6_ok nmX6 rfl sorry sorry rfl rfl rfl sorry
theorem pf_X6_32 : PF RX6 "<init>" 32 7 17 (.array .int) := PF.fin (ci := 7) (k := 17) (ref := "PieceTransferModel") (C := RX6) (T := TX6) (N := 24) uw_7 tyX6_ok nmX6 rfl sorry sorry rfl rfl rfl sorry
theorem pf_X6_35 : PF RX6 "<init>" 35 7 18 (.array .boolean) := PF.fin (ci := 7) (k := 18) (ref := "PieceTransferModel") (C := RX6) (T := TX6) (N := 24) uw_7 tyX6_ok nmX6 rfl sorry sorry rfl rfl rfl sorry
theorem pf_X6_39 : PF RX6 "<init>" 39 7 22 (.array .int) := PF.fin (ci := 7) (k := 22) (ref := "PieceTransferModel") (C := RX6) (T := TX6) (N := 24) uw_7 tyX6_ok nmX6 rfl sorry sorry rfl rfl rfl sorry
theorem pf_X6_53 {nm : String} : PF RX6 nm 53 7 4 (.int) := PF.of (ref := "PieceTransferModel") (C := RX6) (T := TX6) (N := 24) uw_7 tyX6_ok nmX6 rfl sorry sorry (Or.inl rfl) rfl sorry
theorem pf_X6_50 {nm : String} : PF RX6 nm 50 7 5 (.int) := PF.of (ref := "PieceTransferModel") (C := RX6) (T := TX6) (N := 24) uw_7 tyX6_ok nmX6 rfl sorry sorry (Or.inl rfl) rfl sorry
theorem pf_X6_56 {nm : String} : PF RX6 nm 56 7 7 (.int) := PF.of (ref := "PieceTransferModel") (C := RX6) (T := TX6) (N := 24) uw_7 tyX6_ok nmX6 rfl sorry sorry (Or.inl rfl) rfl sorry
theorem pf_X6_69 {nm : String} : PF RX6 nm 69 7 9 (.int) := PF.of (ref := "PieceTransferModel") (C := RX6) (T := TX6) (N := 24) uw_7 tyX6_ok nmX6 rfl sorry sorry (Or.inl rfl) rfl sorry
theorem pf_X6_66 {nm : String} : PF RX6 nm 66 7 10 (.int) := PF.of (ref := "PieceTransferModel") (C := RX6) (T := TX6) (N := 24) uw_7 tyX6_ok nmX6 rfl sorry sorry (Or.inl rfl) rfl sorry
theorem pf_X6_76 {nm : String} : PF RX6 nm 76 7 11 (.int) := PF.of (ref := "PieceTransferModel") (C := RX6) (T := TX6) (N := 24) uw_7 tyX6_ok nmX6 rfl sorry sorry (Or.inl rfl) rfl sorry
theorem pf_X6_86 {nm : String} : PF RX6 nm 86 7 12 (.int) := PF.of (ref := "PieceTransferModel") (C := RX6) (T := TX6) (N := 24) uw_7 tyX6_ok nmX6 rfl sorry sorry (Or.inl rfl) rfl sorry
theorem pf_X6_89 {nm : String} : PF RX6 nm 89 7 13 (.int) := PF.of (ref := "PieceTransferModel") (C := RX6) (T := TX6) (N := 24) uw_7 tyX6_ok nmX6 rfl sorry sorry (Or.inl rfl) rfl sorry
theorem pf_X6_102 {nm : String} : PF RX6 nm 102 7 14 (.int) := PF.of (ref := "PieceTransferModel") (C := RX6) (T := TX6) (N := 24) uw_7 tyX6_ok nmX6 rfl sorry sorry (Or.inl rfl) rfl sorry
theorem pf_X6_59 {nm : String} : PF RX6 nm 59 7 8 (.int) := PF.of (ref := "PieceTransferModel") (C := RX6) (T := TX6) (N := 24) uw_7 tyX6_ok nmX6 rfl sorry sorry (Or.inl rfl) rfl sorry
theorem pf_X6_249 {nm : String} : PF RX6 nm 249 7 19 (.int) := PF.of (ref := "PieceTransferModel") (C := RX6) (T := TX6) (N := 24) uw_7 tyX6_ok nmX6 rfl sorry sorry (Or.inl rfl) rfl sorry
theorem pf_X6_252 {nm : String} : PF RX6 nm 252 7 20 (.int) := PF.of (ref := "PieceTransferModel") (C := RX6) (T := TX6) (N := 24) uw_7 tyX6_ok nmX6 rfl sorry sorry (Or.inl rfl) rfl sorry
theorem pf_X6_274 {nm : String} : PF RX6 nm 274 7 21 (.int) := PF.of (ref := "PieceTransferModel") (C := RX6) (T := TX6) (N := 24) uw_7 tyX6_ok nmX6 rfl sorry sorry (Or.inl rfl) rfl sorry
theorem pf_X6_307 {nm : String} : PF RX6 nm 307 7 23 (.int) := PF.of (ref := "PieceTransferModel") (C := RX6) (T := TX6) (N := 24) uw_7 tyX6_ok nmX6 rfl sorry sorry (Or.inl rfl) rfl sorry
theorem no_X1_56 : NO RX1 56 0 3 df_0 := ⟨RJx4a65c, TJx4a65c, tyJx4a65c, uw_0, tyJx4a65c_ok, sorry, sorry, sorry, rfl, sorry⟩
theorem no_X1_63 : NO RX1 63 1 4 df_1 := ⟨RX0, TX0, tyX0, uw_1, tyX0_ok, sorry, sorry, sorry, rfl, sorry⟩
theorem no_X1_101 : NO RX1 101 3 2 df_3 := ⟨RX2, TX2, tyX2, uw_3, tyX2_ok, sorry, sorry, sorry, rfl, sorry⟩
theorem no_X4_46 : NO RX4 46 4 16 df_4 := ⟨RX3, TX3, tyX3, uw_4, tyX3_ok, sorry, sorry, sorry, rfl, sorry⟩
theorem no_X5_42 : NO RX5 42 4 16 df_4 := ⟨RX3, TX3, tyX3, uw_4, tyX3_ok, sorry, sorry, sorry, rfl, sorry⟩
theorem no_X5_26 : NO RX5 26 2 17 df_2 := ⟨RX1, TX1, tyX1, uw_2, tyX1_ok, sorry, sorry, sorry, rfl, sorry⟩
theorem no_X5_71 : NO RX5 71 5 6 df_5 := ⟨RX4, TX4, tyX4, uw_5, tyX4_ok, sorry, sorry, sorry, rfl, sorry⟩
theorem no_X5_274 : NO RX5 274 3 2 df_3 := ⟨RX2, TX2, tyX2, uw_3, tyX2_ok, sorry, sorry, sorry, rfl, sorry⟩
theorem no_L_8 : NO RL 8 6 10 df_6 := ⟨RX5, TX5, tyX5, uw_6, tyX5_ok, sorry, sorry, sorry, rfl, sorry⟩
theorem no_L_105 : NO RL 105 7 24 df_7 := ⟨RX6, TX6, tyX6, uw_7, tyX6_ok, sorry, sorry, sorry, rfl, sorry⟩
theorem to_X5_140_142 : TO RX5 140 142 144 "java/lang/IllegalArgumentException" := ⟨14, "what is not 0 to 11", rfl, sorry, sorry, sorry, sorry⟩
theorem to_X5_140_173 : TO RX5 140 173 144 "java/lang/IllegalArgumentException" := ⟨16, "what is not 0 to 4", rfl, sorry, sorry, sorry, sorry⟩
theorem to_X5_140_209 : TO RX5 140 209 144 "java/lang/IllegalArgumentException" := ⟨17, "what is not 0 to 6", rfl, sorry, sorry, sorry, sorry⟩
theorem to_X5_140_329 : TO RX5 140 329 144 "java/lang/IllegalArgumentException" := ⟨19, "what is not 0 to 2", rfl, sorry, sorry, sorry, sorry⟩
theorem to_X5_340_342 : TO RX5 340 342 344 "java/lang/IndexOutOfBoundsException" := ⟨15, "there is no such index", rfl, sorry, sorry, sorry, sorry⟩
theorem to_X5_140_345 : TO RX5 140 345 144 "java/lang/IllegalArgumentException" := ⟨13, "an argument is out of range", rfl, sorry, sorry, sorry, sorry⟩
theorem to_X5_347_349 : TO RX5 347 349 351 "java/lang/IllegalStateException" := ⟨12, "this cannot be done now", rfl, sorry, sorry, sorry, sorry⟩
theorem to_X5_352_354 : TO RX5 352 354 356 "java/util/NoSuchElementException" := ⟨18, "there is none", rfl, sorry, sorry, sorry, sorry⟩
theorem lk_Jxc12de_1 : LI RJxc12de 1 M_Jxa1e45_init_da8c8 0 := ⟨⟨sorry, sorry, sorry, rfl, sorry, by decide⟩, sorry, rfl, rfl⟩
theorem lk_Jx4a65c_1 : LI RJx4a65c 1 M_Jxc12de_init_da8c8 0 := ⟨⟨sorry, sorry, sorry, rfl, sorry, by decide⟩, sorry, rfl, rfl⟩
theorem lk_Jx4a65c_69 : LV RJx4a65c 69 0 M_Jx4a65c_grow_92f84 1 := ⟨⟨sorry, sorry, sorry, rfl, sorry, by decide⟩, sorry, sorry, _, _, rfl⟩
theorem lk_Jx4a65c_118 : LSt RJx4a65c 118 M_J15_checkIndex_7cf53 2 := ⟨⟨sorry, sorry, sorry, rfl, sorry, by decide⟩, sorry⟩
theorem lk_Jx4a65c_123 : LV RJx4a65c 123 0 M_Jx4a65c_elementData_915e3 1 := ⟨⟨sorry, sorry, sorry, rfl, sorry, by decide⟩, sorry, sorry, _, _, rfl⟩
theorem lk_Jx4a65c_129 : LV RJx4a65c 129 0 M_Jx4a65c_grow_d5877 0 := ⟨⟨sorry, sorry, sorry, rfl, sorry, by decide⟩, sorry, sorry, _, _, rfl⟩
theorem lk_Jx4a65c_131 : LV RJx4a65c 131 0 M_Jx4a65c_add_72be8 3 := ⟨⟨sorry, sorry, sorry, rfl, sorry, by decide⟩, sorry, sorry, _, _, rfl⟩
theorem lk_Jx4a65c_144 : LV RJx4a65c 144 0 M_Jx4a65c_fastRemove_b59b0 2 := ⟨⟨sorry, sorry, sorry, rfl, sorry, by decide⟩, sorry, sorry, _, _, rfl⟩
theorem lc_Jx4a65c_112 : LC RJx4a65c 112 := ⟨sorry, sorry, sorry, sorry⟩
theorem lc_J7_150 : LC RJ7 150 := ⟨sorry, sorry, sorry, sorry⟩
theorem lcl_J7_316 : LCl RJ7 316 := ⟨sorry, sorry, sorry, sorry, sorry, sorry⟩
theorem lk_J15_105 : LSt RJ15 105 M_J3_checkIndex_8e157 3 := ⟨⟨sorry, sorry, sorry, rfl, sorry, by decide⟩, sorry⟩
theorem lk_X0_25 : LSN RX0 25 M_X5_put 3 := ⟨⟨⟨"PieceTransfer", sorry⟩, sorry, sorry, rfl, sorry, by decide⟩, sorry⟩
theorem lk_X0_35 : LSN RX0 35 M_X5_copyRow 2 := ⟨⟨⟨"PieceTransfer", sorry⟩, sorry, sorry, rfl, sorry, by decide⟩, sorry⟩
theorem lk_X3_61 : LSN RX3 61 M_X5_put 3 := ⟨⟨⟨"PieceTransfer", sorry⟩, sorry, sorry, rfl, sorry, by decide⟩, sorry⟩
theorem lk_X3_71 : LV RX3 71 4 M_X3_addPiece 3 := ⟨⟨sorry, sorry, sorry, rfl, sorry, by decide⟩, sorry, sorry, _, _, rfl⟩
theorem lk_X3_75 : LSN RX3 75 M_X5_sumOf 3 := ⟨⟨⟨"PieceTransfer", sorry⟩, sorry, sorry, rfl, sorry, by decide⟩, sorry⟩
theorem lk_X3_79 : LV RX3 79 4 M_X3_addPart 2 := ⟨⟨sorry, sorry, sorry, rfl, sorry, by decide⟩, sorry, sorry, _, _, rfl⟩
theorem lk_X3_83 : LSN RX3 83 M_X5_addTo 3 := ⟨⟨⟨"PieceTransfer", sorry⟩, sorry, sorry, rfl, sorry, by decide⟩, sorry⟩
theorem lk_X3_86 : LSN RX3 86 M_X5_at 2 := ⟨⟨⟨"PieceTransfer", sorry⟩, sorry, sorry, rfl, sorry, by decide⟩, sorry⟩
theorem lk_X3_90 : LV RX3 90 4 M_X3_pieceStart 1 := ⟨⟨sorry, sorry, sorry, rfl, sorry, by decide⟩, sorry, sorry, _, _, rfl⟩
theorem lk_X3_94 : LV RX3 94 4 M_X3_pieceLength 1 := ⟨⟨sorry, sorry, sorry, rfl, sorry, by decide⟩, sorry, sorry, _, _, rfl⟩
theorem lk_X1_58 : LI RX1 58 M_Jx4a65c_init_da8c8 0 := ⟨⟨sorry, sorry, sorry, rfl, sorry, by decide⟩, sorry, rfl, rfl⟩
theorem lk_X1_65 : LIN RX1 65 M_X0_init 0 := ⟨⟨⟨"PieceTransfer", sorry⟩, sorry, sorry, rfl, sorry, by decide⟩, sorry, rfl, rfl⟩
theorem lk_X1_74 : LSt RX1 74 M_J7_fill_53178 2 := ⟨⟨sorry, sorry, sorry, rfl, sorry, by decide⟩, sorry⟩
theorem lk_X1_80 : LV RX1 80 0 M_Jx4a65c_clear_da8c8 0 := ⟨⟨sorry, sorry, sorry, rfl, sorry, by decide⟩, sorry, sorry, _, _, rfl⟩
theorem lk_X1_86 : LV RX1 86 2 M_X1_loseAll 0 := ⟨⟨sorry, sorry, sorry, rfl, sorry, by decide⟩, sorry, sorry, _, _, rfl⟩
theorem lk_X1_89 : LSN RX1 89 M_X5_copyRow 2 := ⟨⟨⟨"PieceTransfer", sorry⟩, sorry, sorry, rfl, sorry, by decide⟩, sorry⟩
theorem lk_X1_93 : LV RX1 93 0 M_Jx4a65c_size_8abf5 0 := ⟨⟨sorry, sorry, sorry, rfl, sorry, by decide⟩, sorry, sorry, _, _, rfl⟩
theorem lk_X1_107 : LV RX1 107 1 M_X0_copyFrom 1 := ⟨⟨sorry, sorry, sorry, rfl, sorry, by decide⟩, sorry, sorry, _, _, rfl⟩
theorem lk_X1_97 : LV RX1 97 0 M_Jx4a65c_get_915e3 1 := ⟨⟨sorry, sorry, sorry, rfl, sorry, by decide⟩, sorry, sorry, _, _, rfl⟩
theorem lk_X1_103 : LV RX1 103 0 M_Jx4a65c_add_9ea2d 1 := ⟨⟨sorry, sorry, sorry, rfl, sorry, by decide⟩, sorry, sorry, _, _, rfl⟩
theorem lk_X1_111 : LSN RX1 111 M_X5_at 2 := ⟨⟨⟨"PieceTransfer", sorry⟩, sorry, sorry, rfl, sorry, by decide⟩, sorry⟩
theorem lk_X1_123 : LV RX1 123 2 M_X1_isMissing 1 := ⟨⟨sorry, sorry, sorry, rfl, sorry, by decide⟩, sorry, sorry, _, _, rfl⟩
theorem lk_X1_130 : LV RX1 130 4 M_X3_partStart 1 := ⟨⟨sorry, sorry, sorry, rfl, sorry, by decide⟩, sorry, sorry, _, _, rfl⟩
theorem lk_X1_134 : LV RX1 134 4 M_X3_partLength 1 := ⟨⟨sorry, sorry, sorry, rfl, sorry, by decide⟩, sorry, sorry, _, _, rfl⟩
theorem lk_X1_137 : LSN RX1 137 M_X5_differences 4 := ⟨⟨⟨"PieceTransfer", sorry⟩, sorry, sorry, rfl, sorry, by decide⟩, sorry⟩
theorem lk_X1_141 : LV RX1 141 2 M_X1_isFinished 0 := ⟨⟨sorry, sorry, sorry, rfl, sorry, by decide⟩, sorry, sorry, _, _, rfl⟩
theorem lk_X1_145 : LV RX1 145 2 M_X1_makeTick 0 := ⟨⟨sorry, sorry, sorry, rfl, sorry, by decide⟩, sorry, sorry, _, _, rfl⟩
theorem lk_X1_148 : LV RX1 148 2 M_X1_isConnected 1 := ⟨⟨sorry, sorry, sorry, rfl, sorry, by decide⟩, sorry, sorry, _, _, rfl⟩
theorem lk_X1_151 : LV RX1 151 2 M_X1_lowestMissing 0 := ⟨⟨sorry, sorry, sorry, rfl, sorry, by decide⟩, sorry, sorry, _, _, rfl⟩
theorem lk_X1_154 : LV RX1 154 2 M_X1_receive 2 := ⟨⟨sorry, sorry, sorry, rfl, sorry, by decide⟩, sorry, sorry, _, _, rfl⟩
theorem lk_X1_158 : LV RX1 158 2 M_X1_highestMissing 0 := ⟨⟨sorry, sorry, sorry, rfl, sorry, by decide⟩, sorry, sorry, _, _, rfl⟩
theorem lk_X1_161 : LV RX1 161 2 M_X1_isSuspect 1 := ⟨⟨sorry, sorry, sorry, rfl, sorry, by decide⟩, sorry, sorry, _, _, rfl⟩
theorem lk_X1_164 : LV RX1 164 2 M_X1_searchPiece 1 := ⟨⟨sorry, sorry, sorry, rfl, sorry, by decide⟩, sorry, sorry, _, _, rfl⟩
theorem lk_X1_167 : LV RX1 167 4 M_X3_firstPart 1 := ⟨⟨sorry, sorry, sorry, rfl, sorry, by decide⟩, sorry, sorry, _, _, rfl⟩
theorem lk_X1_170 : LV RX1 170 4 M_X3_partsOf 1 := ⟨⟨sorry, sorry, sorry, rfl, sorry, by decide⟩, sorry, sorry, _, _, rfl⟩
theorem lk_X1_173 : LV RX1 173 4 M_X3_bytesOf 1 := ⟨⟨sorry, sorry, sorry, rfl, sorry, by decide⟩, sorry, sorry, _, _, rfl⟩
theorem lk_X1_177 : LV RX1 177 2 M_X1_putPart 3 := ⟨⟨sorry, sorry, sorry, rfl, sorry, by decide⟩, sorry, sorry, _, _, rfl⟩
theorem lk_X1_181 : LV RX1 181 2 M_X1_breakBytes 2 := ⟨⟨sorry, sorry, sorry, rfl, sorry, by decide⟩, sorry, sorry, _, _, rfl⟩
theorem lk_X1_184 : LSN RX1 184 M_X5_put 3 := ⟨⟨⟨"PieceTransfer", sorry⟩, sorry, sorry, rfl, sorry, by decide⟩, sorry⟩
theorem lk_X1_188 : LV RX1 188 1 M_X0_write 3 := ⟨⟨sorry, sorry, sorry, rfl, sorry, by decide⟩, sorry, sorry, _, _, rfl⟩
theorem lk_X1_195 : LV RX1 195 2 M_X1_judge 1 := ⟨⟨sorry, sorry, sorry, rfl, sorry, by decide⟩, sorry, sorry, _, _, rfl⟩
theorem lk_X1_199 : LV RX1 199 4 M_X3_isCutAt 2 := ⟨⟨sorry, sorry, sorry, rfl, sorry, by decide⟩, sorry, sorry, _, _, rfl⟩
theorem lk_X1_209 : LSN RX1 209 M_X5_addTo 3 := ⟨⟨⟨"PieceTransfer", sorry⟩, sorry, sorry, rfl, sorry, by decide⟩, sorry⟩
theorem lk_X1_212 : LV RX1 212 4 M_X3_pieceStart 1 := ⟨⟨sorry, sorry, sorry, rfl, sorry, by decide⟩, sorry, sorry, _, _, rfl⟩
theorem lk_X1_215 : LV RX1 215 4 M_X3_pieceLength 1 := ⟨⟨sorry, sorry, sorry, rfl, sorry, by decide⟩, sorry, sorry, _, _, rfl⟩
theorem lk_X1_218 : LSN RX1 218 M_X5_sumOf 3 := ⟨⟨⟨"PieceTransfer", sorry⟩, sorry, sorry, rfl, sorry, by decide⟩, sorry⟩
theorem lk_X1_225 : LV RX1 225 2 M_X1_searchRange 4 := ⟨⟨sorry, sorry, sorry, rfl, sorry, by decide⟩, sorry, sorry, _, _, rfl⟩
theorem lk_X1_229 : LV RX1 229 2 M_X1_dropWhole 3 := ⟨⟨sorry, sorry, sorry, rfl, sorry, by decide⟩, sorry, sorry, _, _, rfl⟩
theorem lk_X1_232 : LV RX1 232 2 M_X1_banIfTooOftenWrong 0 := ⟨⟨sorry, sorry, sorry, rfl, sorry, by decide⟩, sorry, sorry, _, _, rfl⟩
theorem lk_X1_238 : LV RX1 238 2 M_X1_isSameAsOriginal 2 := ⟨⟨sorry, sorry, sorry, rfl, sorry, by decide⟩, sorry, sorry, _, _, rfl⟩
theorem lk_X1_235 : LV RX1 235 2 M_X1_dropWrong 1 := ⟨⟨sorry, sorry, sorry, rfl, sorry, by decide⟩, sorry, sorry, _, _, rfl⟩
theorem lk_X1_241 : LV RX1 241 2 M_X1_lose 1 := ⟨⟨sorry, sorry, sorry, rfl, sorry, by decide⟩, sorry, sorry, _, _, rfl⟩
theorem lk_X1_256 : LSt RX1 256 M_J7_copyOf_59c91 2 := ⟨⟨sorry, sorry, sorry, rfl, sorry, by decide⟩, sorry⟩
theorem lk_X1_260 : LI RX1 260 M_X2_init 2 := ⟨⟨sorry, sorry, sorry, rfl, sorry, by decide⟩, sorry, rfl, rfl⟩
theorem lk_X4_33 : LV RX4 33 5 M_X4_takeWord 1 := ⟨⟨sorry, sorry, sorry, rfl, sorry, by decide⟩, sorry, sorry, _, _, rfl⟩
theorem lk_X4_37 : LV RX4 37 5 M_X4_takeNumber 2 := ⟨⟨sorry, sorry, sorry, rfl, sorry, by decide⟩, sorry, sorry, _, _, rfl⟩
theorem lk_X4_43 : LV RX4 43 5 M_X4_takeSemicolon 0 := ⟨⟨sorry, sorry, sorry, rfl, sorry, by decide⟩, sorry, sorry, _, _, rfl⟩
theorem lk_X4_48 : LI RX4 48 M_X3_init 4 := ⟨⟨sorry, sorry, sorry, rfl, sorry, by decide⟩, sorry, rfl, rfl⟩
theorem lk_X4_51 : LV RX4 51 5 M_X4_hasMore 0 := ⟨⟨sorry, sorry, sorry, rfl, sorry, by decide⟩, sorry, sorry, _, _, rfl⟩
theorem lk_X4_55 : LV RX4 55 5 M_X4_takeStatement 1 := ⟨⟨sorry, sorry, sorry, rfl, sorry, by decide⟩, sorry, sorry, _, _, rfl⟩
theorem lk_X4_59 : LV RX4 59 5 M_X4_skipSpaces 0 := ⟨⟨sorry, sorry, sorry, rfl, sorry, by decide⟩, sorry, sorry, _, _, rfl⟩
theorem lk_X4_64 : LV RX4 64 5 M_X4_isTaken 1 := ⟨⟨sorry, sorry, sorry, rfl, sorry, by decide⟩, sorry, sorry, _, _, rfl⟩
theorem lk_X4_87 : LV RX4 87 5 M_X4_fail 2 := ⟨⟨sorry, sorry, sorry, rfl, sorry, by decide⟩, sorry, sorry, _, _, rfl⟩
theorem lk_X4_79 : LV RX4 79 5 M_X4_takeCut 2 := ⟨⟨sorry, sorry, sorry, rfl, sorry, by decide⟩, sorry, sorry, _, _, rfl⟩
theorem lk_X4_74 : LV RX4 74 5 M_X4_takeBreak 2 := ⟨⟨sorry, sorry, sorry, rfl, sorry, by decide⟩, sorry, sorry, _, _, rfl⟩
theorem lk_X4_68 : LV RX4 68 5 M_X4_takeFlaw 2 := ⟨⟨sorry, sorry, sorry, rfl, sorry, by decide⟩, sorry, sorry, _, _, rfl⟩
theorem lk_X4_92 : LV RX4 92 4 M_X3_addFlaw 2 := ⟨⟨sorry, sorry, sorry, rfl, sorry, by decide⟩, sorry, sorry, _, _, rfl⟩
theorem lk_X4_98 : LV RX4 98 4 M_X3_addBreak 3 := ⟨⟨sorry, sorry, sorry, rfl, sorry, by decide⟩, sorry, sorry, _, _, rfl⟩
theorem lk_X4_105 : LV RX4 105 4 M_X3_addCut 2 := ⟨⟨sorry, sorry, sorry, rfl, sorry, by decide⟩, sorry, sorry, _, _, rfl⟩
theorem lk_X4_108 : LV RX4 108 5 M_X4_byteAt 1 := ⟨⟨sorry, sorry, sorry, rfl, sorry, by decide⟩, sorry, sorry, _, _, rfl⟩
theorem lk_X4_112 : LVs RX4 112 M_J0_length_8abf5 0 := ⟨⟨sorry, sorry, sorry, rfl, sorry, by decide⟩, sorry, sorry, rfl⟩
theorem lk_X4_117 : LVs RX4 117 M_J0_charAt_5068e 1 := ⟨⟨sorry, sorry, sorry, rfl, sorry, by decide⟩, sorry, sorry, rfl⟩
theorem lk_X4_121 : LSt RX4 121 M_X4_isDigit 1 := ⟨⟨sorry, sorry, sorry, rfl, sorry, by decide⟩, sorry⟩
theorem lk_X4_131 : LSN RX4 131 M_X5_at 2 := ⟨⟨⟨"PieceTransfer", sorry⟩, sorry, sorry, rfl, sorry, by decide⟩, sorry⟩
theorem lk_X5_44 : LI RX5 44 M_X3_init 4 := ⟨⟨sorry, sorry, sorry, rfl, sorry, by decide⟩, sorry, rfl, rfl⟩
theorem lk_X5_47 : LI RX5 47 M_X1_init 1 := ⟨⟨sorry, sorry, sorry, rfl, sorry, by decide⟩, sorry, rfl, rfl⟩
theorem lk_X5_53 : LV RX5 53 2 M_X1_begin 1 := ⟨⟨sorry, sorry, sorry, rfl, sorry, by decide⟩, sorry, sorry, _, _, rfl⟩
theorem lk_X5_56 : LSt RX5 56 M_X5_needState 1 := ⟨⟨sorry, sorry, sorry, rfl, sorry, by decide⟩, sorry⟩
theorem lk_X5_60 : LV RX5 60 6 M_X5_appendBytes 1 := ⟨⟨sorry, sorry, sorry, rfl, sorry, by decide⟩, sorry, sorry, _, _, rfl⟩
theorem lk_X5_64 : LSt RX5 64 M_X5_put 3 := ⟨⟨sorry, sorry, sorry, rfl, sorry, by decide⟩, sorry⟩
theorem lk_X5_68 : LSt RX5 68 M_X5_needArgument 1 := ⟨⟨sorry, sorry, sorry, rfl, sorry, by decide⟩, sorry⟩
theorem lk_X5_73 : LI RX5 73 M_X4_init 2 := ⟨⟨sorry, sorry, sorry, rfl, sorry, by decide⟩, sorry, rfl, rfl⟩
theorem lk_X5_76 : LV RX5 76 5 M_X4_readPlan 0 := ⟨⟨sorry, sorry, sorry, rfl, sorry, by decide⟩, sorry, sorry, _, _, rfl⟩
theorem lk_X5_84 : LV RX5 84 6 M_X5_remember 0 := ⟨⟨sorry, sorry, sorry, rfl, sorry, by decide⟩, sorry, sorry, _, _, rfl⟩
theorem lk_X5_119 : LV RX5 119 0 M_Jx4a65c_size_8abf5 0 := ⟨⟨sorry, sorry, sorry, rfl, sorry, by decide⟩, sorry, sorry, _, _, rfl⟩
theorem lk_X5_147 : LSt RX5 147 M_X5_needIndex 2 := ⟨⟨sorry, sorry, sorry, rfl, sorry, by decide⟩, sorry⟩
theorem lk_X5_151 : LV RX5 151 2 M_X1_isConnected 1 := ⟨⟨sorry, sorry, sorry, rfl, sorry, by decide⟩, sorry, sorry, _, _, rfl⟩
theorem lk_X5_162 : LSt RX5 162 M_X5_at 2 := ⟨⟨sorry, sorry, sorry, rfl, sorry, by decide⟩, sorry⟩
theorem lk_X5_169 : LV RX5 169 2 M_X1_partsFrom 1 := ⟨⟨sorry, sorry, sorry, rfl, sorry, by decide⟩, sorry, sorry, _, _, rfl⟩
theorem lk_X5_175 : LV RX5 175 4 M_X3_bytesOf 1 := ⟨⟨sorry, sorry, sorry, rfl, sorry, by decide⟩, sorry, sorry, _, _, rfl⟩
theorem lk_X5_182 : LV RX5 182 2 M_X1_isMissing 1 := ⟨⟨sorry, sorry, sorry, rfl, sorry, by decide⟩, sorry, sorry, _, _, rfl⟩
theorem lk_X5_188 : LV RX5 188 4 M_X3_pieceStart 1 := ⟨⟨sorry, sorry, sorry, rfl, sorry, by decide⟩, sorry, sorry, _, _, rfl⟩
theorem lk_X5_191 : LV RX5 191 4 M_X3_pieceLength 1 := ⟨⟨sorry, sorry, sorry, rfl, sorry, by decide⟩, sorry, sorry, _, _, rfl⟩
theorem lk_X5_194 : LV RX5 194 4 M_X3_firstPart 1 := ⟨⟨sorry, sorry, sorry, rfl, sorry, by decide⟩, sorry, sorry, _, _, rfl⟩
theorem lk_X5_197 : LV RX5 197 4 M_X3_partsOf 1 := ⟨⟨sorry, sorry, sorry, rfl, sorry, by decide⟩, sorry, sorry, _, _, rfl⟩
theorem lk_X5_211 : LV RX5 211 4 M_X3_partStart 1 := ⟨⟨sorry, sorry, sorry, rfl, sorry, by decide⟩, sorry, sorry, _, _, rfl⟩
theorem lk_X5_214 : LV RX5 214 4 M_X3_partLength 1 := ⟨⟨sorry, sorry, sorry, rfl, sorry, by decide⟩, sorry, sorry, _, _, rfl⟩
theorem lk_X5_223 : LV RX5 223 2 M_X1_wrongBytesOf 1 := ⟨⟨sorry, sorry, sorry, rfl, sorry, by decide⟩, sorry, sorry, _, _, rfl⟩
theorem lk_X5_226 : LSt RX5 226 M_X5_sumOf 3 := ⟨⟨sorry, sorry, sorry, rfl, sorry, by decide⟩, sorry⟩
theorem lk_X5_233 : LV RX5 233 2 M_X1_receiveMissing 2 := ⟨⟨sorry, sorry, sorry, rfl, sorry, by decide⟩, sorry, sorry, _, _, rfl⟩
theorem lk_X5_237 : LV RX5 237 2 M_X1_isSuspect 1 := ⟨⟨sorry, sorry, sorry, rfl, sorry, by decide⟩, sorry, sorry, _, _, rfl⟩
theorem lk_X5_240 : LV RX5 240 2 M_X1_searchPiece 1 := ⟨⟨sorry, sorry, sorry, rfl, sorry, by decide⟩, sorry, sorry, _, _, rfl⟩
theorem lk_X5_243 : LSt RX5 243 M_X5_needElement 1 := ⟨⟨sorry, sorry, sorry, rfl, sorry, by decide⟩, sorry⟩
theorem lk_X5_246 : LV RX5 246 2 M_X1_searchRange 4 := ⟨⟨sorry, sorry, sorry, rfl, sorry, by decide⟩, sorry, sorry, _, _, rfl⟩
theorem lk_X5_250 : LV RX5 250 2 M_X1_lose 1 := ⟨⟨sorry, sorry, sorry, rfl, sorry, by decide⟩, sorry, sorry, _, _, rfl⟩
theorem lk_X5_253 : LV RX5 253 2 M_X1_makeTicks 1 := ⟨⟨sorry, sorry, sorry, rfl, sorry, by decide⟩, sorry, sorry, _, _, rfl⟩
theorem lk_X5_256 : LV RX5 256 2 M_X1_copyFrom 1 := ⟨⟨sorry, sorry, sorry, rfl, sorry, by decide⟩, sorry, sorry, _, _, rfl⟩
theorem lk_X5_260 : LV RX5 260 2 M_X1_isFinished 0 := ⟨⟨sorry, sorry, sorry, rfl, sorry, by decide⟩, sorry, sorry, _, _, rfl⟩
theorem lk_X5_264 : LSt RX5 264 M_X5_isName 1 := ⟨⟨sorry, sorry, sorry, rfl, sorry, by decide⟩, sorry⟩
theorem lk_X5_267 : LV RX5 267 2 M_X1_keepArrived 1 := ⟨⟨sorry, sorry, sorry, rfl, sorry, by decide⟩, sorry, sorry, _, _, rfl⟩
theorem lk_X5_270 : LV RX5 270 0 M_Jx4a65c_remove_915e3 1 := ⟨⟨sorry, sorry, sorry, rfl, sorry, by decide⟩, sorry, sorry, _, _, rfl⟩
theorem lk_X5_276 : LV RX5 276 2 M_X1_takeUp 1 := ⟨⟨sorry, sorry, sorry, rfl, sorry, by decide⟩, sorry, sorry, _, _, rfl⟩
theorem lk_X5_280 : LV RX5 280 0 M_Jx4a65c_get_915e3 1 := ⟨⟨sorry, sorry, sorry, rfl, sorry, by decide⟩, sorry, sorry, _, _, rfl⟩
theorem lk_X5_287 : LI RX5 287 M_X2_init 2 := ⟨⟨sorry, sorry, sorry, rfl, sorry, by decide⟩, sorry, rfl, rfl⟩
theorem lk_X5_290 : LV RX5 290 0 M_Jx4a65c_set_bcc79 2 := ⟨⟨sorry, sorry, sorry, rfl, sorry, by decide⟩, sorry, sorry, _, _, rfl⟩
theorem lcl_X5_294 : LCl RX5 294 := ⟨sorry, sorry, sorry, sorry, sorry, sorry⟩
theorem lk_X5_299 : LSt RX5 299 M_X5_addTo 3 := ⟨⟨sorry, sorry, sorry, rfl, sorry, by decide⟩, sorry⟩
theorem lk_X5_305 : LSt RX5 305 M_X5_differences 4 := ⟨⟨sorry, sorry, sorry, rfl, sorry, by decide⟩, sorry⟩
theorem lk_X5_309 : LV RX5 309 4 M_X3_goodPiecesOf 1 := ⟨⟨sorry, sorry, sorry, rfl, sorry, by decide⟩, sorry, sorry, _, _, rfl⟩
theorem lk_X5_316 : LV RX5 316 1 M_X0_size 0 := ⟨⟨sorry, sorry, sorry, rfl, sorry, by decide⟩, sorry, sorry, _, _, rfl⟩
theorem lk_X5_317 : LV RX5 317 1 M_X0_slot 1 := ⟨⟨sorry, sorry, sorry, rfl, sorry, by decide⟩, sorry, sorry, _, _, rfl⟩
theorem lk_X5_331 : LV RX5 331 6 M_X5_signOf 1 := ⟨⟨sorry, sorry, sorry, rfl, sorry, by decide⟩, sorry, sorry, _, _, rfl⟩
theorem lc_X5_357 : LC RX5 357 := ⟨sorry, sorry, sorry, sorry⟩
theorem lk_X6_42 : LV RX6 42 7 M_X6_begins 2 := ⟨⟨sorry, sorry, sorry, rfl, sorry, by decide⟩, sorry, sorry, _, _, rfl⟩
theorem lk_X6_46 : LV RX6 46 7 M_X6_becomes 2 := ⟨⟨sorry, sorry, sorry, rfl, sorry, by decide⟩, sorry, sorry, _, _, rfl⟩
theorem lk_X6_62 : LSt RX6 62 M_X6_isIn 3 := ⟨⟨sorry, sorry, sorry, rfl, sorry, by decide⟩, sorry⟩
theorem lk_X6_72 : LV RX6 72 7 M_X6_see 1 := ⟨⟨sorry, sorry, sorry, rfl, sorry, by decide⟩, sorry, sorry, _, _, rfl⟩
theorem lk_X6_79 : LSt RX6 79 M_X6_isLetter 1 := ⟨⟨sorry, sorry, sorry, rfl, sorry, by decide⟩, sorry⟩
theorem lk_X6_83 : LSt RX6 83 M_X6_isDigit 1 := ⟨⟨sorry, sorry, sorry, rfl, sorry, by decide⟩, sorry⟩
theorem lk_X6_92 : LVs RX6 92 M_J0_length_8abf5 0 := ⟨⟨sorry, sorry, sorry, rfl, sorry, by decide⟩, sorry, sorry, rfl⟩
theorem lk_X6_98 : LVs RX6 98 M_J0_charAt_5068e 1 := ⟨⟨sorry, sorry, sorry, rfl, sorry, by decide⟩, sorry, sorry, rfl⟩
theorem lk_X6_105 : LV RX6 105 7 M_X6_fails 1 := ⟨⟨sorry, sorry, sorry, rfl, sorry, by decide⟩, sorry, sorry, _, _, rfl⟩
theorem lk_X6_109 : LV RX6 109 7 M_X6_next 0 := ⟨⟨sorry, sorry, sorry, rfl, sorry, by decide⟩, sorry, sorry, _, _, rfl⟩
theorem lk_X6_112 : LV RX6 112 7 M_X6_must 1 := ⟨⟨sorry, sorry, sorry, rfl, sorry, by decide⟩, sorry, sorry, _, _, rfl⟩
theorem lk_X6_118 : LV RX6 118 7 M_X6_isWord 1 := ⟨⟨sorry, sorry, sorry, rfl, sorry, by decide⟩, sorry, sorry, _, _, rfl⟩
theorem lk_X6_122 : LV RX6 122 7 M_X6_takes 2 := ⟨⟨sorry, sorry, sorry, rfl, sorry, by decide⟩, sorry, sorry, _, _, rfl⟩
theorem lk_X6_128 : LV RX6 128 7 M_X6_mustEnd 0 := ⟨⟨sorry, sorry, sorry, rfl, sorry, by decide⟩, sorry, sorry, _, _, rfl⟩
theorem lk_X6_137 : LV RX6 137 7 M_X6_lays 3 := ⟨⟨sorry, sorry, sorry, rfl, sorry, by decide⟩, sorry, sorry, _, _, rfl⟩
theorem lk_X6_133 : LV RX6 133 7 M_X6_begun 4 := ⟨⟨sorry, sorry, sorry, rfl, sorry, by decide⟩, sorry, sorry, _, _, rfl⟩
theorem lk_X6_147 : LV RX6 147 7 M_X6_readsHead 0 := ⟨⟨sorry, sorry, sorry, rfl, sorry, by decide⟩, sorry, sorry, _, _, rfl⟩
theorem lk_X6_150 : LV RX6 150 7 M_X6_readsStatement 0 := ⟨⟨sorry, sorry, sorry, rfl, sorry, by decide⟩, sorry, sorry, _, _, rfl⟩
theorem lk_X6_153 : LV RX6 153 7 M_X6_keeps 0 := ⟨⟨sorry, sorry, sorry, rfl, sorry, by decide⟩, sorry, sorry, _, _, rfl⟩
theorem lk_X6_156 : LV RX6 156 7 M_X6_parts 0 := ⟨⟨sorry, sorry, sorry, rfl, sorry, by decide⟩, sorry, sorry, _, _, rfl⟩
theorem lk_X6_159 : LV RX6 159 7 M_X6_pieceLength 1 := ⟨⟨sorry, sorry, sorry, rfl, sorry, by decide⟩, sorry, sorry, _, _, rfl⟩
theorem lk_X6_162 : LV RX6 162 7 M_X6_perPiece 0 := ⟨⟨sorry, sorry, sorry, rfl, sorry, by decide⟩, sorry, sorry, _, _, rfl⟩
theorem lk_X6_165 : LV RX6 165 7 M_X6_pieces 0 := ⟨⟨sorry, sorry, sorry, rfl, sorry, by decide⟩, sorry, sorry, _, _, rfl⟩
theorem lk_X6_167 : LV RX6 167 7 M_X6_firstPart 1 := ⟨⟨sorry, sorry, sorry, rfl, sorry, by decide⟩, sorry, sorry, _, _, rfl⟩
theorem lk_X6_170 : LV RX6 170 7 M_X6_partsOf 1 := ⟨⟨sorry, sorry, sorry, rfl, sorry, by decide⟩, sorry, sorry, _, _, rfl⟩
theorem lk_X6_173 : LV RX6 173 7 M_X6_pieceOf 1 := ⟨⟨sorry, sorry, sorry, rfl, sorry, by decide⟩, sorry, sorry, _, _, rfl⟩
theorem lk_X6_176 : LV RX6 176 7 M_X6_placeOf 1 := ⟨⟨sorry, sorry, sorry, rfl, sorry, by decide⟩, sorry, sorry, _, _, rfl⟩
theorem lk_X6_179 : LV RX6 179 7 M_X6_isMissing 1 := ⟨⟨sorry, sorry, sorry, rfl, sorry, by decide⟩, sorry, sorry, _, _, rfl⟩
theorem lk_X6_182 : LV RX6 182 7 M_X6_byteOf 2 := ⟨⟨sorry, sorry, sorry, rfl, sorry, by decide⟩, sorry, sorry, _, _, rfl⟩
theorem lk_X6_185 : LV RX6 185 7 M_X6_missingIn 1 := ⟨⟨sorry, sorry, sorry, rfl, sorry, by decide⟩, sorry, sorry, _, _, rfl⟩
theorem lk_X6_188 : LV RX6 188 7 M_X6_rowSum 2 := ⟨⟨sorry, sorry, sorry, rfl, sorry, by decide⟩, sorry, sorry, _, _, rfl⟩
theorem lk_X6_191 : LV RX6 191 7 M_X6_sumOf 3 := ⟨⟨sorry, sorry, sorry, rfl, sorry, by decide⟩, sorry, sorry, _, _, rfl⟩
theorem lk_X6_195 : LV RX6 195 7 M_X6_stateOf 1 := ⟨⟨sorry, sorry, sorry, rfl, sorry, by decide⟩, sorry, sorry, _, _, rfl⟩
theorem lk_X6_198 : LV RX6 198 7 M_X6_piecesIn 1 := ⟨⟨sorry, sorry, sorry, rfl, sorry, by decide⟩, sorry, sorry, _, _, rfl⟩
theorem lk_X6_201 : LV RX6 201 7 M_X6_missing 0 := ⟨⟨sorry, sorry, sorry, rfl, sorry, by decide⟩, sorry, sorry, _, _, rfl⟩
theorem lk_X6_204 : LSt RX6 204 M_X6_isSource 1 := ⟨⟨sorry, sorry, sorry, rfl, sorry, by decide⟩, sorry⟩
theorem lk_X6_207 : LV RX6 207 7 M_X6_fromSource 1 := ⟨⟨sorry, sorry, sorry, rfl, sorry, by decide⟩, sorry, sorry, _, _, rfl⟩
theorem lk_X6_210 : LV RX6 210 7 M_X6_isPlace 1 := ⟨⟨sorry, sorry, sorry, rfl, sorry, by decide⟩, sorry, sorry, _, _, rfl⟩
theorem lk_X6_213 : LV RX6 213 7 M_X6_partAt 1 := ⟨⟨sorry, sorry, sorry, rfl, sorry, by decide⟩, sorry, sorry, _, _, rfl⟩
theorem lk_X6_216 : LV RX6 216 7 M_X6_isPiece 1 := ⟨⟨sorry, sorry, sorry, rfl, sorry, by decide⟩, sorry, sorry, _, _, rfl⟩
theorem lk_X6_219 : LV RX6 219 7 M_X6_partLength 1 := ⟨⟨sorry, sorry, sorry, rfl, sorry, by decide⟩, sorry, sorry, _, _, rfl⟩
theorem lk_X6_222 : LV RX6 222 7 M_X6_isPart 1 := ⟨⟨sorry, sorry, sorry, rfl, sorry, by decide⟩, sorry, sorry, _, _, rfl⟩
theorem lk_X6_225 : LV RX6 225 7 M_X6_wrongIn 1 := ⟨⟨sorry, sorry, sorry, rfl, sorry, by decide⟩, sorry, sorry, _, _, rfl⟩
theorem lk_X6_228 : LV RX6 228 7 M_X6_eventsKept 0 := ⟨⟨sorry, sorry, sorry, rfl, sorry, by decide⟩, sorry, sorry, _, _, rfl⟩
theorem lk_X6_231 : LV RX6 231 7 M_X6_eventAt 2 := ⟨⟨sorry, sorry, sorry, rfl, sorry, by decide⟩, sorry, sorry, _, _, rfl⟩
theorem lk_X6_234 : LV RX6 234 7 M_X6_tells 3 := ⟨⟨sorry, sorry, sorry, rfl, sorry, by decide⟩, sorry, sorry, _, _, rfl⟩
theorem lk_X6_237 : LV RX6 237 7 M_X6_breaks 2 := ⟨⟨sorry, sorry, sorry, rfl, sorry, by decide⟩, sorry, sorry, _, _, rfl⟩
theorem lk_X6_240 : LV RX6 240 7 M_X6_judges 1 := ⟨⟨sorry, sorry, sorry, rfl, sorry, by decide⟩, sorry, sorry, _, _, rfl⟩
theorem lk_X6_243 : LV RX6 243 7 M_X6_isCutNow 1 := ⟨⟨sorry, sorry, sorry, rfl, sorry, by decide⟩, sorry, sorry, _, _, rfl⟩
theorem lk_X6_246 : LV RX6 246 7 M_X6_arrives 2 := ⟨⟨sorry, sorry, sorry, rfl, sorry, by decide⟩, sorry, sorry, _, _, rfl⟩
theorem lk_X6_255 : LV RX6 255 7 M_X6_isRight 2 := ⟨⟨sorry, sorry, sorry, rfl, sorry, by decide⟩, sorry, sorry, _, _, rfl⟩
theorem lk_X6_259 : LV RX6 259 7 M_X6_looks 1 := ⟨⟨sorry, sorry, sorry, rfl, sorry, by decide⟩, sorry, sorry, _, _, rfl⟩
theorem lk_X6_262 : LV RX6 262 7 M_X6_drops 2 := ⟨⟨sorry, sorry, sorry, rfl, sorry, by decide⟩, sorry, sorry, _, _, rfl⟩
theorem lk_X6_265 : LV RX6 265 7 M_X6_searches 1 := ⟨⟨sorry, sorry, sorry, rfl, sorry, by decide⟩, sorry, sorry, _, _, rfl⟩
theorem lk_X6_268 : LV RX6 268 7 M_X6_lowestMissing 0 := ⟨⟨sorry, sorry, sorry, rfl, sorry, by decide⟩, sorry, sorry, _, _, rfl⟩
theorem lk_X6_271 : LV RX6 271 7 M_X6_highestMissing 0 := ⟨⟨sorry, sorry, sorry, rfl, sorry, by decide⟩, sorry, sorry, _, _, rfl⟩
theorem lk_X6_277 : LV RX6 277 7 M_X6_isFinished 0 := ⟨⟨sorry, sorry, sorry, rfl, sorry, by decide⟩, sorry, sorry, _, _, rfl⟩
theorem lk_X6_281 : LV RX6 281 7 M_X6_ticks 0 := ⟨⟨sorry, sorry, sorry, rfl, sorry, by decide⟩, sorry, sorry, _, _, rfl⟩
theorem lk_X6_284 : LV RX6 284 7 M_X6_runs 1 := ⟨⟨sorry, sorry, sorry, rfl, sorry, by decide⟩, sorry, sorry, _, _, rfl⟩
theorem lk_X6_287 : LV RX6 287 7 M_X6_putsAside 0 := ⟨⟨sorry, sorry, sorry, rfl, sorry, by decide⟩, sorry, sorry, _, _, rfl⟩
theorem lk_X6_290 : LSt RX6 290 M_X6_isName 1 := ⟨⟨sorry, sorry, sorry, rfl, sorry, by decide⟩, sorry⟩
theorem lk_X6_293 : LV RX6 293 7 M_X6_file 1 := ⟨⟨sorry, sorry, sorry, rfl, sorry, by decide⟩, sorry, sorry, _, _, rfl⟩
theorem lk_X6_295 : LV RX6 295 7 M_X6_isPartial 1 := ⟨⟨sorry, sorry, sorry, rfl, sorry, by decide⟩, sorry, sorry, _, _, rfl⟩
theorem lk_X6_298 : LV RX6 298 7 M_X6_goes 1 := ⟨⟨sorry, sorry, sorry, rfl, sorry, by decide⟩, sorry, sorry, _, _, rfl⟩
theorem lk_X6_304 : LV RX6 304 7 M_X6_goodPieces 1 := ⟨⟨sorry, sorry, sorry, rfl, sorry, by decide⟩, sorry, sorry, _, _, rfl⟩
theorem lk_X6_301 : LV RX6 301 7 M_X6_otherBytes 1 := ⟨⟨sorry, sorry, sorry, rfl, sorry, by decide⟩, sorry, sorry, _, _, rfl⟩
theorem lk_L_7 : LV RL 7 6 M_X5_append 5 := ⟨⟨sorry, sorry, sorry, rfl, sorry, by decide⟩, sorry, sorry, _, _, rfl⟩
theorem lk_L_15 : LV RL 15 6 M_X5_load 1 := ⟨⟨sorry, sorry, sorry, rfl, sorry, by decide⟩, sorry, sorry, _, _, rfl⟩
theorem lk_L_21 : LV RL 21 6 M_X5_count 1 := ⟨⟨sorry, sorry, sorry, rfl, sorry, by decide⟩, sorry, sorry, _, _, rfl⟩
theorem lk_L_24 : LV RL 24 6 M_X5_source 2 := ⟨⟨sorry, sorry, sorry, rfl, sorry, by decide⟩, sorry, sorry, _, _, rfl⟩
theorem lk_L_30 : LV RL 30 6 M_X5_sent 2 := ⟨⟨sorry, sorry, sorry, rfl, sorry, by decide⟩, sorry, sorry, _, _, rfl⟩
theorem lk_L_33 : LV RL 33 6 M_X5_got 1 := ⟨⟨sorry, sorry, sorry, rfl, sorry, by decide⟩, sorry, sorry, _, _, rfl⟩
theorem lk_L_36 : LV RL 36 6 M_X5_piece 2 := ⟨⟨sorry, sorry, sorry, rfl, sorry, by decide⟩, sorry, sorry, _, _, rfl⟩
theorem lk_L_39 : LV RL 39 6 M_X5_part 2 := ⟨⟨sorry, sorry, sorry, rfl, sorry, by decide⟩, sorry, sorry, _, _, rfl⟩
theorem lk_L_42 : LV RL 42 6 M_X5_checksum 3 := ⟨⟨sorry, sorry, sorry, rfl, sorry, by decide⟩, sorry, sorry, _, _, rfl⟩
theorem lk_L_46 : LV RL 46 6 M_X5_connect 2 := ⟨⟨sorry, sorry, sorry, rfl, sorry, by decide⟩, sorry, sorry, _, _, rfl⟩
theorem lk_L_50 : LV RL 50 6 M_X5_fetch 2 := ⟨⟨sorry, sorry, sorry, rfl, sorry, by decide⟩, sorry, sorry, _, _, rfl⟩
theorem lk_L_53 : LV RL 53 6 M_X5_search 1 := ⟨⟨sorry, sorry, sorry, rfl, sorry, by decide⟩, sorry, sorry, _, _, rfl⟩
theorem lk_L_56 : LV RL 56 6 M_X5_queriesFor 1 := ⟨⟨sorry, sorry, sorry, rfl, sorry, by decide⟩, sorry, sorry, _, _, rfl⟩
theorem lk_L_61 : LV RL 61 6 M_X5_drop 1 := ⟨⟨sorry, sorry, sorry, rfl, sorry, by decide⟩, sorry, sorry, _, _, rfl⟩
theorem lk_L_64 : LV RL 64 6 M_X5_run 1 := ⟨⟨sorry, sorry, sorry, rfl, sorry, by decide⟩, sorry, sorry, _, _, rfl⟩
theorem lk_L_67 : LV RL 67 6 M_X5_keep 1 := ⟨⟨sorry, sorry, sorry, rfl, sorry, by decide⟩, sorry, sorry, _, _, rfl⟩
theorem lk_L_70 : LV RL 70 6 M_X5_resume 1 := ⟨⟨sorry, sorry, sorry, rfl, sorry, by decide⟩, sorry, sorry, _, _, rfl⟩
theorem lk_L_73 : LV RL 73 6 M_X5_named 1 := ⟨⟨sorry, sorry, sorry, rfl, sorry, by decide⟩, sorry, sorry, _, _, rfl⟩
theorem lk_L_76 : LV RL 76 6 M_X5_sized 1 := ⟨⟨sorry, sorry, sorry, rfl, sorry, by decide⟩, sorry, sorry, _, _, rfl⟩
theorem lk_L_79 : LV RL 79 6 M_X5_rename 2 := ⟨⟨sorry, sorry, sorry, rfl, sorry, by decide⟩, sorry, sorry, _, _, rfl⟩
theorem lk_L_82 : LV RL 82 6 M_X5_spoil 3 := ⟨⟨sorry, sorry, sorry, rfl, sorry, by decide⟩, sorry, sorry, _, _, rfl⟩
theorem lk_L_85 : LV RL 85 6 M_X5_discard 1 := ⟨⟨sorry, sorry, sorry, rfl, sorry, by decide⟩, sorry, sorry, _, _, rfl⟩
theorem lk_L_88 : LV RL 88 6 M_X5_partial 2 := ⟨⟨sorry, sorry, sorry, rfl, sorry, by decide⟩, sorry, sorry, _, _, rfl⟩
theorem lk_L_91 : LV RL 91 6 M_X5_event 2 := ⟨⟨sorry, sorry, sorry, rfl, sorry, by decide⟩, sorry, sorry, _, _, rfl⟩
theorem lk_L_94 : LV RL 94 6 M_X5_events 1 := ⟨⟨sorry, sorry, sorry, rfl, sorry, by decide⟩, sorry, sorry, _, _, rfl⟩
theorem lk_L_97 : LV RL 97 6 M_X5_writtenByte 1 := ⟨⟨sorry, sorry, sorry, rfl, sorry, by decide⟩, sorry, sorry, _, _, rfl⟩
theorem lk_L_100 : LV RL 100 6 M_X5_undo 0 := ⟨⟨sorry, sorry, sorry, rfl, sorry, by decide⟩, sorry, sorry, _, _, rfl⟩
theorem lk_L_104 : LI RL 104 M_X5_init 0 := ⟨⟨sorry, sorry, sorry, rfl, sorry, by decide⟩, sorry, rfl, rfl⟩
theorem lk_L_107 : LI RL 107 M_X6_init 0 := ⟨⟨sorry, sorry, sorry, rfl, sorry, by decide⟩, sorry, rfl, rfl⟩
theorem lk_L_221 : LSX RL 221 M_L_undo 2 := ⟨sorry, sorry, sorry, by decide, sorry, by decide, sorry⟩
theorem lk_L_224 : LV RL 224 7 M_X6_undo 0 := ⟨⟨sorry, sorry, sorry, rfl, sorry, by decide⟩, sorry, sorry, _, _, rfl⟩
theorem lk_L_114 : LV RL 114 7 M_X6_thrown 0 := ⟨⟨sorry, sorry, sorry, rfl, sorry, by decide⟩, sorry, sorry, _, _, rfl⟩
theorem lk_L_218 : LSX RL 218 M_L_writtenByte 3 := ⟨sorry, sorry, sorry, by decide, sorry, by decide, sorry⟩
theorem lk_L_220 : LV RL 220 7 M_X6_writtenByte 1 := ⟨⟨sorry, sorry, sorry, rfl, sorry, by decide⟩, sorry, sorry, _, _, rfl⟩
theorem lk_L_214 : LV RL 214 6 M_X5_writeMap 0 := ⟨⟨sorry, sorry, sorry, rfl, sorry, by decide⟩, sorry, sorry, _, _, rfl⟩
theorem lk_L_217 : LV RL 217 7 M_X6_writeMap 0 := ⟨⟨sorry, sorry, sorry, rfl, sorry, by decide⟩, sorry, sorry, _, _, rfl⟩
theorem lk_L_211 : LSX RL 211 M_L_events 3 := ⟨sorry, sorry, sorry, by decide, sorry, by decide, sorry⟩
theorem lk_L_213 : LV RL 213 7 M_X6_events 1 := ⟨⟨sorry, sorry, sorry, rfl, sorry, by decide⟩, sorry, sorry, _, _, rfl⟩
theorem lk_L_208 : LSX RL 208 M_L_event 4 := ⟨sorry, sorry, sorry, by decide, sorry, by decide, sorry⟩
theorem lk_L_210 : LV RL 210 7 M_X6_event 2 := ⟨⟨sorry, sorry, sorry, rfl, sorry, by decide⟩, sorry, sorry, _, _, rfl⟩
theorem lk_L_203 : LV RL 203 6 M_X5_progress 0 := ⟨⟨sorry, sorry, sorry, rfl, sorry, by decide⟩, sorry, sorry, _, _, rfl⟩
theorem lk_L_207 : LV RL 207 7 M_X6_progress 0 := ⟨⟨sorry, sorry, sorry, rfl, sorry, by decide⟩, sorry, sorry, _, _, rfl⟩
theorem lk_L_199 : LV RL 199 6 M_X5_differingParts 0 := ⟨⟨sorry, sorry, sorry, rfl, sorry, by decide⟩, sorry, sorry, _, _, rfl⟩
theorem lk_L_202 : LV RL 202 7 M_X6_differingParts 0 := ⟨⟨sorry, sorry, sorry, rfl, sorry, by decide⟩, sorry, sorry, _, _, rfl⟩
theorem lk_L_195 : LV RL 195 6 M_X5_wrongBytes 0 := ⟨⟨sorry, sorry, sorry, rfl, sorry, by decide⟩, sorry, sorry, _, _, rfl⟩
theorem lk_L_198 : LV RL 198 7 M_X6_wrongBytes 0 := ⟨⟨sorry, sorry, sorry, rfl, sorry, by decide⟩, sorry, sorry, _, _, rfl⟩
theorem lk_L_192 : LSX RL 192 M_L_partial 4 := ⟨sorry, sorry, sorry, by decide, sorry, by decide, sorry⟩
theorem lk_L_194 : LV RL 194 7 M_X6_partial 2 := ⟨⟨sorry, sorry, sorry, rfl, sorry, by decide⟩, sorry, sorry, _, _, rfl⟩
theorem lk_L_189 : LSX RL 189 M_L_discard 3 := ⟨sorry, sorry, sorry, by decide, sorry, by decide, sorry⟩
theorem lk_L_191 : LV RL 191 7 M_X6_discard 1 := ⟨⟨sorry, sorry, sorry, rfl, sorry, by decide⟩, sorry, sorry, _, _, rfl⟩
theorem lk_L_186 : LSX RL 186 M_L_spoil 5 := ⟨sorry, sorry, sorry, by decide, sorry, by decide, sorry⟩
theorem lk_L_188 : LV RL 188 7 M_X6_spoil 3 := ⟨⟨sorry, sorry, sorry, rfl, sorry, by decide⟩, sorry, sorry, _, _, rfl⟩
theorem lk_L_183 : LSX RL 183 M_L_rename 4 := ⟨sorry, sorry, sorry, by decide, sorry, by decide, sorry⟩
theorem lk_L_185 : LV RL 185 7 M_X6_rename 2 := ⟨⟨sorry, sorry, sorry, rfl, sorry, by decide⟩, sorry, sorry, _, _, rfl⟩
theorem lk_L_180 : LSX RL 180 M_L_sized 3 := ⟨sorry, sorry, sorry, by decide, sorry, by decide, sorry⟩
theorem lk_L_182 : LV RL 182 7 M_X6_sized 1 := ⟨⟨sorry, sorry, sorry, rfl, sorry, by decide⟩, sorry, sorry, _, _, rfl⟩
theorem lk_L_177 : LSX RL 177 M_L_named 3 := ⟨sorry, sorry, sorry, by decide, sorry, by decide, sorry⟩
theorem lk_L_179 : LV RL 179 7 M_X6_named 1 := ⟨⟨sorry, sorry, sorry, rfl, sorry, by decide⟩, sorry, sorry, _, _, rfl⟩
theorem lk_L_174 : LSX RL 174 M_L_resume 3 := ⟨sorry, sorry, sorry, by decide, sorry, by decide, sorry⟩
theorem lk_L_176 : LV RL 176 7 M_X6_resume 1 := ⟨⟨sorry, sorry, sorry, rfl, sorry, by decide⟩, sorry, sorry, _, _, rfl⟩
theorem lk_L_171 : LSX RL 171 M_L_keep 3 := ⟨sorry, sorry, sorry, by decide, sorry, by decide, sorry⟩
theorem lk_L_173 : LV RL 173 7 M_X6_keep 1 := ⟨⟨sorry, sorry, sorry, rfl, sorry, by decide⟩, sorry, sorry, _, _, rfl⟩
theorem lk_L_167 : LV RL 167 6 M_X5_ticksLeft 0 := ⟨⟨sorry, sorry, sorry, rfl, sorry, by decide⟩, sorry, sorry, _, _, rfl⟩
theorem lk_L_170 : LV RL 170 7 M_X6_ticksLeft 0 := ⟨⟨sorry, sorry, sorry, rfl, sorry, by decide⟩, sorry, sorry, _, _, rfl⟩
theorem lk_L_164 : LSX RL 164 M_L_run 3 := ⟨sorry, sorry, sorry, by decide, sorry, by decide, sorry⟩
theorem lk_L_166 : LV RL 166 7 M_X6_run 1 := ⟨⟨sorry, sorry, sorry, rfl, sorry, by decide⟩, sorry, sorry, _, _, rfl⟩
theorem lk_L_161 : LSX RL 161 M_L_drop 3 := ⟨sorry, sorry, sorry, by decide, sorry, by decide, sorry⟩
theorem lk_L_163 : LV RL 163 7 M_X6_drop 1 := ⟨⟨sorry, sorry, sorry, rfl, sorry, by decide⟩, sorry, sorry, _, _, rfl⟩
theorem lk_L_158 : LSX RL 158 M_L_queriesFor 3 := ⟨sorry, sorry, sorry, by decide, sorry, by decide, sorry⟩
theorem lk_L_160 : LV RL 160 7 M_X6_queriesFor 1 := ⟨⟨sorry, sorry, sorry, rfl, sorry, by decide⟩, sorry, sorry, _, _, rfl⟩
theorem lk_L_155 : LSX RL 155 M_L_search 3 := ⟨sorry, sorry, sorry, by decide, sorry, by decide, sorry⟩
theorem lk_L_157 : LV RL 157 7 M_X6_search 1 := ⟨⟨sorry, sorry, sorry, rfl, sorry, by decide⟩, sorry, sorry, _, _, rfl⟩
theorem lk_L_152 : LSX RL 152 M_L_fetch 4 := ⟨sorry, sorry, sorry, by decide, sorry, by decide, sorry⟩
theorem lk_L_154 : LV RL 154 7 M_X6_fetch 2 := ⟨⟨sorry, sorry, sorry, rfl, sorry, by decide⟩, sorry, sorry, _, _, rfl⟩
theorem lk_L_148 : LSX RL 148 M_L_connect 4 := ⟨sorry, sorry, sorry, by decide, sorry, by decide, sorry⟩
theorem lk_L_151 : LV RL 151 7 M_X6_connect 2 := ⟨⟨sorry, sorry, sorry, rfl, sorry, by decide⟩, sorry, sorry, _, _, rfl⟩
theorem lk_L_144 : LSX RL 144 M_L_checksum 5 := ⟨sorry, sorry, sorry, by decide, sorry, by decide, sorry⟩
theorem lk_L_147 : LV RL 147 7 M_X6_checksum 3 := ⟨⟨sorry, sorry, sorry, rfl, sorry, by decide⟩, sorry, sorry, _, _, rfl⟩
theorem lk_L_141 : LSX RL 141 M_L_part 4 := ⟨sorry, sorry, sorry, by decide, sorry, by decide, sorry⟩
theorem lk_L_143 : LV RL 143 7 M_X6_part 2 := ⟨⟨sorry, sorry, sorry, rfl, sorry, by decide⟩, sorry, sorry, _, _, rfl⟩
theorem lk_L_138 : LSX RL 138 M_L_piece 4 := ⟨sorry, sorry, sorry, by decide, sorry, by decide, sorry⟩
theorem lk_L_140 : LV RL 140 7 M_X6_piece 2 := ⟨⟨sorry, sorry, sorry, rfl, sorry, by decide⟩, sorry, sorry, _, _, rfl⟩
theorem lk_L_135 : LSX RL 135 M_L_got 3 := ⟨sorry, sorry, sorry, by decide, sorry, by decide, sorry⟩
theorem lk_L_137 : LV RL 137 7 M_X6_got 1 := ⟨⟨sorry, sorry, sorry, rfl, sorry, by decide⟩, sorry, sorry, _, _, rfl⟩
theorem lk_L_132 : LSX RL 132 M_L_sent 4 := ⟨sorry, sorry, sorry, by decide, sorry, by decide, sorry⟩
theorem lk_L_134 : LV RL 134 7 M_X6_sent 2 := ⟨⟨sorry, sorry, sorry, rfl, sorry, by decide⟩, sorry, sorry, _, _, rfl⟩
theorem lk_L_128 : LSX RL 128 M_L_source 4 := ⟨sorry, sorry, sorry, by decide, sorry, by decide, sorry⟩
theorem lk_L_131 : LV RL 131 7 M_X6_source 2 := ⟨⟨sorry, sorry, sorry, rfl, sorry, by decide⟩, sorry, sorry, _, _, rfl⟩
theorem lk_L_125 : LSX RL 125 M_L_count 3 := ⟨sorry, sorry, sorry, by decide, sorry, by decide, sorry⟩
theorem lk_L_127 : LV RL 127 7 M_X6_count 1 := ⟨⟨sorry, sorry, sorry, rfl, sorry, by decide⟩, sorry, sorry, _, _, rfl⟩
theorem lk_L_121 : LV RL 121 6 M_X5_errorPosition 0 := ⟨⟨sorry, sorry, sorry, rfl, sorry, by decide⟩, sorry, sorry, _, _, rfl⟩
theorem lk_L_124 : LV RL 124 7 M_X6_errorPosition 0 := ⟨⟨sorry, sorry, sorry, rfl, sorry, by decide⟩, sorry, sorry, _, _, rfl⟩
theorem lk_L_117 : LSX RL 117 M_L_load 3 := ⟨sorry, sorry, sorry, by decide, sorry, by decide, sorry⟩
theorem lk_L_120 : LV RL 120 7 M_X6_load 1 := ⟨⟨sorry, sorry, sorry, rfl, sorry, by decide⟩, sorry, sorry, _, _, rfl⟩
theorem lk_L_108 : LSX RL 108 M_L_append 7 := ⟨sorry, sorry, sorry, by decide, sorry, by decide, sorry⟩
theorem lk_L_113 : LV RL 113 7 M_X6_append 5 := ⟨⟨sorry, sorry, sorry, rfl, sorry, by decide⟩, sorry, sorry, _, _, rfl⟩
