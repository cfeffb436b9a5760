/-! the law, from its entry: what the premises say of the start -/
abbrev gvC : Jvm.Cond := Jvm.Cond.and given_1 narrow_1
abbrev sQ (i : Nat) : String × Nat × String := sTab.getD i ("", 0, "")
abbrev sT (i : Nat) : Term := Term.string (sQ i).1 (sQ i).2.1
abbrev sF (i : Nat) : Term := Term.field (sT i) "java/lang/String" "value" "[B"
abbrev tE : Term := Term.static "java/util/ArrayList" "DEFAULTCAPACITY_EMPTY_ELEMENTDATA" "[Ljava/lang/Object;"
set_option maxRecDepth 100000 in
theorem fl_ex : ∀ i : Nat, i < 21 → Cond.exactly (sT i) "java/lang/String" ∈ flatC gvC := by decide +kernel
set_option maxRecDepth 100000 in
theorem fl_co : ∀ i : Nat, i < 12 → Cond.eq (.field (sT i) "java/lang/String" "coder" "B") (.int 0) ∈ flatC gvC := by decide +kernel
set_option maxRecDepth 100000 in
theorem fl_ar : ∀ i : Nat, i < 12 → Cond.arrayOf (sF i) .byte ∈ flatC gvC := by decide +kernel
set_option maxRecDepth 100000 in
theorem fl_le : ∀ i : Nat, i < 12 → Cond.eq (.length (sF i)) (.int (Int32.ofNat (sLen.getD i 0))) ∈ flatC gvC := by decide +kernel
set_option maxRecDepth 100000 in
theorem fl_el : ∀ i : Nat, i < 12 → ∀ j : Nat, j < sLen.getD i 0 → Cond.eq (.elem (sF i) (.int (Int32.ofNat j))) (.int ((sByt.getD i []).getD j 0)) ∈ flatC gvC := by decide +kernel
theorem sl_b : ∀ i : Nat, i < 12 → sLen.getD i 0 < 2 ^ 31 := by decide +kernel
set_option maxRecDepth 100000 in
theorem fl_E : Cond.arrayOf tE (.object "java/lang/Object") ∈ flatC gvC ∧ Cond.exactly tE "[Ljava/lang/Object;" ∈ flatC gvC ∧ Cond.eq (.length tE) (.int (Int32.ofNat 0)) ∈ flatC gvC := by decide +kernel
set_option maxRecDepth 100000 in
theorem fl_th : Cond.isRef (.static Bundle.tN "UNASSIGNED_STACK" Bundle.steD) ∈ flatC gvC ∧ Cond.isRef (.static Bundle.tN "SUPPRESSED_SENTINEL" Bundle.listD) ∈ flatC gvC := by decide +kernel
set_option maxRecDepth 100000 in
theorem fl_s : Cond.eq (.static "java/lang/String" "COMPACT_STRINGS" "Z") (.int 1) ∈ flatC gvC ∧ Cond.isRef (.static "jdk/internal/util/Preconditions" "SIOOBE_FORMATTER" "Ljava/util/function/BiFunction;") ∈ flatC gvC := by decide +kernel
set_option maxRecDepth 100000 in
theorem fl_nc : ∀ q ∈ ncTab, Cond.not (.castable q.1 q.2) ∈ flatC gvC := by decide +kernel
set_option maxRecDepth 100000 in
theorem tb_sr : ∀ i : Nat, i < 21 → Cond.stringRef (sQ i).1 (sQ i).2.1 (sQ i).2.2 ∈ lw_tbl := by decide +kernel
set_option maxRecDepth 100000 in
theorem tb_st : Cond.laysStatic "java/util/ArrayList" "DEFAULTCAPACITY_EMPTY_ELEMENTDATA" "[Ljava/lang/Object;" ∈ lw_tbl ∧ Cond.initialized "java/util/ArrayList" ∈ lw_tbl ∧ Cond.laysStatic Bundle.tN "UNASSIGNED_STACK" Bundle.steD ∈ lw_tbl ∧ Cond.laysStatic Bundle.tN "SUPPRESSED_SENTINEL" Bundle.listD ∈ lw_tbl ∧ Cond.initialized Bundle.tN ∈ lw_tbl ∧ Cond.laysStatic "java/lang/String" "COMPACT_STRINGS" "Z" ∈ lw_tbl ∧ Cond.initialized "java/lang/String" ∈ lw_tbl ∧ Cond.laysStatic "jdk/internal/util/Preconditions" "SIOOBE_FORMATTER" "Ljava/util/function/BiFunction;" ∈ lw_tbl ∧ Cond.initialized "jdk/internal/util/Preconditions" ∈ lw_tbl := by decide +kernel
set_option maxRecDepth 100000 in
theorem tb_ar : Cond.arrayClass .int ∈ lw_tbl ∧ Cond.arrayClass .boolean ∈ lw_tbl ∧ Cond.arrayClass .long ∈ lw_tbl ∧ Cond.arrayOver (.object "PieceTransfer$Download") ∈ lw_tbl ∧ Cond.arrayOver (.object "java/lang/Object") ∈ lw_tbl := by decide +kernel
set_option maxRecDepth 100000 in
theorem tb_cl : ∀ q ∈ vwCl, Cond.instantiable q.1 q.2.2 ∈ lw_tbl := by decide +kernel
