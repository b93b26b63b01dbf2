/-- private methods of AbstractStringBuilder, on a StringBuilder: they are selected; said at the start, kept from there -/
def lw_X : List Cond := [Cond.selects RJ4 yJ5_ensureCapacityInternal_d00df yJ5_ensureCapacityInternal_d00df, Cond.selects RJ4 yJ5_newCapacity_0f7a4 yJ5_newCapacity_0f7a4]
def lw_U : List Cond := (lw_X ++ lw_tbl).filter goodWord
theorem mU {w : Cond} (h : w ∈ lw_tbl) (g : goodWord w = true) : w ∈ lw_U := List.mem_filter.mpr ⟨List.mem_append_right _ h, g⟩
theorem qx0 : Cond.selects RJ4 yJ5_ensureCapacityInternal_d00df yJ5_ensureCapacityInternal_d00df ∈ lw_U := List.mem_filter.mpr ⟨List.mem_append_left _ (List.mem_of_getElem? (i := 0) rfl), rfl⟩
theorem qx1 : Cond.selects RJ4 yJ5_newCapacity_0f7a4 yJ5_newCapacity_0f7a4 ∈ lw_U := List.mem_filter.mpr ⟨List.mem_append_left _ (List.mem_of_getElem? (i := 1) rfl), rfl⟩
theorem mT {w : Cond} (h : w ∈ tables_1) : w ∈ lw_tbl := List.mem_append_right _ h
theorem mT1 {w : Cond} (h : w ∈ tables_1_1) : w ∈ tables_1 := List.mem_append_left _ h
theorem mT2 {w : Cond} (h : w ∈ tables_1_2) : w ∈ tables_1 := List.mem_append_right _ (List.mem_append_left _ h)
theorem mT3 {w : Cond} (h : w ∈ tables_1_3) : w ∈ tables_1 := List.mem_append_right _ (List.mem_append_right _ (List.mem_append_left _ h))
theorem mT4 {w : Cond} (h : w ∈ tables_1_4) : w ∈ tables_1 := List.mem_append_right _ (List.mem_append_right _ (List.mem_append_right _ (List.mem_append_left _ h)))
theorem mT5 {w : Cond} (h : w ∈ tables_1_5) : w ∈ tables_1 := List.mem_append_right _ (List.mem_append_right _ (List.mem_append_right _ (List.mem_append_right _ (List.mem_append_left _ h))))
theorem mT6 {w : Cond} (h : w ∈ tables_1_6) : w ∈ tables_1 := List.mem_append_right _ (List.mem_append_right _ (List.mem_append_right _ (List.mem_append_right _ (List.mem_append_right _ (List.mem_append_left _ h)))))
theorem mT7 {w : Cond} (h : w ∈ tables_1_7) : w ∈ tables_1 := List.mem_append_right _ (List.mem_append_right _ (List.mem_append_right _ (List.mem_append_right _ (List.mem_append_right _ (List.mem_append_right _ (List.mem_append_left _ h))))))
theorem mT8 {w : Cond} (h : w ∈ tables_1_8) : w ∈ tables_1 := List.mem_append_right _ (List.mem_append_right _ (List.mem_append_right _ (List.mem_append_right _ (List.mem_append_right _ (List.mem_append_right _ (List.mem_append_right _ (List.mem_append_left _ h)))))))
theorem mT9 {w : Cond} (h : w ∈ tables_1_9) : w ∈ tables_1 := List.mem_append_right _ (List.mem_append_right _ (List.mem_append_right _ (List.mem_append_right _ (List.mem_append_right _ (List.mem_append_right _ (List.mem_append_right _ (List.mem_append_right _ (List.mem_append_left _ h))))))))
theorem mT10 {w : Cond} (h : w ∈ tables_1_10) : w ∈ tables_1 := List.mem_append_right _ (List.mem_append_right _ (List.mem_append_right _ (List.mem_append_right _ (List.mem_append_right _ (List.mem_append_right _ (List.mem_append_right _ (List.mem_append_right _ (List.mem_append_right _ (h)))))))))
/-- the words of nest mates, of casts: they keep, each by a law of its own -/
def nwOK : Cond → Bool
  | .fieldLinkNest .. => true
  | .methodLinkNest .. => true
  | .castable .. => true
  | .declares _ => true
  | _ => false
def lw_N : List Cond := tables_1.filter nwOK
theorem nN {w : Cond} (h : w ∈ tables_1) (g : nwOK w = true) : w ∈ lw_N := List.mem_filter.mpr ⟨h, g⟩
theorem q0 : Cond.initialized RL ∈ lw_U := mU (mT (mT1 (List.mem_of_getElem? (i := 0) rfl))) rfl
theorem q1 : Cond.initialized RX12 ∈ lw_U := mU (mT (mT1 (List.mem_of_getElem? (i := 1) rfl))) rfl
theorem q2 : Cond.initialized RX11 ∈ lw_U := mU (mT (mT1 (List.mem_of_getElem? (i := 2) rfl))) rfl
theorem q3 : Cond.initialized RX9 ∈ lw_U := mU (mT (mT1 (List.mem_of_getElem? (i := 3) rfl))) rfl
theorem q4 : Cond.initialized RX7 ∈ lw_U := mU (mT (mT1 (List.mem_of_getElem? (i := 4) rfl))) rfl
theorem q5 : Cond.initialized RX8 ∈ lw_U := mU (mT (mT1 (List.mem_of_getElem? (i := 5) rfl))) rfl
theorem q6 : Cond.initialized RX5 ∈ lw_U := mU (mT (mT1 (List.mem_of_getElem? (i := 6) rfl))) rfl
theorem q7 : Cond.initialized RX1 ∈ lw_U := mU (mT (mT1 (List.mem_of_getElem? (i := 7) rfl))) rfl
theorem q8 : Cond.initialized RX3 ∈ lw_U := mU (mT (mT1 (List.mem_of_getElem? (i := 8) rfl))) rfl
theorem q9 : Cond.initialized RX4 ∈ lw_U := mU (mT (mT1 (List.mem_of_getElem? (i := 9) rfl))) rfl
theorem q10 : Cond.initialized RX6 ∈ lw_U := mU (mT (mT1 (List.mem_of_getElem? (i := 10) rfl))) rfl
theorem q11 : Cond.initialized RX2 ∈ lw_U := mU (mT (mT1 (List.mem_of_getElem? (i := 11) rfl))) rfl
theorem q12 : Cond.initialized RJ5 ∈ lw_U := mU (mT (mT1 (List.mem_of_getElem? (i := 12) rfl))) rfl
theorem q13 : Cond.initialized RJ4 ∈ lw_U := mU (mT (mT1 (List.mem_of_getElem? (i := 13) rfl))) rfl
theorem q14 : Cond.initialized RJ0 ∈ lw_U := mU (mT (mT1 (List.mem_of_getElem? (i := 14) rfl))) rfl
theorem q15 : Cond.initialized RJ2 ∈ lw_U := mU (mT (mT1 (List.mem_of_getElem? (i := 15) rfl))) rfl
theorem q16 : Cond.initialized RX13 ∈ lw_U := mU (mT (mT1 (List.mem_of_getElem? (i := 16) rfl))) rfl
theorem q17 : Cond.initialized "java/lang/Throwable" ∈ lw_U := mU (mT (mT1 (List.mem_of_getElem? (i := 17) rfl))) rfl
theorem q18 : Cond.initialized "java/lang/Exception" ∈ lw_U := mU (mT (mT1 (List.mem_of_getElem? (i := 18) rfl))) rfl
theorem q19 : Cond.initialized "java/lang/RuntimeException" ∈ lw_U := mU (mT (mT1 (List.mem_of_getElem? (i := 19) rfl))) rfl
theorem q20 : Cond.initialized "java/lang/IllegalArgumentException" ∈ lw_U := mU (mT (mT1 (List.mem_of_getElem? (i := 20) rfl))) rfl
theorem q21 : Cond.initialized "java/lang/IllegalStateException" ∈ lw_U := mU (mT (mT1 (List.mem_of_getElem? (i := 21) rfl))) rfl
theorem q22 : Cond.initialized "java/util/NoSuchElementException" ∈ lw_U := mU (mT (mT1 (List.mem_of_getElem? (i := 22) rfl))) rfl
theorem q23 : Cond.initialized "java/lang/UnsupportedOperationException" ∈ lw_U := mU (mT (mT1 (List.mem_of_getElem? (i := 23) rfl))) rfl
theorem q24 : Cond.initialized "java/lang/ArithmeticException" ∈ lw_U := mU (mT (mT1 (List.mem_of_getElem? (i := 24) rfl))) rfl
theorem q25 : Cond.initialized "java/lang/IndexOutOfBoundsException" ∈ lw_U := mU (mT (mT1 (List.mem_of_getElem? (i := 25) rfl))) rfl
theorem q26 : Cond.initialized RJx7c733 ∈ lw_U := mU (mT (mT1 (List.mem_of_getElem? (i := 26) rfl))) rfl
theorem q27 : Cond.initialized RJ8 ∈ lw_U := mU (mT (mT1 (List.mem_of_getElem? (i := 27) rfl))) rfl
theorem q28 : Cond.initialized RJ9 ∈ lw_U := mU (mT (mT1 (List.mem_of_getElem? (i := 28) rfl))) rfl
theorem q29 : Cond.initialized RJ7 ∈ lw_U := mU (mT (mT1 (List.mem_of_getElem? (i := 29) rfl))) rfl
theorem q30 : Cond.initialized RJ10 ∈ lw_U := mU (mT (mT1 (List.mem_of_getElem? (i := 30) rfl))) rfl
theorem q31 : Cond.initialized RJ3 ∈ lw_U := mU (mT (mT1 (List.mem_of_getElem? (i := 31) rfl))) rfl
theorem q32 : Cond.initialized RJ1 ∈ lw_U := mU (mT (mT1 (List.mem_of_getElem? (i := 32) rfl))) rfl
theorem q33 : Cond.initialized RJxd2413 ∈ lw_U := mU (mT (mT1 (List.mem_of_getElem? (i := 33) rfl))) rfl
theorem q34 : Cond.initialized RJ6 ∈ lw_U := mU (mT (mT1 (List.mem_of_getElem? (i := 34) rfl))) rfl
theorem q35 : Cond.initialized RJx00060 ∈ lw_U := mU (mT (mT1 (List.mem_of_getElem? (i := 35) rfl))) rfl
theorem q36 : Cond.initialized RX0 ∈ lw_U := mU (mT (mT1 (List.mem_of_getElem? (i := 36) rfl))) rfl
theorem q37 : Cond.classLink RL 8 RX12 ∈ lw_U := mU (mT (mT1 (List.mem_of_getElem? (i := 37) rfl))) rfl
theorem q38 : Cond.instantiable RX12 9 ∈ lw_U := mU (mT (mT1 (List.mem_of_getElem? (i := 38) rfl))) rfl
theorem q39 : Cond.methodLink RL 148 yX12_init ∈ lw_U := mU (mT (mT1 (List.mem_of_getElem? (i := 39) rfl))) rfl
theorem q40 : Cond.instanceMethod yX12_init ∈ lw_U := mU (mT (mT1 (List.mem_of_getElem? (i := 40) rfl))) rfl
theorem q41 : Cond.code yX12_init prog_1_method_1_code 1 none ∈ lw_U := mU (mT (mT1 (List.mem_of_getElem? (i := 41) rfl))) rfl
theorem q42 : Cond.methodLink RX12 1 ⟨"java/lang/Object", "<init>", "()V"⟩ ∈ lw_U := mU (mT (mT1 (List.mem_of_getElem? (i := 42) rfl))) rfl
theorem q43 : Cond.instanceMethod ⟨"java/lang/Object", "<init>", "()V"⟩ ∈ lw_U := mU (mT (mT1 (List.mem_of_getElem? (i := 43) rfl))) rfl
theorem q44 : Cond.code ⟨"java/lang/Object", "<init>", "()V"⟩ object_method_1_code 1 none ∈ lw_U := mU (mT (mT1 (List.mem_of_getElem? (i := 44) rfl))) rfl
theorem q45 : Cond.classLink RX12 7 RX11 ∈ lw_U := mU (mT (mT1 (List.mem_of_getElem? (i := 45) rfl))) rfl
theorem q46 : Cond.instantiable RX11 7 ∈ lw_U := mU (mT (mT1 (List.mem_of_getElem? (i := 46) rfl))) rfl
theorem q47 : Cond.methodLinkNest RX12 9 yX11_init RX12 ∈ lw_N := nN (mT1 (List.mem_of_getElem? (i := 47) rfl)) rfl
theorem q48 : Cond.instanceMethod yX11_init ∈ lw_U := mU (mT (mT1 (List.mem_of_getElem? (i := 48) rfl))) rfl
theorem q49 : Cond.code yX11_init prog_13_method_1_code 1 none ∈ lw_U := mU (mT (mT1 (List.mem_of_getElem? (i := 49) rfl))) rfl
theorem q50 : Cond.methodLink RX11 3 ⟨"java/lang/Object", "<init>", "()V"⟩ ∈ lw_U := mU (mT (mT1 (List.mem_of_getElem? (i := 50) rfl))) rfl
theorem q51 : Cond.classLink RX11 9 RX9 ∈ lw_U := mU (mT (mT1 (List.mem_of_getElem? (i := 51) rfl))) rfl
theorem q52 : Cond.instantiable RX9 5 ∈ lw_U := mU (mT (mT1 (List.mem_of_getElem? (i := 52) rfl))) rfl
theorem q53 : Cond.methodLinkNest RX11 11 yX9_init RX12 ∈ lw_N := nN (mT1 (List.mem_of_getElem? (i := 53) rfl)) rfl
theorem q54 : Cond.instanceMethod yX9_init ∈ lw_U := mU (mT (mT1 (List.mem_of_getElem? (i := 54) rfl))) rfl
theorem q55 : Cond.code yX9_init prog_11_method_1_code 1 none ∈ lw_U := mU (mT (mT1 (List.mem_of_getElem? (i := 55) rfl))) rfl
theorem q56 : Cond.methodLink RX9 3 ⟨"java/lang/Object", "<init>", "()V"⟩ ∈ lw_U := mU (mT (mT1 (List.mem_of_getElem? (i := 56) rfl))) rfl
theorem q57 : Cond.classLink RX9 9 RX7 ∈ lw_U := mU (mT (mT1 (List.mem_of_getElem? (i := 57) rfl))) rfl
theorem q58 : Cond.instantiable RX7 2 ∈ lw_U := mU (mT (mT1 (List.mem_of_getElem? (i := 58) rfl))) rfl
theorem q59 : Cond.methodLink RX9 11 yX7_init ∈ lw_U := mU (mT (mT1 (List.mem_of_getElem? (i := 59) rfl))) rfl
theorem q60 : Cond.instanceMethod yX7_init ∈ lw_U := mU (mT (mT1 (List.mem_of_getElem? (i := 60) rfl))) rfl
theorem q61 : Cond.code yX7_init prog_9_method_1_code 2 none ∈ lw_U := mU (mT (mT1 (List.mem_of_getElem? (i := 61) rfl))) rfl
theorem q62 : Cond.methodLink RX7 3 ⟨"java/lang/Object", "<init>", "()V"⟩ ∈ lw_U := mU (mT (mT1 (List.mem_of_getElem? (i := 62) rfl))) rfl
theorem q63 : Cond.fieldLink RX7 9 RX7 "places" "[I" ∈ lw_U := mU (mT (mT1 (List.mem_of_getElem? (i := 63) rfl))) rfl
theorem q64 : Cond.fieldLink RX7 15 RX7 "size" "I" ∈ lw_U := mU (mT (mT1 (List.mem_of_getElem? (i := 64) rfl))) rfl
theorem q70 : Cond.arrayClass .int ∈ lw_U := mU (mT (mT1 (List.mem_of_getElem? (i := 70) rfl))) rfl
theorem q71 : Cond.fieldLink RX9 14 RX9 "numbers" "LWireCutter$Row;" ∈ lw_U := mU (mT (mT1 (List.mem_of_getElem? (i := 71) rfl))) rfl
theorem q72 : Cond.fieldLink RX9 20 RX9 "materials" "LWireCutter$Row;" ∈ lw_U := mU (mT (mT1 (List.mem_of_getElem? (i := 72) rfl))) rfl
theorem q73 : Cond.fieldLink RX9 23 RX9 "lengths" "LWireCutter$Row;" ∈ lw_U := mU (mT (mT1 (List.mem_of_getElem? (i := 73) rfl))) rfl
theorem q74 : Cond.fieldLink RX9 26 RX9 "cutCounts" "LWireCutter$Row;" ∈ lw_U := mU (mT (mT1 (List.mem_of_getElem? (i := 74) rfl))) rfl
theorem q75 : Cond.fieldLink RX9 29 RX9 "nextNumber" "I" ∈ lw_U := mU (mT (mT1 (List.mem_of_getElem? (i := 75) rfl))) rfl
theorem q87 : Cond.classLink RX11 18 RX8 ∈ lw_U := mU (mT (mT1 (List.mem_of_getElem? (i := 87) rfl))) rfl
theorem q88 : Cond.instantiable RX8 3 ∈ lw_U := mU (mT (mT1 (List.mem_of_getElem? (i := 88) rfl))) rfl
theorem q89 : Cond.methodLinkNest RX11 20 yX8_init RX12 ∈ lw_N := nN (mT1 (List.mem_of_getElem? (i := 89) rfl)) rfl
theorem q90 : Cond.instanceMethod yX8_init ∈ lw_U := mU (mT (mT1 (List.mem_of_getElem? (i := 90) rfl))) rfl
theorem q91 : Cond.code yX8_init prog_10_method_1_code 1 none ∈ lw_U := mU (mT (mT1 (List.mem_of_getElem? (i := 91) rfl))) rfl
theorem q92 : Cond.methodLink RX8 3 ⟨"java/lang/Object", "<init>", "()V"⟩ ∈ lw_U := mU (mT (mT1 (List.mem_of_getElem? (i := 92) rfl))) rfl
theorem q93 : Cond.classLink RX8 9 RX7 ∈ lw_U := mU (mT (mT1 (List.mem_of_getElem? (i := 93) rfl))) rfl
theorem q94 : Cond.methodLink RX8 11 yX7_init ∈ lw_U := mU (mT (mT1 (List.mem_of_getElem? (i := 94) rfl))) rfl
theorem q95 : Cond.methodLink RX8 23 yX7_ofZeros ∈ lw_U := mU (mT (mT1 (List.mem_of_getElem? (i := 95) rfl))) rfl
theorem q96 : Cond.static yX7_ofZeros ∈ lw_U := mU (mT (mT1 (List.mem_of_getElem? (i := 96) rfl))) rfl
theorem q97 : Cond.code yX7_ofZeros prog_9_method_2_code 2 (some (.object RX7)) ∈ lw_U := mU (mT (mT1 (List.mem_of_getElem? (i := 97) rfl))) rfl
theorem q98 : Cond.classLink RX7 10 RX7 ∈ lw_U := mU (mT (mT1 (List.mem_of_getElem? (i := 98) rfl))) rfl
theorem q99 : Cond.methodLink RX7 19 yX7_init ∈ lw_U := mU (mT (mT1 (List.mem_of_getElem? (i := 99) rfl))) rfl
theorem q100 : Cond.fieldLink RX8 14 RX8 "materials" "LWireCutter$Row;" ∈ lw_U := mU (mT (mT1 (List.mem_of_getElem? (i := 100) rfl))) rfl
theorem q101 : Cond.fieldLink RX8 20 RX8 "lengths" "LWireCutter$Row;" ∈ lw_U := mU (mT (mT1 (List.mem_of_getElem? (i := 101) rfl))) rfl
theorem q102 : Cond.fieldLink RX8 27 RX8 "thrown" "LWireCutter$Row;" ∈ lw_U := mU (mT (mT1 (List.mem_of_getElem? (i := 102) rfl))) rfl
theorem q110 : Cond.classLink RX11 25 RX5 ∈ lw_U := mU (mT (mT1 (List.mem_of_getElem? (i := 110) rfl))) rfl
theorem q111 : Cond.instantiable RX5 5 ∈ lw_U := mU (mT (mT1 (List.mem_of_getElem? (i := 111) rfl))) rfl
theorem q112 : Cond.methodLinkNest RX11 27 yX5_init RX12 ∈ lw_N := nN (mT1 (List.mem_of_getElem? (i := 112) rfl)) rfl
theorem q113 : Cond.instanceMethod yX5_init ∈ lw_U := mU (mT (mT1 (List.mem_of_getElem? (i := 113) rfl))) rfl
theorem q114 : Cond.code yX5_init prog_7_method_1_code 1 none ∈ lw_U := mU (mT (mT1 (List.mem_of_getElem? (i := 114) rfl))) rfl
theorem q115 : Cond.methodLink RX5 3 ⟨"java/lang/Object", "<init>", "()V"⟩ ∈ lw_U := mU (mT (mT1 (List.mem_of_getElem? (i := 115) rfl))) rfl
theorem q116 : Cond.classLink RX5 9 RX7 ∈ lw_U := mU (mT (mT1 (List.mem_of_getElem? (i := 116) rfl))) rfl
theorem q117 : Cond.methodLink RX5 11 yX7_init ∈ lw_U := mU (mT (mT1 (List.mem_of_getElem? (i := 117) rfl))) rfl
theorem q118 : Cond.fieldLink RX5 14 RX5 "numbers" "LWireCutter$Row;" ∈ lw_U := mU (mT (mT1 (List.mem_of_getElem? (i := 118) rfl))) rfl
theorem q119 : Cond.fieldLink RX5 20 RX5 "materials" "LWireCutter$Row;" ∈ lw_U := mU (mT (mT1 (List.mem_of_getElem? (i := 119) rfl))) rfl
theorem q120 : Cond.fieldLink RX5 23 RX5 "lengths" "LWireCutter$Row;" ∈ lw_U := mU (mT (mT1 (List.mem_of_getElem? (i := 120) rfl))) rfl
theorem q121 : Cond.fieldLink RX5 26 RX5 "dues" "LWireCutter$Row;" ∈ lw_U := mU (mT (mT1 (List.mem_of_getElem? (i := 121) rfl))) rfl
theorem q122 : Cond.fieldLink RX5 29 RX5 "nextNumber" "I" ∈ lw_U := mU (mT (mT1 (List.mem_of_getElem? (i := 122) rfl))) rfl
theorem q134 : Cond.classLink RX11 32 RX1 ∈ lw_U := mU (mT (mT1 (List.mem_of_getElem? (i := 134) rfl))) rfl
theorem q135 : Cond.instantiable RX1 4 ∈ lw_U := mU (mT (mT1 (List.mem_of_getElem? (i := 135) rfl))) rfl
theorem q136 : Cond.methodLinkNest RX11 34 yX1_init RX12 ∈ lw_N := nN (mT1 (List.mem_of_getElem? (i := 136) rfl)) rfl
theorem q137 : Cond.instanceMethod yX1_init ∈ lw_U := mU (mT (mT1 (List.mem_of_getElem? (i := 137) rfl))) rfl
theorem q138 : Cond.code yX1_init prog_3_method_1_code 1 none ∈ lw_U := mU (mT (mT1 (List.mem_of_getElem? (i := 138) rfl))) rfl
theorem q139 : Cond.methodLink RX1 3 ⟨"java/lang/Object", "<init>", "()V"⟩ ∈ lw_U := mU (mT (mT1 (List.mem_of_getElem? (i := 139) rfl))) rfl
theorem q140 : Cond.methodLink RX1 9 yX7_ofZeros ∈ lw_U := mU (mT (mT1 (List.mem_of_getElem? (i := 140) rfl))) rfl
theorem q141 : Cond.fieldLink RX1 15 RX1 "wound" "LWireCutter$Row;" ∈ lw_U := mU (mT (mT1 (List.mem_of_getElem? (i := 141) rfl))) rfl
theorem q142 : Cond.fieldLinkNest RX11 97 RX1 "wound" "LWireCutter$Row;" RX12 ∈ lw_N := nN (mT1 (List.mem_of_getElem? (i := 142) rfl)) rfl
theorem q143 : Cond.fieldLinkNest RX12 211 RX1 "wound" "LWireCutter$Row;" RX12 ∈ lw_N := nN (mT1 (List.mem_of_getElem? (i := 143) rfl)) rfl
theorem q144 : Cond.fieldLink RX1 21 RX1 "delivered" "LWireCutter$Row;" ∈ lw_U := mU (mT (mT1 (List.mem_of_getElem? (i := 144) rfl))) rfl
theorem q145 : Cond.fieldLinkNest RX11 244 RX1 "delivered" "LWireCutter$Row;" RX12 ∈ lw_N := nN (mT1 (List.mem_of_getElem? (i := 145) rfl)) rfl
theorem q146 : Cond.fieldLinkNest RX12 228 RX1 "delivered" "LWireCutter$Row;" RX12 ∈ lw_N := nN (mT1 (List.mem_of_getElem? (i := 146) rfl)) rfl
theorem q147 : Cond.fieldLink RX1 24 RX1 "lost" "LWireCutter$Row;" ∈ lw_U := mU (mT (mT1 (List.mem_of_getElem? (i := 147) rfl))) rfl
theorem q148 : Cond.fieldLinkNest RX11 250 RX1 "lost" "LWireCutter$Row;" RX12 ∈ lw_N := nN (mT1 (List.mem_of_getElem? (i := 148) rfl)) rfl
theorem q149 : Cond.fieldLinkNest RX12 231 RX1 "lost" "LWireCutter$Row;" RX12 ∈ lw_N := nN (mT1 (List.mem_of_getElem? (i := 149) rfl)) rfl
theorem q150 : Cond.fieldLink RX1 27 RX1 "filledCount" "I" ∈ lw_U := mU (mT (mT1 (List.mem_of_getElem? (i := 150) rfl))) rfl
theorem q151 : Cond.fieldLinkNest RX11 266 RX1 "filledCount" "I" RX12 ∈ lw_N := nN (mT1 (List.mem_of_getElem? (i := 151) rfl)) rfl
theorem q152 : Cond.fieldLinkNest RX12 234 RX1 "filledCount" "I" RX12 ∈ lw_N := nN (mT1 (List.mem_of_getElem? (i := 152) rfl)) rfl
theorem q162 : Cond.fieldLink RX11 12 RX11 "spools" "LWireCutter$Spools;" ∈ lw_U := mU (mT (mT1 (List.mem_of_getElem? (i := 162) rfl))) rfl
theorem q163 : Cond.fieldLinkNest RX4 30 RX11 "spools" "LWireCutter$Spools;" RX12 ∈ lw_N := nN (mT1 (List.mem_of_getElem? (i := 163) rfl)) rfl
theorem q164 : Cond.fieldLinkNest RX12 110 RX11 "spools" "LWireCutter$Spools;" RX12 ∈ lw_N := nN (mT1 (List.mem_of_getElem? (i := 164) rfl)) rfl
theorem q165 : Cond.fieldLink RX11 21 RX11 "scraps" "LWireCutter$Scraps;" ∈ lw_U := mU (mT (mT1 (List.mem_of_getElem? (i := 165) rfl))) rfl
theorem q166 : Cond.fieldLinkNest RX12 153 RX11 "scraps" "LWireCutter$Scraps;" RX12 ∈ lw_N := nN (mT1 (List.mem_of_getElem? (i := 166) rfl)) rfl
theorem q167 : Cond.fieldLink RX11 28 RX11 "orders" "LWireCutter$Orders;" ∈ lw_U := mU (mT (mT1 (List.mem_of_getElem? (i := 167) rfl))) rfl
theorem q168 : Cond.fieldLinkNest RX4 24 RX11 "orders" "LWireCutter$Orders;" RX12 ∈ lw_N := nN (mT1 (List.mem_of_getElem? (i := 168) rfl)) rfl
theorem q169 : Cond.fieldLinkNest RX12 172 RX11 "orders" "LWireCutter$Orders;" RX12 ∈ lw_N := nN (mT1 (List.mem_of_getElem? (i := 169) rfl)) rfl
theorem q170 : Cond.fieldLink RX11 35 RX11 "accounts" "LWireCutter$Accounts;" ∈ lw_U := mU (mT (mT1 (List.mem_of_getElem? (i := 170) rfl))) rfl
theorem q171 : Cond.fieldLinkNest RX12 207 RX11 "accounts" "LWireCutter$Accounts;" RX12 ∈ lw_N := nN (mT1 (List.mem_of_getElem? (i := 171) rfl)) rfl
theorem q172 : Cond.fieldLink RX11 39 RX11 "kerf" "I" ∈ lw_U := mU (mT (mT1 (List.mem_of_getElem? (i := 172) rfl))) rfl
theorem q173 : Cond.fieldLinkNest RX4 56 RX11 "kerf" "I" RX12 ∈ lw_N := nN (mT1 (List.mem_of_getElem? (i := 173) rfl)) rfl
theorem q174 : Cond.fieldLinkNest RX12 100 RX11 "kerf" "I" RX12 ∈ lw_N := nN (mT1 (List.mem_of_getElem? (i := 174) rfl)) rfl
theorem q175 : Cond.fieldLink RX11 43 RX11 "scrapLimit" "I" ∈ lw_U := mU (mT (mT1 (List.mem_of_getElem? (i := 175) rfl))) rfl
theorem q176 : Cond.fieldLinkNest RX12 103 RX11 "scrapLimit" "I" RX12 ∈ lw_N := nN (mT1 (List.mem_of_getElem? (i := 176) rfl)) rfl
theorem q177 : Cond.fieldLink RX11 46 RX11 "rule" "C" ∈ lw_U := mU (mT (mT1 (List.mem_of_getElem? (i := 177) rfl))) rfl
theorem q178 : Cond.fieldLinkNest RX12 106 RX11 "rule" "C" RX12 ∈ lw_N := nN (mT1 (List.mem_of_getElem? (i := 178) rfl)) rfl
theorem q194 : Cond.classLink RX12 19 RX3 ∈ lw_U := mU (mT (mT1 (List.mem_of_getElem? (i := 194) rfl))) rfl
theorem q195 : Cond.instantiable RX3 3 ∈ lw_U := mU (mT (mT1 (List.mem_of_getElem? (i := 195) rfl))) rfl
theorem q196 : Cond.methodLink RX12 21 yX3_init ∈ lw_U := mU (mT (mT1 (List.mem_of_getElem? (i := 196) rfl))) rfl
theorem q197 : Cond.instanceMethod yX3_init ∈ lw_U := mU (mT (mT1 (List.mem_of_getElem? (i := 197) rfl))) rfl
theorem q198 : Cond.code yX3_init prog_5_method_1_code 2 none ∈ lw_U := mU (mT (mT1 (List.mem_of_getElem? (i := 198) rfl))) rfl
theorem q199 : Cond.methodLink RX3 3 ⟨"java/lang/Object", "<init>", "()V"⟩ ∈ lw_U := mU (mT (mT1 (List.mem_of_getElem? (i := 199) rfl))) rfl
theorem q200 : Cond.classLink RX3 11 RX11 ∈ lw_U := mU (mT (mT1 (List.mem_of_getElem? (i := 200) rfl))) rfl
theorem q202 : Cond.methodLinkNest RX3 24 yX11_init RX12 ∈ lw_N := nN (mT1 (List.mem_of_getElem? (i := 202) rfl)) rfl
theorem q203 : Cond.fieldLink RX3 13 RX3 "states" "[LWireCutter$Workshop;" ∈ lw_U := mU (mT (mT1 (List.mem_of_getElem? (i := 203) rfl))) rfl
theorem q204 : Cond.fieldLink RX3 17 RX3 "next" "I" ∈ lw_U := mU (mT (mT1 (List.mem_of_getElem? (i := 204) rfl))) rfl
theorem q205 : Cond.fieldLink RX3 21 RX3 "count" "I" ∈ lw_U := mU (mT (mT1 (List.mem_of_getElem? (i := 205) rfl))) rfl
theorem q213 : Cond.classLink RX12 26 RX4 ∈ lw_U := mU (mT (mT1 (List.mem_of_getElem? (i := 213) rfl))) rfl
theorem q214 : Cond.instantiable RX4 2 ∈ lw_U := mU (mT (mT1 (List.mem_of_getElem? (i := 214) rfl))) rfl
theorem q215 : Cond.methodLinkNest RX12 28 yX4_init RX12 ∈ lw_N := nN (mT1 (List.mem_of_getElem? (i := 215) rfl)) rfl
theorem q216 : Cond.instanceMethod yX4_init ∈ lw_U := mU (mT (mT1 (List.mem_of_getElem? (i := 216) rfl))) rfl
theorem q217 : Cond.code yX4_init prog_6_method_1_code 1 none ∈ lw_U := mU (mT (mT1 (List.mem_of_getElem? (i := 217) rfl))) rfl
theorem q218 : Cond.methodLink RX4 3 ⟨"java/lang/Object", "<init>", "()V"⟩ ∈ lw_U := mU (mT (mT1 (List.mem_of_getElem? (i := 218) rfl))) rfl
theorem q219 : Cond.classLink RX4 15 RX7 ∈ lw_U := mU (mT (mT1 (List.mem_of_getElem? (i := 219) rfl))) rfl
theorem q220 : Cond.methodLink RX4 17 yX7_init ∈ lw_U := mU (mT (mT1 (List.mem_of_getElem? (i := 220) rfl))) rfl
theorem q221 : Cond.fieldLink RX4 9 RX4 "table" "[I" ∈ lw_U := mU (mT (mT1 (List.mem_of_getElem? (i := 221) rfl))) rfl
theorem q222 : Cond.fieldLink RX4 20 RX4 "pieces" "LWireCutter$Row;" ∈ lw_U := mU (mT (mT1 (List.mem_of_getElem? (i := 222) rfl))) rfl
theorem q228 : Cond.classLink RX12 33 RX6 ∈ lw_U := mU (mT (mT1 (List.mem_of_getElem? (i := 228) rfl))) rfl
theorem q229 : Cond.instantiable RX6 5 ∈ lw_U := mU (mT (mT1 (List.mem_of_getElem? (i := 229) rfl))) rfl
theorem q230 : Cond.methodLink RX12 35 yX6_init ∈ lw_U := mU (mT (mT1 (List.mem_of_getElem? (i := 230) rfl))) rfl
theorem q231 : Cond.instanceMethod yX6_init ∈ lw_U := mU (mT (mT1 (List.mem_of_getElem? (i := 231) rfl))) rfl
theorem q232 : Cond.code yX6_init prog_8_method_1_code 2 none ∈ lw_U := mU (mT (mT1 (List.mem_of_getElem? (i := 232) rfl))) rfl
theorem q233 : Cond.methodLink RX6 3 ⟨"java/lang/Object", "<init>", "()V"⟩ ∈ lw_U := mU (mT (mT1 (List.mem_of_getElem? (i := 233) rfl))) rfl
theorem q234 : Cond.classLink RX6 15 RX2 ∈ lw_U := mU (mT (mT1 (List.mem_of_getElem? (i := 234) rfl))) rfl
theorem q236 : Cond.instantiable RX2 5 ∈ lw_U := mU (mT (mT1 (List.mem_of_getElem? (i := 236) rfl))) rfl
theorem q237 : Cond.methodLinkNest RX6 31 yX2_init RX12 ∈ lw_N := nN (mT1 (List.mem_of_getElem? (i := 237) rfl)) rfl
theorem q238 : Cond.instanceMethod yX2_init ∈ lw_U := mU (mT (mT1 (List.mem_of_getElem? (i := 238) rfl))) rfl
theorem q239 : Cond.code yX2_init prog_4_method_1_code 1 none ∈ lw_U := mU (mT (mT1 (List.mem_of_getElem? (i := 239) rfl))) rfl
theorem q240 : Cond.methodLink RX2 3 ⟨"java/lang/Object", "<init>", "()V"⟩ ∈ lw_U := mU (mT (mT2 (List.mem_of_getElem? (i := 0) rfl))) rfl
theorem q241 : Cond.fieldLink RX2 9 RX2 "verb" "LWireCutter$Verb;" ∈ lw_U := mU (mT (mT2 (List.mem_of_getElem? (i := 1) rfl))) rfl
theorem q242 : Cond.fieldLinkNest RX11 180 RX2 "verb" "LWireCutter$Verb;" RX12 ∈ lw_N := nN (mT2 (List.mem_of_getElem? (i := 2) rfl)) rfl
theorem q243 : Cond.fieldLinkNest RX12 335 RX2 "verb" "LWireCutter$Verb;" RX12 ∈ lw_N := nN (mT2 (List.mem_of_getElem? (i := 3) rfl)) rfl
theorem q244 : Cond.fieldLink RX2 15 RX2 "letter" "C" ∈ lw_U := mU (mT (mT2 (List.mem_of_getElem? (i := 4) rfl))) rfl
theorem q245 : Cond.fieldLinkNest RX11 191 RX2 "letter" "C" RX12 ∈ lw_N := nN (mT2 (List.mem_of_getElem? (i := 5) rfl)) rfl
theorem q246 : Cond.fieldLink RX2 19 RX2 "firstNumber" "I" ∈ lw_U := mU (mT (mT2 (List.mem_of_getElem? (i := 6) rfl))) rfl
theorem q247 : Cond.fieldLinkNest RX11 194 RX2 "firstNumber" "I" RX12 ∈ lw_N := nN (mT2 (List.mem_of_getElem? (i := 7) rfl)) rfl
theorem q248 : Cond.fieldLink RX2 23 RX2 "secondNumber" "I" ∈ lw_U := mU (mT (mT2 (List.mem_of_getElem? (i := 8) rfl))) rfl
theorem q249 : Cond.fieldLinkNest RX11 200 RX2 "secondNumber" "I" RX12 ∈ lw_N := nN (mT2 (List.mem_of_getElem? (i := 9) rfl)) rfl
theorem q250 : Cond.fieldLink RX2 26 RX2 "numberCount" "I" ∈ lw_U := mU (mT (mT2 (List.mem_of_getElem? (i := 10) rfl))) rfl
theorem q262 : Cond.arrayClass .char ∈ lw_U := mU (mT (mT2 (List.mem_of_getElem? (i := 22) rfl))) rfl
theorem q263 : Cond.fieldLink RX6 9 RX6 "text" "[C" ∈ lw_U := mU (mT (mT2 (List.mem_of_getElem? (i := 23) rfl))) rfl
theorem q264 : Cond.fieldLink RX6 17 RX6 "commands" "[LWireCutter$Command;" ∈ lw_U := mU (mT (mT2 (List.mem_of_getElem? (i := 24) rfl))) rfl
theorem q265 : Cond.fieldLink RX6 21 RX6 "length" "I" ∈ lw_U := mU (mT (mT2 (List.mem_of_getElem? (i := 25) rfl))) rfl
theorem q266 : Cond.fieldLink RX6 25 RX6 "position" "I" ∈ lw_U := mU (mT (mT2 (List.mem_of_getElem? (i := 26) rfl))) rfl
theorem q267 : Cond.fieldLink RX6 28 RX6 "count" "I" ∈ lw_U := mU (mT (mT2 (List.mem_of_getElem? (i := 27) rfl))) rfl
theorem q279 : Cond.classLink RX12 40 RJ4 ∈ lw_U := mU (mT (mT2 (List.mem_of_getElem? (i := 39) rfl))) rfl
theorem q280 : Cond.instantiable RJ4 4 ∈ lw_U := mU (mT (mT2 (List.mem_of_getElem? (i := 40) rfl))) rfl
theorem q281 : Cond.methodLink RX12 42 yJ4_init_da8c8 ∈ lw_U := mU (mT (mT2 (List.mem_of_getElem? (i := 41) rfl))) rfl
theorem q282 : Cond.instanceMethod yJ4_init_da8c8 ∈ lw_U := mU (mT (mT2 (List.mem_of_getElem? (i := 42) rfl))) rfl
theorem q283 : Cond.code yJ4_init_da8c8 prog_34_method_1_code 1 none ∈ lw_U := mU (mT (mT2 (List.mem_of_getElem? (i := 43) rfl))) rfl
theorem q284 : Cond.methodLink RJ4 1 yJ5_init_d00df ∈ lw_U := mU (mT (mT2 (List.mem_of_getElem? (i := 44) rfl))) rfl
theorem q285 : Cond.instanceMethod yJ5_init_d00df ∈ lw_U := mU (mT (mT2 (List.mem_of_getElem? (i := 45) rfl))) rfl
theorem q286 : Cond.code yJ5_init_d00df prog_17_method_2_code 2 none ∈ lw_U := mU (mT (mT2 (List.mem_of_getElem? (i := 46) rfl))) rfl
theorem q287 : Cond.methodLink RJ5 3 ⟨"java/lang/Object", "<init>", "()V"⟩ ∈ lw_U := mU (mT (mT2 (List.mem_of_getElem? (i := 47) rfl))) rfl
theorem q288 : Cond.fieldLink RJ5 18 RJ0 "COMPACT_STRINGS" "Z" ∈ lw_U := mU (mT (mT2 (List.mem_of_getElem? (i := 48) rfl))) rfl
theorem q290 : Cond.methodLink RJ5 26 yJ2_newBytesFor_77867 ∈ lw_U := mU (mT (mT2 (List.mem_of_getElem? (i := 50) rfl))) rfl
theorem q291 : Cond.static yJ2_newBytesFor_77867 ∈ lw_U := mU (mT (mT2 (List.mem_of_getElem? (i := 51) rfl))) rfl
theorem q292 : Cond.code yJ2_newBytesFor_77867 prog_37_method_2_code 1 (some (.array .byte)) ∈ lw_U := mU (mT (mT2 (List.mem_of_getElem? (i := 52) rfl))) rfl
theorem q293 : Cond.methodLink RJ2 11 yJ2_newBytesLength_0f7a4 ∈ lw_U := mU (mT (mT2 (List.mem_of_getElem? (i := 53) rfl))) rfl
theorem q294 : Cond.static yJ2_newBytesLength_0f7a4 ∈ lw_U := mU (mT (mT2 (List.mem_of_getElem? (i := 54) rfl))) rfl
theorem q295 : Cond.code yJ2_newBytesLength_0f7a4 prog_37_method_3_code 1 (some .int) ∈ lw_U := mU (mT (mT2 (List.mem_of_getElem? (i := 55) rfl))) rfl
theorem q296 : Cond.constant RJ2 20 1073741823 ∈ lw_U := mU (mT (mT2 (List.mem_of_getElem? (i := 56) rfl))) rfl
theorem q297 : Cond.fieldLink RJ5 15 RJ5 "value" "[B" ∈ lw_U := mU (mT (mT2 (List.mem_of_getElem? (i := 57) rfl))) rfl
theorem q298 : Cond.fieldLink RJ5 22 RJ5 "coder" "B" ∈ lw_U := mU (mT (mT2 (List.mem_of_getElem? (i := 58) rfl))) rfl
theorem q299 : Cond.fieldLink RJ5 73 RJ5 "maybeLatin1" "Z" ∈ lw_U := mU (mT (mT2 (List.mem_of_getElem? (i := 59) rfl))) rfl
theorem q300 : Cond.fieldLink RJ0 1048 RJ5 "maybeLatin1" "Z" ∈ lw_U := mU (mT (mT2 (List.mem_of_getElem? (i := 60) rfl))) rfl
theorem q301 : Cond.fieldLink RJ5 79 RJ5 "count" "I" ∈ lw_U := mU (mT (mT2 (List.mem_of_getElem? (i := 61) rfl))) rfl
theorem q311 : Cond.arrayClass .byte ∈ lw_U := mU (mT (mT2 (List.mem_of_getElem? (i := 71) rfl))) rfl
theorem q312 : Cond.fieldLink RX12 10 RX12 "workshop" "LWireCutter$Workshop;" ∈ lw_U := mU (mT (mT2 (List.mem_of_getElem? (i := 72) rfl))) rfl
theorem q313 : Cond.fieldLink RX12 16 RX12 "saved" "LWireCutter$Workshop;" ∈ lw_U := mU (mT (mT2 (List.mem_of_getElem? (i := 73) rfl))) rfl
theorem q314 : Cond.fieldLink RX12 22 RX12 "history" "LWireCutter$History;" ∈ lw_U := mU (mT (mT2 (List.mem_of_getElem? (i := 74) rfl))) rfl
theorem q315 : Cond.fieldLink RX12 29 RX12 "loads" "LWireCutter$Loads;" ∈ lw_U := mU (mT (mT2 (List.mem_of_getElem? (i := 75) rfl))) rfl
theorem q316 : Cond.fieldLink RX12 36 RX12 "program" "LWireCutter$Program;" ∈ lw_U := mU (mT (mT2 (List.mem_of_getElem? (i := 76) rfl))) rfl
theorem q317 : Cond.fieldLink RX12 43 RX12 "line" "Ljava/lang/StringBuilder;" ∈ lw_U := mU (mT (mT2 (List.mem_of_getElem? (i := 77) rfl))) rfl
theorem q318 : Cond.fieldLink RX12 47 RX12 "isSaved" "Z" ∈ lw_U := mU (mT (mT2 (List.mem_of_getElem? (i := 78) rfl))) rfl
theorem q319 : Cond.fieldLink RX12 51 RX12 "latestError" "I" ∈ lw_U := mU (mT (mT2 (List.mem_of_getElem? (i := 79) rfl))) rfl
theorem q320 : Cond.fieldLink RX12 55 RX12 "latestFailure" "I" ∈ lw_U := mU (mT (mT2 (List.mem_of_getElem? (i := 80) rfl))) rfl
theorem q340 : Cond.methodLink RL 191 yX12_kerf ∈ lw_U := mU (mT (mT2 (List.mem_of_getElem? (i := 100) rfl))) rfl
theorem q341 : Cond.instanceMethod yX12_kerf ∈ lw_U := mU (mT (mT2 (List.mem_of_getElem? (i := 101) rfl))) rfl
theorem q342 : Cond.selects RX12 yX12_kerf yX12_kerf ∈ lw_U := mU (mT (mT2 (List.mem_of_getElem? (i := 102) rfl))) rfl
theorem q343 : Cond.code yX12_kerf prog_1_method_12_code 1 (some .int) ∈ lw_U := mU (mT (mT2 (List.mem_of_getElem? (i := 103) rfl))) rfl
theorem q344 : Cond.methodLink RL 195 yX12_scrapLimit ∈ lw_U := mU (mT (mT2 (List.mem_of_getElem? (i := 104) rfl))) rfl
theorem q345 : Cond.instanceMethod yX12_scrapLimit ∈ lw_U := mU (mT (mT2 (List.mem_of_getElem? (i := 105) rfl))) rfl
theorem q346 : Cond.selects RX12 yX12_scrapLimit yX12_scrapLimit ∈ lw_U := mU (mT (mT2 (List.mem_of_getElem? (i := 106) rfl))) rfl
theorem q347 : Cond.code yX12_scrapLimit prog_1_method_13_code 1 (some .int) ∈ lw_U := mU (mT (mT2 (List.mem_of_getElem? (i := 107) rfl))) rfl
theorem q348 : Cond.methodLink RL 199 yX12_rule ∈ lw_U := mU (mT (mT2 (List.mem_of_getElem? (i := 108) rfl))) rfl
theorem q349 : Cond.instanceMethod yX12_rule ∈ lw_U := mU (mT (mT2 (List.mem_of_getElem? (i := 109) rfl))) rfl
theorem q350 : Cond.selects RX12 yX12_rule yX12_rule ∈ lw_U := mU (mT (mT2 (List.mem_of_getElem? (i := 110) rfl))) rfl
theorem q351 : Cond.code yX12_rule prog_1_method_14_code 1 (some .char) ∈ lw_U := mU (mT (mT2 (List.mem_of_getElem? (i := 111) rfl))) rfl
theorem q352 : Cond.methodLink RL 204 yX12_spools ∈ lw_U := mU (mT (mT2 (List.mem_of_getElem? (i := 112) rfl))) rfl
theorem q353 : Cond.instanceMethod yX12_spools ∈ lw_U := mU (mT (mT2 (List.mem_of_getElem? (i := 113) rfl))) rfl
theorem q354 : Cond.selects RX12 yX12_spools yX12_spools ∈ lw_U := mU (mT (mT2 (List.mem_of_getElem? (i := 114) rfl))) rfl
theorem q355 : Cond.code yX12_spools prog_1_method_15_code 1 (some .int) ∈ lw_U := mU (mT (mT2 (List.mem_of_getElem? (i := 115) rfl))) rfl
theorem q356 : Cond.methodLink RX12 114 yX9_count ∈ lw_U := mU (mT (mT2 (List.mem_of_getElem? (i := 116) rfl))) rfl
theorem q357 : Cond.instanceMethod yX9_count ∈ lw_U := mU (mT (mT2 (List.mem_of_getElem? (i := 117) rfl))) rfl
theorem q358 : Cond.selects RX9 yX9_count yX9_count ∈ lw_U := mU (mT (mT2 (List.mem_of_getElem? (i := 118) rfl))) rfl
theorem q359 : Cond.code yX9_count prog_11_method_3_code 1 (some .int) ∈ lw_U := mU (mT (mT2 (List.mem_of_getElem? (i := 119) rfl))) rfl
theorem q360 : Cond.methodLink RX9 37 yX7_size ∈ lw_U := mU (mT (mT2 (List.mem_of_getElem? (i := 120) rfl))) rfl
theorem q361 : Cond.instanceMethod yX7_size ∈ lw_U := mU (mT (mT2 (List.mem_of_getElem? (i := 121) rfl))) rfl
theorem q362 : Cond.selects RX7 yX7_size yX7_size ∈ lw_U := mU (mT (mT2 (List.mem_of_getElem? (i := 122) rfl))) rfl
theorem q363 : Cond.code yX7_size prog_9_method_3_code 1 (some .int) ∈ lw_U := mU (mT (mT2 (List.mem_of_getElem? (i := 123) rfl))) rfl
theorem q364 : Cond.methodLink RL 208 yX12_hasSpool ∈ lw_U := mU (mT (mT2 (List.mem_of_getElem? (i := 124) rfl))) rfl
theorem q365 : Cond.instanceMethod yX12_hasSpool ∈ lw_U := mU (mT (mT2 (List.mem_of_getElem? (i := 125) rfl))) rfl
theorem q366 : Cond.selects RX12 yX12_hasSpool yX12_hasSpool ∈ lw_U := mU (mT (mT2 (List.mem_of_getElem? (i := 126) rfl))) rfl
theorem q367 : Cond.code yX12_hasSpool prog_1_method_16_code 2 (some .boolean) ∈ lw_U := mU (mT (mT2 (List.mem_of_getElem? (i := 127) rfl))) rfl
theorem q368 : Cond.methodLink RX12 120 yX9_indexOf ∈ lw_U := mU (mT (mT2 (List.mem_of_getElem? (i := 128) rfl))) rfl
theorem q369 : Cond.instanceMethod yX9_indexOf ∈ lw_U := mU (mT (mT2 (List.mem_of_getElem? (i := 129) rfl))) rfl
theorem q370 : Cond.selects RX9 yX9_indexOf yX9_indexOf ∈ lw_U := mU (mT (mT2 (List.mem_of_getElem? (i := 130) rfl))) rfl
theorem q371 : Cond.code yX9_indexOf prog_11_method_4_code 2 (some .int) ∈ lw_U := mU (mT (mT2 (List.mem_of_getElem? (i := 131) rfl))) rfl
theorem q372 : Cond.methodLink RX9 41 yX7_indexOf ∈ lw_U := mU (mT (mT2 (List.mem_of_getElem? (i := 132) rfl))) rfl
theorem q373 : Cond.instanceMethod yX7_indexOf ∈ lw_U := mU (mT (mT2 (List.mem_of_getElem? (i := 133) rfl))) rfl
theorem q374 : Cond.selects RX7 yX7_indexOf yX7_indexOf ∈ lw_U := mU (mT (mT2 (List.mem_of_getElem? (i := 134) rfl))) rfl
theorem q375 : Cond.code yX7_indexOf prog_9_method_11_code 3 (some .int) ∈ lw_U := mU (mT (mT2 (List.mem_of_getElem? (i := 135) rfl))) rfl
theorem q376 : Cond.methodLink RL 236 yX12_orders ∈ lw_U := mU (mT (mT2 (List.mem_of_getElem? (i := 136) rfl))) rfl
theorem q377 : Cond.instanceMethod yX12_orders ∈ lw_U := mU (mT (mT2 (List.mem_of_getElem? (i := 137) rfl))) rfl
theorem q378 : Cond.selects RX12 yX12_orders yX12_orders ∈ lw_U := mU (mT (mT2 (List.mem_of_getElem? (i := 138) rfl))) rfl
theorem q379 : Cond.code yX12_orders prog_1_method_25_code 1 (some .int) ∈ lw_U := mU (mT (mT2 (List.mem_of_getElem? (i := 139) rfl))) rfl
theorem q380 : Cond.methodLink RX12 176 yX5_count ∈ lw_U := mU (mT (mT2 (List.mem_of_getElem? (i := 140) rfl))) rfl
theorem q381 : Cond.instanceMethod yX5_count ∈ lw_U := mU (mT (mT2 (List.mem_of_getElem? (i := 141) rfl))) rfl
theorem q382 : Cond.selects RX5 yX5_count yX5_count ∈ lw_U := mU (mT (mT2 (List.mem_of_getElem? (i := 142) rfl))) rfl
theorem q383 : Cond.code yX5_count prog_7_method_3_code 1 (some .int) ∈ lw_U := mU (mT (mT2 (List.mem_of_getElem? (i := 143) rfl))) rfl
theorem q384 : Cond.methodLink RX5 37 yX7_size ∈ lw_U := mU (mT (mT2 (List.mem_of_getElem? (i := 144) rfl))) rfl
theorem q385 : Cond.methodLink RL 240 yX12_isOpen ∈ lw_U := mU (mT (mT2 (List.mem_of_getElem? (i := 145) rfl))) rfl
theorem q386 : Cond.instanceMethod yX12_isOpen ∈ lw_U := mU (mT (mT2 (List.mem_of_getElem? (i := 146) rfl))) rfl
theorem q387 : Cond.selects RX12 yX12_isOpen yX12_isOpen ∈ lw_U := mU (mT (mT2 (List.mem_of_getElem? (i := 147) rfl))) rfl
theorem q388 : Cond.code yX12_isOpen prog_1_method_26_code 2 (some .boolean) ∈ lw_U := mU (mT (mT2 (List.mem_of_getElem? (i := 148) rfl))) rfl
theorem q389 : Cond.methodLink RX12 179 yX5_positionOf ∈ lw_U := mU (mT (mT2 (List.mem_of_getElem? (i := 149) rfl))) rfl
theorem q390 : Cond.instanceMethod yX5_positionOf ∈ lw_U := mU (mT (mT2 (List.mem_of_getElem? (i := 150) rfl))) rfl
theorem q391 : Cond.selects RX5 yX5_positionOf yX5_positionOf ∈ lw_U := mU (mT (mT2 (List.mem_of_getElem? (i := 151) rfl))) rfl
theorem q392 : Cond.code yX5_positionOf prog_7_method_4_code 2 (some .int) ∈ lw_U := mU (mT (mT2 (List.mem_of_getElem? (i := 152) rfl))) rfl
theorem q393 : Cond.methodLink RX5 41 yX7_indexOf ∈ lw_U := mU (mT (mT2 (List.mem_of_getElem? (i := 153) rfl))) rfl
theorem q394 : Cond.methodLink RL 277 yX12_filled ∈ lw_U := mU (mT (mT2 (List.mem_of_getElem? (i := 154) rfl))) rfl
theorem q395 : Cond.instanceMethod yX12_filled ∈ lw_U := mU (mT (mT2 (List.mem_of_getElem? (i := 155) rfl))) rfl
theorem q396 : Cond.selects RX12 yX12_filled yX12_filled ∈ lw_U := mU (mT (mT2 (List.mem_of_getElem? (i := 156) rfl))) rfl
theorem q397 : Cond.code yX12_filled prog_1_method_38_code 1 (some .int) ∈ lw_U := mU (mT (mT2 (List.mem_of_getElem? (i := 157) rfl))) rfl
theorem q398 : Cond.methodLink RL 281 yX12_totalDelivered ∈ lw_U := mU (mT (mT2 (List.mem_of_getElem? (i := 158) rfl))) rfl
theorem q399 : Cond.instanceMethod yX12_totalDelivered ∈ lw_U := mU (mT (mT2 (List.mem_of_getElem? (i := 159) rfl))) rfl
theorem q400 : Cond.selects RX12 yX12_totalDelivered yX12_totalDelivered ∈ lw_U := mU (mT (mT2 (List.mem_of_getElem? (i := 160) rfl))) rfl
theorem q401 : Cond.code yX12_totalDelivered prog_1_method_39_code 1 (some .long) ∈ lw_U := mU (mT (mT2 (List.mem_of_getElem? (i := 161) rfl))) rfl
theorem q402 : Cond.methodLink RX12 237 yX7_sum ∈ lw_U := mU (mT (mT2 (List.mem_of_getElem? (i := 162) rfl))) rfl
theorem q403 : Cond.instanceMethod yX7_sum ∈ lw_U := mU (mT (mT2 (List.mem_of_getElem? (i := 163) rfl))) rfl
theorem q404 : Cond.selects RX7 yX7_sum yX7_sum ∈ lw_U := mU (mT (mT2 (List.mem_of_getElem? (i := 164) rfl))) rfl
theorem q405 : Cond.code yX7_sum prog_9_method_12_code 3 (some .int) ∈ lw_U := mU (mT (mT2 (List.mem_of_getElem? (i := 165) rfl))) rfl
theorem q406 : Cond.methodLink RL 293 yX12_isConsistent ∈ lw_U := mU (mT (mT2 (List.mem_of_getElem? (i := 166) rfl))) rfl
theorem q407 : Cond.instanceMethod yX12_isConsistent ∈ lw_U := mU (mT (mT2 (List.mem_of_getElem? (i := 167) rfl))) rfl
theorem q408 : Cond.selects RX12 yX12_isConsistent yX12_isConsistent ∈ lw_U := mU (mT (mT2 (List.mem_of_getElem? (i := 168) rfl))) rfl
theorem q409 : Cond.code yX12_isConsistent prog_1_method_42_code 1 (some .boolean) ∈ lw_U := mU (mT (mT2 (List.mem_of_getElem? (i := 169) rfl))) rfl
theorem q410 : Cond.methodLink RX12 250 yX12_loadsAgree ∈ lw_U := mU (mT (mT2 (List.mem_of_getElem? (i := 170) rfl))) rfl
theorem q412 : Cond.instanceMethod yX12_loadsAgree ∈ lw_U := mU (mT (mT2 (List.mem_of_getElem? (i := 172) rfl))) rfl
theorem q413 : Cond.code yX12_loadsAgree prog_1_method_53_code 2 (some .boolean) ∈ lw_U := mU (mT (mT2 (List.mem_of_getElem? (i := 173) rfl))) rfl
theorem q414 : Cond.methodLink RX12 165 yX4_byTable ∈ lw_U := mU (mT (mT2 (List.mem_of_getElem? (i := 174) rfl))) rfl
theorem q415 : Cond.instanceMethod yX4_byTable ∈ lw_U := mU (mT (mT2 (List.mem_of_getElem? (i := 175) rfl))) rfl
theorem q416 : Cond.selects RX4 yX4_byTable yX4_byTable ∈ lw_U := mU (mT (mT2 (List.mem_of_getElem? (i := 176) rfl))) rfl
theorem q417 : Cond.code yX4_byTable prog_6_method_2_code 5 (some .int) ∈ lw_U := mU (mT (mT2 (List.mem_of_getElem? (i := 177) rfl))) rfl
theorem q418 : Cond.methodLink RX4 34 yX9_materialAt ∈ lw_U := mU (mT (mT2 (List.mem_of_getElem? (i := 178) rfl))) rfl
theorem q419 : Cond.instanceMethod yX9_materialAt ∈ lw_U := mU (mT (mT2 (List.mem_of_getElem? (i := 179) rfl))) rfl
theorem q420 : Cond.selects RX9 yX9_materialAt yX9_materialAt ∈ lw_U := mU (mT (mT2 (List.mem_of_getElem? (i := 180) rfl))) rfl
theorem q421 : Cond.code yX9_materialAt prog_11_method_6_code 2 (some .char) ∈ lw_U := mU (mT (mT2 (List.mem_of_getElem? (i := 181) rfl))) rfl
theorem q422 : Cond.methodLink RX9 45 yX7_get ∈ lw_U := mU (mT (mT2 (List.mem_of_getElem? (i := 182) rfl))) rfl
theorem q423 : Cond.instanceMethod yX7_get ∈ lw_U := mU (mT (mT2 (List.mem_of_getElem? (i := 183) rfl))) rfl
theorem q424 : Cond.selects RX7 yX7_get yX7_get ∈ lw_U := mU (mT (mT2 (List.mem_of_getElem? (i := 184) rfl))) rfl
theorem q425 : Cond.code yX7_get prog_9_method_4_code 2 (some .int) ∈ lw_U := mU (mT (mT2 (List.mem_of_getElem? (i := 185) rfl))) rfl
theorem q426 : Cond.methodLink RX4 40 yX4_gatherPieces ∈ lw_U := mU (mT (mT2 (List.mem_of_getElem? (i := 186) rfl))) rfl
theorem q428 : Cond.instanceMethod yX4_gatherPieces ∈ lw_U := mU (mT (mT2 (List.mem_of_getElem? (i := 188) rfl))) rfl
theorem q429 : Cond.code yX4_gatherPieces prog_6_method_4_code 4 none ∈ lw_U := mU (mT (mT2 (List.mem_of_getElem? (i := 189) rfl))) rfl
theorem q430 : Cond.methodLink RX4 71 yX7_clear ∈ lw_U := mU (mT (mT2 (List.mem_of_getElem? (i := 190) rfl))) rfl
theorem q431 : Cond.instanceMethod yX7_clear ∈ lw_U := mU (mT (mT2 (List.mem_of_getElem? (i := 191) rfl))) rfl
theorem q432 : Cond.selects RX7 yX7_clear yX7_clear ∈ lw_U := mU (mT (mT2 (List.mem_of_getElem? (i := 192) rfl))) rfl
theorem q433 : Cond.code yX7_clear prog_9_method_10_code 1 none ∈ lw_U := mU (mT (mT2 (List.mem_of_getElem? (i := 193) rfl))) rfl
theorem q434 : Cond.methodLink RX4 74 yX5_count ∈ lw_U := mU (mT (mT2 (List.mem_of_getElem? (i := 194) rfl))) rfl
theorem q435 : Cond.methodLink RX4 79 yX5_materialAt ∈ lw_U := mU (mT (mT2 (List.mem_of_getElem? (i := 195) rfl))) rfl
theorem q436 : Cond.instanceMethod yX5_materialAt ∈ lw_U := mU (mT (mT2 (List.mem_of_getElem? (i := 196) rfl))) rfl
theorem q437 : Cond.selects RX5 yX5_materialAt yX5_materialAt ∈ lw_U := mU (mT (mT2 (List.mem_of_getElem? (i := 197) rfl))) rfl
theorem q438 : Cond.code yX5_materialAt prog_7_method_6_code 2 (some .char) ∈ lw_U := mU (mT (mT2 (List.mem_of_getElem? (i := 198) rfl))) rfl
theorem q439 : Cond.methodLink RX5 45 yX7_get ∈ lw_U := mU (mT (mT2 (List.mem_of_getElem? (i := 199) rfl))) rfl
theorem q440 : Cond.methodLink RX4 80 yX5_lengthAt ∈ lw_U := mU (mT (mT2 (List.mem_of_getElem? (i := 200) rfl))) rfl
theorem q441 : Cond.instanceMethod yX5_lengthAt ∈ lw_U := mU (mT (mT2 (List.mem_of_getElem? (i := 201) rfl))) rfl
theorem q442 : Cond.selects RX5 yX5_lengthAt yX5_lengthAt ∈ lw_U := mU (mT (mT2 (List.mem_of_getElem? (i := 202) rfl))) rfl
theorem q443 : Cond.code yX5_lengthAt prog_7_method_7_code 2 (some .int) ∈ lw_U := mU (mT (mT2 (List.mem_of_getElem? (i := 203) rfl))) rfl
theorem q444 : Cond.methodLink RX4 83 yX7_add ∈ lw_U := mU (mT (mT2 (List.mem_of_getElem? (i := 204) rfl))) rfl
theorem q445 : Cond.instanceMethod yX7_add ∈ lw_U := mU (mT (mT2 (List.mem_of_getElem? (i := 205) rfl))) rfl
theorem q446 : Cond.selects RX7 yX7_add yX7_add ∈ lw_U := mU (mT (mT2 (List.mem_of_getElem? (i := 206) rfl))) rfl
theorem q447 : Cond.code yX7_add prog_9_method_7_code 2 none ∈ lw_U := mU (mT (mT2 (List.mem_of_getElem? (i := 207) rfl))) rfl
theorem q448 : Cond.methodLink RX4 44 yX4_roomOf ∈ lw_U := mU (mT (mT2 (List.mem_of_getElem? (i := 208) rfl))) rfl
theorem q449 : Cond.static yX4_roomOf ∈ lw_U := mU (mT (mT2 (List.mem_of_getElem? (i := 209) rfl))) rfl
theorem q450 : Cond.code yX4_roomOf prog_6_method_5_code 2 (some .int) ∈ lw_U := mU (mT (mT2 (List.mem_of_getElem? (i := 210) rfl))) rfl
theorem q451 : Cond.methodLink RX4 86 yX9_lengthAt ∈ lw_U := mU (mT (mT2 (List.mem_of_getElem? (i := 211) rfl))) rfl
theorem q452 : Cond.instanceMethod yX9_lengthAt ∈ lw_U := mU (mT (mT2 (List.mem_of_getElem? (i := 212) rfl))) rfl
theorem q453 : Cond.selects RX9 yX9_lengthAt yX9_lengthAt ∈ lw_U := mU (mT (mT2 (List.mem_of_getElem? (i := 213) rfl))) rfl
theorem q454 : Cond.code yX9_lengthAt prog_11_method_7_code 2 (some .int) ∈ lw_U := mU (mT (mT2 (List.mem_of_getElem? (i := 214) rfl))) rfl
theorem q455 : Cond.methodLink RX4 48 yX7_size ∈ lw_U := mU (mT (mT2 (List.mem_of_getElem? (i := 215) rfl))) rfl
theorem q456 : Cond.methodLink RX4 52 yX7_get ∈ lw_U := mU (mT (mT2 (List.mem_of_getElem? (i := 216) rfl))) rfl
theorem q457 : Cond.methodLink RX4 60 yX4_enterPiece ∈ lw_U := mU (mT (mT2 (List.mem_of_getElem? (i := 217) rfl))) rfl
theorem q459 : Cond.instanceMethod yX4_enterPiece ∈ lw_U := mU (mT (mT2 (List.mem_of_getElem? (i := 219) rfl))) rfl
theorem q460 : Cond.code yX4_enterPiece prog_6_method_6_code 7 none ∈ lw_U := mU (mT (mT2 (List.mem_of_getElem? (i := 220) rfl))) rfl
theorem q461 : Cond.methodLink RX12 169 yX4_byRecursion ∈ lw_U := mU (mT (mT2 (List.mem_of_getElem? (i := 221) rfl))) rfl
theorem q462 : Cond.instanceMethod yX4_byRecursion ∈ lw_U := mU (mT (mT2 (List.mem_of_getElem? (i := 222) rfl))) rfl
theorem q463 : Cond.selects RX4 yX4_byRecursion yX4_byRecursion ∈ lw_U := mU (mT (mT2 (List.mem_of_getElem? (i := 223) rfl))) rfl
theorem q464 : Cond.code yX4_byRecursion prog_6_method_3_code 3 (some .int) ∈ lw_U := mU (mT (mT2 (List.mem_of_getElem? (i := 224) rfl))) rfl
theorem q465 : Cond.methodLink RX4 64 yX7_sum ∈ lw_U := mU (mT (mT2 (List.mem_of_getElem? (i := 225) rfl))) rfl
theorem q466 : Cond.methodLink RX4 67 yX4_takeOrLeave ∈ lw_U := mU (mT (mT2 (List.mem_of_getElem? (i := 226) rfl))) rfl
theorem q467 : Cond.static yX4_takeOrLeave ∈ lw_U := mU (mT (mT2 (List.mem_of_getElem? (i := 227) rfl))) rfl
theorem q468 : Cond.code yX4_takeOrLeave prog_6_method_7_code 9 (some .int) ∈ lw_U := mU (mT (mT2 (List.mem_of_getElem? (i := 228) rfl))) rfl
theorem q469 : Cond.methodLink RX12 254 yX12_accountsAgree ∈ lw_U := mU (mT (mT2 (List.mem_of_getElem? (i := 229) rfl))) rfl
theorem q471 : Cond.instanceMethod yX12_accountsAgree ∈ lw_U := mU (mT (mT2 (List.mem_of_getElem? (i := 231) rfl))) rfl
theorem q472 : Cond.code yX12_accountsAgree prog_1_method_54_code 3 (some .boolean) ∈ lw_U := mU (mT (mT2 (List.mem_of_getElem? (i := 232) rfl))) rfl
theorem q473 : Cond.methodLink RX12 220 yX7_get ∈ lw_U := mU (mT (mT2 (List.mem_of_getElem? (i := 233) rfl))) rfl
theorem q474 : Cond.methodLink RX12 225 yX11_sumOfParts ∈ lw_U := mU (mT (mT2 (List.mem_of_getElem? (i := 234) rfl))) rfl
theorem q475 : Cond.instanceMethod yX11_sumOfParts ∈ lw_U := mU (mT (mT2 (List.mem_of_getElem? (i := 235) rfl))) rfl
theorem q476 : Cond.selects RX11 yX11_sumOfParts yX11_sumOfParts ∈ lw_U := mU (mT (mT2 (List.mem_of_getElem? (i := 236) rfl))) rfl
theorem q477 : Cond.code yX11_sumOfParts prog_13_method_19_code 5 (some .int) ∈ lw_U := mU (mT (mT2 (List.mem_of_getElem? (i := 237) rfl))) rfl
theorem q478 : Cond.methodLinkNest RX11 101 yX12_placeOf RX12 ∈ lw_N := nN (mT2 (List.mem_of_getElem? (i := 238) rfl)) rfl
theorem q479 : Cond.static yX12_placeOf ∈ lw_U := mU (mT (mT2 (List.mem_of_getElem? (i := 239) rfl))) rfl
theorem q480 : Cond.code yX12_placeOf prog_1_method_60_code 1 (some .int) ∈ lw_U := mU (mT (mT3 (List.mem_of_getElem? (i := 0) rfl))) rfl
theorem q481 : Cond.methodLink RX11 240 yX9_sumOf ∈ lw_U := mU (mT (mT3 (List.mem_of_getElem? (i := 1) rfl))) rfl
theorem q482 : Cond.instanceMethod yX9_sumOf ∈ lw_U := mU (mT (mT3 (List.mem_of_getElem? (i := 2) rfl))) rfl
theorem q483 : Cond.selects RX9 yX9_sumOf yX9_sumOf ∈ lw_U := mU (mT (mT3 (List.mem_of_getElem? (i := 3) rfl))) rfl
theorem q484 : Cond.code yX9_sumOf prog_11_method_10_code 4 (some .int) ∈ lw_U := mU (mT (mT3 (List.mem_of_getElem? (i := 4) rfl))) rfl
theorem q485 : Cond.methodLink RX9 51 yX9_count ∈ lw_U := mU (mT (mT3 (List.mem_of_getElem? (i := 5) rfl))) rfl
theorem q486 : Cond.methodLink RX11 243 yX8_sumOf ∈ lw_U := mU (mT (mT3 (List.mem_of_getElem? (i := 6) rfl))) rfl
theorem q487 : Cond.instanceMethod yX8_sumOf ∈ lw_U := mU (mT (mT3 (List.mem_of_getElem? (i := 7) rfl))) rfl
theorem q488 : Cond.selects RX8 yX8_sumOf yX8_sumOf ∈ lw_U := mU (mT (mT3 (List.mem_of_getElem? (i := 8) rfl))) rfl
theorem q489 : Cond.code yX8_sumOf prog_10_method_6_code 4 (some .int) ∈ lw_U := mU (mT (mT3 (List.mem_of_getElem? (i := 9) rfl))) rfl
theorem q490 : Cond.methodLink RX8 42 yX7_size ∈ lw_U := mU (mT (mT3 (List.mem_of_getElem? (i := 10) rfl))) rfl
theorem q491 : Cond.methodLink RX8 34 yX7_get ∈ lw_U := mU (mT (mT3 (List.mem_of_getElem? (i := 11) rfl))) rfl
theorem q492 : Cond.methodLink RX11 247 yX7_get ∈ lw_U := mU (mT (mT3 (List.mem_of_getElem? (i := 12) rfl))) rfl
theorem q493 : Cond.methodLink RX11 253 yX8_thrownOf ∈ lw_U := mU (mT (mT3 (List.mem_of_getElem? (i := 13) rfl))) rfl
theorem q494 : Cond.instanceMethod yX8_thrownOf ∈ lw_U := mU (mT (mT3 (List.mem_of_getElem? (i := 14) rfl))) rfl
theorem q495 : Cond.selects RX8 yX8_thrownOf yX8_thrownOf ∈ lw_U := mU (mT (mT3 (List.mem_of_getElem? (i := 15) rfl))) rfl
theorem q496 : Cond.code yX8_thrownOf prog_10_method_4_code 2 (some .int) ∈ lw_U := mU (mT (mT3 (List.mem_of_getElem? (i := 16) rfl))) rfl
theorem q497 : Cond.methodLinkNest RX8 38 yX12_placeOf RX12 ∈ lw_N := nN (mT3 (List.mem_of_getElem? (i := 17) rfl)) rfl
theorem q498 : Cond.methodLink RX12 257 yX5_isSorted ∈ lw_U := mU (mT (mT3 (List.mem_of_getElem? (i := 18) rfl))) rfl
theorem q499 : Cond.instanceMethod yX5_isSorted ∈ lw_U := mU (mT (mT3 (List.mem_of_getElem? (i := 19) rfl))) rfl
theorem q500 : Cond.selects RX5 yX5_isSorted yX5_isSorted ∈ lw_U := mU (mT (mT3 (List.mem_of_getElem? (i := 20) rfl))) rfl
theorem q501 : Cond.code yX5_isSorted prog_7_method_11_code 4 (some .boolean) ∈ lw_U := mU (mT (mT3 (List.mem_of_getElem? (i := 21) rfl))) rfl
theorem q502 : Cond.methodLink RX5 48 yX5_count ∈ lw_U := mU (mT (mT3 (List.mem_of_getElem? (i := 22) rfl))) rfl
theorem q503 : Cond.methodLink RL 301 yX12_writeOrders ∈ lw_U := mU (mT (mT3 (List.mem_of_getElem? (i := 23) rfl))) rfl
theorem q504 : Cond.instanceMethod yX12_writeOrders ∈ lw_U := mU (mT (mT3 (List.mem_of_getElem? (i := 24) rfl))) rfl
theorem q505 : Cond.selects RX12 yX12_writeOrders yX12_writeOrders ∈ lw_U := mU (mT (mT3 (List.mem_of_getElem? (i := 25) rfl))) rfl
theorem q506 : Cond.code yX12_writeOrders prog_1_method_44_code 2 (some .int) ∈ lw_U := mU (mT (mT3 (List.mem_of_getElem? (i := 26) rfl))) rfl
theorem q507 : Cond.methodLink RX12 260 yJ4_setLength_d00df ∈ lw_U := mU (mT (mT3 (List.mem_of_getElem? (i := 27) rfl))) rfl
theorem q508 : Cond.instanceMethod yJ4_setLength_d00df ∈ lw_U := mU (mT (mT3 (List.mem_of_getElem? (i := 28) rfl))) rfl
theorem q509 : Cond.selects RJ4 yJ4_setLength_d00df yJ4_setLength_d00df ∈ lw_U := mU (mT (mT3 (List.mem_of_getElem? (i := 29) rfl))) rfl
theorem q510 : Cond.code yJ4_setLength_d00df prog_34_method_89_code 2 none ∈ lw_U := mU (mT (mT3 (List.mem_of_getElem? (i := 30) rfl))) rfl
theorem q511 : Cond.methodLink RJ4 333 yJ5_setLength_d00df ∈ lw_U := mU (mT (mT3 (List.mem_of_getElem? (i := 31) rfl))) rfl
theorem q512 : Cond.instanceMethod yJ5_setLength_d00df ∈ lw_U := mU (mT (mT3 (List.mem_of_getElem? (i := 32) rfl))) rfl
theorem q513 : Cond.code yJ5_setLength_d00df prog_17_method_13_code 2 none ∈ lw_U := mU (mT (mT3 (List.mem_of_getElem? (i := 33) rfl))) rfl
theorem q514 : Cond.classLink RJ5 129 RJx7c733 ∈ lw_U := mU (mT (mT3 (List.mem_of_getElem? (i := 34) rfl))) rfl
theorem q515 : Cond.instantiable RJx7c733 6 ∈ lw_U := mU (mT (mT3 (List.mem_of_getElem? (i := 35) rfl))) rfl
theorem q516 : Cond.methodLink RJ5 131 yJx7c733_init_d00df ∈ lw_U := mU (mT (mT3 (List.mem_of_getElem? (i := 36) rfl))) rfl
theorem q517 : Cond.instanceMethod yJx7c733_init_d00df ∈ lw_U := mU (mT (mT3 (List.mem_of_getElem? (i := 37) rfl))) rfl
theorem q518 : Cond.code yJx7c733_init_d00df prog_35_method_3_code 2 none ∈ lw_U := mU (mT (mT3 (List.mem_of_getElem? (i := 38) rfl))) rfl
theorem q519 : Cond.classLink RJx7c733 10 RJ4 ∈ lw_U := mU (mT (mT3 (List.mem_of_getElem? (i := 39) rfl))) rfl
theorem q520 : Cond.methodLink RJx7c733 12 yJ4_init_da8c8 ∈ lw_U := mU (mT (mT3 (List.mem_of_getElem? (i := 40) rfl))) rfl
theorem q522 : Cond.methodLink RJx7c733 15 yJ4_append_15ec4 ∈ lw_U := mU (mT (mT3 (List.mem_of_getElem? (i := 42) rfl))) rfl
theorem q523 : Cond.instanceMethod yJ4_append_15ec4 ∈ lw_U := mU (mT (mT3 (List.mem_of_getElem? (i := 43) rfl))) rfl
theorem q524 : Cond.selects RJ4 yJ4_append_15ec4 yJ4_append_15ec4 ∈ lw_U := mU (mT (mT3 (List.mem_of_getElem? (i := 44) rfl))) rfl
theorem q525 : Cond.code yJ4_append_15ec4 prog_34_method_7_code 2 (some (.object RJ4)) ∈ lw_U := mU (mT (mT3 (List.mem_of_getElem? (i := 45) rfl))) rfl
theorem q526 : Cond.methodLink RJ4 29 yJ5_append_cf1ce ∈ lw_U := mU (mT (mT3 (List.mem_of_getElem? (i := 46) rfl))) rfl
theorem q527 : Cond.instanceMethod yJ5_append_cf1ce ∈ lw_U := mU (mT (mT3 (List.mem_of_getElem? (i := 47) rfl))) rfl
theorem q528 : Cond.code yJ5_append_cf1ce prog_17_method_22_code 3 (some (.object RJ5)) ∈ lw_U := mU (mT (mT3 (List.mem_of_getElem? (i := 48) rfl))) rfl
theorem q529 : Cond.methodLink RJ5 204 yJ5_appendNull_278bc ∈ lw_U := mU (mT (mT3 (List.mem_of_getElem? (i := 49) rfl))) rfl
theorem q531 : Cond.instanceMethod yJ5_appendNull_278bc ∈ lw_U := mU (mT (mT3 (List.mem_of_getElem? (i := 51) rfl))) rfl
theorem q532 : Cond.code yJ5_appendNull_278bc prog_17_method_26_code 3 (some (.object RJ5)) ∈ lw_U := mU (mT (mT3 (List.mem_of_getElem? (i := 52) rfl))) rfl
theorem q533 : Cond.methodLink RJ5 100 yJ5_ensureCapacityInternal_d00df ∈ lw_U := mU (mT (mT3 (List.mem_of_getElem? (i := 53) rfl))) rfl
theorem q535 : Cond.instanceMethod yJ5_ensureCapacityInternal_d00df ∈ lw_U := mU (mT (mT3 (List.mem_of_getElem? (i := 55) rfl))) rfl
theorem q536 : Cond.code yJ5_ensureCapacityInternal_d00df prog_17_method_9_code 3 none ∈ lw_U := mU (mT (mT3 (List.mem_of_getElem? (i := 56) rfl))) rfl
theorem q537 : Cond.methodLink RJ5 104 yJ5_newCapacity_0f7a4 ∈ lw_U := mU (mT (mT3 (List.mem_of_getElem? (i := 57) rfl))) rfl
theorem q539 : Cond.instanceMethod yJ5_newCapacity_0f7a4 ∈ lw_U := mU (mT (mT3 (List.mem_of_getElem? (i := 59) rfl))) rfl
theorem q540 : Cond.code yJ5_newCapacity_0f7a4 prog_17_method_10_code 6 (some .int) ∈ lw_U := mU (mT (mT3 (List.mem_of_getElem? (i := 60) rfl))) rfl
theorem q541 : Cond.methodLink RJ5 114 yJ8_newLength_cabcc ∈ lw_U := mU (mT (mT3 (List.mem_of_getElem? (i := 61) rfl))) rfl
theorem q542 : Cond.static yJ8_newLength_cabcc ∈ lw_U := mU (mT (mT3 (List.mem_of_getElem? (i := 62) rfl))) rfl
theorem q543 : Cond.code yJ8_newLength_cabcc prog_45_method_27_code 4 (some .int) ∈ lw_U := mU (mT (mT3 (List.mem_of_getElem? (i := 63) rfl))) rfl
theorem q544 : Cond.methodLink RJ8 194 yJ9_max_7cf53 ∈ lw_U := mU (mT (mT3 (List.mem_of_getElem? (i := 64) rfl))) rfl
theorem q545 : Cond.static yJ9_max_7cf53 ∈ lw_U := mU (mT (mT3 (List.mem_of_getElem? (i := 65) rfl))) rfl
theorem q546 : Cond.code yJ9_max_7cf53 prog_30_method_65_code 2 (some .int) ∈ lw_U := mU (mT (mT3 (List.mem_of_getElem? (i := 66) rfl))) rfl
theorem q547 : Cond.constant RJ8 200 2147483639 ∈ lw_U := mU (mT (mT3 (List.mem_of_getElem? (i := 67) rfl))) rfl
theorem q548 : Cond.methodLink RJ8 201 yJ8_hugeLength_7cf53 ∈ lw_U := mU (mT (mT3 (List.mem_of_getElem? (i := 68) rfl))) rfl
theorem q549 : Cond.static yJ8_hugeLength_7cf53 ∈ lw_U := mU (mT (mT3 (List.mem_of_getElem? (i := 69) rfl))) rfl
theorem q550 : Cond.code yJ8_hugeLength_7cf53 prog_45_method_28_code 3 (some .int) ∈ lw_U := mU (mT (mT3 (List.mem_of_getElem? (i := 70) rfl))) rfl
theorem q551 : Cond.constant RJ5 39 2147483647 ∈ lw_U := mU (mT (mT3 (List.mem_of_getElem? (i := 71) rfl))) rfl
theorem q552 : Cond.methodLink RJ5 108 yJ7_copyOf_9075b ∈ lw_U := mU (mT (mT3 (List.mem_of_getElem? (i := 72) rfl))) rfl
theorem q553 : Cond.static yJ7_copyOf_9075b ∈ lw_U := mU (mT (mT3 (List.mem_of_getElem? (i := 73) rfl))) rfl
theorem q554 : Cond.code yJ7_copyOf_9075b prog_43_method_121_code 3 (some (.array .byte)) ∈ lw_U := mU (mT (mT3 (List.mem_of_getElem? (i := 74) rfl))) rfl
theorem q555 : Cond.methodLink RJ7 310 ⟨"[B", "clone", "()Ljava/lang/Object;"⟩ ∈ lw_U := mU (mT (mT3 (List.mem_of_getElem? (i := 75) rfl))) rfl
theorem q556 : Cond.sameMethod "[B" "java/lang/Object" "clone" "()Ljava/lang/Object;" ∈ lw_U := mU (mT (mT3 (List.mem_of_getElem? (i := 76) rfl))) rfl
theorem q558 : Cond.instanceMethod ⟨"java/lang/Object", "clone", "()Ljava/lang/Object;"⟩ ∈ lw_U := mU (mT (mT3 (List.mem_of_getElem? (i := 78) rfl))) rfl
theorem q559 : Cond.selects "[B" ⟨"[B", "clone", "()Ljava/lang/Object;"⟩ ⟨"java/lang/Object", "clone", "()Ljava/lang/Object;"⟩ ∈ lw_U := mU (mT (mT3 (List.mem_of_getElem? (i := 79) rfl))) rfl
theorem q560 : Cond.castable "[B" RJx8e188 ∈ lw_N := nN (mT3 (List.mem_of_getElem? (i := 80) rfl)) rfl
theorem q561 : Cond.classLink RJ7 311 "[B" ∈ lw_U := mU (mT (mT3 (List.mem_of_getElem? (i := 81) rfl))) rfl
theorem q562 : Cond.methodLink RJ7 304 yJ9_min_7cf53 ∈ lw_U := mU (mT (mT3 (List.mem_of_getElem? (i := 82) rfl))) rfl
theorem q563 : Cond.static yJ9_min_7cf53 ∈ lw_U := mU (mT (mT3 (List.mem_of_getElem? (i := 83) rfl))) rfl
theorem q564 : Cond.code yJ9_min_7cf53 prog_30_method_69_code 2 (some .int) ∈ lw_U := mU (mT (mT3 (List.mem_of_getElem? (i := 84) rfl))) rfl
theorem q565 : Cond.methodLink RJ7 150 ⟨RJ10, "arraycopy", "(Ljava/lang/Object;ILjava/lang/Object;II)V"⟩ ∈ lw_U := mU (mT (mT3 (List.mem_of_getElem? (i := 85) rfl))) rfl
theorem q566 : Cond.static ⟨RJ10, "arraycopy", "(Ljava/lang/Object;ILjava/lang/Object;II)V"⟩ ∈ lw_U := mU (mT (mT3 (List.mem_of_getElem? (i := 86) rfl))) rfl
theorem q568 : Cond.methodLink RJ5 83 yJ5_isLatin1_aae02 ∈ lw_U := mU (mT (mT3 (List.mem_of_getElem? (i := 88) rfl))) rfl
theorem q569 : Cond.instanceMethod yJ5_isLatin1_aae02 ∈ lw_U := mU (mT (mT3 (List.mem_of_getElem? (i := 89) rfl))) rfl
theorem q570 : Cond.sameMethod RJ5 RJ5 "isLatin1" "()Z" ∈ lw_U := mU (mT (mT3 (List.mem_of_getElem? (i := 90) rfl))) rfl
theorem q571 : Cond.selects RJ4 yJ5_isLatin1_aae02 yJ5_isLatin1_aae02 ∈ lw_U := mU (mT (mT3 (List.mem_of_getElem? (i := 91) rfl))) rfl
theorem q572 : Cond.code yJ5_isLatin1_aae02 prog_17_method_68_code 1 (some .boolean) ∈ lw_U := mU (mT (mT3 (List.mem_of_getElem? (i := 92) rfl))) rfl
theorem q573 : Cond.methodLink RJ5 226 yJ2_putCharsAt_cd4e5 ∈ lw_U := mU (mT (mT3 (List.mem_of_getElem? (i := 93) rfl))) rfl
theorem q574 : Cond.static yJ2_putCharsAt_cd4e5 ∈ lw_U := mU (mT (mT3 (List.mem_of_getElem? (i := 94) rfl))) rfl
theorem q575 : Cond.code yJ2_putCharsAt_cd4e5 prog_37_method_81_code 7 (some .int) ∈ lw_U := mU (mT (mT3 (List.mem_of_getElem? (i := 95) rfl))) rfl
theorem q576 : Cond.methodLink RJ2 96 yJ2_checkBoundsBeginEnd_d044e ∈ lw_U := mU (mT (mT3 (List.mem_of_getElem? (i := 96) rfl))) rfl
theorem q577 : Cond.static yJ2_checkBoundsBeginEnd_d044e ∈ lw_U := mU (mT (mT3 (List.mem_of_getElem? (i := 97) rfl))) rfl
theorem q578 : Cond.code yJ2_checkBoundsBeginEnd_d044e prog_37_method_93_code 3 none ∈ lw_U := mU (mT (mT3 (List.mem_of_getElem? (i := 98) rfl))) rfl
theorem q579 : Cond.methodLink RJ2 48 yJ2_length_9d52b ∈ lw_U := mU (mT (mT3 (List.mem_of_getElem? (i := 99) rfl))) rfl
theorem q580 : Cond.static yJ2_length_9d52b ∈ lw_U := mU (mT (mT3 (List.mem_of_getElem? (i := 100) rfl))) rfl
theorem q581 : Cond.code yJ2_length_9d52b prog_37_method_6_code 1 (some .int) ∈ lw_U := mU (mT (mT3 (List.mem_of_getElem? (i := 101) rfl))) rfl
theorem q582 : Cond.methodLink RJ2 241 yJ0_checkBoundsBeginEnd_23922 ∈ lw_U := mU (mT (mT3 (List.mem_of_getElem? (i := 102) rfl))) rfl
theorem q583 : Cond.static yJ0_checkBoundsBeginEnd_23922 ∈ lw_U := mU (mT (mT3 (List.mem_of_getElem? (i := 103) rfl))) rfl
theorem q584 : Cond.code yJ0_checkBoundsBeginEnd_23922 prog_33_method_158_code 3 none ∈ lw_U := mU (mT (mT3 (List.mem_of_getElem? (i := 104) rfl))) rfl
theorem q585 : Cond.fieldLink RJ0 1053 RJ3 "SIOOBE_FORMATTER" "Ljava/util/function/BiFunction;" ∈ lw_U := mU (mT (mT3 (List.mem_of_getElem? (i := 105) rfl))) rfl
theorem q587 : Cond.methodLink RJ0 1062 yJ3_checkFromToIndex_8c36e ∈ lw_U := mU (mT (mT3 (List.mem_of_getElem? (i := 107) rfl))) rfl
theorem q588 : Cond.static yJ3_checkFromToIndex_8c36e ∈ lw_U := mU (mT (mT3 (List.mem_of_getElem? (i := 108) rfl))) rfl
theorem q589 : Cond.code yJ3_checkFromToIndex_8c36e prog_46_method_12_code 4 (some .int) ∈ lw_U := mU (mT (mT3 (List.mem_of_getElem? (i := 109) rfl))) rfl
theorem q590 : Cond.methodLink RJ2 111 yJ2_putChar_b72d1 ∈ lw_U := mU (mT (mT3 (List.mem_of_getElem? (i := 110) rfl))) rfl
theorem q591 : Cond.static yJ2_putChar_b72d1 ∈ lw_U := mU (mT (mT3 (List.mem_of_getElem? (i := 111) rfl))) rfl
theorem q592 : Cond.code yJ2_putChar_b72d1 prog_37_method_4_code 3 none ∈ lw_U := mU (mT (mT3 (List.mem_of_getElem? (i := 112) rfl))) rfl
theorem q593 : Cond.fieldLink RJ2 44 RJ2 "$assertionsDisabled" "Z" ∈ lw_U := mU (mT (mT3 (List.mem_of_getElem? (i := 113) rfl))) rfl
theorem q595 : Cond.fieldLink RJ2 59 RJ2 "HI_BYTE_SHIFT" "I" ∈ lw_U := mU (mT (mT3 (List.mem_of_getElem? (i := 115) rfl))) rfl
theorem q597 : Cond.fieldLink RJ2 63 RJ2 "LO_BYTE_SHIFT" "I" ∈ lw_U := mU (mT (mT3 (List.mem_of_getElem? (i := 117) rfl))) rfl
theorem q599 : Cond.methodLink RJ5 32 yJ0_length_8abf5 ∈ lw_U := mU (mT (mT3 (List.mem_of_getElem? (i := 119) rfl))) rfl
theorem q600 : Cond.instanceMethod yJ0_length_8abf5 ∈ lw_U := mU (mT (mT3 (List.mem_of_getElem? (i := 120) rfl))) rfl
theorem q601 : Cond.selects RJ0 yJ0_length_8abf5 yJ0_length_8abf5 ∈ lw_U := mU (mT (mT3 (List.mem_of_getElem? (i := 121) rfl))) rfl
theorem q602 : Cond.code yJ0_length_8abf5 prog_33_method_54_code 1 (some .int) ∈ lw_U := mU (mT (mT3 (List.mem_of_getElem? (i := 122) rfl))) rfl
theorem q603 : Cond.methodLink RJ0 335 yJ0_coder_7d493 ∈ lw_U := mU (mT (mT3 (List.mem_of_getElem? (i := 123) rfl))) rfl
theorem q604 : Cond.instanceMethod yJ0_coder_7d493 ∈ lw_U := mU (mT (mT3 (List.mem_of_getElem? (i := 124) rfl))) rfl
theorem q605 : Cond.selects RJ0 yJ0_coder_7d493 yJ0_coder_7d493 ∈ lw_U := mU (mT (mT3 (List.mem_of_getElem? (i := 125) rfl))) rfl
theorem q606 : Cond.code yJ0_coder_7d493 prog_33_method_152_code 1 (some .byte) ∈ lw_U := mU (mT (mT3 (List.mem_of_getElem? (i := 126) rfl))) rfl
theorem q607 : Cond.fieldLink RJ0 38 RJ0 "COMPACT_STRINGS" "Z" ∈ lw_U := mU (mT (mT3 (List.mem_of_getElem? (i := 127) rfl))) rfl
theorem q608 : Cond.methodLink RJ5 208 yJ5_putStringAt_47b60 ∈ lw_U := mU (mT (mT3 (List.mem_of_getElem? (i := 128) rfl))) rfl
theorem q610 : Cond.instanceMethod yJ5_putStringAt_47b60 ∈ lw_U := mU (mT (mT3 (List.mem_of_getElem? (i := 130) rfl))) rfl
theorem q611 : Cond.code yJ5_putStringAt_47b60 prog_17_method_73_code 3 none ∈ lw_U := mU (mT (mT3 (List.mem_of_getElem? (i := 131) rfl))) rfl
theorem q612 : Cond.methodLink RJ5 397 yJ5_inflateIfNeededFor_a7421 ∈ lw_U := mU (mT (mT3 (List.mem_of_getElem? (i := 132) rfl))) rfl
theorem q614 : Cond.instanceMethod yJ5_inflateIfNeededFor_a7421 ∈ lw_U := mU (mT (mT3 (List.mem_of_getElem? (i := 134) rfl))) rfl
theorem q615 : Cond.code yJ5_inflateIfNeededFor_a7421 prog_17_method_71_code 2 none ∈ lw_U := mU (mT (mT3 (List.mem_of_getElem? (i := 135) rfl))) rfl
theorem q616 : Cond.methodLink RJ5 40 yJ0_coder_7d493 ∈ lw_U := mU (mT (mT3 (List.mem_of_getElem? (i := 136) rfl))) rfl
theorem q617 : Cond.methodLink RJ5 195 yJ5_inflate_da8c8 ∈ lw_U := mU (mT (mT3 (List.mem_of_getElem? (i := 137) rfl))) rfl
theorem q619 : Cond.instanceMethod yJ5_inflate_da8c8 ∈ lw_U := mU (mT (mT3 (List.mem_of_getElem? (i := 139) rfl))) rfl
theorem q620 : Cond.code yJ5_inflate_da8c8 prog_17_method_11_code 2 none ∈ lw_U := mU (mT (mT3 (List.mem_of_getElem? (i := 140) rfl))) rfl
theorem q621 : Cond.methodLink RJ5 125 yJ1_inflate_0e8fd ∈ lw_U := mU (mT (mT3 (List.mem_of_getElem? (i := 141) rfl))) rfl
theorem q622 : Cond.static yJ1_inflate_0e8fd ∈ lw_U := mU (mT (mT3 (List.mem_of_getElem? (i := 142) rfl))) rfl
theorem q623 : Cond.code yJ1_inflate_0e8fd prog_36_method_50_code 5 none ∈ lw_U := mU (mT (mT3 (List.mem_of_getElem? (i := 143) rfl))) rfl
theorem q624 : Cond.methodLink RJ1 240 yJ2_inflate_0e8fd ∈ lw_U := mU (mT (mT3 (List.mem_of_getElem? (i := 144) rfl))) rfl
theorem q625 : Cond.static yJ2_inflate_0e8fd ∈ lw_U := mU (mT (mT3 (List.mem_of_getElem? (i := 145) rfl))) rfl
theorem q626 : Cond.code yJ2_inflate_0e8fd prog_37_method_86_code 6 none ∈ lw_U := mU (mT (mT3 (List.mem_of_getElem? (i := 146) rfl))) rfl
theorem q627 : Cond.methodLink RJ2 173 yJ2_checkBoundsOffCount_d044e ∈ lw_U := mU (mT (mT3 (List.mem_of_getElem? (i := 147) rfl))) rfl
theorem q628 : Cond.static yJ2_checkBoundsOffCount_d044e ∈ lw_U := mU (mT (mT3 (List.mem_of_getElem? (i := 148) rfl))) rfl
theorem q629 : Cond.code yJ2_checkBoundsOffCount_d044e prog_37_method_94_code 3 none ∈ lw_U := mU (mT (mT3 (List.mem_of_getElem? (i := 149) rfl))) rfl
theorem q630 : Cond.methodLink RJ2 419 yJ0_checkBoundsOffCount_cabcc ∈ lw_U := mU (mT (mT3 (List.mem_of_getElem? (i := 150) rfl))) rfl
theorem q631 : Cond.static yJ0_checkBoundsOffCount_cabcc ∈ lw_U := mU (mT (mT3 (List.mem_of_getElem? (i := 151) rfl))) rfl
theorem q632 : Cond.code yJ0_checkBoundsOffCount_cabcc prog_33_method_157_code 3 (some .int) ∈ lw_U := mU (mT (mT3 (List.mem_of_getElem? (i := 152) rfl))) rfl
theorem q633 : Cond.methodLink RJ0 1065 yJ3_checkFromIndexSize_8c36e ∈ lw_U := mU (mT (mT3 (List.mem_of_getElem? (i := 153) rfl))) rfl
theorem q634 : Cond.static yJ3_checkFromIndexSize_8c36e ∈ lw_U := mU (mT (mT3 (List.mem_of_getElem? (i := 154) rfl))) rfl
theorem q635 : Cond.code yJ3_checkFromIndexSize_8c36e prog_46_method_13_code 4 (some .int) ∈ lw_U := mU (mT (mT3 (List.mem_of_getElem? (i := 155) rfl))) rfl
theorem q636 : Cond.methodLink RJ5 399 yJ0_getBytes_840e7 ∈ lw_U := mU (mT (mT3 (List.mem_of_getElem? (i := 156) rfl))) rfl
theorem q637 : Cond.instanceMethod yJ0_getBytes_840e7 ∈ lw_U := mU (mT (mT3 (List.mem_of_getElem? (i := 157) rfl))) rfl
theorem q638 : Cond.selects RJ0 yJ0_getBytes_840e7 yJ0_getBytes_840e7 ∈ lw_U := mU (mT (mT3 (List.mem_of_getElem? (i := 158) rfl))) rfl
theorem q639 : Cond.code yJ0_getBytes_840e7 prog_33_method_147_code 4 none ∈ lw_U := mU (mT (mT3 (List.mem_of_getElem? (i := 159) rfl))) rfl
theorem q640 : Cond.methodLink RJ0 212 ⟨RJ10, "arraycopy", "(Ljava/lang/Object;ILjava/lang/Object;II)V"⟩ ∈ lw_U := mU (mT (mT3 (List.mem_of_getElem? (i := 160) rfl))) rfl
theorem q641 : Cond.methodLink RJ0 106 yJ1_inflate_0e8fd ∈ lw_U := mU (mT (mT3 (List.mem_of_getElem? (i := 161) rfl))) rfl
theorem q642 : Cond.methodLink RJx7c733 19 yJ4_append_bf812 ∈ lw_U := mU (mT (mT3 (List.mem_of_getElem? (i := 162) rfl))) rfl
theorem q643 : Cond.instanceMethod yJ4_append_bf812 ∈ lw_U := mU (mT (mT3 (List.mem_of_getElem? (i := 163) rfl))) rfl
theorem q644 : Cond.selects RJ4 yJ4_append_bf812 yJ4_append_bf812 ∈ lw_U := mU (mT (mT3 (List.mem_of_getElem? (i := 164) rfl))) rfl
theorem q645 : Cond.code yJ4_append_bf812 prog_34_method_15_code 2 (some (.object RJ4)) ∈ lw_U := mU (mT (mT3 (List.mem_of_getElem? (i := 165) rfl))) rfl
theorem q646 : Cond.methodLink RJ4 53 yJ5_append_c97b9 ∈ lw_U := mU (mT (mT3 (List.mem_of_getElem? (i := 166) rfl))) rfl
theorem q647 : Cond.instanceMethod yJ5_append_c97b9 ∈ lw_U := mU (mT (mT3 (List.mem_of_getElem? (i := 167) rfl))) rfl
theorem q648 : Cond.code yJ5_append_c97b9 prog_17_method_32_code 4 (some (.object RJ5)) ∈ lw_U := mU (mT (mT3 (List.mem_of_getElem? (i := 168) rfl))) rfl
theorem q649 : Cond.methodLink RJ5 245 yJ6_stringSize_0f7a4 ∈ lw_U := mU (mT (mT3 (List.mem_of_getElem? (i := 169) rfl))) rfl
theorem q650 : Cond.static yJ6_stringSize_0f7a4 ∈ lw_U := mU (mT (mT3 (List.mem_of_getElem? (i := 170) rfl))) rfl
theorem q651 : Cond.code yJ6_stringSize_0f7a4 prog_29_method_13_code 4 (some .int) ∈ lw_U := mU (mT (mT3 (List.mem_of_getElem? (i := 171) rfl))) rfl
theorem q652 : Cond.methodLink RJ5 248 yJ6_getChars_ba4f3 ∈ lw_U := mU (mT (mT3 (List.mem_of_getElem? (i := 172) rfl))) rfl
theorem q653 : Cond.static yJ6_getChars_ba4f3 ∈ lw_U := mU (mT (mT3 (List.mem_of_getElem? (i := 173) rfl))) rfl
theorem q654 : Cond.code yJ6_getChars_ba4f3 prog_29_method_12_code 7 (some .int) ∈ lw_U := mU (mT (mT3 (List.mem_of_getElem? (i := 174) rfl))) rfl
theorem q655 : Cond.fieldLink RJ6 83 RJ6 "DigitOnes" "[B" ∈ lw_U := mU (mT (mT3 (List.mem_of_getElem? (i := 175) rfl))) rfl
theorem q657 : Cond.fieldLink RJ6 87 RJ6 "DigitTens" "[B" ∈ lw_U := mU (mT (mT3 (List.mem_of_getElem? (i := 177) rfl))) rfl
theorem q659 : Cond.methodLink RJ5 251 yJ2_getChars_46870 ∈ lw_U := mU (mT (mT3 (List.mem_of_getElem? (i := 179) rfl))) rfl
theorem q660 : Cond.static yJ2_getChars_46870 ∈ lw_U := mU (mT (mT3 (List.mem_of_getElem? (i := 180) rfl))) rfl
theorem q661 : Cond.code yJ2_getChars_46870 prog_37_method_77_code 5 (some .int) ∈ lw_U := mU (mT (mT3 (List.mem_of_getElem? (i := 181) rfl))) rfl
theorem q662 : Cond.methodLink RJ2 393 yJ2_getChars_ba4f3 ∈ lw_U := mU (mT (mT3 (List.mem_of_getElem? (i := 182) rfl))) rfl
theorem q663 : Cond.static yJ2_getChars_ba4f3 ∈ lw_U := mU (mT (mT3 (List.mem_of_getElem? (i := 183) rfl))) rfl
theorem q664 : Cond.code yJ2_getChars_ba4f3 prog_37_method_89_code 7 (some .int) ∈ lw_U := mU (mT (mT3 (List.mem_of_getElem? (i := 184) rfl))) rfl
theorem q665 : Cond.fieldLink RJ2 403 RJ6 "DigitOnes" "[B" ∈ lw_U := mU (mT (mT3 (List.mem_of_getElem? (i := 185) rfl))) rfl
theorem q666 : Cond.fieldLink RJ2 407 RJ6 "DigitTens" "[B" ∈ lw_U := mU (mT (mT3 (List.mem_of_getElem? (i := 186) rfl))) rfl
theorem q667 : Cond.methodLink RJx7c733 22 yJ4_toString_0e30d ∈ lw_U := mU (mT (mT3 (List.mem_of_getElem? (i := 187) rfl))) rfl
theorem q668 : Cond.instanceMethod yJ4_toString_0e30d ∈ lw_U := mU (mT (mT3 (List.mem_of_getElem? (i := 188) rfl))) rfl
theorem q669 : Cond.selects RJ4 yJ4_toString_0e30d yJ4_toString_0e30d ∈ lw_U := mU (mT (mT3 (List.mem_of_getElem? (i := 189) rfl))) rfl
theorem q670 : Cond.code yJ4_toString_0e30d prog_34_method_42_code 1 (some (.object RJ0)) ∈ lw_U := mU (mT (mT3 (List.mem_of_getElem? (i := 190) rfl))) rfl
theorem q671 : Cond.classLink RJ4 18 RJ0 ∈ lw_U := mU (mT (mT3 (List.mem_of_getElem? (i := 191) rfl))) rfl
theorem q672 : Cond.instantiable RJ0 4 ∈ lw_U := mU (mT (mT3 (List.mem_of_getElem? (i := 192) rfl))) rfl
theorem q673 : Cond.methodLink RJ4 137 yJ0_init_81219 ∈ lw_U := mU (mT (mT3 (List.mem_of_getElem? (i := 193) rfl))) rfl
theorem q674 : Cond.instanceMethod yJ0_init_81219 ∈ lw_U := mU (mT (mT3 (List.mem_of_getElem? (i := 194) rfl))) rfl
theorem q675 : Cond.code yJ0_init_81219 prog_33_method_53_code 2 none ∈ lw_U := mU (mT (mT3 (List.mem_of_getElem? (i := 195) rfl))) rfl
theorem q676 : Cond.methodLink RJ0 489 yJ0_init_db425 ∈ lw_U := mU (mT (mT3 (List.mem_of_getElem? (i := 196) rfl))) rfl
theorem q677 : Cond.instanceMethod yJ0_init_db425 ∈ lw_U := mU (mT (mT3 (List.mem_of_getElem? (i := 197) rfl))) rfl
theorem q678 : Cond.code yJ0_init_db425 prog_33_method_150_code 5 none ∈ lw_U := mU (mT (mT3 (List.mem_of_getElem? (i := 198) rfl))) rfl
theorem q679 : Cond.methodLink RJ0 1 ⟨"java/lang/Object", "<init>", "()V"⟩ ∈ lw_U := mU (mT (mT3 (List.mem_of_getElem? (i := 199) rfl))) rfl
theorem q680 : Cond.methodLink RJ0 552 yJ5_getValue_6d5f1 ∈ lw_U := mU (mT (mT3 (List.mem_of_getElem? (i := 200) rfl))) rfl
theorem q681 : Cond.instanceMethod yJ5_getValue_6d5f1 ∈ lw_U := mU (mT (mT3 (List.mem_of_getElem? (i := 201) rfl))) rfl
theorem q682 : Cond.sameMethod RJ5 RJ5 "getValue" "()[B" ∈ lw_U := mU (mT (mT3 (List.mem_of_getElem? (i := 202) rfl))) rfl
theorem q683 : Cond.selects RJ4 yJ5_getValue_6d5f1 yJ5_getValue_6d5f1 ∈ lw_U := mU (mT (mT3 (List.mem_of_getElem? (i := 203) rfl))) rfl
theorem q684 : Cond.code yJ5_getValue_6d5f1 prog_17_method_64_code 1 (some (.array .byte)) ∈ lw_U := mU (mT (mT3 (List.mem_of_getElem? (i := 204) rfl))) rfl
theorem q685 : Cond.methodLink RJ0 549 yJ5_length_8abf5 ∈ lw_U := mU (mT (mT3 (List.mem_of_getElem? (i := 205) rfl))) rfl
theorem q686 : Cond.instanceMethod yJ5_length_8abf5 ∈ lw_U := mU (mT (mT3 (List.mem_of_getElem? (i := 206) rfl))) rfl
theorem q687 : Cond.sameMethod RJ5 RJ5 "length" "()I" ∈ lw_U := mU (mT (mT3 (List.mem_of_getElem? (i := 207) rfl))) rfl
theorem q688 : Cond.selects RJ4 yJ5_length_8abf5 yJ4_length_8abf5 ∈ lw_U := mU (mT (mT3 (List.mem_of_getElem? (i := 208) rfl))) rfl
theorem q689 : Cond.instanceMethod yJ4_length_8abf5 ∈ lw_U := mU (mT (mT3 (List.mem_of_getElem? (i := 209) rfl))) rfl
theorem q690 : Cond.code yJ4_length_8abf5 prog_34_method_93_code 1 (some .int) ∈ lw_U := mU (mT (mT3 (List.mem_of_getElem? (i := 210) rfl))) rfl
theorem q691 : Cond.methodLink RJ4 343 yJ5_length_8abf5 ∈ lw_U := mU (mT (mT3 (List.mem_of_getElem? (i := 211) rfl))) rfl
theorem q692 : Cond.code yJ5_length_8abf5 prog_17_method_6_code 1 (some .int) ∈ lw_U := mU (mT (mT3 (List.mem_of_getElem? (i := 212) rfl))) rfl
theorem q693 : Cond.methodLink RJ0 1047 yJ5_isLatin1_aae02 ∈ lw_U := mU (mT (mT3 (List.mem_of_getElem? (i := 213) rfl))) rfl
theorem q694 : Cond.methodLink RJ0 54 yJ7_copyOfRange_39247 ∈ lw_U := mU (mT (mT3 (List.mem_of_getElem? (i := 214) rfl))) rfl
theorem q695 : Cond.static yJ7_copyOfRange_39247 ∈ lw_U := mU (mT (mT3 (List.mem_of_getElem? (i := 215) rfl))) rfl
theorem q696 : Cond.code yJ7_copyOfRange_39247 prog_43_method_132_code 3 (some (.array .byte)) ∈ lw_U := mU (mT (mT3 (List.mem_of_getElem? (i := 216) rfl))) rfl
theorem q697 : Cond.methodLink RJ7 339 yJ7_copyOfRangeByte_39247 ∈ lw_U := mU (mT (mT3 (List.mem_of_getElem? (i := 217) rfl))) rfl
theorem q698 : Cond.static yJ7_copyOfRangeByte_39247 ∈ lw_U := mU (mT (mT3 (List.mem_of_getElem? (i := 218) rfl))) rfl
theorem q699 : Cond.code yJ7_copyOfRangeByte_39247 prog_43_method_133_code 5 (some (.array .byte)) ∈ lw_U := mU (mT (mT3 (List.mem_of_getElem? (i := 219) rfl))) rfl
theorem q700 : Cond.methodLink RJ7 343 yJ7_checkLength_df160 ∈ lw_U := mU (mT (mT3 (List.mem_of_getElem? (i := 220) rfl))) rfl
theorem q701 : Cond.static yJ7_checkLength_df160 ∈ lw_U := mU (mT (mT3 (List.mem_of_getElem? (i := 221) rfl))) rfl
theorem q702 : Cond.code yJ7_checkLength_df160 prog_43_method_131_code 2 none ∈ lw_U := mU (mT (mT3 (List.mem_of_getElem? (i := 222) rfl))) rfl
theorem q703 : Cond.classLink RJ7 43 "java/lang/IllegalArgumentException" ∈ lw_U := mU (mT (mT3 (List.mem_of_getElem? (i := 223) rfl))) rfl
theorem q704 : Cond.instantiable "java/lang/IllegalArgumentException" 6 ∈ lw_U := mU (mT (mT3 (List.mem_of_getElem? (i := 224) rfl))) rfl
theorem q705 : Cond.castable "java/lang/IllegalArgumentException" "java/lang/IllegalArgumentException" ∈ lw_N := nN (mT3 (List.mem_of_getElem? (i := 225) rfl)) rfl
theorem q712 : Cond.selects "java/lang/IllegalArgumentException" ⟨"java/lang/Throwable", "fillInStackTrace", "(I)Ljava/lang/Throwable;"⟩ ⟨"java/lang/Throwable", "fillInStackTrace", "(I)Ljava/lang/Throwable;"⟩ ∈ lw_U := mU (mT (mT3 (List.mem_of_getElem? (i := 232) rfl))) rfl
theorem q713 : Cond.selects "java/lang/IllegalArgumentException" ⟨"java/lang/Throwable", "fillInStackTrace", "()Ljava/lang/Throwable;"⟩ ⟨"java/lang/Throwable", "fillInStackTrace", "()Ljava/lang/Throwable;"⟩ ∈ lw_U := mU (mT (mT3 (List.mem_of_getElem? (i := 233) rfl))) rfl
theorem q724 : Cond.fieldLink "java/lang/Throwable" 198 "java/lang/Throwable" "backtrace" "Ljava/lang/Object;" ∈ lw_U := mU (mT (mT4 (List.mem_of_getElem? (i := 4) rfl))) rfl
theorem q726 : Cond.instanceMethod ⟨"java/lang/Throwable", "<init>", "()V"⟩ ∈ lw_U := mU (mT (mT4 (List.mem_of_getElem? (i := 6) rfl))) rfl
theorem q727 : Cond.code ⟨"java/lang/Throwable", "<init>", "()V"⟩ prog_39_method_1_code 1 none ∈ lw_U := mU (mT (mT4 (List.mem_of_getElem? (i := 7) rfl))) rfl
theorem q728 : Cond.methodLink "java/lang/Throwable" 1 ⟨"java/lang/Object", "<init>", "()V"⟩ ∈ lw_U := mU (mT (mT4 (List.mem_of_getElem? (i := 8) rfl))) rfl
theorem q729 : Cond.fieldLink "java/lang/Throwable" 13 "java/lang/Throwable" "UNASSIGNED_STACK" "[Ljava/lang/StackTraceElement;" ∈ lw_U := mU (mT (mT4 (List.mem_of_getElem? (i := 9) rfl))) rfl
theorem q731 : Cond.fieldLink "java/lang/Throwable" 20 "java/lang/Throwable" "SUPPRESSED_SENTINEL" "Ljava/util/List;" ∈ lw_U := mU (mT (mT4 (List.mem_of_getElem? (i := 11) rfl))) rfl
theorem q733 : Cond.methodLink "java/lang/Throwable" 27 ⟨"java/lang/Throwable", "fillInStackTrace", "()Ljava/lang/Throwable;"⟩ ∈ lw_U := mU (mT (mT4 (List.mem_of_getElem? (i := 13) rfl))) rfl
theorem q734 : Cond.instanceMethod ⟨"java/lang/Throwable", "fillInStackTrace", "()Ljava/lang/Throwable;"⟩ ∈ lw_U := mU (mT (mT4 (List.mem_of_getElem? (i := 14) rfl))) rfl
theorem q735 : Cond.sameMethod "java/lang/Throwable" "java/lang/Throwable" "fillInStackTrace" "()Ljava/lang/Throwable;" ∈ lw_U := mU (mT (mT4 (List.mem_of_getElem? (i := 15) rfl))) rfl
theorem q736 : Cond.selects "java/lang/ArithmeticException" ⟨"java/lang/Throwable", "fillInStackTrace", "()Ljava/lang/Throwable;"⟩ ⟨"java/lang/Throwable", "fillInStackTrace", "()Ljava/lang/Throwable;"⟩ ∈ lw_U := mU (mT (mT4 (List.mem_of_getElem? (i := 16) rfl))) rfl
theorem q737 : Cond.selects RJx00060 ⟨"java/lang/Throwable", "fillInStackTrace", "()Ljava/lang/Throwable;"⟩ ⟨"java/lang/Throwable", "fillInStackTrace", "()Ljava/lang/Throwable;"⟩ ∈ lw_U := mU (mT (mT4 (List.mem_of_getElem? (i := 17) rfl))) rfl
theorem q738 : Cond.selects "java/lang/IllegalStateException" ⟨"java/lang/Throwable", "fillInStackTrace", "()Ljava/lang/Throwable;"⟩ ⟨"java/lang/Throwable", "fillInStackTrace", "()Ljava/lang/Throwable;"⟩ ∈ lw_U := mU (mT (mT4 (List.mem_of_getElem? (i := 18) rfl))) rfl
theorem q739 : Cond.selects "java/lang/IndexOutOfBoundsException" ⟨"java/lang/Throwable", "fillInStackTrace", "()Ljava/lang/Throwable;"⟩ ⟨"java/lang/Throwable", "fillInStackTrace", "()Ljava/lang/Throwable;"⟩ ∈ lw_U := mU (mT (mT4 (List.mem_of_getElem? (i := 19) rfl))) rfl
theorem q740 : Cond.selects RJx7c733 ⟨"java/lang/Throwable", "fillInStackTrace", "()Ljava/lang/Throwable;"⟩ ⟨"java/lang/Throwable", "fillInStackTrace", "()Ljava/lang/Throwable;"⟩ ∈ lw_U := mU (mT (mT4 (List.mem_of_getElem? (i := 20) rfl))) rfl
theorem q741 : Cond.selects "java/lang/UnsupportedOperationException" ⟨"java/lang/Throwable", "fillInStackTrace", "()Ljava/lang/Throwable;"⟩ ⟨"java/lang/Throwable", "fillInStackTrace", "()Ljava/lang/Throwable;"⟩ ∈ lw_U := mU (mT (mT4 (List.mem_of_getElem? (i := 21) rfl))) rfl
theorem q742 : Cond.selects "java/util/NoSuchElementException" ⟨"java/lang/Throwable", "fillInStackTrace", "()Ljava/lang/Throwable;"⟩ ⟨"java/lang/Throwable", "fillInStackTrace", "()Ljava/lang/Throwable;"⟩ ∈ lw_U := mU (mT (mT4 (List.mem_of_getElem? (i := 22) rfl))) rfl
theorem q744 : Cond.methodLink "java/lang/Throwable" 202 ⟨"java/lang/Throwable", "fillInStackTrace", "(I)Ljava/lang/Throwable;"⟩ ∈ lw_U := mU (mT (mT4 (List.mem_of_getElem? (i := 24) rfl))) rfl
theorem q746 : Cond.instanceMethod ⟨"java/lang/Throwable", "fillInStackTrace", "(I)Ljava/lang/Throwable;"⟩ ∈ lw_U := mU (mT (mT4 (List.mem_of_getElem? (i := 26) rfl))) rfl
theorem q747 : Cond.instantiable "java/lang/Throwable" 6 ∈ lw_U := mU (mT (mT4 (List.mem_of_getElem? (i := 27) rfl))) rfl
theorem q749 : Cond.classLink RJ7 45 RJ4 ∈ lw_U := mU (mT (mT4 (List.mem_of_getElem? (i := 29) rfl))) rfl
theorem q750 : Cond.methodLink RJ7 47 yJ4_init_da8c8 ∈ lw_U := mU (mT (mT4 (List.mem_of_getElem? (i := 30) rfl))) rfl
theorem q751 : Cond.methodLink RJ7 54 yJ4_append_bf812 ∈ lw_U := mU (mT (mT4 (List.mem_of_getElem? (i := 31) rfl))) rfl
theorem q753 : Cond.methodLink RJ7 50 yJ4_append_15ec4 ∈ lw_U := mU (mT (mT4 (List.mem_of_getElem? (i := 33) rfl))) rfl
theorem q754 : Cond.methodLink RJ7 61 yJ4_toString_0e30d ∈ lw_U := mU (mT (mT4 (List.mem_of_getElem? (i := 34) rfl))) rfl
theorem q755 : Cond.methodLink RJ7 65 ⟨"java/lang/IllegalArgumentException", "<init>", "(Ljava/lang/String;)V"⟩ ∈ lw_U := mU (mT (mT4 (List.mem_of_getElem? (i := 35) rfl))) rfl
theorem q756 : Cond.instanceMethod ⟨"java/lang/IllegalArgumentException", "<init>", "(Ljava/lang/String;)V"⟩ ∈ lw_U := mU (mT (mT4 (List.mem_of_getElem? (i := 36) rfl))) rfl
theorem q757 : Cond.code ⟨"java/lang/IllegalArgumentException", "<init>", "(Ljava/lang/String;)V"⟩ prog_26_method_2_code 2 none ∈ lw_U := mU (mT (mT4 (List.mem_of_getElem? (i := 37) rfl))) rfl
theorem q758 : Cond.methodLink "java/lang/IllegalArgumentException" 7 ⟨"java/lang/RuntimeException", "<init>", "(Ljava/lang/String;)V"⟩ ∈ lw_U := mU (mT (mT4 (List.mem_of_getElem? (i := 38) rfl))) rfl
theorem q759 : Cond.instanceMethod ⟨"java/lang/RuntimeException", "<init>", "(Ljava/lang/String;)V"⟩ ∈ lw_U := mU (mT (mT4 (List.mem_of_getElem? (i := 39) rfl))) rfl
theorem q760 : Cond.code ⟨"java/lang/RuntimeException", "<init>", "(Ljava/lang/String;)V"⟩ prog_32_method_2_code 2 none ∈ lw_U := mU (mT (mT4 (List.mem_of_getElem? (i := 40) rfl))) rfl
theorem q761 : Cond.methodLink "java/lang/RuntimeException" 7 ⟨"java/lang/Exception", "<init>", "(Ljava/lang/String;)V"⟩ ∈ lw_U := mU (mT (mT4 (List.mem_of_getElem? (i := 41) rfl))) rfl
theorem q762 : Cond.instanceMethod ⟨"java/lang/Exception", "<init>", "(Ljava/lang/String;)V"⟩ ∈ lw_U := mU (mT (mT4 (List.mem_of_getElem? (i := 42) rfl))) rfl
theorem q763 : Cond.code ⟨"java/lang/Exception", "<init>", "(Ljava/lang/String;)V"⟩ prog_25_method_2_code 2 none ∈ lw_U := mU (mT (mT4 (List.mem_of_getElem? (i := 43) rfl))) rfl
theorem q764 : Cond.methodLink "java/lang/Exception" 7 ⟨"java/lang/Throwable", "<init>", "(Ljava/lang/String;)V"⟩ ∈ lw_U := mU (mT (mT4 (List.mem_of_getElem? (i := 44) rfl))) rfl
theorem q765 : Cond.instanceMethod ⟨"java/lang/Throwable", "<init>", "(Ljava/lang/String;)V"⟩ ∈ lw_U := mU (mT (mT4 (List.mem_of_getElem? (i := 45) rfl))) rfl
theorem q766 : Cond.code ⟨"java/lang/Throwable", "<init>", "(Ljava/lang/String;)V"⟩ prog_39_method_2_code 2 none ∈ lw_U := mU (mT (mT4 (List.mem_of_getElem? (i := 46) rfl))) rfl
theorem q768 : Cond.fieldLink "java/lang/Throwable" 31 "java/lang/Throwable" "detailMessage" "Ljava/lang/String;" ∈ lw_U := mU (mT (mT4 (List.mem_of_getElem? (i := 48) rfl))) rfl
theorem q769 : Cond.fieldLink "java/lang/Throwable" 7 "java/lang/Throwable" "cause" "Ljava/lang/Throwable;" ∈ lw_U := mU (mT (mT4 (List.mem_of_getElem? (i := 49) rfl))) rfl
theorem q770 : Cond.fieldLink "java/lang/Throwable" 17 "java/lang/Throwable" "stackTrace" "[Ljava/lang/StackTraceElement;" ∈ lw_U := mU (mT (mT4 (List.mem_of_getElem? (i := 50) rfl))) rfl
theorem q771 : Cond.fieldLink "java/lang/Throwable" 24 "java/lang/Throwable" "suppressedExceptions" "Ljava/util/List;" ∈ lw_U := mU (mT (mT4 (List.mem_of_getElem? (i := 51) rfl))) rfl
theorem q780 : Cond.methodLink RJ0 1051 yJ2_compress_39247 ∈ lw_U := mU (mT (mT4 (List.mem_of_getElem? (i := 60) rfl))) rfl
theorem q781 : Cond.static yJ2_compress_39247 ∈ lw_U := mU (mT (mT4 (List.mem_of_getElem? (i := 61) rfl))) rfl
theorem q782 : Cond.code yJ2_compress_39247 prog_37_method_17_code 6 (some (.array .byte)) ∈ lw_U := mU (mT (mT4 (List.mem_of_getElem? (i := 62) rfl))) rfl
theorem q783 : Cond.methodLink RJ2 123 yJ2_compress_5af95 ∈ lw_U := mU (mT (mT4 (List.mem_of_getElem? (i := 63) rfl))) rfl
theorem q784 : Cond.static yJ2_compress_5af95 ∈ lw_U := mU (mT (mT4 (List.mem_of_getElem? (i := 64) rfl))) rfl
theorem q785 : Cond.code yJ2_compress_5af95 prog_37_method_22_code 7 (some .int) ∈ lw_U := mU (mT (mT4 (List.mem_of_getElem? (i := 65) rfl))) rfl
theorem q786 : Cond.methodLink RJ2 71 yJ2_getChar_3b067 ∈ lw_U := mU (mT (mT4 (List.mem_of_getElem? (i := 66) rfl))) rfl
theorem q787 : Cond.static yJ2_getChar_3b067 ∈ lw_U := mU (mT (mT4 (List.mem_of_getElem? (i := 67) rfl))) rfl
theorem q788 : Cond.code yJ2_getChar_3b067 prog_37_method_5_code 2 (some .char) ∈ lw_U := mU (mT (mT4 (List.mem_of_getElem? (i := 68) rfl))) rfl
theorem q789 : Cond.methodLink RJ2 126 yJ7_copyOfRange_39247 ∈ lw_U := mU (mT (mT4 (List.mem_of_getElem? (i := 69) rfl))) rfl
theorem q790 : Cond.methodLink RJ0 47 yJ2_coderFromArrayLen_85cad ∈ lw_U := mU (mT (mT4 (List.mem_of_getElem? (i := 70) rfl))) rfl
theorem q791 : Cond.static yJ2_coderFromArrayLen_85cad ∈ lw_U := mU (mT (mT4 (List.mem_of_getElem? (i := 71) rfl))) rfl
theorem q792 : Cond.code yJ2_coderFromArrayLen_85cad prog_37_method_15_code 2 (some .byte) ∈ lw_U := mU (mT (mT4 (List.mem_of_getElem? (i := 72) rfl))) rfl
theorem q793 : Cond.fieldLink RJ0 9 RJ0 "value" "[B" ∈ lw_U := mU (mT (mT4 (List.mem_of_getElem? (i := 73) rfl))) rfl
theorem q794 : Cond.fieldLink RJ0 15 RJ0 "coder" "B" ∈ lw_U := mU (mT (mT4 (List.mem_of_getElem? (i := 74) rfl))) rfl
theorem q804 : Cond.methodLink RJx7c733 7 ⟨"java/lang/IndexOutOfBoundsException", "<init>", "(Ljava/lang/String;)V"⟩ ∈ lw_U := mU (mT (mT4 (List.mem_of_getElem? (i := 84) rfl))) rfl
theorem q805 : Cond.instanceMethod ⟨"java/lang/IndexOutOfBoundsException", "<init>", "(Ljava/lang/String;)V"⟩ ∈ lw_U := mU (mT (mT4 (List.mem_of_getElem? (i := 85) rfl))) rfl
theorem q806 : Cond.code ⟨"java/lang/IndexOutOfBoundsException", "<init>", "(Ljava/lang/String;)V"⟩ prog_28_method_2_code 2 none ∈ lw_U := mU (mT (mT4 (List.mem_of_getElem? (i := 86) rfl))) rfl
theorem q807 : Cond.methodLink "java/lang/IndexOutOfBoundsException" 7 ⟨"java/lang/RuntimeException", "<init>", "(Ljava/lang/String;)V"⟩ ∈ lw_U := mU (mT (mT4 (List.mem_of_getElem? (i := 87) rfl))) rfl
theorem q815 : Cond.methodLink RJ5 133 yJ1_fillNull_b72d1 ∈ lw_U := mU (mT (mT4 (List.mem_of_getElem? (i := 95) rfl))) rfl
theorem q816 : Cond.static yJ1_fillNull_b72d1 ∈ lw_U := mU (mT (mT4 (List.mem_of_getElem? (i := 96) rfl))) rfl
theorem q817 : Cond.code yJ1_fillNull_b72d1 prog_36_method_48_code 3 none ∈ lw_U := mU (mT (mT4 (List.mem_of_getElem? (i := 97) rfl))) rfl
theorem q818 : Cond.methodLink RJ1 236 yJ7_fill_eb02e ∈ lw_U := mU (mT (mT4 (List.mem_of_getElem? (i := 98) rfl))) rfl
theorem q819 : Cond.static yJ7_fill_eb02e ∈ lw_U := mU (mT (mT4 (List.mem_of_getElem? (i := 99) rfl))) rfl
theorem q820 : Cond.code yJ7_fill_eb02e prog_43_method_110_code 5 none ∈ lw_U := mU (mT (mT4 (List.mem_of_getElem? (i := 100) rfl))) rfl
theorem q821 : Cond.methodLink RJ7 13 yJ7_rangeCheck_23922 ∈ lw_U := mU (mT (mT4 (List.mem_of_getElem? (i := 101) rfl))) rfl
theorem q822 : Cond.static yJ7_rangeCheck_23922 ∈ lw_U := mU (mT (mT4 (List.mem_of_getElem? (i := 102) rfl))) rfl
theorem q823 : Cond.code yJ7_rangeCheck_23922 prog_43_method_30_code 3 none ∈ lw_U := mU (mT (mT4 (List.mem_of_getElem? (i := 103) rfl))) rfl
theorem q827 : Cond.classLink RJ7 68 RJx00060 ∈ lw_U := mU (mT (mT4 (List.mem_of_getElem? (i := 107) rfl))) rfl
theorem q828 : Cond.instantiable RJx00060 6 ∈ lw_U := mU (mT (mT4 (List.mem_of_getElem? (i := 108) rfl))) rfl
theorem q829 : Cond.castable RJx00060 RJx00060 ∈ lw_N := nN (mT4 (List.mem_of_getElem? (i := 109) rfl)) rfl
theorem q832 : Cond.selects RJx00060 ⟨"java/lang/Throwable", "fillInStackTrace", "(I)Ljava/lang/Throwable;"⟩ ⟨"java/lang/Throwable", "fillInStackTrace", "(I)Ljava/lang/Throwable;"⟩ ∈ lw_U := mU (mT (mT4 (List.mem_of_getElem? (i := 112) rfl))) rfl
theorem q838 : Cond.methodLink RJ7 70 yJx00060_init_d00df ∈ lw_U := mU (mT (mT4 (List.mem_of_getElem? (i := 118) rfl))) rfl
theorem q839 : Cond.instanceMethod yJx00060_init_d00df ∈ lw_U := mU (mT (mT4 (List.mem_of_getElem? (i := 119) rfl))) rfl
theorem q840 : Cond.code yJx00060_init_d00df prog_20_method_3_code 2 none ∈ lw_U := mU (mT (mT4 (List.mem_of_getElem? (i := 120) rfl))) rfl
theorem q841 : Cond.classLink RJx00060 10 RJ4 ∈ lw_U := mU (mT (mT4 (List.mem_of_getElem? (i := 121) rfl))) rfl
theorem q842 : Cond.methodLink RJx00060 12 yJ4_init_da8c8 ∈ lw_U := mU (mT (mT4 (List.mem_of_getElem? (i := 122) rfl))) rfl
theorem q844 : Cond.methodLink RJx00060 15 yJ4_append_15ec4 ∈ lw_U := mU (mT (mT4 (List.mem_of_getElem? (i := 124) rfl))) rfl
theorem q845 : Cond.methodLink RJx00060 19 yJ4_append_bf812 ∈ lw_U := mU (mT (mT4 (List.mem_of_getElem? (i := 125) rfl))) rfl
theorem q846 : Cond.methodLink RJx00060 22 yJ4_toString_0e30d ∈ lw_U := mU (mT (mT4 (List.mem_of_getElem? (i := 126) rfl))) rfl
theorem q847 : Cond.methodLink RJx00060 7 ⟨"java/lang/IndexOutOfBoundsException", "<init>", "(Ljava/lang/String;)V"⟩ ∈ lw_U := mU (mT (mT4 (List.mem_of_getElem? (i := 127) rfl))) rfl
theorem q850 : Cond.methodLink RJ5 137 yJ2_fillNull_b72d1 ∈ lw_U := mU (mT (mT4 (List.mem_of_getElem? (i := 130) rfl))) rfl
theorem q851 : Cond.static yJ2_fillNull_b72d1 ∈ lw_U := mU (mT (mT4 (List.mem_of_getElem? (i := 131) rfl))) rfl
theorem q852 : Cond.code yJ2_fillNull_b72d1 prog_37_method_70_code 3 none ∈ lw_U := mU (mT (mT4 (List.mem_of_getElem? (i := 132) rfl))) rfl
theorem q853 : Cond.methodLink RJ2 380 yJ7_fill_eb02e ∈ lw_U := mU (mT (mT4 (List.mem_of_getElem? (i := 133) rfl))) rfl
theorem q854 : Cond.methodLink RX12 268 yJ4_append_cf468 ∈ lw_U := mU (mT (mT4 (List.mem_of_getElem? (i := 134) rfl))) rfl
theorem q855 : Cond.instanceMethod yJ4_append_cf468 ∈ lw_U := mU (mT (mT4 (List.mem_of_getElem? (i := 135) rfl))) rfl
theorem q856 : Cond.selects RJ4 yJ4_append_cf468 yJ4_append_cf468 ∈ lw_U := mU (mT (mT4 (List.mem_of_getElem? (i := 136) rfl))) rfl
theorem q857 : Cond.code yJ4_append_cf468 prog_34_method_14_code 2 (some (.object RJ4)) ∈ lw_U := mU (mT (mT4 (List.mem_of_getElem? (i := 137) rfl))) rfl
theorem q858 : Cond.methodLink RJ4 50 yJ5_append_3fe6f ∈ lw_U := mU (mT (mT4 (List.mem_of_getElem? (i := 138) rfl))) rfl
theorem q859 : Cond.instanceMethod yJ5_append_3fe6f ∈ lw_U := mU (mT (mT4 (List.mem_of_getElem? (i := 139) rfl))) rfl
theorem q860 : Cond.code yJ5_append_3fe6f prog_17_method_31_code 2 (some (.object RJ5)) ∈ lw_U := mU (mT (mT4 (List.mem_of_getElem? (i := 140) rfl))) rfl
theorem q861 : Cond.methodLink RJ5 191 yJ1_canEncode_fc78d ∈ lw_U := mU (mT (mT4 (List.mem_of_getElem? (i := 141) rfl))) rfl
theorem q862 : Cond.static yJ1_canEncode_fc78d ∈ lw_U := mU (mT (mT4 (List.mem_of_getElem? (i := 142) rfl))) rfl
theorem q863 : Cond.code yJ1_canEncode_fc78d prog_36_method_3_code 1 (some .boolean) ∈ lw_U := mU (mT (mT4 (List.mem_of_getElem? (i := 143) rfl))) rfl
theorem q864 : Cond.methodLink RJ5 197 yJ2_putCharSB_b72d1 ∈ lw_U := mU (mT (mT4 (List.mem_of_getElem? (i := 144) rfl))) rfl
theorem q865 : Cond.static yJ2_putCharSB_b72d1 ∈ lw_U := mU (mT (mT4 (List.mem_of_getElem? (i := 145) rfl))) rfl
theorem q866 : Cond.code yJ2_putCharSB_b72d1 prog_37_method_71_code 3 none ∈ lw_U := mU (mT (mT4 (List.mem_of_getElem? (i := 146) rfl))) rfl
theorem q867 : Cond.methodLink RJ2 67 yJ2_checkIndex_2214a ∈ lw_U := mU (mT (mT4 (List.mem_of_getElem? (i := 147) rfl))) rfl
theorem q868 : Cond.static yJ2_checkIndex_2214a ∈ lw_U := mU (mT (mT4 (List.mem_of_getElem? (i := 148) rfl))) rfl
theorem q869 : Cond.code yJ2_checkIndex_2214a prog_37_method_91_code 2 none ∈ lw_U := mU (mT (mT4 (List.mem_of_getElem? (i := 149) rfl))) rfl
theorem q870 : Cond.methodLink RJ2 414 yJ0_checkIndex_df160 ∈ lw_U := mU (mT (mT4 (List.mem_of_getElem? (i := 150) rfl))) rfl
theorem q871 : Cond.static yJ0_checkIndex_df160 ∈ lw_U := mU (mT (mT4 (List.mem_of_getElem? (i := 151) rfl))) rfl
theorem q872 : Cond.code yJ0_checkIndex_df160 prog_33_method_155_code 2 none ∈ lw_U := mU (mT (mT4 (List.mem_of_getElem? (i := 152) rfl))) rfl
theorem q873 : Cond.methodLink RJ0 1059 yJ3_checkIndex_8e157 ∈ lw_U := mU (mT (mT4 (List.mem_of_getElem? (i := 153) rfl))) rfl
theorem q874 : Cond.static yJ3_checkIndex_8e157 ∈ lw_U := mU (mT (mT4 (List.mem_of_getElem? (i := 154) rfl))) rfl
theorem q875 : Cond.code yJ3_checkIndex_8e157 prog_46_method_11_code 3 (some .int) ∈ lw_U := mU (mT (mT4 (List.mem_of_getElem? (i := 155) rfl))) rfl
theorem q876 : Cond.methodLink RX12 192 yX5_numberAt ∈ lw_U := mU (mT (mT4 (List.mem_of_getElem? (i := 156) rfl))) rfl
theorem q877 : Cond.instanceMethod yX5_numberAt ∈ lw_U := mU (mT (mT4 (List.mem_of_getElem? (i := 157) rfl))) rfl
theorem q878 : Cond.selects RX5 yX5_numberAt yX5_numberAt ∈ lw_U := mU (mT (mT4 (List.mem_of_getElem? (i := 158) rfl))) rfl
theorem q879 : Cond.code yX5_numberAt prog_7_method_5_code 2 (some .int) ∈ lw_U := mU (mT (mT4 (List.mem_of_getElem? (i := 159) rfl))) rfl
theorem q880 : Cond.methodLink RX12 264 yJ4_append_bf812 ∈ lw_U := mU (mT (mT4 (List.mem_of_getElem? (i := 160) rfl))) rfl
theorem q881 : Cond.methodLink RX12 185 yX5_materialAt ∈ lw_U := mU (mT (mT4 (List.mem_of_getElem? (i := 161) rfl))) rfl
theorem q882 : Cond.methodLink RX12 186 yX5_lengthAt ∈ lw_U := mU (mT (mT4 (List.mem_of_getElem? (i := 162) rfl))) rfl
theorem q883 : Cond.methodLink RX12 187 yX5_dueAt ∈ lw_U := mU (mT (mT4 (List.mem_of_getElem? (i := 163) rfl))) rfl
theorem q884 : Cond.instanceMethod yX5_dueAt ∈ lw_U := mU (mT (mT4 (List.mem_of_getElem? (i := 164) rfl))) rfl
theorem q885 : Cond.selects RX5 yX5_dueAt yX5_dueAt ∈ lw_U := mU (mT (mT4 (List.mem_of_getElem? (i := 165) rfl))) rfl
theorem q886 : Cond.code yX5_dueAt prog_7_method_8_code 2 (some .int) ∈ lw_U := mU (mT (mT4 (List.mem_of_getElem? (i := 166) rfl))) rfl
theorem q887 : Cond.methodLink RX12 271 yJ4_length_8abf5 ∈ lw_U := mU (mT (mT4 (List.mem_of_getElem? (i := 167) rfl))) rfl
theorem q888 : Cond.methodLink RL 324 yX12_save ∈ lw_U := mU (mT (mT4 (List.mem_of_getElem? (i := 168) rfl))) rfl
theorem q889 : Cond.instanceMethod yX12_save ∈ lw_U := mU (mT (mT4 (List.mem_of_getElem? (i := 169) rfl))) rfl
theorem q890 : Cond.selects RX12 yX12_save yX12_save ∈ lw_U := mU (mT (mT4 (List.mem_of_getElem? (i := 170) rfl))) rfl
theorem q891 : Cond.code yX12_save prog_1_method_51_code 1 (some .int) ∈ lw_U := mU (mT (mT4 (List.mem_of_getElem? (i := 171) rfl))) rfl
theorem q892 : Cond.methodLink RX12 327 yX11_copyFrom ∈ lw_U := mU (mT (mT4 (List.mem_of_getElem? (i := 172) rfl))) rfl
theorem q893 : Cond.instanceMethod yX11_copyFrom ∈ lw_U := mU (mT (mT4 (List.mem_of_getElem? (i := 173) rfl))) rfl
theorem q894 : Cond.selects RX11 yX11_copyFrom yX11_copyFrom ∈ lw_U := mU (mT (mT4 (List.mem_of_getElem? (i := 174) rfl))) rfl
theorem q895 : Cond.code yX11_copyFrom prog_13_method_2_code 2 none ∈ lw_U := mU (mT (mT4 (List.mem_of_getElem? (i := 175) rfl))) rfl
theorem q896 : Cond.methodLink RX11 50 yX9_copyFrom ∈ lw_U := mU (mT (mT4 (List.mem_of_getElem? (i := 176) rfl))) rfl
theorem q897 : Cond.instanceMethod yX9_copyFrom ∈ lw_U := mU (mT (mT4 (List.mem_of_getElem? (i := 177) rfl))) rfl
theorem q898 : Cond.selects RX9 yX9_copyFrom yX9_copyFrom ∈ lw_U := mU (mT (mT4 (List.mem_of_getElem? (i := 178) rfl))) rfl
theorem q899 : Cond.code yX9_copyFrom prog_11_method_2_code 2 none ∈ lw_U := mU (mT (mT4 (List.mem_of_getElem? (i := 179) rfl))) rfl
theorem q900 : Cond.methodLink RX9 33 yX7_copyFrom ∈ lw_U := mU (mT (mT4 (List.mem_of_getElem? (i := 180) rfl))) rfl
theorem q901 : Cond.instanceMethod yX7_copyFrom ∈ lw_U := mU (mT (mT4 (List.mem_of_getElem? (i := 181) rfl))) rfl
theorem q902 : Cond.selects RX7 yX7_copyFrom yX7_copyFrom ∈ lw_U := mU (mT (mT4 (List.mem_of_getElem? (i := 182) rfl))) rfl
theorem q903 : Cond.code yX7_copyFrom prog_9_method_13_code 4 none ∈ lw_U := mU (mT (mT4 (List.mem_of_getElem? (i := 183) rfl))) rfl
theorem q904 : Cond.methodLink RX11 54 yX8_copyFrom ∈ lw_U := mU (mT (mT4 (List.mem_of_getElem? (i := 184) rfl))) rfl
theorem q905 : Cond.instanceMethod yX8_copyFrom ∈ lw_U := mU (mT (mT4 (List.mem_of_getElem? (i := 185) rfl))) rfl
theorem q906 : Cond.selects RX8 yX8_copyFrom yX8_copyFrom ∈ lw_U := mU (mT (mT4 (List.mem_of_getElem? (i := 186) rfl))) rfl
theorem q907 : Cond.code yX8_copyFrom prog_10_method_2_code 2 none ∈ lw_U := mU (mT (mT4 (List.mem_of_getElem? (i := 187) rfl))) rfl
theorem q908 : Cond.methodLink RX8 30 yX7_copyFrom ∈ lw_U := mU (mT (mT4 (List.mem_of_getElem? (i := 188) rfl))) rfl
theorem q909 : Cond.methodLink RX11 57 yX5_copyFrom ∈ lw_U := mU (mT (mT4 (List.mem_of_getElem? (i := 189) rfl))) rfl
theorem q910 : Cond.instanceMethod yX5_copyFrom ∈ lw_U := mU (mT (mT4 (List.mem_of_getElem? (i := 190) rfl))) rfl
theorem q911 : Cond.selects RX5 yX5_copyFrom yX5_copyFrom ∈ lw_U := mU (mT (mT4 (List.mem_of_getElem? (i := 191) rfl))) rfl
theorem q912 : Cond.code yX5_copyFrom prog_7_method_2_code 2 none ∈ lw_U := mU (mT (mT4 (List.mem_of_getElem? (i := 192) rfl))) rfl
theorem q913 : Cond.methodLink RX5 33 yX7_copyFrom ∈ lw_U := mU (mT (mT4 (List.mem_of_getElem? (i := 193) rfl))) rfl
theorem q914 : Cond.methodLink RX11 60 yX1_copyFrom ∈ lw_U := mU (mT (mT4 (List.mem_of_getElem? (i := 194) rfl))) rfl
theorem q915 : Cond.instanceMethod yX1_copyFrom ∈ lw_U := mU (mT (mT4 (List.mem_of_getElem? (i := 195) rfl))) rfl
theorem q916 : Cond.selects RX1 yX1_copyFrom yX1_copyFrom ∈ lw_U := mU (mT (mT4 (List.mem_of_getElem? (i := 196) rfl))) rfl
theorem q917 : Cond.code yX1_copyFrom prog_3_method_2_code 2 none ∈ lw_U := mU (mT (mT4 (List.mem_of_getElem? (i := 197) rfl))) rfl
theorem q918 : Cond.methodLink RX1 31 yX7_copyFrom ∈ lw_U := mU (mT (mT4 (List.mem_of_getElem? (i := 198) rfl))) rfl
theorem q919 : Cond.methodLink RL 152 yL_addSpool ∈ lw_U := mU (mT (mT4 (List.mem_of_getElem? (i := 199) rfl))) rfl
theorem q920 : Cond.static yL_addSpool ∈ lw_U := mU (mT (mT4 (List.mem_of_getElem? (i := 200) rfl))) rfl
theorem q921 : Cond.codeWith yL_addSpool method_3_code 5 (some .int) [(0, 10, 13, 13), (0, 10, 17, 15)] ∈ lw_U := mU (mT (mT4 (List.mem_of_getElem? (i := 201) rfl))) rfl
theorem q922 : Cond.classLink RL 13 "java/lang/IllegalArgumentException" ∈ lw_U := mU (mT (mT4 (List.mem_of_getElem? (i := 202) rfl))) rfl
theorem q923 : Cond.classLink RL 15 "java/lang/IllegalStateException" ∈ lw_U := mU (mT (mT4 (List.mem_of_getElem? (i := 203) rfl))) rfl
theorem q924 : Cond.methodLink RL 7 yX12_addSpool ∈ lw_U := mU (mT (mT4 (List.mem_of_getElem? (i := 204) rfl))) rfl
theorem q925 : Cond.instanceMethod yX12_addSpool ∈ lw_U := mU (mT (mT4 (List.mem_of_getElem? (i := 205) rfl))) rfl
theorem q926 : Cond.selects RX12 yX12_addSpool yX12_addSpool ∈ lw_U := mU (mT (mT4 (List.mem_of_getElem? (i := 206) rfl))) rfl
theorem q927 : Cond.code yX12_addSpool prog_1_method_2_code 4 (some .int) ∈ lw_U := mU (mT (mT4 (List.mem_of_getElem? (i := 207) rfl))) rfl
theorem q928 : Cond.methodLink RX12 58 yX3_prepare ∈ lw_U := mU (mT (mT4 (List.mem_of_getElem? (i := 208) rfl))) rfl
theorem q929 : Cond.instanceMethod yX3_prepare ∈ lw_U := mU (mT (mT4 (List.mem_of_getElem? (i := 209) rfl))) rfl
theorem q930 : Cond.selects RX3 yX3_prepare yX3_prepare ∈ lw_U := mU (mT (mT4 (List.mem_of_getElem? (i := 210) rfl))) rfl
theorem q931 : Cond.code yX3_prepare prog_5_method_3_code 2 none ∈ lw_U := mU (mT (mT4 (List.mem_of_getElem? (i := 211) rfl))) rfl
theorem q932 : Cond.methodLink RX3 25 yX11_copyFrom ∈ lw_U := mU (mT (mT4 (List.mem_of_getElem? (i := 212) rfl))) rfl
theorem q933 : Cond.methodLink RX12 62 yX11_windSpool ∈ lw_U := mU (mT (mT4 (List.mem_of_getElem? (i := 213) rfl))) rfl
theorem q934 : Cond.instanceMethod yX11_windSpool ∈ lw_U := mU (mT (mT4 (List.mem_of_getElem? (i := 214) rfl))) rfl
theorem q935 : Cond.selects RX11 yX11_windSpool yX11_windSpool ∈ lw_U := mU (mT (mT4 (List.mem_of_getElem? (i := 215) rfl))) rfl
theorem q936 : Cond.code yX11_windSpool prog_13_method_5_code 3 (some .int) ∈ lw_U := mU (mT (mT4 (List.mem_of_getElem? (i := 216) rfl))) rfl
theorem q937 : Cond.methodLinkNest RX11 79 yX12_requireMaterial RX12 ∈ lw_N := nN (mT4 (List.mem_of_getElem? (i := 217) rfl)) rfl
theorem q938 : Cond.static yX12_requireMaterial ∈ lw_U := mU (mT (mT4 (List.mem_of_getElem? (i := 218) rfl))) rfl
theorem q939 : Cond.code yX12_requireMaterial prog_1_method_59_code 1 none ∈ lw_U := mU (mT (mT4 (List.mem_of_getElem? (i := 219) rfl))) rfl
theorem q940 : Cond.methodLink RX12 345 yX12_isMaterial ∈ lw_U := mU (mT (mT4 (List.mem_of_getElem? (i := 220) rfl))) rfl
theorem q941 : Cond.static yX12_isMaterial ∈ lw_U := mU (mT (mT4 (List.mem_of_getElem? (i := 221) rfl))) rfl
theorem q942 : Cond.code yX12_isMaterial prog_1_method_56_code 1 (some .boolean) ∈ lw_U := mU (mT (mT4 (List.mem_of_getElem? (i := 222) rfl))) rfl
theorem q943 : Cond.classLink RX12 295 "java/lang/IllegalArgumentException" ∈ lw_U := mU (mT (mT4 (List.mem_of_getElem? (i := 223) rfl))) rfl
theorem q945 : Cond.methodLink RX12 299 ⟨"java/lang/IllegalArgumentException", "<init>", "(Ljava/lang/String;)V"⟩ ∈ lw_U := mU (mT (mT4 (List.mem_of_getElem? (i := 225) rfl))) rfl
theorem q946 : Cond.classLink RX11 83 "java/lang/IllegalArgumentException" ∈ lw_U := mU (mT (mT4 (List.mem_of_getElem? (i := 226) rfl))) rfl
theorem q948 : Cond.methodLink RX11 87 ⟨"java/lang/IllegalArgumentException", "<init>", "(Ljava/lang/String;)V"⟩ ∈ lw_U := mU (mT (mT4 (List.mem_of_getElem? (i := 228) rfl))) rfl
theorem q949 : Cond.methodLink RX11 88 yX9_count ∈ lw_U := mU (mT (mT4 (List.mem_of_getElem? (i := 229) rfl))) rfl
theorem q950 : Cond.classLink RX11 92 "java/lang/IllegalStateException" ∈ lw_U := mU (mT (mT4 (List.mem_of_getElem? (i := 230) rfl))) rfl
theorem q951 : Cond.instantiable "java/lang/IllegalStateException" 6 ∈ lw_U := mU (mT (mT4 (List.mem_of_getElem? (i := 231) rfl))) rfl
theorem q952 : Cond.castable "java/lang/IllegalStateException" "java/lang/IllegalStateException" ∈ lw_N := nN (mT4 (List.mem_of_getElem? (i := 232) rfl)) rfl
theorem q953 : Cond.selects "java/lang/IllegalStateException" ⟨"java/lang/Throwable", "fillInStackTrace", "(I)Ljava/lang/Throwable;"⟩ ⟨"java/lang/Throwable", "fillInStackTrace", "(I)Ljava/lang/Throwable;"⟩ ∈ lw_U := mU (mT (mT4 (List.mem_of_getElem? (i := 233) rfl))) rfl
theorem q960 : Cond.methodLink RX11 96 ⟨"java/lang/IllegalStateException", "<init>", "(Ljava/lang/String;)V"⟩ ∈ lw_U := mU (mT (mT5 (List.mem_of_getElem? (i := 0) rfl))) rfl
theorem q961 : Cond.instanceMethod ⟨"java/lang/IllegalStateException", "<init>", "(Ljava/lang/String;)V"⟩ ∈ lw_U := mU (mT (mT5 (List.mem_of_getElem? (i := 1) rfl))) rfl
theorem q962 : Cond.code ⟨"java/lang/IllegalStateException", "<init>", "(Ljava/lang/String;)V"⟩ prog_27_method_2_code 2 none ∈ lw_U := mU (mT (mT5 (List.mem_of_getElem? (i := 2) rfl))) rfl
theorem q963 : Cond.methodLink "java/lang/IllegalStateException" 7 ⟨"java/lang/RuntimeException", "<init>", "(Ljava/lang/String;)V"⟩ ∈ lw_U := mU (mT (mT5 (List.mem_of_getElem? (i := 3) rfl))) rfl
theorem q966 : Cond.methodLink RX11 105 yX7_increase ∈ lw_U := mU (mT (mT5 (List.mem_of_getElem? (i := 6) rfl))) rfl
theorem q967 : Cond.instanceMethod yX7_increase ∈ lw_U := mU (mT (mT5 (List.mem_of_getElem? (i := 7) rfl))) rfl
theorem q968 : Cond.selects RX7 yX7_increase yX7_increase ∈ lw_U := mU (mT (mT5 (List.mem_of_getElem? (i := 8) rfl))) rfl
theorem q969 : Cond.code yX7_increase prog_9_method_5_code 3 none ∈ lw_U := mU (mT (mT5 (List.mem_of_getElem? (i := 9) rfl))) rfl
theorem q970 : Cond.methodLink RX11 111 yX9_add ∈ lw_U := mU (mT (mT5 (List.mem_of_getElem? (i := 10) rfl))) rfl
theorem q971 : Cond.instanceMethod yX9_add ∈ lw_U := mU (mT (mT5 (List.mem_of_getElem? (i := 11) rfl))) rfl
theorem q972 : Cond.selects RX9 yX9_add yX9_add ∈ lw_U := mU (mT (mT5 (List.mem_of_getElem? (i := 12) rfl))) rfl
theorem q973 : Cond.code yX9_add prog_11_method_11_code 4 (some .int) ∈ lw_U := mU (mT (mT5 (List.mem_of_getElem? (i := 13) rfl))) rfl
theorem q974 : Cond.methodLink RX9 54 yX7_add ∈ lw_U := mU (mT (mT5 (List.mem_of_getElem? (i := 14) rfl))) rfl
theorem q975 : Cond.methodLink RX12 66 yX3_commit ∈ lw_U := mU (mT (mT5 (List.mem_of_getElem? (i := 15) rfl))) rfl
theorem q976 : Cond.instanceMethod yX3_commit ∈ lw_U := mU (mT (mT5 (List.mem_of_getElem? (i := 16) rfl))) rfl
theorem q977 : Cond.selects RX3 yX3_commit yX3_commit ∈ lw_U := mU (mT (mT5 (List.mem_of_getElem? (i := 17) rfl))) rfl
theorem q978 : Cond.code yX3_commit prog_5_method_4_code 1 none ∈ lw_U := mU (mT (mT5 (List.mem_of_getElem? (i := 18) rfl))) rfl
theorem q979 : Cond.methodLink RL 161 yL_retire ∈ lw_U := mU (mT (mT5 (List.mem_of_getElem? (i := 19) rfl))) rfl
theorem q980 : Cond.static yL_retire ∈ lw_U := mU (mT (mT5 (List.mem_of_getElem? (i := 20) rfl))) rfl
theorem q981 : Cond.codeWith yL_retire method_4_code 4 (some .int) [(0, 9, 12, 21)] ∈ lw_U := mU (mT (mT5 (List.mem_of_getElem? (i := 21) rfl))) rfl
theorem q982 : Cond.classLink RL 21 "java/util/NoSuchElementException" ∈ lw_U := mU (mT (mT5 (List.mem_of_getElem? (i := 22) rfl))) rfl
theorem q983 : Cond.methodLink RL 17 yX12_retire ∈ lw_U := mU (mT (mT5 (List.mem_of_getElem? (i := 23) rfl))) rfl
theorem q984 : Cond.instanceMethod yX12_retire ∈ lw_U := mU (mT (mT5 (List.mem_of_getElem? (i := 24) rfl))) rfl
theorem q985 : Cond.selects RX12 yX12_retire yX12_retire ∈ lw_U := mU (mT (mT5 (List.mem_of_getElem? (i := 25) rfl))) rfl
theorem q986 : Cond.code yX12_retire prog_1_method_3_code 3 (some .int) ∈ lw_U := mU (mT (mT5 (List.mem_of_getElem? (i := 26) rfl))) rfl
theorem q987 : Cond.methodLink RX12 69 yX11_retireSpool ∈ lw_U := mU (mT (mT5 (List.mem_of_getElem? (i := 27) rfl))) rfl
theorem q988 : Cond.instanceMethod yX11_retireSpool ∈ lw_U := mU (mT (mT5 (List.mem_of_getElem? (i := 28) rfl))) rfl
theorem q989 : Cond.selects RX11 yX11_retireSpool yX11_retireSpool ∈ lw_U := mU (mT (mT5 (List.mem_of_getElem? (i := 29) rfl))) rfl
theorem q990 : Cond.code yX11_retireSpool prog_13_method_6_code 4 (some .int) ∈ lw_U := mU (mT (mT5 (List.mem_of_getElem? (i := 30) rfl))) rfl
theorem q991 : Cond.methodLink RX11 115 yX11_existingSpool ∈ lw_U := mU (mT (mT5 (List.mem_of_getElem? (i := 31) rfl))) rfl
theorem q992 : Cond.instanceMethod yX11_existingSpool ∈ lw_U := mU (mT (mT5 (List.mem_of_getElem? (i := 32) rfl))) rfl
theorem q993 : Cond.selects RX11 yX11_existingSpool yX11_existingSpool ∈ lw_U := mU (mT (mT5 (List.mem_of_getElem? (i := 33) rfl))) rfl
theorem q994 : Cond.code yX11_existingSpool prog_13_method_3_code 3 (some .int) ∈ lw_U := mU (mT (mT5 (List.mem_of_getElem? (i := 34) rfl))) rfl
theorem q995 : Cond.methodLink RX11 63 yX9_indexOf ∈ lw_U := mU (mT (mT5 (List.mem_of_getElem? (i := 35) rfl))) rfl
theorem q996 : Cond.classLink RX11 67 "java/util/NoSuchElementException" ∈ lw_U := mU (mT (mT5 (List.mem_of_getElem? (i := 36) rfl))) rfl
theorem q997 : Cond.instantiable "java/util/NoSuchElementException" 6 ∈ lw_U := mU (mT (mT5 (List.mem_of_getElem? (i := 37) rfl))) rfl
theorem q998 : Cond.castable "java/util/NoSuchElementException" "java/util/NoSuchElementException" ∈ lw_N := nN (mT5 (List.mem_of_getElem? (i := 38) rfl)) rfl
theorem q999 : Cond.selects "java/util/NoSuchElementException" ⟨"java/lang/Throwable", "fillInStackTrace", "(I)Ljava/lang/Throwable;"⟩ ⟨"java/lang/Throwable", "fillInStackTrace", "(I)Ljava/lang/Throwable;"⟩ ∈ lw_U := mU (mT (mT5 (List.mem_of_getElem? (i := 39) rfl))) rfl
theorem q1006 : Cond.methodLink RX11 71 ⟨"java/util/NoSuchElementException", "<init>", "(Ljava/lang/String;)V"⟩ ∈ lw_U := mU (mT (mT5 (List.mem_of_getElem? (i := 46) rfl))) rfl
theorem q1007 : Cond.instanceMethod ⟨"java/util/NoSuchElementException", "<init>", "(Ljava/lang/String;)V"⟩ ∈ lw_U := mU (mT (mT5 (List.mem_of_getElem? (i := 47) rfl))) rfl
theorem q1008 : Cond.code ⟨"java/util/NoSuchElementException", "<init>", "(Ljava/lang/String;)V"⟩ prog_44_method_4_code 2 none ∈ lw_U := mU (mT (mT5 (List.mem_of_getElem? (i := 48) rfl))) rfl
theorem q1009 : Cond.methodLink "java/util/NoSuchElementException" 13 ⟨"java/lang/RuntimeException", "<init>", "(Ljava/lang/String;)V"⟩ ∈ lw_U := mU (mT (mT5 (List.mem_of_getElem? (i := 49) rfl))) rfl
theorem q1012 : Cond.methodLink RX11 118 yX9_lengthAt ∈ lw_U := mU (mT (mT5 (List.mem_of_getElem? (i := 52) rfl))) rfl
theorem q1013 : Cond.methodLink RX11 121 yX9_materialAt ∈ lw_U := mU (mT (mT5 (List.mem_of_getElem? (i := 53) rfl))) rfl
theorem q1014 : Cond.methodLink RX11 125 yX8_keepOrThrow ∈ lw_U := mU (mT (mT5 (List.mem_of_getElem? (i := 54) rfl))) rfl
theorem q1015 : Cond.instanceMethod yX8_keepOrThrow ∈ lw_U := mU (mT (mT5 (List.mem_of_getElem? (i := 55) rfl))) rfl
theorem q1016 : Cond.selects RX8 yX8_keepOrThrow yX8_keepOrThrow ∈ lw_U := mU (mT (mT5 (List.mem_of_getElem? (i := 56) rfl))) rfl
theorem q1017 : Cond.code yX8_keepOrThrow prog_10_method_9_code 4 none ∈ lw_U := mU (mT (mT5 (List.mem_of_getElem? (i := 57) rfl))) rfl
theorem q1018 : Cond.methodLink RX8 46 yX7_increase ∈ lw_U := mU (mT (mT5 (List.mem_of_getElem? (i := 58) rfl))) rfl
theorem q1019 : Cond.methodLink RX8 50 yX7_insert ∈ lw_U := mU (mT (mT5 (List.mem_of_getElem? (i := 59) rfl))) rfl
theorem q1020 : Cond.instanceMethod yX7_insert ∈ lw_U := mU (mT (mT5 (List.mem_of_getElem? (i := 60) rfl))) rfl
theorem q1021 : Cond.selects RX7 yX7_insert yX7_insert ∈ lw_U := mU (mT (mT5 (List.mem_of_getElem? (i := 61) rfl))) rfl
theorem q1022 : Cond.code yX7_insert prog_9_method_8_code 4 none ∈ lw_U := mU (mT (mT5 (List.mem_of_getElem? (i := 62) rfl))) rfl
theorem q1023 : Cond.methodLink RX11 129 yX9_removeAt ∈ lw_U := mU (mT (mT5 (List.mem_of_getElem? (i := 63) rfl))) rfl
theorem q1024 : Cond.instanceMethod yX9_removeAt ∈ lw_U := mU (mT (mT5 (List.mem_of_getElem? (i := 64) rfl))) rfl
theorem q1025 : Cond.selects RX9 yX9_removeAt yX9_removeAt ∈ lw_U := mU (mT (mT5 (List.mem_of_getElem? (i := 65) rfl))) rfl
theorem q1026 : Cond.code yX9_removeAt prog_11_method_13_code 2 none ∈ lw_U := mU (mT (mT5 (List.mem_of_getElem? (i := 66) rfl))) rfl
theorem q1027 : Cond.methodLink RX9 64 yX7_removeAt ∈ lw_U := mU (mT (mT5 (List.mem_of_getElem? (i := 67) rfl))) rfl
theorem q1028 : Cond.instanceMethod yX7_removeAt ∈ lw_U := mU (mT (mT5 (List.mem_of_getElem? (i := 68) rfl))) rfl
theorem q1029 : Cond.selects RX7 yX7_removeAt yX7_removeAt ∈ lw_U := mU (mT (mT5 (List.mem_of_getElem? (i := 69) rfl))) rfl
theorem q1030 : Cond.code yX7_removeAt prog_9_method_9_code 3 none ∈ lw_U := mU (mT (mT5 (List.mem_of_getElem? (i := 70) rfl))) rfl
theorem q1031 : Cond.methodLink RL 165 yL_throwScraps ∈ lw_U := mU (mT (mT5 (List.mem_of_getElem? (i := 71) rfl))) rfl
theorem q1032 : Cond.static yL_throwScraps ∈ lw_U := mU (mT (mT5 (List.mem_of_getElem? (i := 72) rfl))) rfl
theorem q1033 : Cond.codeWith yL_throwScraps method_5_code 4 (some .int) [(0, 9, 12, 13)] ∈ lw_U := mU (mT (mT5 (List.mem_of_getElem? (i := 73) rfl))) rfl
theorem q1034 : Cond.methodLink RL 23 yX12_throwScraps ∈ lw_U := mU (mT (mT5 (List.mem_of_getElem? (i := 74) rfl))) rfl
theorem q1035 : Cond.instanceMethod yX12_throwScraps ∈ lw_U := mU (mT (mT5 (List.mem_of_getElem? (i := 75) rfl))) rfl
theorem q1036 : Cond.selects RX12 yX12_throwScraps yX12_throwScraps ∈ lw_U := mU (mT (mT5 (List.mem_of_getElem? (i := 76) rfl))) rfl
theorem q1037 : Cond.code yX12_throwScraps prog_1_method_4_code 3 (some .int) ∈ lw_U := mU (mT (mT5 (List.mem_of_getElem? (i := 77) rfl))) rfl
theorem q1038 : Cond.methodLink RX12 73 yX11_clearScraps ∈ lw_U := mU (mT (mT5 (List.mem_of_getElem? (i := 78) rfl))) rfl
theorem q1039 : Cond.instanceMethod yX11_clearScraps ∈ lw_U := mU (mT (mT5 (List.mem_of_getElem? (i := 79) rfl))) rfl
theorem q1040 : Cond.selects RX11 yX11_clearScraps yX11_clearScraps ∈ lw_U := mU (mT (mT5 (List.mem_of_getElem? (i := 80) rfl))) rfl
theorem q1041 : Cond.code yX11_clearScraps prog_13_method_7_code 2 (some .int) ∈ lw_U := mU (mT (mT5 (List.mem_of_getElem? (i := 81) rfl))) rfl
theorem q1042 : Cond.methodLink RX11 133 yX8_throwAll ∈ lw_U := mU (mT (mT5 (List.mem_of_getElem? (i := 82) rfl))) rfl
theorem q1043 : Cond.instanceMethod yX8_throwAll ∈ lw_U := mU (mT (mT5 (List.mem_of_getElem? (i := 83) rfl))) rfl
theorem q1044 : Cond.selects RX8 yX8_throwAll yX8_throwAll ∈ lw_U := mU (mT (mT5 (List.mem_of_getElem? (i := 84) rfl))) rfl
theorem q1045 : Cond.code yX8_throwAll prog_10_method_11_code 4 (some .int) ∈ lw_U := mU (mT (mT5 (List.mem_of_getElem? (i := 85) rfl))) rfl
theorem q1046 : Cond.methodLink RX8 56 yX8_sumOf ∈ lw_U := mU (mT (mT5 (List.mem_of_getElem? (i := 86) rfl))) rfl
theorem q1047 : Cond.methodLink RX8 59 yX8_removeAt ∈ lw_U := mU (mT (mT5 (List.mem_of_getElem? (i := 87) rfl))) rfl
theorem q1048 : Cond.instanceMethod yX8_removeAt ∈ lw_U := mU (mT (mT5 (List.mem_of_getElem? (i := 88) rfl))) rfl
theorem q1049 : Cond.selects RX8 yX8_removeAt yX8_removeAt ∈ lw_U := mU (mT (mT5 (List.mem_of_getElem? (i := 89) rfl))) rfl
theorem q1050 : Cond.code yX8_removeAt prog_10_method_10_code 2 none ∈ lw_U := mU (mT (mT5 (List.mem_of_getElem? (i := 90) rfl))) rfl
theorem q1051 : Cond.methodLink RX8 53 yX7_removeAt ∈ lw_U := mU (mT (mT5 (List.mem_of_getElem? (i := 91) rfl))) rfl
theorem q1052 : Cond.methodLink RL 169 yL_addOrder ∈ lw_U := mU (mT (mT5 (List.mem_of_getElem? (i := 92) rfl))) rfl
theorem q1053 : Cond.static yL_addOrder ∈ lw_U := mU (mT (mT5 (List.mem_of_getElem? (i := 93) rfl))) rfl
theorem q1054 : Cond.codeWith yL_addOrder method_6_code 6 (some .int) [(0, 12, 15, 13), (0, 12, 19, 15)] ∈ lw_U := mU (mT (mT5 (List.mem_of_getElem? (i := 94) rfl))) rfl
theorem q1055 : Cond.methodLink RL 27 yX12_addOrder ∈ lw_U := mU (mT (mT5 (List.mem_of_getElem? (i := 95) rfl))) rfl
theorem q1056 : Cond.instanceMethod yX12_addOrder ∈ lw_U := mU (mT (mT5 (List.mem_of_getElem? (i := 96) rfl))) rfl
theorem q1057 : Cond.selects RX12 yX12_addOrder yX12_addOrder ∈ lw_U := mU (mT (mT5 (List.mem_of_getElem? (i := 97) rfl))) rfl
theorem q1058 : Cond.code yX12_addOrder prog_1_method_5_code 5 (some .int) ∈ lw_U := mU (mT (mT5 (List.mem_of_getElem? (i := 98) rfl))) rfl
theorem q1059 : Cond.methodLink RX12 77 yX11_takeOrder ∈ lw_U := mU (mT (mT5 (List.mem_of_getElem? (i := 99) rfl))) rfl
theorem q1060 : Cond.instanceMethod yX11_takeOrder ∈ lw_U := mU (mT (mT5 (List.mem_of_getElem? (i := 100) rfl))) rfl
theorem q1061 : Cond.selects RX11 yX11_takeOrder yX11_takeOrder ∈ lw_U := mU (mT (mT5 (List.mem_of_getElem? (i := 101) rfl))) rfl
theorem q1062 : Cond.code yX11_takeOrder prog_13_method_8_code 4 (some .int) ∈ lw_U := mU (mT (mT5 (List.mem_of_getElem? (i := 102) rfl))) rfl
theorem q1063 : Cond.methodLink RX11 136 yX11_requireDay ∈ lw_U := mU (mT (mT5 (List.mem_of_getElem? (i := 103) rfl))) rfl
theorem q1064 : Cond.static yX11_requireDay ∈ lw_U := mU (mT (mT5 (List.mem_of_getElem? (i := 104) rfl))) rfl
theorem q1065 : Cond.code yX11_requireDay prog_13_method_24_code 1 none ∈ lw_U := mU (mT (mT5 (List.mem_of_getElem? (i := 105) rfl))) rfl
theorem q1067 : Cond.methodLink RX11 139 yX5_count ∈ lw_U := mU (mT (mT5 (List.mem_of_getElem? (i := 107) rfl))) rfl
theorem q1069 : Cond.methodLink RX11 142 yX5_add ∈ lw_U := mU (mT (mT5 (List.mem_of_getElem? (i := 109) rfl))) rfl
theorem q1070 : Cond.instanceMethod yX5_add ∈ lw_U := mU (mT (mT5 (List.mem_of_getElem? (i := 110) rfl))) rfl
theorem q1071 : Cond.selects RX5 yX5_add yX5_add ∈ lw_U := mU (mT (mT5 (List.mem_of_getElem? (i := 111) rfl))) rfl
theorem q1072 : Cond.code yX5_add prog_7_method_9_code 6 (some .int) ∈ lw_U := mU (mT (mT5 (List.mem_of_getElem? (i := 112) rfl))) rfl
theorem q1073 : Cond.methodLink RX5 51 yX7_insert ∈ lw_U := mU (mT (mT5 (List.mem_of_getElem? (i := 113) rfl))) rfl
theorem q1074 : Cond.methodLink RL 173 yL_cancel ∈ lw_U := mU (mT (mT5 (List.mem_of_getElem? (i := 114) rfl))) rfl
theorem q1075 : Cond.static yL_cancel ∈ lw_U := mU (mT (mT5 (List.mem_of_getElem? (i := 115) rfl))) rfl
theorem q1076 : Cond.codeWith yL_cancel method_7_code 4 (some .int) [(0, 9, 12, 21)] ∈ lw_U := mU (mT (mT5 (List.mem_of_getElem? (i := 116) rfl))) rfl
theorem q1077 : Cond.methodLink RL 31 yX12_cancel ∈ lw_U := mU (mT (mT5 (List.mem_of_getElem? (i := 117) rfl))) rfl
theorem q1078 : Cond.instanceMethod yX12_cancel ∈ lw_U := mU (mT (mT5 (List.mem_of_getElem? (i := 118) rfl))) rfl
theorem q1079 : Cond.selects RX12 yX12_cancel yX12_cancel ∈ lw_U := mU (mT (mT5 (List.mem_of_getElem? (i := 119) rfl))) rfl
theorem q1080 : Cond.code yX12_cancel prog_1_method_6_code 3 (some .int) ∈ lw_U := mU (mT (mT5 (List.mem_of_getElem? (i := 120) rfl))) rfl
theorem q1081 : Cond.methodLink RX12 81 yX11_cancelOrder ∈ lw_U := mU (mT (mT5 (List.mem_of_getElem? (i := 121) rfl))) rfl
theorem q1082 : Cond.instanceMethod yX11_cancelOrder ∈ lw_U := mU (mT (mT5 (List.mem_of_getElem? (i := 122) rfl))) rfl
theorem q1083 : Cond.selects RX11 yX11_cancelOrder yX11_cancelOrder ∈ lw_U := mU (mT (mT5 (List.mem_of_getElem? (i := 123) rfl))) rfl
theorem q1084 : Cond.code yX11_cancelOrder prog_13_method_9_code 3 (some .int) ∈ lw_U := mU (mT (mT5 (List.mem_of_getElem? (i := 124) rfl))) rfl
theorem q1085 : Cond.methodLink RX11 145 yX11_openOrder ∈ lw_U := mU (mT (mT5 (List.mem_of_getElem? (i := 125) rfl))) rfl
theorem q1086 : Cond.instanceMethod yX11_openOrder ∈ lw_U := mU (mT (mT5 (List.mem_of_getElem? (i := 126) rfl))) rfl
theorem q1087 : Cond.selects RX11 yX11_openOrder yX11_openOrder ∈ lw_U := mU (mT (mT5 (List.mem_of_getElem? (i := 127) rfl))) rfl
theorem q1088 : Cond.code yX11_openOrder prog_13_method_4_code 3 (some .int) ∈ lw_U := mU (mT (mT5 (List.mem_of_getElem? (i := 128) rfl))) rfl
theorem q1089 : Cond.methodLink RX11 74 yX5_positionOf ∈ lw_U := mU (mT (mT5 (List.mem_of_getElem? (i := 129) rfl))) rfl
theorem q1091 : Cond.methodLink RX11 148 yX5_removeAt ∈ lw_U := mU (mT (mT5 (List.mem_of_getElem? (i := 131) rfl))) rfl
theorem q1092 : Cond.instanceMethod yX5_removeAt ∈ lw_U := mU (mT (mT5 (List.mem_of_getElem? (i := 132) rfl))) rfl
theorem q1093 : Cond.selects RX5 yX5_removeAt yX5_removeAt ∈ lw_U := mU (mT (mT5 (List.mem_of_getElem? (i := 133) rfl))) rfl
theorem q1094 : Cond.code yX5_removeAt prog_7_method_10_code 2 none ∈ lw_U := mU (mT (mT5 (List.mem_of_getElem? (i := 134) rfl))) rfl
theorem q1095 : Cond.methodLink RX5 55 yX7_removeAt ∈ lw_U := mU (mT (mT5 (List.mem_of_getElem? (i := 135) rfl))) rfl
theorem q1096 : Cond.methodLink RL 176 yL_fill ∈ lw_U := mU (mT (mT5 (List.mem_of_getElem? (i := 136) rfl))) rfl
theorem q1097 : Cond.static yL_fill ∈ lw_U := mU (mT (mT5 (List.mem_of_getElem? (i := 137) rfl))) rfl
theorem q1098 : Cond.codeWith yL_fill method_8_code 4 (some .int) [(0, 9, 12, 21), (0, 9, 15, 37)] ∈ lw_U := mU (mT (mT5 (List.mem_of_getElem? (i := 138) rfl))) rfl
theorem q1099 : Cond.classLink RL 37 "java/lang/UnsupportedOperationException" ∈ lw_U := mU (mT (mT5 (List.mem_of_getElem? (i := 139) rfl))) rfl
theorem q1100 : Cond.methodLink RL 34 yX12_fill ∈ lw_U := mU (mT (mT5 (List.mem_of_getElem? (i := 140) rfl))) rfl
theorem q1101 : Cond.instanceMethod yX12_fill ∈ lw_U := mU (mT (mT5 (List.mem_of_getElem? (i := 141) rfl))) rfl
theorem q1102 : Cond.selects RX12 yX12_fill yX12_fill ∈ lw_U := mU (mT (mT5 (List.mem_of_getElem? (i := 142) rfl))) rfl
theorem q1103 : Cond.code yX12_fill prog_1_method_7_code 3 (some .int) ∈ lw_U := mU (mT (mT5 (List.mem_of_getElem? (i := 143) rfl))) rfl
theorem q1104 : Cond.methodLink RX12 84 yX11_fillOrder ∈ lw_U := mU (mT (mT5 (List.mem_of_getElem? (i := 144) rfl))) rfl
theorem q1105 : Cond.instanceMethod yX11_fillOrder ∈ lw_U := mU (mT (mT5 (List.mem_of_getElem? (i := 145) rfl))) rfl
theorem q1106 : Cond.selects RX11 yX11_fillOrder yX11_fillOrder ∈ lw_U := mU (mT (mT5 (List.mem_of_getElem? (i := 146) rfl))) rfl
theorem q1107 : Cond.code yX11_fillOrder prog_13_method_10_code 3 (some .int) ∈ lw_U := mU (mT (mT5 (List.mem_of_getElem? (i := 147) rfl))) rfl
theorem q1108 : Cond.methodLink RX11 149 yX11_isFillable ∈ lw_U := mU (mT (mT5 (List.mem_of_getElem? (i := 148) rfl))) rfl
theorem q1109 : Cond.instanceMethod yX11_isFillable ∈ lw_U := mU (mT (mT5 (List.mem_of_getElem? (i := 149) rfl))) rfl
theorem q1110 : Cond.selects RX11 yX11_isFillable yX11_isFillable ∈ lw_U := mU (mT (mT5 (List.mem_of_getElem? (i := 150) rfl))) rfl
theorem q1111 : Cond.code yX11_isFillable prog_13_method_16_code 4 (some .boolean) ∈ lw_U := mU (mT (mT5 (List.mem_of_getElem? (i := 151) rfl))) rfl
theorem q1112 : Cond.methodLink RX11 231 yX5_materialAt ∈ lw_U := mU (mT (mT5 (List.mem_of_getElem? (i := 152) rfl))) rfl
theorem q1113 : Cond.methodLink RX11 232 yX5_lengthAt ∈ lw_U := mU (mT (mT5 (List.mem_of_getElem? (i := 153) rfl))) rfl
theorem q1114 : Cond.methodLink RX11 233 yX8_shortestFor ∈ lw_U := mU (mT (mT5 (List.mem_of_getElem? (i := 154) rfl))) rfl
theorem q1115 : Cond.instanceMethod yX8_shortestFor ∈ lw_U := mU (mT (mT5 (List.mem_of_getElem? (i := 155) rfl))) rfl
theorem q1116 : Cond.selects RX8 yX8_shortestFor yX8_shortestFor ∈ lw_U := mU (mT (mT5 (List.mem_of_getElem? (i := 156) rfl))) rfl
theorem q1117 : Cond.code yX8_shortestFor prog_10_method_8_code 4 (some .int) ∈ lw_U := mU (mT (mT5 (List.mem_of_getElem? (i := 157) rfl))) rfl
theorem q1118 : Cond.methodLink RX11 236 yX9_choose ∈ lw_U := mU (mT (mT5 (List.mem_of_getElem? (i := 158) rfl))) rfl
theorem q1119 : Cond.instanceMethod yX9_choose ∈ lw_U := mU (mT (mT5 (List.mem_of_getElem? (i := 159) rfl))) rfl
theorem q1120 : Cond.selects RX9 yX9_choose yX9_choose ∈ lw_U := mU (mT (mT5 (List.mem_of_getElem? (i := 160) rfl))) rfl
theorem q1121 : Cond.code yX9_choose prog_11_method_14_code 7 (some .int) ∈ lw_U := mU (mT (mT5 (List.mem_of_getElem? (i := 161) rfl))) rfl
theorem q1122 : Cond.methodLink RX9 67 yX9_isPreferred ∈ lw_U := mU (mT (mT5 (List.mem_of_getElem? (i := 162) rfl))) rfl
theorem q1123 : Cond.static yX9_isPreferred ∈ lw_U := mU (mT (mT5 (List.mem_of_getElem? (i := 163) rfl))) rfl
theorem q1124 : Cond.code yX9_isPreferred prog_11_method_15_code 3 (some .boolean) ∈ lw_U := mU (mT (mT5 (List.mem_of_getElem? (i := 164) rfl))) rfl
theorem q1125 : Cond.classLink RX11 153 "java/lang/UnsupportedOperationException" ∈ lw_U := mU (mT (mT5 (List.mem_of_getElem? (i := 165) rfl))) rfl
theorem q1126 : Cond.instantiable "java/lang/UnsupportedOperationException" 6 ∈ lw_U := mU (mT (mT5 (List.mem_of_getElem? (i := 166) rfl))) rfl
theorem q1127 : Cond.castable "java/lang/UnsupportedOperationException" "java/lang/UnsupportedOperationException" ∈ lw_N := nN (mT5 (List.mem_of_getElem? (i := 167) rfl)) rfl
theorem q1128 : Cond.selects "java/lang/UnsupportedOperationException" ⟨"java/lang/Throwable", "fillInStackTrace", "(I)Ljava/lang/Throwable;"⟩ ⟨"java/lang/Throwable", "fillInStackTrace", "(I)Ljava/lang/Throwable;"⟩ ∈ lw_U := mU (mT (mT5 (List.mem_of_getElem? (i := 168) rfl))) rfl
theorem q1135 : Cond.methodLink RX11 157 ⟨"java/lang/UnsupportedOperationException", "<init>", "(Ljava/lang/String;)V"⟩ ∈ lw_U := mU (mT (mT5 (List.mem_of_getElem? (i := 175) rfl))) rfl
theorem q1136 : Cond.instanceMethod ⟨"java/lang/UnsupportedOperationException", "<init>", "(Ljava/lang/String;)V"⟩ ∈ lw_U := mU (mT (mT5 (List.mem_of_getElem? (i := 176) rfl))) rfl
theorem q1137 : Cond.code ⟨"java/lang/UnsupportedOperationException", "<init>", "(Ljava/lang/String;)V"⟩ prog_40_method_2_code 2 none ∈ lw_U := mU (mT (mT5 (List.mem_of_getElem? (i := 177) rfl))) rfl
theorem q1138 : Cond.methodLink "java/lang/UnsupportedOperationException" 7 ⟨"java/lang/RuntimeException", "<init>", "(Ljava/lang/String;)V"⟩ ∈ lw_U := mU (mT (mT5 (List.mem_of_getElem? (i := 178) rfl))) rfl
theorem q1141 : Cond.methodLink RX11 158 yX11_fillAt ∈ lw_U := mU (mT (mT5 (List.mem_of_getElem? (i := 181) rfl))) rfl
theorem q1143 : Cond.instanceMethod yX11_fillAt ∈ lw_U := mU (mT (mT5 (List.mem_of_getElem? (i := 183) rfl))) rfl
theorem q1144 : Cond.code yX11_fillAt prog_13_method_20_code 7 (some .int) ∈ lw_U := mU (mT (mT5 (List.mem_of_getElem? (i := 184) rfl))) rfl
theorem q1145 : Cond.methodLink RX11 256 yX11_cutScrap ∈ lw_U := mU (mT (mT5 (List.mem_of_getElem? (i := 185) rfl))) rfl
theorem q1147 : Cond.instanceMethod yX11_cutScrap ∈ lw_U := mU (mT (mT5 (List.mem_of_getElem? (i := 187) rfl))) rfl
theorem q1148 : Cond.code yX11_cutScrap prog_13_method_21_code 5 none ∈ lw_U := mU (mT (mT5 (List.mem_of_getElem? (i := 188) rfl))) rfl
theorem q1149 : Cond.methodLink RX11 269 yX8_lengthAt ∈ lw_U := mU (mT (mT5 (List.mem_of_getElem? (i := 189) rfl))) rfl
theorem q1150 : Cond.instanceMethod yX8_lengthAt ∈ lw_U := mU (mT (mT5 (List.mem_of_getElem? (i := 190) rfl))) rfl
theorem q1151 : Cond.selects RX8 yX8_lengthAt yX8_lengthAt ∈ lw_U := mU (mT (mT5 (List.mem_of_getElem? (i := 191) rfl))) rfl
theorem q1152 : Cond.code yX8_lengthAt prog_10_method_3_code 2 (some .int) ∈ lw_U := mU (mT (mT5 (List.mem_of_getElem? (i := 192) rfl))) rfl
theorem q1153 : Cond.methodLink RX11 270 yX11_lose ∈ lw_U := mU (mT (mT5 (List.mem_of_getElem? (i := 193) rfl))) rfl
theorem q1155 : Cond.instanceMethod yX11_lose ∈ lw_U := mU (mT (mT5 (List.mem_of_getElem? (i := 195) rfl))) rfl
theorem q1156 : Cond.code yX11_lose prog_13_method_23_code 4 (some .int) ∈ lw_U := mU (mT (mT5 (List.mem_of_getElem? (i := 196) rfl))) rfl
theorem q1157 : Cond.methodLink RX11 273 yX8_removeAt ∈ lw_U := mU (mT (mT5 (List.mem_of_getElem? (i := 197) rfl))) rfl
theorem q1158 : Cond.methodLink RX11 260 yX9_numberAt ∈ lw_U := mU (mT (mT5 (List.mem_of_getElem? (i := 198) rfl))) rfl
theorem q1159 : Cond.instanceMethod yX9_numberAt ∈ lw_U := mU (mT (mT5 (List.mem_of_getElem? (i := 199) rfl))) rfl
theorem q1160 : Cond.selects RX9 yX9_numberAt yX9_numberAt ∈ lw_U := mU (mT (mT5 (List.mem_of_getElem? (i := 200) rfl))) rfl
theorem q1161 : Cond.code yX9_numberAt prog_11_method_5_code 2 (some .int) ∈ lw_U := mU (mT (mT5 (List.mem_of_getElem? (i := 201) rfl))) rfl
theorem q1162 : Cond.methodLink RX11 263 yX11_cutSpool ∈ lw_U := mU (mT (mT5 (List.mem_of_getElem? (i := 202) rfl))) rfl
theorem q1164 : Cond.instanceMethod yX11_cutSpool ∈ lw_U := mU (mT (mT5 (List.mem_of_getElem? (i := 204) rfl))) rfl
theorem q1165 : Cond.code yX11_cutSpool prog_13_method_22_code 5 none ∈ lw_U := mU (mT (mT5 (List.mem_of_getElem? (i := 205) rfl))) rfl
theorem q1166 : Cond.methodLink RX11 274 yX9_shorten ∈ lw_U := mU (mT (mT5 (List.mem_of_getElem? (i := 206) rfl))) rfl
theorem q1167 : Cond.instanceMethod yX9_shorten ∈ lw_U := mU (mT (mT5 (List.mem_of_getElem? (i := 207) rfl))) rfl
theorem q1168 : Cond.selects RX9 yX9_shorten yX9_shorten ∈ lw_U := mU (mT (mT5 (List.mem_of_getElem? (i := 208) rfl))) rfl
theorem q1169 : Cond.code yX9_shorten prog_11_method_12_code 3 none ∈ lw_U := mU (mT (mT5 (List.mem_of_getElem? (i := 209) rfl))) rfl
theorem q1170 : Cond.methodLink RX9 57 yX7_set ∈ lw_U := mU (mT (mT5 (List.mem_of_getElem? (i := 210) rfl))) rfl
theorem q1171 : Cond.instanceMethod yX7_set ∈ lw_U := mU (mT (mT5 (List.mem_of_getElem? (i := 211) rfl))) rfl
theorem q1172 : Cond.selects RX7 yX7_set yX7_set ∈ lw_U := mU (mT (mT5 (List.mem_of_getElem? (i := 212) rfl))) rfl
theorem q1173 : Cond.code yX7_set prog_9_method_6_code 3 none ∈ lw_U := mU (mT (mT5 (List.mem_of_getElem? (i := 213) rfl))) rfl
theorem q1174 : Cond.methodLink RX9 61 yX7_increase ∈ lw_U := mU (mT (mT5 (List.mem_of_getElem? (i := 214) rfl))) rfl
theorem q1175 : Cond.methodLink RL 179 yL_fillDue ∈ lw_U := mU (mT (mT5 (List.mem_of_getElem? (i := 215) rfl))) rfl
theorem q1176 : Cond.static yL_fillDue ∈ lw_U := mU (mT (mT5 (List.mem_of_getElem? (i := 216) rfl))) rfl
theorem q1177 : Cond.codeWith yL_fillDue method_9_code 4 (some .int) [(0, 9, 12, 13)] ∈ lw_U := mU (mT (mT5 (List.mem_of_getElem? (i := 217) rfl))) rfl
theorem q1178 : Cond.methodLink RL 39 yX12_fillDue ∈ lw_U := mU (mT (mT5 (List.mem_of_getElem? (i := 218) rfl))) rfl
theorem q1179 : Cond.instanceMethod yX12_fillDue ∈ lw_U := mU (mT (mT5 (List.mem_of_getElem? (i := 219) rfl))) rfl
theorem q1180 : Cond.selects RX12 yX12_fillDue yX12_fillDue ∈ lw_U := mU (mT (mT5 (List.mem_of_getElem? (i := 220) rfl))) rfl
theorem q1181 : Cond.code yX12_fillDue prog_1_method_8_code 3 (some .int) ∈ lw_U := mU (mT (mT5 (List.mem_of_getElem? (i := 221) rfl))) rfl
theorem q1182 : Cond.methodLink RX12 87 yX11_fillUntil ∈ lw_U := mU (mT (mT5 (List.mem_of_getElem? (i := 222) rfl))) rfl
theorem q1183 : Cond.instanceMethod yX11_fillUntil ∈ lw_U := mU (mT (mT5 (List.mem_of_getElem? (i := 223) rfl))) rfl
theorem q1184 : Cond.selects RX11 yX11_fillUntil yX11_fillUntil ∈ lw_U := mU (mT (mT5 (List.mem_of_getElem? (i := 224) rfl))) rfl
theorem q1185 : Cond.code yX11_fillUntil prog_13_method_11_code 5 (some .int) ∈ lw_U := mU (mT (mT5 (List.mem_of_getElem? (i := 225) rfl))) rfl
theorem q1186 : Cond.methodLink RX11 161 yX5_dueAt ∈ lw_U := mU (mT (mT5 (List.mem_of_getElem? (i := 226) rfl))) rfl
theorem q1187 : Cond.methodLink RL 182 yL_setKerf ∈ lw_U := mU (mT (mT5 (List.mem_of_getElem? (i := 227) rfl))) rfl
theorem q1188 : Cond.static yL_setKerf ∈ lw_U := mU (mT (mT5 (List.mem_of_getElem? (i := 228) rfl))) rfl
theorem q1189 : Cond.codeWith yL_setKerf method_10_code 4 (some .int) [(0, 9, 12, 13)] ∈ lw_U := mU (mT (mT5 (List.mem_of_getElem? (i := 229) rfl))) rfl
theorem q1190 : Cond.methodLink RL 42 yX12_setKerf ∈ lw_U := mU (mT (mT5 (List.mem_of_getElem? (i := 230) rfl))) rfl
theorem q1191 : Cond.instanceMethod yX12_setKerf ∈ lw_U := mU (mT (mT5 (List.mem_of_getElem? (i := 231) rfl))) rfl
theorem q1192 : Cond.selects RX12 yX12_setKerf yX12_setKerf ∈ lw_U := mU (mT (mT5 (List.mem_of_getElem? (i := 232) rfl))) rfl
theorem q1193 : Cond.code yX12_setKerf prog_1_method_9_code 3 (some .int) ∈ lw_U := mU (mT (mT5 (List.mem_of_getElem? (i := 233) rfl))) rfl
theorem q1194 : Cond.methodLink RX12 90 yX11_changeKerf ∈ lw_U := mU (mT (mT5 (List.mem_of_getElem? (i := 234) rfl))) rfl
theorem q1195 : Cond.instanceMethod yX11_changeKerf ∈ lw_U := mU (mT (mT5 (List.mem_of_getElem? (i := 235) rfl))) rfl
theorem q1196 : Cond.selects RX11 yX11_changeKerf yX11_changeKerf ∈ lw_U := mU (mT (mT5 (List.mem_of_getElem? (i := 236) rfl))) rfl
theorem q1197 : Cond.code yX11_changeKerf prog_13_method_12_code 3 (some .int) ∈ lw_U := mU (mT (mT5 (List.mem_of_getElem? (i := 237) rfl))) rfl
theorem q1199 : Cond.methodLink RL 185 yL_setScrapLimit ∈ lw_U := mU (mT (mT5 (List.mem_of_getElem? (i := 239) rfl))) rfl
theorem q1200 : Cond.static yL_setScrapLimit ∈ lw_U := mU (mT (mT6 (List.mem_of_getElem? (i := 0) rfl))) rfl
theorem q1201 : Cond.codeWith yL_setScrapLimit method_11_code 4 (some .int) [(0, 9, 12, 13)] ∈ lw_U := mU (mT (mT6 (List.mem_of_getElem? (i := 1) rfl))) rfl
theorem q1202 : Cond.methodLink RL 45 yX12_setScrapLimit ∈ lw_U := mU (mT (mT6 (List.mem_of_getElem? (i := 2) rfl))) rfl
theorem q1203 : Cond.instanceMethod yX12_setScrapLimit ∈ lw_U := mU (mT (mT6 (List.mem_of_getElem? (i := 3) rfl))) rfl
theorem q1204 : Cond.selects RX12 yX12_setScrapLimit yX12_setScrapLimit ∈ lw_U := mU (mT (mT6 (List.mem_of_getElem? (i := 4) rfl))) rfl
theorem q1205 : Cond.code yX12_setScrapLimit prog_1_method_10_code 3 (some .int) ∈ lw_U := mU (mT (mT6 (List.mem_of_getElem? (i := 5) rfl))) rfl
theorem q1206 : Cond.methodLink RX12 93 yX11_changeScrapLimit ∈ lw_U := mU (mT (mT6 (List.mem_of_getElem? (i := 6) rfl))) rfl
theorem q1207 : Cond.instanceMethod yX11_changeScrapLimit ∈ lw_U := mU (mT (mT6 (List.mem_of_getElem? (i := 7) rfl))) rfl
theorem q1208 : Cond.selects RX11 yX11_changeScrapLimit yX11_changeScrapLimit ∈ lw_U := mU (mT (mT6 (List.mem_of_getElem? (i := 8) rfl))) rfl
theorem q1209 : Cond.code yX11_changeScrapLimit prog_13_method_13_code 3 (some .int) ∈ lw_U := mU (mT (mT6 (List.mem_of_getElem? (i := 9) rfl))) rfl
theorem q1211 : Cond.methodLink RL 188 yL_setRule ∈ lw_U := mU (mT (mT6 (List.mem_of_getElem? (i := 11) rfl))) rfl
theorem q1212 : Cond.static yL_setRule ∈ lw_U := mU (mT (mT6 (List.mem_of_getElem? (i := 12) rfl))) rfl
theorem q1213 : Cond.codeWith yL_setRule method_12_code 4 (some .int) [(0, 9, 12, 13)] ∈ lw_U := mU (mT (mT6 (List.mem_of_getElem? (i := 13) rfl))) rfl
theorem q1214 : Cond.methodLink RL 48 yX12_setRule ∈ lw_U := mU (mT (mT6 (List.mem_of_getElem? (i := 14) rfl))) rfl
theorem q1215 : Cond.instanceMethod yX12_setRule ∈ lw_U := mU (mT (mT6 (List.mem_of_getElem? (i := 15) rfl))) rfl
theorem q1216 : Cond.selects RX12 yX12_setRule yX12_setRule ∈ lw_U := mU (mT (mT6 (List.mem_of_getElem? (i := 16) rfl))) rfl
theorem q1217 : Cond.code yX12_setRule prog_1_method_11_code 3 (some .char) ∈ lw_U := mU (mT (mT6 (List.mem_of_getElem? (i := 17) rfl))) rfl
theorem q1218 : Cond.methodLink RX12 96 yX11_changeRule ∈ lw_U := mU (mT (mT6 (List.mem_of_getElem? (i := 18) rfl))) rfl
theorem q1219 : Cond.instanceMethod yX11_changeRule ∈ lw_U := mU (mT (mT6 (List.mem_of_getElem? (i := 19) rfl))) rfl
theorem q1220 : Cond.selects RX11 yX11_changeRule yX11_changeRule ∈ lw_U := mU (mT (mT6 (List.mem_of_getElem? (i := 20) rfl))) rfl
theorem q1221 : Cond.code yX11_changeRule prog_13_method_14_code 3 (some .char) ∈ lw_U := mU (mT (mT6 (List.mem_of_getElem? (i := 21) rfl))) rfl
theorem q1222 : Cond.methodLinkNest RX11 168 yX12_isRule RX12 ∈ lw_N := nN (mT6 (List.mem_of_getElem? (i := 22) rfl)) rfl
theorem q1223 : Cond.static yX12_isRule ∈ lw_U := mU (mT (mT6 (List.mem_of_getElem? (i := 23) rfl))) rfl
theorem q1224 : Cond.code yX12_isRule prog_1_method_57_code 1 (some .boolean) ∈ lw_U := mU (mT (mT6 (List.mem_of_getElem? (i := 24) rfl))) rfl
theorem q1226 : Cond.methodLink RL 212 yL_material ∈ lw_U := mU (mT (mT6 (List.mem_of_getElem? (i := 26) rfl))) rfl
theorem q1227 : Cond.static yL_material ∈ lw_U := mU (mT (mT6 (List.mem_of_getElem? (i := 27) rfl))) rfl
theorem q1228 : Cond.codeWith yL_material method_13_code 4 (some .int) [(0, 9, 12, 21)] ∈ lw_U := mU (mT (mT6 (List.mem_of_getElem? (i := 28) rfl))) rfl
theorem q1229 : Cond.methodLink RL 52 yX12_material ∈ lw_U := mU (mT (mT6 (List.mem_of_getElem? (i := 29) rfl))) rfl
theorem q1230 : Cond.instanceMethod yX12_material ∈ lw_U := mU (mT (mT6 (List.mem_of_getElem? (i := 30) rfl))) rfl
theorem q1231 : Cond.selects RX12 yX12_material yX12_material ∈ lw_U := mU (mT (mT6 (List.mem_of_getElem? (i := 31) rfl))) rfl
theorem q1232 : Cond.code yX12_material prog_1_method_17_code 2 (some .char) ∈ lw_U := mU (mT (mT6 (List.mem_of_getElem? (i := 32) rfl))) rfl
theorem q1233 : Cond.methodLink RX12 123 yX11_existingSpool ∈ lw_U := mU (mT (mT6 (List.mem_of_getElem? (i := 33) rfl))) rfl
theorem q1234 : Cond.methodLink RX12 126 yX9_materialAt ∈ lw_U := mU (mT (mT6 (List.mem_of_getElem? (i := 34) rfl))) rfl
theorem q1235 : Cond.methodLink RL 215 yL_remaining ∈ lw_U := mU (mT (mT6 (List.mem_of_getElem? (i := 35) rfl))) rfl
theorem q1236 : Cond.static yL_remaining ∈ lw_U := mU (mT (mT6 (List.mem_of_getElem? (i := 36) rfl))) rfl
theorem q1237 : Cond.codeWith yL_remaining method_14_code 4 (some .int) [(0, 9, 12, 21)] ∈ lw_U := mU (mT (mT6 (List.mem_of_getElem? (i := 37) rfl))) rfl
theorem q1238 : Cond.methodLink RL 56 yX12_remaining ∈ lw_U := mU (mT (mT6 (List.mem_of_getElem? (i := 38) rfl))) rfl
theorem q1239 : Cond.instanceMethod yX12_remaining ∈ lw_U := mU (mT (mT6 (List.mem_of_getElem? (i := 39) rfl))) rfl
theorem q1240 : Cond.selects RX12 yX12_remaining yX12_remaining ∈ lw_U := mU (mT (mT6 (List.mem_of_getElem? (i := 40) rfl))) rfl
theorem q1241 : Cond.code yX12_remaining prog_1_method_18_code 2 (some .int) ∈ lw_U := mU (mT (mT6 (List.mem_of_getElem? (i := 41) rfl))) rfl
theorem q1242 : Cond.methodLink RX12 130 yX9_lengthAt ∈ lw_U := mU (mT (mT6 (List.mem_of_getElem? (i := 42) rfl))) rfl
theorem q1243 : Cond.methodLink RL 218 yL_cuts ∈ lw_U := mU (mT (mT6 (List.mem_of_getElem? (i := 43) rfl))) rfl
theorem q1244 : Cond.static yL_cuts ∈ lw_U := mU (mT (mT6 (List.mem_of_getElem? (i := 44) rfl))) rfl
theorem q1245 : Cond.codeWith yL_cuts method_15_code 4 (some .int) [(0, 9, 12, 21)] ∈ lw_U := mU (mT (mT6 (List.mem_of_getElem? (i := 45) rfl))) rfl
theorem q1246 : Cond.methodLink RL 59 yX12_cuts ∈ lw_U := mU (mT (mT6 (List.mem_of_getElem? (i := 46) rfl))) rfl
theorem q1247 : Cond.instanceMethod yX12_cuts ∈ lw_U := mU (mT (mT6 (List.mem_of_getElem? (i := 47) rfl))) rfl
theorem q1248 : Cond.selects RX12 yX12_cuts yX12_cuts ∈ lw_U := mU (mT (mT6 (List.mem_of_getElem? (i := 48) rfl))) rfl
theorem q1249 : Cond.code yX12_cuts prog_1_method_19_code 2 (some .int) ∈ lw_U := mU (mT (mT6 (List.mem_of_getElem? (i := 49) rfl))) rfl
theorem q1250 : Cond.methodLink RX12 133 yX9_cutCountAt ∈ lw_U := mU (mT (mT6 (List.mem_of_getElem? (i := 50) rfl))) rfl
theorem q1251 : Cond.instanceMethod yX9_cutCountAt ∈ lw_U := mU (mT (mT6 (List.mem_of_getElem? (i := 51) rfl))) rfl
theorem q1252 : Cond.selects RX9 yX9_cutCountAt yX9_cutCountAt ∈ lw_U := mU (mT (mT6 (List.mem_of_getElem? (i := 52) rfl))) rfl
theorem q1253 : Cond.code yX9_cutCountAt prog_11_method_8_code 2 (some .int) ∈ lw_U := mU (mT (mT6 (List.mem_of_getElem? (i := 53) rfl))) rfl
theorem q1254 : Cond.methodLink RL 221 yL_spoolByLength ∈ lw_U := mU (mT (mT6 (List.mem_of_getElem? (i := 54) rfl))) rfl
theorem q1255 : Cond.static yL_spoolByLength ∈ lw_U := mU (mT (mT6 (List.mem_of_getElem? (i := 55) rfl))) rfl
theorem q1256 : Cond.codeWith yL_spoolByLength method_16_code 4 (some .int) [(0, 9, 12, 21)] ∈ lw_U := mU (mT (mT6 (List.mem_of_getElem? (i := 56) rfl))) rfl
theorem q1257 : Cond.methodLink RL 62 yX12_spoolByLength ∈ lw_U := mU (mT (mT6 (List.mem_of_getElem? (i := 57) rfl))) rfl
theorem q1258 : Cond.instanceMethod yX12_spoolByLength ∈ lw_U := mU (mT (mT6 (List.mem_of_getElem? (i := 58) rfl))) rfl
theorem q1259 : Cond.selects RX12 yX12_spoolByLength yX12_spoolByLength ∈ lw_U := mU (mT (mT6 (List.mem_of_getElem? (i := 59) rfl))) rfl
theorem q1260 : Cond.code yX12_spoolByLength prog_1_method_20_code 3 (some .int) ∈ lw_U := mU (mT (mT6 (List.mem_of_getElem? (i := 60) rfl))) rfl
theorem q1261 : Cond.methodLink RX12 136 yX9_indexOfRank ∈ lw_U := mU (mT (mT6 (List.mem_of_getElem? (i := 61) rfl))) rfl
theorem q1262 : Cond.instanceMethod yX9_indexOfRank ∈ lw_U := mU (mT (mT6 (List.mem_of_getElem? (i := 62) rfl))) rfl
theorem q1263 : Cond.selects RX9 yX9_indexOfRank yX9_indexOfRank ∈ lw_U := mU (mT (mT6 (List.mem_of_getElem? (i := 63) rfl))) rfl
theorem q1264 : Cond.code yX9_indexOfRank prog_11_method_16_code 3 (some .int) ∈ lw_U := mU (mT (mT6 (List.mem_of_getElem? (i := 64) rfl))) rfl
theorem q1265 : Cond.methodLink RX9 71 yX9_rankOf ∈ lw_U := mU (mT (mT6 (List.mem_of_getElem? (i := 65) rfl))) rfl
theorem q1267 : Cond.instanceMethod yX9_rankOf ∈ lw_U := mU (mT (mT6 (List.mem_of_getElem? (i := 67) rfl))) rfl
theorem q1268 : Cond.code yX9_rankOf prog_11_method_17_code 4 (some .int) ∈ lw_U := mU (mT (mT6 (List.mem_of_getElem? (i := 68) rfl))) rfl
theorem q1269 : Cond.methodLink RX9 74 yX9_isBefore ∈ lw_U := mU (mT (mT6 (List.mem_of_getElem? (i := 69) rfl))) rfl
theorem q1271 : Cond.instanceMethod yX9_isBefore ∈ lw_U := mU (mT (mT6 (List.mem_of_getElem? (i := 71) rfl))) rfl
theorem q1272 : Cond.code yX9_isBefore prog_11_method_18_code 3 (some .boolean) ∈ lw_U := mU (mT (mT6 (List.mem_of_getElem? (i := 72) rfl))) rfl
theorem q1273 : Cond.classLink RX12 139 "java/util/NoSuchElementException" ∈ lw_U := mU (mT (mT6 (List.mem_of_getElem? (i := 73) rfl))) rfl
theorem q1275 : Cond.methodLink RX12 143 ⟨"java/util/NoSuchElementException", "<init>", "(Ljava/lang/String;)V"⟩ ∈ lw_U := mU (mT (mT6 (List.mem_of_getElem? (i := 75) rfl))) rfl
theorem q1276 : Cond.methodLink RX12 146 yX9_numberAt ∈ lw_U := mU (mT (mT6 (List.mem_of_getElem? (i := 76) rfl))) rfl
theorem q1277 : Cond.methodLink RL 224 yL_scraps ∈ lw_U := mU (mT (mT6 (List.mem_of_getElem? (i := 77) rfl))) rfl
theorem q1278 : Cond.static yL_scraps ∈ lw_U := mU (mT (mT6 (List.mem_of_getElem? (i := 78) rfl))) rfl
theorem q1279 : Cond.codeWith yL_scraps method_17_code 4 (some .int) [(0, 9, 12, 13)] ∈ lw_U := mU (mT (mT6 (List.mem_of_getElem? (i := 79) rfl))) rfl
theorem q1280 : Cond.methodLink RL 65 yX12_scraps ∈ lw_U := mU (mT (mT6 (List.mem_of_getElem? (i := 80) rfl))) rfl
theorem q1281 : Cond.instanceMethod yX12_scraps ∈ lw_U := mU (mT (mT6 (List.mem_of_getElem? (i := 81) rfl))) rfl
theorem q1282 : Cond.selects RX12 yX12_scraps yX12_scraps ∈ lw_U := mU (mT (mT6 (List.mem_of_getElem? (i := 82) rfl))) rfl
theorem q1283 : Cond.code yX12_scraps prog_1_method_21_code 2 (some .int) ∈ lw_U := mU (mT (mT6 (List.mem_of_getElem? (i := 83) rfl))) rfl
theorem q1284 : Cond.methodLink RX12 149 yX12_requireMaterial ∈ lw_U := mU (mT (mT6 (List.mem_of_getElem? (i := 84) rfl))) rfl
theorem q1285 : Cond.methodLink RX12 157 yX8_countOf ∈ lw_U := mU (mT (mT6 (List.mem_of_getElem? (i := 85) rfl))) rfl
theorem q1286 : Cond.instanceMethod yX8_countOf ∈ lw_U := mU (mT (mT6 (List.mem_of_getElem? (i := 86) rfl))) rfl
theorem q1287 : Cond.selects RX8 yX8_countOf yX8_countOf ∈ lw_U := mU (mT (mT6 (List.mem_of_getElem? (i := 87) rfl))) rfl
theorem q1288 : Cond.code yX8_countOf prog_10_method_5_code 4 (some .int) ∈ lw_U := mU (mT (mT6 (List.mem_of_getElem? (i := 88) rfl))) rfl
theorem q1289 : Cond.methodLink RL 227 yL_scrap ∈ lw_U := mU (mT (mT6 (List.mem_of_getElem? (i := 89) rfl))) rfl
theorem q1290 : Cond.static yL_scrap ∈ lw_U := mU (mT (mT6 (List.mem_of_getElem? (i := 90) rfl))) rfl
theorem q1291 : Cond.codeWith yL_scrap method_18_code 5 (some .int) [(0, 10, 13, 13), (0, 10, 17, 21)] ∈ lw_U := mU (mT (mT6 (List.mem_of_getElem? (i := 91) rfl))) rfl
theorem q1292 : Cond.methodLink RL 68 yX12_scrap ∈ lw_U := mU (mT (mT6 (List.mem_of_getElem? (i := 92) rfl))) rfl
theorem q1293 : Cond.instanceMethod yX12_scrap ∈ lw_U := mU (mT (mT6 (List.mem_of_getElem? (i := 93) rfl))) rfl
theorem q1294 : Cond.selects RX12 yX12_scrap yX12_scrap ∈ lw_U := mU (mT (mT6 (List.mem_of_getElem? (i := 94) rfl))) rfl
theorem q1295 : Cond.code yX12_scrap prog_1_method_22_code 4 (some .int) ∈ lw_U := mU (mT (mT6 (List.mem_of_getElem? (i := 95) rfl))) rfl
theorem q1296 : Cond.methodLink RX12 162 yX8_indexOfRank ∈ lw_U := mU (mT (mT6 (List.mem_of_getElem? (i := 96) rfl))) rfl
theorem q1297 : Cond.instanceMethod yX8_indexOfRank ∈ lw_U := mU (mT (mT6 (List.mem_of_getElem? (i := 97) rfl))) rfl
theorem q1298 : Cond.selects RX8 yX8_indexOfRank yX8_indexOfRank ∈ lw_U := mU (mT (mT6 (List.mem_of_getElem? (i := 98) rfl))) rfl
theorem q1299 : Cond.code yX8_indexOfRank prog_10_method_7_code 5 (some .int) ∈ lw_U := mU (mT (mT6 (List.mem_of_getElem? (i := 99) rfl))) rfl
theorem q1300 : Cond.methodLink RX12 164 yX8_lengthAt ∈ lw_U := mU (mT (mT6 (List.mem_of_getElem? (i := 100) rfl))) rfl
theorem q1301 : Cond.methodLink RL 230 yL_bestLoad ∈ lw_U := mU (mT (mT6 (List.mem_of_getElem? (i := 101) rfl))) rfl
theorem q1302 : Cond.static yL_bestLoad ∈ lw_U := mU (mT (mT6 (List.mem_of_getElem? (i := 102) rfl))) rfl
theorem q1303 : Cond.codeWith yL_bestLoad method_19_code 4 (some .int) [(0, 9, 12, 21)] ∈ lw_U := mU (mT (mT6 (List.mem_of_getElem? (i := 103) rfl))) rfl
theorem q1304 : Cond.methodLink RL 71 yX12_bestLoad ∈ lw_U := mU (mT (mT6 (List.mem_of_getElem? (i := 104) rfl))) rfl
theorem q1305 : Cond.instanceMethod yX12_bestLoad ∈ lw_U := mU (mT (mT6 (List.mem_of_getElem? (i := 105) rfl))) rfl
theorem q1306 : Cond.selects RX12 yX12_bestLoad yX12_bestLoad ∈ lw_U := mU (mT (mT6 (List.mem_of_getElem? (i := 106) rfl))) rfl
theorem q1307 : Cond.code yX12_bestLoad prog_1_method_23_code 2 (some .int) ∈ lw_U := mU (mT (mT6 (List.mem_of_getElem? (i := 107) rfl))) rfl
theorem q1308 : Cond.methodLink RL 233 yL_bestLoadByRecursion ∈ lw_U := mU (mT (mT6 (List.mem_of_getElem? (i := 108) rfl))) rfl
theorem q1309 : Cond.static yL_bestLoadByRecursion ∈ lw_U := mU (mT (mT6 (List.mem_of_getElem? (i := 109) rfl))) rfl
theorem q1310 : Cond.codeWith yL_bestLoadByRecursion method_20_code 4 (some .int) [(0, 9, 12, 21)] ∈ lw_U := mU (mT (mT6 (List.mem_of_getElem? (i := 110) rfl))) rfl
theorem q1311 : Cond.methodLink RL 74 yX12_bestLoadByRecursion ∈ lw_U := mU (mT (mT6 (List.mem_of_getElem? (i := 111) rfl))) rfl
theorem q1312 : Cond.instanceMethod yX12_bestLoadByRecursion ∈ lw_U := mU (mT (mT6 (List.mem_of_getElem? (i := 112) rfl))) rfl
theorem q1313 : Cond.selects RX12 yX12_bestLoadByRecursion yX12_bestLoadByRecursion ∈ lw_U := mU (mT (mT6 (List.mem_of_getElem? (i := 113) rfl))) rfl
theorem q1314 : Cond.code yX12_bestLoadByRecursion prog_1_method_24_code 2 (some .int) ∈ lw_U := mU (mT (mT6 (List.mem_of_getElem? (i := 114) rfl))) rfl
theorem q1315 : Cond.methodLink RL 244 yL_orderMaterial ∈ lw_U := mU (mT (mT6 (List.mem_of_getElem? (i := 115) rfl))) rfl
theorem q1316 : Cond.static yL_orderMaterial ∈ lw_U := mU (mT (mT6 (List.mem_of_getElem? (i := 116) rfl))) rfl
theorem q1317 : Cond.codeWith yL_orderMaterial method_21_code 4 (some .int) [(0, 9, 12, 21)] ∈ lw_U := mU (mT (mT6 (List.mem_of_getElem? (i := 117) rfl))) rfl
theorem q1318 : Cond.methodLink RL 77 yX12_orderMaterial ∈ lw_U := mU (mT (mT6 (List.mem_of_getElem? (i := 118) rfl))) rfl
theorem q1319 : Cond.instanceMethod yX12_orderMaterial ∈ lw_U := mU (mT (mT6 (List.mem_of_getElem? (i := 119) rfl))) rfl
theorem q1320 : Cond.selects RX12 yX12_orderMaterial yX12_orderMaterial ∈ lw_U := mU (mT (mT6 (List.mem_of_getElem? (i := 120) rfl))) rfl
theorem q1321 : Cond.code yX12_orderMaterial prog_1_method_27_code 2 (some .char) ∈ lw_U := mU (mT (mT6 (List.mem_of_getElem? (i := 121) rfl))) rfl
theorem q1322 : Cond.methodLink RX12 182 yX11_openOrder ∈ lw_U := mU (mT (mT6 (List.mem_of_getElem? (i := 122) rfl))) rfl
theorem q1323 : Cond.methodLink RL 247 yL_orderLength ∈ lw_U := mU (mT (mT6 (List.mem_of_getElem? (i := 123) rfl))) rfl
theorem q1324 : Cond.static yL_orderLength ∈ lw_U := mU (mT (mT6 (List.mem_of_getElem? (i := 124) rfl))) rfl
theorem q1325 : Cond.codeWith yL_orderLength method_22_code 4 (some .int) [(0, 9, 12, 21)] ∈ lw_U := mU (mT (mT6 (List.mem_of_getElem? (i := 125) rfl))) rfl
theorem q1326 : Cond.methodLink RL 80 yX12_orderLength ∈ lw_U := mU (mT (mT6 (List.mem_of_getElem? (i := 126) rfl))) rfl
theorem q1327 : Cond.instanceMethod yX12_orderLength ∈ lw_U := mU (mT (mT6 (List.mem_of_getElem? (i := 127) rfl))) rfl
theorem q1328 : Cond.selects RX12 yX12_orderLength yX12_orderLength ∈ lw_U := mU (mT (mT6 (List.mem_of_getElem? (i := 128) rfl))) rfl
theorem q1329 : Cond.code yX12_orderLength prog_1_method_28_code 2 (some .int) ∈ lw_U := mU (mT (mT6 (List.mem_of_getElem? (i := 129) rfl))) rfl
theorem q1330 : Cond.methodLink RL 250 yL_due ∈ lw_U := mU (mT (mT6 (List.mem_of_getElem? (i := 130) rfl))) rfl
theorem q1331 : Cond.static yL_due ∈ lw_U := mU (mT (mT6 (List.mem_of_getElem? (i := 131) rfl))) rfl
theorem q1332 : Cond.codeWith yL_due method_23_code 4 (some .int) [(0, 9, 12, 21)] ∈ lw_U := mU (mT (mT6 (List.mem_of_getElem? (i := 132) rfl))) rfl
theorem q1333 : Cond.methodLink RL 83 yX12_due ∈ lw_U := mU (mT (mT6 (List.mem_of_getElem? (i := 133) rfl))) rfl
theorem q1334 : Cond.instanceMethod yX12_due ∈ lw_U := mU (mT (mT6 (List.mem_of_getElem? (i := 134) rfl))) rfl
theorem q1335 : Cond.selects RX12 yX12_due yX12_due ∈ lw_U := mU (mT (mT6 (List.mem_of_getElem? (i := 135) rfl))) rfl
theorem q1336 : Cond.code yX12_due prog_1_method_29_code 2 (some .int) ∈ lw_U := mU (mT (mT6 (List.mem_of_getElem? (i := 136) rfl))) rfl
theorem q1337 : Cond.methodLink RL 253 yL_orderAt ∈ lw_U := mU (mT (mT6 (List.mem_of_getElem? (i := 137) rfl))) rfl
theorem q1338 : Cond.static yL_orderAt ∈ lw_U := mU (mT (mT6 (List.mem_of_getElem? (i := 138) rfl))) rfl
theorem q1339 : Cond.codeWith yL_orderAt method_24_code 4 (some .int) [(0, 9, 12, 21)] ∈ lw_U := mU (mT (mT6 (List.mem_of_getElem? (i := 139) rfl))) rfl
theorem q1340 : Cond.methodLink RL 86 yX12_orderAt ∈ lw_U := mU (mT (mT6 (List.mem_of_getElem? (i := 140) rfl))) rfl
theorem q1341 : Cond.instanceMethod yX12_orderAt ∈ lw_U := mU (mT (mT6 (List.mem_of_getElem? (i := 141) rfl))) rfl
theorem q1342 : Cond.selects RX12 yX12_orderAt yX12_orderAt ∈ lw_U := mU (mT (mT6 (List.mem_of_getElem? (i := 142) rfl))) rfl
theorem q1343 : Cond.code yX12_orderAt prog_1_method_30_code 2 (some .int) ∈ lw_U := mU (mT (mT6 (List.mem_of_getElem? (i := 143) rfl))) rfl
theorem q1345 : Cond.methodLink RL 256 yL_canFill ∈ lw_U := mU (mT (mT6 (List.mem_of_getElem? (i := 145) rfl))) rfl
theorem q1346 : Cond.static yL_canFill ∈ lw_U := mU (mT (mT6 (List.mem_of_getElem? (i := 146) rfl))) rfl
theorem q1347 : Cond.codeWith yL_canFill method_25_code 4 (some .int) [(0, 16, 19, 21)] ∈ lw_U := mU (mT (mT6 (List.mem_of_getElem? (i := 147) rfl))) rfl
theorem q1348 : Cond.methodLink RL 89 yX12_canFill ∈ lw_U := mU (mT (mT6 (List.mem_of_getElem? (i := 148) rfl))) rfl
theorem q1349 : Cond.instanceMethod yX12_canFill ∈ lw_U := mU (mT (mT6 (List.mem_of_getElem? (i := 149) rfl))) rfl
theorem q1350 : Cond.selects RX12 yX12_canFill yX12_canFill ∈ lw_U := mU (mT (mT6 (List.mem_of_getElem? (i := 150) rfl))) rfl
theorem q1351 : Cond.code yX12_canFill prog_1_method_31_code 2 (some .boolean) ∈ lw_U := mU (mT (mT6 (List.mem_of_getElem? (i := 151) rfl))) rfl
theorem q1352 : Cond.methodLink RX12 193 yX11_isFillable ∈ lw_U := mU (mT (mT6 (List.mem_of_getElem? (i := 152) rfl))) rfl
theorem q1353 : Cond.methodLink RL 259 yL_chosenScrap ∈ lw_U := mU (mT (mT6 (List.mem_of_getElem? (i := 153) rfl))) rfl
theorem q1354 : Cond.static yL_chosenScrap ∈ lw_U := mU (mT (mT6 (List.mem_of_getElem? (i := 154) rfl))) rfl
theorem q1355 : Cond.codeWith yL_chosenScrap method_26_code 4 (some .int) [(0, 9, 12, 21)] ∈ lw_U := mU (mT (mT6 (List.mem_of_getElem? (i := 155) rfl))) rfl
theorem q1356 : Cond.methodLink RL 93 yX12_chosenScrap ∈ lw_U := mU (mT (mT6 (List.mem_of_getElem? (i := 156) rfl))) rfl
theorem q1357 : Cond.instanceMethod yX12_chosenScrap ∈ lw_U := mU (mT (mT6 (List.mem_of_getElem? (i := 157) rfl))) rfl
theorem q1358 : Cond.selects RX12 yX12_chosenScrap yX12_chosenScrap ∈ lw_U := mU (mT (mT6 (List.mem_of_getElem? (i := 158) rfl))) rfl
theorem q1359 : Cond.code yX12_chosenScrap prog_1_method_32_code 3 (some .int) ∈ lw_U := mU (mT (mT6 (List.mem_of_getElem? (i := 159) rfl))) rfl
theorem q1360 : Cond.methodLink RX12 197 yX11_scrapFor ∈ lw_U := mU (mT (mT6 (List.mem_of_getElem? (i := 160) rfl))) rfl
theorem q1361 : Cond.instanceMethod yX11_scrapFor ∈ lw_U := mU (mT (mT6 (List.mem_of_getElem? (i := 161) rfl))) rfl
theorem q1362 : Cond.selects RX11 yX11_scrapFor yX11_scrapFor ∈ lw_U := mU (mT (mT6 (List.mem_of_getElem? (i := 162) rfl))) rfl
theorem q1363 : Cond.code yX11_scrapFor prog_13_method_17_code 2 (some .int) ∈ lw_U := mU (mT (mT6 (List.mem_of_getElem? (i := 163) rfl))) rfl
theorem q1365 : Cond.methodLink RL 262 yL_chosenSpool ∈ lw_U := mU (mT (mT6 (List.mem_of_getElem? (i := 165) rfl))) rfl
theorem q1366 : Cond.static yL_chosenSpool ∈ lw_U := mU (mT (mT6 (List.mem_of_getElem? (i := 166) rfl))) rfl
theorem q1367 : Cond.codeWith yL_chosenSpool method_27_code 4 (some .int) [(0, 9, 12, 21)] ∈ lw_U := mU (mT (mT6 (List.mem_of_getElem? (i := 167) rfl))) rfl
theorem q1368 : Cond.methodLink RL 96 yX12_chosenSpool ∈ lw_U := mU (mT (mT6 (List.mem_of_getElem? (i := 168) rfl))) rfl
theorem q1369 : Cond.instanceMethod yX12_chosenSpool ∈ lw_U := mU (mT (mT6 (List.mem_of_getElem? (i := 169) rfl))) rfl
theorem q1370 : Cond.selects RX12 yX12_chosenSpool yX12_chosenSpool ∈ lw_U := mU (mT (mT6 (List.mem_of_getElem? (i := 170) rfl))) rfl
theorem q1371 : Cond.code yX12_chosenSpool prog_1_method_33_code 4 (some .int) ∈ lw_U := mU (mT (mT6 (List.mem_of_getElem? (i := 171) rfl))) rfl
theorem q1372 : Cond.methodLink RX12 202 yX11_spoolFor ∈ lw_U := mU (mT (mT6 (List.mem_of_getElem? (i := 172) rfl))) rfl
theorem q1373 : Cond.instanceMethod yX11_spoolFor ∈ lw_U := mU (mT (mT6 (List.mem_of_getElem? (i := 173) rfl))) rfl
theorem q1374 : Cond.selects RX11 yX11_spoolFor yX11_spoolFor ∈ lw_U := mU (mT (mT6 (List.mem_of_getElem? (i := 174) rfl))) rfl
theorem q1375 : Cond.code yX11_spoolFor prog_13_method_18_code 2 (some .int) ∈ lw_U := mU (mT (mT6 (List.mem_of_getElem? (i := 175) rfl))) rfl
theorem q1377 : Cond.methodLink RL 265 yL_wound ∈ lw_U := mU (mT (mT6 (List.mem_of_getElem? (i := 177) rfl))) rfl
theorem q1378 : Cond.static yL_wound ∈ lw_U := mU (mT (mT6 (List.mem_of_getElem? (i := 178) rfl))) rfl
theorem q1379 : Cond.codeWith yL_wound method_28_code 4 (some .int) [(0, 9, 12, 13)] ∈ lw_U := mU (mT (mT6 (List.mem_of_getElem? (i := 179) rfl))) rfl
theorem q1380 : Cond.methodLink RL 99 yX12_wound ∈ lw_U := mU (mT (mT6 (List.mem_of_getElem? (i := 180) rfl))) rfl
theorem q1381 : Cond.instanceMethod yX12_wound ∈ lw_U := mU (mT (mT6 (List.mem_of_getElem? (i := 181) rfl))) rfl
theorem q1382 : Cond.selects RX12 yX12_wound yX12_wound ∈ lw_U := mU (mT (mT6 (List.mem_of_getElem? (i := 182) rfl))) rfl
theorem q1383 : Cond.code yX12_wound prog_1_method_34_code 2 (some .int) ∈ lw_U := mU (mT (mT6 (List.mem_of_getElem? (i := 183) rfl))) rfl
theorem q1384 : Cond.methodLink RX12 217 yX12_placeOf ∈ lw_U := mU (mT (mT6 (List.mem_of_getElem? (i := 184) rfl))) rfl
theorem q1385 : Cond.methodLink RL 268 yL_woundByParts ∈ lw_U := mU (mT (mT6 (List.mem_of_getElem? (i := 185) rfl))) rfl
theorem q1386 : Cond.static yL_woundByParts ∈ lw_U := mU (mT (mT6 (List.mem_of_getElem? (i := 186) rfl))) rfl
theorem q1387 : Cond.codeWith yL_woundByParts method_29_code 4 (some .int) [(0, 9, 12, 13)] ∈ lw_U := mU (mT (mT6 (List.mem_of_getElem? (i := 187) rfl))) rfl
theorem q1388 : Cond.methodLink RL 102 yX12_woundByParts ∈ lw_U := mU (mT (mT6 (List.mem_of_getElem? (i := 188) rfl))) rfl
theorem q1389 : Cond.instanceMethod yX12_woundByParts ∈ lw_U := mU (mT (mT6 (List.mem_of_getElem? (i := 189) rfl))) rfl
theorem q1390 : Cond.selects RX12 yX12_woundByParts yX12_woundByParts ∈ lw_U := mU (mT (mT6 (List.mem_of_getElem? (i := 190) rfl))) rfl
theorem q1391 : Cond.code yX12_woundByParts prog_1_method_35_code 2 (some .int) ∈ lw_U := mU (mT (mT6 (List.mem_of_getElem? (i := 191) rfl))) rfl
theorem q1392 : Cond.methodLink RL 271 yL_delivered ∈ lw_U := mU (mT (mT6 (List.mem_of_getElem? (i := 192) rfl))) rfl
theorem q1393 : Cond.static yL_delivered ∈ lw_U := mU (mT (mT6 (List.mem_of_getElem? (i := 193) rfl))) rfl
theorem q1394 : Cond.codeWith yL_delivered method_30_code 4 (some .int) [(0, 9, 12, 13)] ∈ lw_U := mU (mT (mT6 (List.mem_of_getElem? (i := 194) rfl))) rfl
theorem q1395 : Cond.methodLink RL 105 yX12_delivered ∈ lw_U := mU (mT (mT6 (List.mem_of_getElem? (i := 195) rfl))) rfl
theorem q1396 : Cond.instanceMethod yX12_delivered ∈ lw_U := mU (mT (mT6 (List.mem_of_getElem? (i := 196) rfl))) rfl
theorem q1397 : Cond.selects RX12 yX12_delivered yX12_delivered ∈ lw_U := mU (mT (mT6 (List.mem_of_getElem? (i := 197) rfl))) rfl
theorem q1398 : Cond.code yX12_delivered prog_1_method_36_code 2 (some .int) ∈ lw_U := mU (mT (mT6 (List.mem_of_getElem? (i := 198) rfl))) rfl
theorem q1399 : Cond.methodLink RL 274 yL_losses ∈ lw_U := mU (mT (mT6 (List.mem_of_getElem? (i := 199) rfl))) rfl
theorem q1400 : Cond.static yL_losses ∈ lw_U := mU (mT (mT6 (List.mem_of_getElem? (i := 200) rfl))) rfl
theorem q1401 : Cond.codeWith yL_losses method_31_code 4 (some .int) [(0, 9, 12, 13)] ∈ lw_U := mU (mT (mT6 (List.mem_of_getElem? (i := 201) rfl))) rfl
theorem q1402 : Cond.methodLink RL 108 yX12_losses ∈ lw_U := mU (mT (mT6 (List.mem_of_getElem? (i := 202) rfl))) rfl
theorem q1403 : Cond.instanceMethod yX12_losses ∈ lw_U := mU (mT (mT6 (List.mem_of_getElem? (i := 203) rfl))) rfl
theorem q1404 : Cond.selects RX12 yX12_losses yX12_losses ∈ lw_U := mU (mT (mT6 (List.mem_of_getElem? (i := 204) rfl))) rfl
theorem q1405 : Cond.code yX12_losses prog_1_method_37_code 2 (some .int) ∈ lw_U := mU (mT (mT6 (List.mem_of_getElem? (i := 205) rfl))) rfl
theorem q1406 : Cond.methodLink RL 286 yL_meanRemaining ∈ lw_U := mU (mT (mT6 (List.mem_of_getElem? (i := 206) rfl))) rfl
theorem q1407 : Cond.static yL_meanRemaining ∈ lw_U := mU (mT (mT6 (List.mem_of_getElem? (i := 207) rfl))) rfl
theorem q1408 : Cond.codeWith yL_meanRemaining method_32_code 3 (some .int) [(0, 7, 10, 115)] ∈ lw_U := mU (mT (mT6 (List.mem_of_getElem? (i := 208) rfl))) rfl
theorem q1409 : Cond.classLink RL 115 "java/lang/ArithmeticException" ∈ lw_U := mU (mT (mT6 (List.mem_of_getElem? (i := 209) rfl))) rfl
theorem q1410 : Cond.instantiable "java/lang/ArithmeticException" 6 ∈ lw_U := mU (mT (mT6 (List.mem_of_getElem? (i := 210) rfl))) rfl
theorem q1411 : Cond.instanceMethod ⟨"java/lang/ArithmeticException", "<init>", "(Ljava/lang/String;)V"⟩ ∈ lw_U := mU (mT (mT6 (List.mem_of_getElem? (i := 211) rfl))) rfl
theorem q1412 : Cond.code ⟨"java/lang/ArithmeticException", "<init>", "(Ljava/lang/String;)V"⟩ prog_19_method_2_code 2 none ∈ lw_U := mU (mT (mT6 (List.mem_of_getElem? (i := 212) rfl))) rfl
theorem q1413 : Cond.methodLink "java/lang/ArithmeticException" 7 ⟨"java/lang/RuntimeException", "<init>", "(Ljava/lang/String;)V"⟩ ∈ lw_U := mU (mT (mT6 (List.mem_of_getElem? (i := 213) rfl))) rfl
theorem q1421 : Cond.castable "java/lang/ArithmeticException" "java/lang/ArithmeticException" ∈ lw_N := nN (mT6 (List.mem_of_getElem? (i := 221) rfl)) rfl
theorem q1422 : Cond.selects "java/lang/ArithmeticException" ⟨"java/lang/Throwable", "fillInStackTrace", "(I)Ljava/lang/Throwable;"⟩ ⟨"java/lang/Throwable", "fillInStackTrace", "(I)Ljava/lang/Throwable;"⟩ ∈ lw_U := mU (mT (mT6 (List.mem_of_getElem? (i := 222) rfl))) rfl
theorem q1423 : Cond.methodLink RL 111 yX12_meanRemaining ∈ lw_U := mU (mT (mT6 (List.mem_of_getElem? (i := 223) rfl))) rfl
theorem q1424 : Cond.instanceMethod yX12_meanRemaining ∈ lw_U := mU (mT (mT6 (List.mem_of_getElem? (i := 224) rfl))) rfl
theorem q1425 : Cond.selects RX12 yX12_meanRemaining yX12_meanRemaining ∈ lw_U := mU (mT (mT6 (List.mem_of_getElem? (i := 225) rfl))) rfl
theorem q1426 : Cond.code yX12_meanRemaining prog_1_method_40_code 2 (some .double) ∈ lw_U := mU (mT (mT6 (List.mem_of_getElem? (i := 226) rfl))) rfl
theorem q1427 : Cond.classLink RX12 240 "java/lang/ArithmeticException" ∈ lw_U := mU (mT (mT6 (List.mem_of_getElem? (i := 227) rfl))) rfl
theorem q1429 : Cond.methodLink RX12 244 ⟨"java/lang/ArithmeticException", "<init>", "(Ljava/lang/String;)V"⟩ ∈ lw_U := mU (mT (mT6 (List.mem_of_getElem? (i := 229) rfl))) rfl
theorem q1430 : Cond.methodLink RX12 245 yX9_sumOfLengths ∈ lw_U := mU (mT (mT6 (List.mem_of_getElem? (i := 230) rfl))) rfl
theorem q1431 : Cond.instanceMethod yX9_sumOfLengths ∈ lw_U := mU (mT (mT6 (List.mem_of_getElem? (i := 231) rfl))) rfl
theorem q1432 : Cond.selects RX9 yX9_sumOfLengths yX9_sumOfLengths ∈ lw_U := mU (mT (mT6 (List.mem_of_getElem? (i := 232) rfl))) rfl
theorem q1433 : Cond.code yX9_sumOfLengths prog_11_method_9_code 1 (some .int) ∈ lw_U := mU (mT (mT6 (List.mem_of_getElem? (i := 233) rfl))) rfl
theorem q1434 : Cond.methodLink RX9 48 yX7_sum ∈ lw_U := mU (mT (mT6 (List.mem_of_getElem? (i := 234) rfl))) rfl
theorem q1435 : Cond.methodLink RL 290 yL_lossRate ∈ lw_U := mU (mT (mT6 (List.mem_of_getElem? (i := 235) rfl))) rfl
theorem q1436 : Cond.static yL_lossRate ∈ lw_U := mU (mT (mT6 (List.mem_of_getElem? (i := 236) rfl))) rfl
theorem q1437 : Cond.codeWith yL_lossRate method_33_code 3 (some .int) [(0, 8, 11, 115)] ∈ lw_U := mU (mT (mT6 (List.mem_of_getElem? (i := 237) rfl))) rfl
theorem q1438 : Cond.methodLink RL 117 yX12_lossRate ∈ lw_U := mU (mT (mT6 (List.mem_of_getElem? (i := 238) rfl))) rfl
theorem q1439 : Cond.instanceMethod yX12_lossRate ∈ lw_U := mU (mT (mT6 (List.mem_of_getElem? (i := 239) rfl))) rfl
theorem q1440 : Cond.selects RX12 yX12_lossRate yX12_lossRate ∈ lw_U := mU (mT (mT7 (List.mem_of_getElem? (i := 0) rfl))) rfl
theorem q1441 : Cond.code yX12_lossRate prog_1_method_41_code 3 (some .float) ∈ lw_U := mU (mT (mT7 (List.mem_of_getElem? (i := 1) rfl))) rfl
theorem q1443 : Cond.methodLink RL 298 yL_writeSpool ∈ lw_U := mU (mT (mT7 (List.mem_of_getElem? (i := 3) rfl))) rfl
theorem q1444 : Cond.static yL_writeSpool ∈ lw_U := mU (mT (mT7 (List.mem_of_getElem? (i := 4) rfl))) rfl
theorem q1445 : Cond.codeWith yL_writeSpool method_34_code 4 (some .int) [(0, 9, 12, 21)] ∈ lw_U := mU (mT (mT7 (List.mem_of_getElem? (i := 5) rfl))) rfl
theorem q1446 : Cond.methodLink RL 121 yX12_writeSpool ∈ lw_U := mU (mT (mT7 (List.mem_of_getElem? (i := 6) rfl))) rfl
theorem q1447 : Cond.instanceMethod yX12_writeSpool ∈ lw_U := mU (mT (mT7 (List.mem_of_getElem? (i := 7) rfl))) rfl
theorem q1448 : Cond.selects RX12 yX12_writeSpool yX12_writeSpool ∈ lw_U := mU (mT (mT7 (List.mem_of_getElem? (i := 8) rfl))) rfl
theorem q1449 : Cond.code yX12_writeSpool prog_1_method_43_code 3 (some .int) ∈ lw_U := mU (mT (mT7 (List.mem_of_getElem? (i := 9) rfl))) rfl
theorem q1450 : Cond.methodLink RL 305 yL_charAt ∈ lw_U := mU (mT (mT7 (List.mem_of_getElem? (i := 10) rfl))) rfl
theorem q1451 : Cond.static yL_charAt ∈ lw_U := mU (mT (mT7 (List.mem_of_getElem? (i := 11) rfl))) rfl
theorem q1452 : Cond.codeWith yL_charAt method_35_code 4 (some .int) [(0, 9, 12, 127)] ∈ lw_U := mU (mT (mT7 (List.mem_of_getElem? (i := 12) rfl))) rfl
theorem q1453 : Cond.classLink RL 127 "java/lang/IndexOutOfBoundsException" ∈ lw_U := mU (mT (mT7 (List.mem_of_getElem? (i := 13) rfl))) rfl
theorem q1454 : Cond.instanceMethod yJx00060_init_a7421 ∈ lw_U := mU (mT (mT7 (List.mem_of_getElem? (i := 14) rfl))) rfl
theorem q1455 : Cond.code yJx00060_init_a7421 prog_20_method_2_code 2 none ∈ lw_U := mU (mT (mT7 (List.mem_of_getElem? (i := 15) rfl))) rfl
theorem q1456 : Cond.methodLink RL 124 yX12_charAt ∈ lw_U := mU (mT (mT7 (List.mem_of_getElem? (i := 16) rfl))) rfl
theorem q1457 : Cond.instanceMethod yX12_charAt ∈ lw_U := mU (mT (mT7 (List.mem_of_getElem? (i := 17) rfl))) rfl
theorem q1458 : Cond.selects RX12 yX12_charAt yX12_charAt ∈ lw_U := mU (mT (mT7 (List.mem_of_getElem? (i := 18) rfl))) rfl
theorem q1459 : Cond.code yX12_charAt prog_1_method_45_code 2 (some .char) ∈ lw_U := mU (mT (mT7 (List.mem_of_getElem? (i := 19) rfl))) rfl
theorem q1460 : Cond.classLink RX12 274 "java/lang/IndexOutOfBoundsException" ∈ lw_U := mU (mT (mT7 (List.mem_of_getElem? (i := 20) rfl))) rfl
theorem q1461 : Cond.instantiable "java/lang/IndexOutOfBoundsException" 6 ∈ lw_U := mU (mT (mT7 (List.mem_of_getElem? (i := 21) rfl))) rfl
theorem q1462 : Cond.castable "java/lang/IndexOutOfBoundsException" "java/lang/IndexOutOfBoundsException" ∈ lw_N := nN (mT7 (List.mem_of_getElem? (i := 22) rfl)) rfl
theorem q1463 : Cond.selects "java/lang/IndexOutOfBoundsException" ⟨"java/lang/Throwable", "fillInStackTrace", "(I)Ljava/lang/Throwable;"⟩ ⟨"java/lang/Throwable", "fillInStackTrace", "(I)Ljava/lang/Throwable;"⟩ ∈ lw_U := mU (mT (mT7 (List.mem_of_getElem? (i := 23) rfl))) rfl
theorem q1470 : Cond.methodLink RX12 278 ⟨"java/lang/IndexOutOfBoundsException", "<init>", "(Ljava/lang/String;)V"⟩ ∈ lw_U := mU (mT (mT7 (List.mem_of_getElem? (i := 30) rfl))) rfl
theorem q1473 : Cond.methodLink RX12 279 yJ4_charAt_5068e ∈ lw_U := mU (mT (mT7 (List.mem_of_getElem? (i := 33) rfl))) rfl
theorem q1474 : Cond.instanceMethod yJ4_charAt_5068e ∈ lw_U := mU (mT (mT7 (List.mem_of_getElem? (i := 34) rfl))) rfl
theorem q1475 : Cond.selects RJ4 yJ4_charAt_5068e yJ4_charAt_5068e ∈ lw_U := mU (mT (mT7 (List.mem_of_getElem? (i := 35) rfl))) rfl
theorem q1476 : Cond.code yJ4_charAt_5068e prog_34_method_88_code 2 (some .char) ∈ lw_U := mU (mT (mT7 (List.mem_of_getElem? (i := 36) rfl))) rfl
theorem q1477 : Cond.methodLink RJ4 329 yJ5_charAt_5068e ∈ lw_U := mU (mT (mT7 (List.mem_of_getElem? (i := 37) rfl))) rfl
theorem q1478 : Cond.instanceMethod yJ5_charAt_5068e ∈ lw_U := mU (mT (mT7 (List.mem_of_getElem? (i := 38) rfl))) rfl
theorem q1479 : Cond.code yJ5_charAt_5068e prog_17_method_14_code 5 (some .char) ∈ lw_U := mU (mT (mT7 (List.mem_of_getElem? (i := 39) rfl))) rfl
theorem q1480 : Cond.methodLink RJ5 138 yJ9_min_7cf53 ∈ lw_U := mU (mT (mT7 (List.mem_of_getElem? (i := 40) rfl))) rfl
theorem q1481 : Cond.methodLink RJ5 144 yJ0_checkIndex_df160 ∈ lw_U := mU (mT (mT7 (List.mem_of_getElem? (i := 41) rfl))) rfl
theorem q1482 : Cond.methodLink RJ5 148 yJ2_getChar_3b067 ∈ lw_U := mU (mT (mT7 (List.mem_of_getElem? (i := 42) rfl))) rfl
theorem q1483 : Cond.methodLink RL 308 yL_type ∈ lw_U := mU (mT (mT7 (List.mem_of_getElem? (i := 43) rfl))) rfl
theorem q1484 : Cond.static yL_type ∈ lw_U := mU (mT (mT7 (List.mem_of_getElem? (i := 44) rfl))) rfl
theorem q1485 : Cond.codeWith yL_type method_36_code 4 (some .int) [(0, 9, 12, 15)] ∈ lw_U := mU (mT (mT7 (List.mem_of_getElem? (i := 45) rfl))) rfl
theorem q1486 : Cond.methodLink RL 129 yX12_type ∈ lw_U := mU (mT (mT7 (List.mem_of_getElem? (i := 46) rfl))) rfl
theorem q1487 : Cond.instanceMethod yX12_type ∈ lw_U := mU (mT (mT7 (List.mem_of_getElem? (i := 47) rfl))) rfl
theorem q1488 : Cond.selects RX12 yX12_type yX12_type ∈ lw_U := mU (mT (mT7 (List.mem_of_getElem? (i := 48) rfl))) rfl
theorem q1489 : Cond.code yX12_type prog_1_method_46_code 2 (some .int) ∈ lw_U := mU (mT (mT7 (List.mem_of_getElem? (i := 49) rfl))) rfl
theorem q1490 : Cond.methodLink RX12 282 yX6_isFull ∈ lw_U := mU (mT (mT7 (List.mem_of_getElem? (i := 50) rfl))) rfl
theorem q1491 : Cond.instanceMethod yX6_isFull ∈ lw_U := mU (mT (mT7 (List.mem_of_getElem? (i := 51) rfl))) rfl
theorem q1492 : Cond.selects RX6 yX6_isFull yX6_isFull ∈ lw_U := mU (mT (mT7 (List.mem_of_getElem? (i := 52) rfl))) rfl
theorem q1493 : Cond.code yX6_isFull prog_8_method_2_code 1 (some .boolean) ∈ lw_U := mU (mT (mT7 (List.mem_of_getElem? (i := 53) rfl))) rfl
theorem q1494 : Cond.classLink RX12 285 "java/lang/IllegalStateException" ∈ lw_U := mU (mT (mT7 (List.mem_of_getElem? (i := 54) rfl))) rfl
theorem q1496 : Cond.methodLink RX12 289 ⟨"java/lang/IllegalStateException", "<init>", "(Ljava/lang/String;)V"⟩ ∈ lw_U := mU (mT (mT7 (List.mem_of_getElem? (i := 56) rfl))) rfl
theorem q1497 : Cond.methodLink RX12 290 yX6_append ∈ lw_U := mU (mT (mT7 (List.mem_of_getElem? (i := 57) rfl))) rfl
theorem q1498 : Cond.instanceMethod yX6_append ∈ lw_U := mU (mT (mT7 (List.mem_of_getElem? (i := 58) rfl))) rfl
theorem q1499 : Cond.selects RX6 yX6_append yX6_append ∈ lw_U := mU (mT (mT7 (List.mem_of_getElem? (i := 59) rfl))) rfl
theorem q1500 : Cond.code yX6_append prog_8_method_3_code 2 (some .int) ∈ lw_U := mU (mT (mT7 (List.mem_of_getElem? (i := 60) rfl))) rfl
theorem q1501 : Cond.methodLink RL 311 yL_run ∈ lw_U := mU (mT (mT7 (List.mem_of_getElem? (i := 61) rfl))) rfl
theorem q1502 : Cond.static yL_run ∈ lw_U := mU (mT (mT7 (List.mem_of_getElem? (i := 62) rfl))) rfl
theorem q1503 : Cond.codeWith yL_run method_37_code 3 (some .int) [(0, 8, 11, 13), (0, 8, 14, 37)] ∈ lw_U := mU (mT (mT7 (List.mem_of_getElem? (i := 63) rfl))) rfl
theorem q1504 : Cond.methodLink RL 132 yX12_run ∈ lw_U := mU (mT (mT7 (List.mem_of_getElem? (i := 64) rfl))) rfl
theorem q1505 : Cond.instanceMethod yX12_run ∈ lw_U := mU (mT (mT7 (List.mem_of_getElem? (i := 65) rfl))) rfl
theorem q1506 : Cond.selects RX12 yX12_run yX12_run ∈ lw_U := mU (mT (mT7 (List.mem_of_getElem? (i := 66) rfl))) rfl
theorem q1507 : Cond.code yX12_run prog_1_method_47_code 3 (some .int) ∈ lw_U := mU (mT (mT7 (List.mem_of_getElem? (i := 67) rfl))) rfl
theorem q1508 : Cond.methodLink RX12 292 yX6_parse ∈ lw_U := mU (mT (mT7 (List.mem_of_getElem? (i := 68) rfl))) rfl
theorem q1509 : Cond.instanceMethod yX6_parse ∈ lw_U := mU (mT (mT7 (List.mem_of_getElem? (i := 69) rfl))) rfl
theorem q1510 : Cond.selects RX6 yX6_parse yX6_parse ∈ lw_U := mU (mT (mT7 (List.mem_of_getElem? (i := 70) rfl))) rfl
theorem q1511 : Cond.code yX6_parse prog_8_method_6_code 2 (some .int) ∈ lw_U := mU (mT (mT7 (List.mem_of_getElem? (i := 71) rfl))) rfl
theorem q1512 : Cond.methodLink RX6 32 yX6_parseCommands ∈ lw_U := mU (mT (mT7 (List.mem_of_getElem? (i := 72) rfl))) rfl
theorem q1514 : Cond.instanceMethod yX6_parseCommands ∈ lw_U := mU (mT (mT7 (List.mem_of_getElem? (i := 74) rfl))) rfl
theorem q1515 : Cond.code yX6_parseCommands prog_8_method_7_code 2 (some .boolean) ∈ lw_U := mU (mT (mT7 (List.mem_of_getElem? (i := 75) rfl))) rfl
theorem q1516 : Cond.methodLink RX6 36 yX6_parseCommand ∈ lw_U := mU (mT (mT7 (List.mem_of_getElem? (i := 76) rfl))) rfl
theorem q1518 : Cond.instanceMethod yX6_parseCommand ∈ lw_U := mU (mT (mT7 (List.mem_of_getElem? (i := 78) rfl))) rfl
theorem q1519 : Cond.code yX6_parseCommand prog_8_method_8_code 4 (some .boolean) ∈ lw_U := mU (mT (mT7 (List.mem_of_getElem? (i := 79) rfl))) rfl
theorem q1520 : Cond.methodLink RX6 44 yX6_parseVerb ∈ lw_U := mU (mT (mT7 (List.mem_of_getElem? (i := 80) rfl))) rfl
theorem q1522 : Cond.instanceMethod yX6_parseVerb ∈ lw_U := mU (mT (mT7 (List.mem_of_getElem? (i := 82) rfl))) rfl
theorem q1523 : Cond.code yX6_parseVerb prog_8_method_9_code 4 (some (.object RX10)) ∈ lw_U := mU (mT (mT7 (List.mem_of_getElem? (i := 83) rfl))) rfl
theorem q1524 : Cond.fieldLinkNest RX6 71 RX12 "VERBS" "[LWireCutter$Verb;" RX12 ∈ lw_N := nN (mT7 (List.mem_of_getElem? (i := 84) rfl)) rfl
theorem q1526 : Cond.methodLink RX6 78 yX6_matchingSigns ∈ lw_U := mU (mT (mT7 (List.mem_of_getElem? (i := 86) rfl))) rfl
theorem q1528 : Cond.instanceMethod yX6_matchingSigns ∈ lw_U := mU (mT (mT7 (List.mem_of_getElem? (i := 88) rfl))) rfl
theorem q1529 : Cond.code yX6_matchingSigns prog_8_method_10_code 3 (some .int) ∈ lw_U := mU (mT (mT7 (List.mem_of_getElem? (i := 89) rfl))) rfl
theorem q1530 : Cond.methodLink RX6 58 yJ0_length_8abf5 ∈ lw_U := mU (mT (mT7 (List.mem_of_getElem? (i := 90) rfl))) rfl
theorem q1531 : Cond.methodLink RX6 63 yJ0_charAt_5068e ∈ lw_U := mU (mT (mT7 (List.mem_of_getElem? (i := 91) rfl))) rfl
theorem q1532 : Cond.instanceMethod yJ0_charAt_5068e ∈ lw_U := mU (mT (mT7 (List.mem_of_getElem? (i := 92) rfl))) rfl
theorem q1533 : Cond.selects RJ0 yJ0_charAt_5068e yJ0_charAt_5068e ∈ lw_U := mU (mT (mT7 (List.mem_of_getElem? (i := 93) rfl))) rfl
theorem q1534 : Cond.code yJ0_charAt_5068e prog_33_method_56_code 2 (some .char) ∈ lw_U := mU (mT (mT7 (List.mem_of_getElem? (i := 94) rfl))) rfl
theorem q1535 : Cond.methodLink RJ0 492 yJ0_isLatin1_aae02 ∈ lw_U := mU (mT (mT7 (List.mem_of_getElem? (i := 95) rfl))) rfl
theorem q1536 : Cond.instanceMethod yJ0_isLatin1_aae02 ∈ lw_U := mU (mT (mT7 (List.mem_of_getElem? (i := 96) rfl))) rfl
theorem q1537 : Cond.selects RJ0 yJ0_isLatin1_aae02 yJ0_isLatin1_aae02 ∈ lw_U := mU (mT (mT7 (List.mem_of_getElem? (i := 97) rfl))) rfl
theorem q1538 : Cond.code yJ0_isLatin1_aae02 prog_33_method_154_code 1 (some .boolean) ∈ lw_U := mU (mT (mT7 (List.mem_of_getElem? (i := 98) rfl))) rfl
theorem q1539 : Cond.methodLink RJ0 495 yJ1_charAt_3b067 ∈ lw_U := mU (mT (mT7 (List.mem_of_getElem? (i := 99) rfl))) rfl
theorem q1540 : Cond.static yJ1_charAt_3b067 ∈ lw_U := mU (mT (mT7 (List.mem_of_getElem? (i := 100) rfl))) rfl
theorem q1541 : Cond.code yJ1_charAt_3b067 prog_36_method_2_code 2 (some .char) ∈ lw_U := mU (mT (mT7 (List.mem_of_getElem? (i := 101) rfl))) rfl
theorem q1542 : Cond.methodLink RJ1 9 yJ0_checkIndex_df160 ∈ lw_U := mU (mT (mT7 (List.mem_of_getElem? (i := 102) rfl))) rfl
theorem q1543 : Cond.methodLink RJ0 498 yJ2_charAt_3b067 ∈ lw_U := mU (mT (mT7 (List.mem_of_getElem? (i := 103) rfl))) rfl
theorem q1544 : Cond.static yJ2_charAt_3b067 ∈ lw_U := mU (mT (mT7 (List.mem_of_getElem? (i := 104) rfl))) rfl
theorem q1545 : Cond.code yJ2_charAt_3b067 prog_37_method_83_code 2 (some .char) ∈ lw_U := mU (mT (mT7 (List.mem_of_getElem? (i := 105) rfl))) rfl
theorem q1546 : Cond.methodLink RX6 82 yX6_isAt ∈ lw_U := mU (mT (mT7 (List.mem_of_getElem? (i := 106) rfl))) rfl
theorem q1548 : Cond.instanceMethod yX6_isAt ∈ lw_U := mU (mT (mT7 (List.mem_of_getElem? (i := 108) rfl))) rfl
theorem q1549 : Cond.code yX6_isAt prog_8_method_15_code 3 (some .boolean) ∈ lw_U := mU (mT (mT7 (List.mem_of_getElem? (i := 109) rfl))) rfl
theorem q1550 : Cond.methodLink RX6 48 yX2_begin ∈ lw_U := mU (mT (mT7 (List.mem_of_getElem? (i := 110) rfl))) rfl
theorem q1551 : Cond.instanceMethod yX2_begin ∈ lw_U := mU (mT (mT7 (List.mem_of_getElem? (i := 111) rfl))) rfl
theorem q1552 : Cond.selects RX2 yX2_begin yX2_begin ∈ lw_U := mU (mT (mT7 (List.mem_of_getElem? (i := 112) rfl))) rfl
theorem q1553 : Cond.code yX2_begin prog_4_method_2_code 2 none ∈ lw_U := mU (mT (mT7 (List.mem_of_getElem? (i := 113) rfl))) rfl
theorem q1554 : Cond.methodLink RX6 67 yX6_parsePart ∈ lw_U := mU (mT (mT7 (List.mem_of_getElem? (i := 114) rfl))) rfl
theorem q1556 : Cond.instanceMethod yX6_parsePart ∈ lw_U := mU (mT (mT7 (List.mem_of_getElem? (i := 116) rfl))) rfl
theorem q1557 : Cond.code yX6_parsePart prog_8_method_11_code 3 (some .boolean) ∈ lw_U := mU (mT (mT7 (List.mem_of_getElem? (i := 117) rfl))) rfl
theorem q1558 : Cond.methodLink RX6 86 yX6_current ∈ lw_U := mU (mT (mT7 (List.mem_of_getElem? (i := 118) rfl))) rfl
theorem q1560 : Cond.instanceMethod yX6_current ∈ lw_U := mU (mT (mT7 (List.mem_of_getElem? (i := 120) rfl))) rfl
theorem q1561 : Cond.code yX6_current prog_8_method_16_code 1 (some .char) ∈ lw_U := mU (mT (mT7 (List.mem_of_getElem? (i := 121) rfl))) rfl
theorem q1562 : Cond.methodLinkNest RX6 90 yX12_isMaterial RX12 ∈ lw_N := nN (mT7 (List.mem_of_getElem? (i := 122) rfl)) rfl
theorem q1563 : Cond.methodLink RX6 93 yX6_takeLetter ∈ lw_U := mU (mT (mT7 (List.mem_of_getElem? (i := 123) rfl))) rfl
theorem q1565 : Cond.instanceMethod yX6_takeLetter ∈ lw_U := mU (mT (mT7 (List.mem_of_getElem? (i := 125) rfl))) rfl
theorem q1566 : Cond.code yX6_takeLetter prog_8_method_12_code 2 (some .boolean) ∈ lw_U := mU (mT (mT7 (List.mem_of_getElem? (i := 126) rfl))) rfl
theorem q1567 : Cond.methodLink RX6 103 yX2_putLetter ∈ lw_U := mU (mT (mT7 (List.mem_of_getElem? (i := 127) rfl))) rfl
theorem q1568 : Cond.instanceMethod yX2_putLetter ∈ lw_U := mU (mT (mT7 (List.mem_of_getElem? (i := 128) rfl))) rfl
theorem q1569 : Cond.selects RX2 yX2_putLetter yX2_putLetter ∈ lw_U := mU (mT (mT7 (List.mem_of_getElem? (i := 129) rfl))) rfl
theorem q1570 : Cond.code yX2_putLetter prog_4_method_3_code 2 none ∈ lw_U := mU (mT (mT7 (List.mem_of_getElem? (i := 130) rfl))) rfl
theorem q1571 : Cond.methodLinkNest RX6 96 yX12_isRule RX12 ∈ lw_N := nN (mT7 (List.mem_of_getElem? (i := 131) rfl)) rfl
theorem q1572 : Cond.methodLink RX6 99 yX6_takeNumber ∈ lw_U := mU (mT (mT7 (List.mem_of_getElem? (i := 132) rfl))) rfl
theorem q1574 : Cond.instanceMethod yX6_takeNumber ∈ lw_U := mU (mT (mT7 (List.mem_of_getElem? (i := 134) rfl))) rfl
theorem q1575 : Cond.code yX6_takeNumber prog_8_method_13_code 5 (some .boolean) ∈ lw_U := mU (mT (mT7 (List.mem_of_getElem? (i := 135) rfl))) rfl
theorem q1576 : Cond.methodLinkNest RX6 107 yX12_isDigit RX12 ∈ lw_N := nN (mT7 (List.mem_of_getElem? (i := 136) rfl)) rfl
theorem q1577 : Cond.static yX12_isDigit ∈ lw_U := mU (mT (mT7 (List.mem_of_getElem? (i := 137) rfl))) rfl
theorem q1578 : Cond.code yX12_isDigit prog_1_method_58_code 1 (some .boolean) ∈ lw_U := mU (mT (mT7 (List.mem_of_getElem? (i := 138) rfl))) rfl
theorem q1579 : Cond.methodLink RX6 110 yX2_putNumber ∈ lw_U := mU (mT (mT7 (List.mem_of_getElem? (i := 139) rfl))) rfl
theorem q1580 : Cond.instanceMethod yX2_putNumber ∈ lw_U := mU (mT (mT7 (List.mem_of_getElem? (i := 140) rfl))) rfl
theorem q1581 : Cond.selects RX2 yX2_putNumber yX2_putNumber ∈ lw_U := mU (mT (mT7 (List.mem_of_getElem? (i := 141) rfl))) rfl
theorem q1582 : Cond.code yX2_putNumber prog_4_method_4_code 2 none ∈ lw_U := mU (mT (mT7 (List.mem_of_getElem? (i := 142) rfl))) rfl
theorem q1583 : Cond.methodLink RX6 40 yX6_skip ∈ lw_U := mU (mT (mT7 (List.mem_of_getElem? (i := 143) rfl))) rfl
theorem q1585 : Cond.instanceMethod yX6_skip ∈ lw_U := mU (mT (mT7 (List.mem_of_getElem? (i := 145) rfl))) rfl
theorem q1586 : Cond.code yX6_skip prog_8_method_14_code 2 (some .boolean) ∈ lw_U := mU (mT (mT7 (List.mem_of_getElem? (i := 146) rfl))) rfl
theorem q1588 : Cond.methodLink RX12 300 yX6_count ∈ lw_U := mU (mT (mT7 (List.mem_of_getElem? (i := 148) rfl))) rfl
theorem q1589 : Cond.instanceMethod yX6_count ∈ lw_U := mU (mT (mT7 (List.mem_of_getElem? (i := 149) rfl))) rfl
theorem q1590 : Cond.selects RX6 yX6_count yX6_count ∈ lw_U := mU (mT (mT7 (List.mem_of_getElem? (i := 150) rfl))) rfl
theorem q1591 : Cond.code yX6_count prog_8_method_4_code 1 (some .int) ∈ lw_U := mU (mT (mT7 (List.mem_of_getElem? (i := 151) rfl))) rfl
theorem q1592 : Cond.methodLink RX12 301 yX6_commandAt ∈ lw_U := mU (mT (mT7 (List.mem_of_getElem? (i := 152) rfl))) rfl
theorem q1593 : Cond.instanceMethod yX6_commandAt ∈ lw_U := mU (mT (mT7 (List.mem_of_getElem? (i := 153) rfl))) rfl
theorem q1594 : Cond.selects RX6 yX6_commandAt yX6_commandAt ∈ lw_U := mU (mT (mT7 (List.mem_of_getElem? (i := 154) rfl))) rfl
theorem q1595 : Cond.code yX6_commandAt prog_8_method_5_code 2 (some (.object RX2)) ∈ lw_U := mU (mT (mT7 (List.mem_of_getElem? (i := 155) rfl))) rfl
theorem q1596 : Cond.methodLink RX12 305 yX12_succeeds ∈ lw_U := mU (mT (mT7 (List.mem_of_getElem? (i := 156) rfl))) rfl
theorem q1598 : Cond.instanceMethod yX12_succeeds ∈ lw_U := mU (mT (mT7 (List.mem_of_getElem? (i := 158) rfl))) rfl
theorem q1599 : Cond.codeWith yX12_succeeds prog_1_method_55_code 3 (some .boolean) [(13, 22, 23, 295), (13, 22, 26, 285), (13, 22, 29, 139), (13, 22, 32, 312)] ∈ lw_U := mU (mT (mT7 (List.mem_of_getElem? (i := 159) rfl))) rfl
theorem q1600 : Cond.classLink RX12 312 "java/lang/UnsupportedOperationException" ∈ lw_U := mU (mT (mT7 (List.mem_of_getElem? (i := 160) rfl))) rfl
theorem q1601 : Cond.methodLink RX12 341 yX11_execute ∈ lw_U := mU (mT (mT7 (List.mem_of_getElem? (i := 161) rfl))) rfl
theorem q1602 : Cond.instanceMethod yX11_execute ∈ lw_U := mU (mT (mT7 (List.mem_of_getElem? (i := 162) rfl))) rfl
theorem q1603 : Cond.selects RX11 yX11_execute yX11_execute ∈ lw_U := mU (mT (mT7 (List.mem_of_getElem? (i := 163) rfl))) rfl
theorem q1604 : Cond.code yX11_execute prog_13_method_15_code 2 none ∈ lw_U := mU (mT (mT7 (List.mem_of_getElem? (i := 164) rfl))) rfl
theorem q1605 : Cond.fieldLink RX11 174 RX0 "$SwitchMap$WireCutter$Verb" "[I" ∈ lw_U := mU (mT (mT7 (List.mem_of_getElem? (i := 165) rfl))) rfl
theorem q1607 : Cond.methodLink RX11 186 ⟨RX10, "ordinal", "()I"⟩ ∈ lw_U := mU (mT (mT7 (List.mem_of_getElem? (i := 167) rfl))) rfl
theorem q1608 : Cond.sameMethod RX10 RJx29ce0 "ordinal" "()I" ∈ lw_U := mU (mT (mT7 (List.mem_of_getElem? (i := 168) rfl))) rfl
theorem q1610 : Cond.selects RX10 ⟨RX10, "ordinal", "()I"⟩ yJx29ce0_ordinal_8abf5 ∈ lw_U := mU (mT (mT7 (List.mem_of_getElem? (i := 170) rfl))) rfl
theorem q1611 : Cond.instanceMethod yJx29ce0_ordinal_8abf5 ∈ lw_U := mU (mT (mT7 (List.mem_of_getElem? (i := 171) rfl))) rfl
theorem q1612 : Cond.code yJx29ce0_ordinal_8abf5 prog_24_method_2_code 1 (some .int) ∈ lw_U := mU (mT (mT7 (List.mem_of_getElem? (i := 172) rfl))) rfl
theorem q1613 : Cond.methodLink RX11 197 yX11_windSpool ∈ lw_U := mU (mT (mT7 (List.mem_of_getElem? (i := 173) rfl))) rfl
theorem q1614 : Cond.methodLink RX11 203 yX11_takeOrder ∈ lw_U := mU (mT (mT7 (List.mem_of_getElem? (i := 174) rfl))) rfl
theorem q1615 : Cond.methodLink RX11 206 yX11_cancelOrder ∈ lw_U := mU (mT (mT7 (List.mem_of_getElem? (i := 175) rfl))) rfl
theorem q1616 : Cond.methodLink RX11 209 yX11_fillOrder ∈ lw_U := mU (mT (mT7 (List.mem_of_getElem? (i := 176) rfl))) rfl
theorem q1617 : Cond.methodLink RX11 212 yX11_fillUntil ∈ lw_U := mU (mT (mT7 (List.mem_of_getElem? (i := 177) rfl))) rfl
theorem q1618 : Cond.methodLink RX11 215 yX11_retireSpool ∈ lw_U := mU (mT (mT7 (List.mem_of_getElem? (i := 178) rfl))) rfl
theorem q1619 : Cond.methodLink RX11 218 yX11_clearScraps ∈ lw_U := mU (mT (mT7 (List.mem_of_getElem? (i := 179) rfl))) rfl
theorem q1620 : Cond.methodLink RX11 221 yX11_changeKerf ∈ lw_U := mU (mT (mT7 (List.mem_of_getElem? (i := 180) rfl))) rfl
theorem q1621 : Cond.methodLink RX11 224 yX11_changeScrapLimit ∈ lw_U := mU (mT (mT7 (List.mem_of_getElem? (i := 181) rfl))) rfl
theorem q1622 : Cond.methodLink RX11 227 yX11_changeRule ∈ lw_U := mU (mT (mT7 (List.mem_of_getElem? (i := 182) rfl))) rfl
theorem q1623 : Cond.methodLink RX12 309 yX3_abandon ∈ lw_U := mU (mT (mT7 (List.mem_of_getElem? (i := 183) rfl))) rfl
theorem q1624 : Cond.instanceMethod yX3_abandon ∈ lw_U := mU (mT (mT7 (List.mem_of_getElem? (i := 184) rfl))) rfl
theorem q1625 : Cond.selects RX3 yX3_abandon yX3_abandon ∈ lw_U := mU (mT (mT7 (List.mem_of_getElem? (i := 185) rfl))) rfl
theorem q1626 : Cond.code yX3_abandon prog_5_method_5_code 2 none ∈ lw_U := mU (mT (mT7 (List.mem_of_getElem? (i := 186) rfl))) rfl
theorem q1628 : Cond.methodLink RX12 316 ⟨"java/lang/UnsupportedOperationException", "<init>", "(Ljava/lang/String;)V"⟩ ∈ lw_U := mU (mT (mT7 (List.mem_of_getElem? (i := 188) rfl))) rfl
theorem q1629 : Cond.methodLink RL 315 yL_errorPosition ∈ lw_U := mU (mT (mT7 (List.mem_of_getElem? (i := 189) rfl))) rfl
theorem q1630 : Cond.static yL_errorPosition ∈ lw_U := mU (mT (mT7 (List.mem_of_getElem? (i := 190) rfl))) rfl
theorem q1631 : Cond.codeWith yL_errorPosition method_38_code 3 (some .int) [(0, 8, 11, 21)] ∈ lw_U := mU (mT (mT7 (List.mem_of_getElem? (i := 191) rfl))) rfl
theorem q1632 : Cond.methodLink RL 136 yX12_errorPosition ∈ lw_U := mU (mT (mT7 (List.mem_of_getElem? (i := 192) rfl))) rfl
theorem q1633 : Cond.instanceMethod yX12_errorPosition ∈ lw_U := mU (mT (mT7 (List.mem_of_getElem? (i := 193) rfl))) rfl
theorem q1634 : Cond.selects RX12 yX12_errorPosition yX12_errorPosition ∈ lw_U := mU (mT (mT7 (List.mem_of_getElem? (i := 194) rfl))) rfl
theorem q1635 : Cond.code yX12_errorPosition prog_1_method_48_code 1 (some .int) ∈ lw_U := mU (mT (mT7 (List.mem_of_getElem? (i := 195) rfl))) rfl
theorem q1637 : Cond.methodLink RL 318 yL_failedCommand ∈ lw_U := mU (mT (mT7 (List.mem_of_getElem? (i := 197) rfl))) rfl
theorem q1638 : Cond.static yL_failedCommand ∈ lw_U := mU (mT (mT7 (List.mem_of_getElem? (i := 198) rfl))) rfl
theorem q1639 : Cond.codeWith yL_failedCommand method_39_code 3 (some .int) [(0, 8, 11, 21)] ∈ lw_U := mU (mT (mT7 (List.mem_of_getElem? (i := 199) rfl))) rfl
theorem q1640 : Cond.methodLink RL 139 yX12_failedCommand ∈ lw_U := mU (mT (mT7 (List.mem_of_getElem? (i := 200) rfl))) rfl
theorem q1641 : Cond.instanceMethod yX12_failedCommand ∈ lw_U := mU (mT (mT7 (List.mem_of_getElem? (i := 201) rfl))) rfl
theorem q1642 : Cond.selects RX12 yX12_failedCommand yX12_failedCommand ∈ lw_U := mU (mT (mT7 (List.mem_of_getElem? (i := 202) rfl))) rfl
theorem q1643 : Cond.code yX12_failedCommand prog_1_method_49_code 1 (some .int) ∈ lw_U := mU (mT (mT7 (List.mem_of_getElem? (i := 203) rfl))) rfl
theorem q1645 : Cond.methodLink RL 321 yL_undo ∈ lw_U := mU (mT (mT7 (List.mem_of_getElem? (i := 205) rfl))) rfl
theorem q1646 : Cond.static yL_undo ∈ lw_U := mU (mT (mT7 (List.mem_of_getElem? (i := 206) rfl))) rfl
theorem q1647 : Cond.codeWith yL_undo method_40_code 3 (some .int) [(0, 8, 11, 15)] ∈ lw_U := mU (mT (mT7 (List.mem_of_getElem? (i := 207) rfl))) rfl
theorem q1648 : Cond.methodLink RL 142 yX12_undo ∈ lw_U := mU (mT (mT7 (List.mem_of_getElem? (i := 208) rfl))) rfl
theorem q1649 : Cond.instanceMethod yX12_undo ∈ lw_U := mU (mT (mT7 (List.mem_of_getElem? (i := 209) rfl))) rfl
theorem q1650 : Cond.selects RX12 yX12_undo yX12_undo ∈ lw_U := mU (mT (mT7 (List.mem_of_getElem? (i := 210) rfl))) rfl
theorem q1651 : Cond.code yX12_undo prog_1_method_50_code 1 (some .int) ∈ lw_U := mU (mT (mT7 (List.mem_of_getElem? (i := 211) rfl))) rfl
theorem q1652 : Cond.methodLink RX12 321 yX3_count ∈ lw_U := mU (mT (mT7 (List.mem_of_getElem? (i := 212) rfl))) rfl
theorem q1653 : Cond.instanceMethod yX3_count ∈ lw_U := mU (mT (mT7 (List.mem_of_getElem? (i := 213) rfl))) rfl
theorem q1654 : Cond.selects RX3 yX3_count yX3_count ∈ lw_U := mU (mT (mT7 (List.mem_of_getElem? (i := 214) rfl))) rfl
theorem q1655 : Cond.code yX3_count prog_5_method_2_code 1 (some .int) ∈ lw_U := mU (mT (mT7 (List.mem_of_getElem? (i := 215) rfl))) rfl
theorem q1657 : Cond.methodLink RX12 324 yX3_takeBack ∈ lw_U := mU (mT (mT7 (List.mem_of_getElem? (i := 217) rfl))) rfl
theorem q1658 : Cond.instanceMethod yX3_takeBack ∈ lw_U := mU (mT (mT7 (List.mem_of_getElem? (i := 218) rfl))) rfl
theorem q1659 : Cond.selects RX3 yX3_takeBack yX3_takeBack ∈ lw_U := mU (mT (mT7 (List.mem_of_getElem? (i := 219) rfl))) rfl
theorem q1660 : Cond.code yX3_takeBack prog_5_method_6_code 2 none ∈ lw_U := mU (mT (mT7 (List.mem_of_getElem? (i := 220) rfl))) rfl
theorem q1661 : Cond.methodLink RX3 29 yX3_abandon ∈ lw_U := mU (mT (mT7 (List.mem_of_getElem? (i := 221) rfl))) rfl
theorem q1662 : Cond.methodLink RL 328 yL_restore ∈ lw_U := mU (mT (mT7 (List.mem_of_getElem? (i := 222) rfl))) rfl
theorem q1663 : Cond.static yL_restore ∈ lw_U := mU (mT (mT7 (List.mem_of_getElem? (i := 223) rfl))) rfl
theorem q1664 : Cond.codeWith yL_restore method_41_code 3 (some .int) [(0, 8, 11, 15)] ∈ lw_U := mU (mT (mT7 (List.mem_of_getElem? (i := 224) rfl))) rfl
theorem q1665 : Cond.methodLink RL 145 yX12_restore ∈ lw_U := mU (mT (mT7 (List.mem_of_getElem? (i := 225) rfl))) rfl
theorem q1666 : Cond.instanceMethod yX12_restore ∈ lw_U := mU (mT (mT7 (List.mem_of_getElem? (i := 226) rfl))) rfl
theorem q1667 : Cond.selects RX12 yX12_restore yX12_restore ∈ lw_U := mU (mT (mT7 (List.mem_of_getElem? (i := 227) rfl))) rfl
theorem q1668 : Cond.code yX12_restore prog_1_method_52_code 1 (some .int) ∈ lw_U := mU (mT (mT7 (List.mem_of_getElem? (i := 228) rfl))) rfl
theorem q1670 : Cond.methodLink RX12 332 yX3_forget ∈ lw_U := mU (mT (mT7 (List.mem_of_getElem? (i := 230) rfl))) rfl
theorem q1671 : Cond.instanceMethod yX3_forget ∈ lw_U := mU (mT (mT7 (List.mem_of_getElem? (i := 231) rfl))) rfl
theorem q1672 : Cond.selects RX3 yX3_forget yX3_forget ∈ lw_U := mU (mT (mT7 (List.mem_of_getElem? (i := 232) rfl))) rfl
theorem q1673 : Cond.code yX3_forget prog_5_method_7_code 1 none ∈ lw_U := mU (mT (mT7 (List.mem_of_getElem? (i := 233) rfl))) rfl
theorem q1674 : Cond.methodLink RL 158 yX13_thrown ∈ lw_U := mU (mT (mT7 (List.mem_of_getElem? (i := 234) rfl))) rfl
theorem q1675 : Cond.instanceMethod yX13_thrown ∈ lw_U := mU (mT (mT7 (List.mem_of_getElem? (i := 235) rfl))) rfl
theorem q1676 : Cond.selects RX13 yX13_thrown yX13_thrown ∈ lw_U := mU (mT (mT7 (List.mem_of_getElem? (i := 236) rfl))) rfl
theorem q1677 : Cond.code yX13_thrown prog_15_method_1_code 1 (some .int) ∈ lw_U := mU (mT (mT7 (List.mem_of_getElem? (i := 237) rfl))) rfl
theorem q1678 : Cond.classLink RL 149 RX13 ∈ lw_U := mU (mT (mT7 (List.mem_of_getElem? (i := 238) rfl))) rfl
theorem q1679 : Cond.instantiable RX13 19 ∈ lw_U := mU (mT (mT7 (List.mem_of_getElem? (i := 239) rfl))) rfl
theorem q1680 : Cond.methodLink RL 151 yX13_init ∈ lw_U := mU (mT (mT8 (List.mem_of_getElem? (i := 0) rfl))) rfl
theorem q1681 : Cond.instanceMethod yX13_init ∈ lw_U := mU (mT (mT8 (List.mem_of_getElem? (i := 1) rfl))) rfl
theorem q1682 : Cond.code yX13_init prog_15_method_4_code 1 none ∈ lw_U := mU (mT (mT8 (List.mem_of_getElem? (i := 2) rfl))) rfl
theorem q1683 : Cond.methodLink RX13 7 ⟨"java/lang/Object", "<init>", "()V"⟩ ∈ lw_U := mU (mT (mT8 (List.mem_of_getElem? (i := 3) rfl))) rfl
theorem q1684 : Cond.fieldLink RX13 1 RX13 "thrown" "I" ∈ lw_U := mU (mT (mT8 (List.mem_of_getElem? (i := 4) rfl))) rfl
theorem q1685 : Cond.fieldLink RX13 13 RX13 "w" "[I" ∈ lw_U := mU (mT (mT8 (List.mem_of_getElem? (i := 5) rfl))) rfl
theorem q1686 : Cond.fieldLink RX13 17 RX13 "undos" "[I" ∈ lw_U := mU (mT (mT8 (List.mem_of_getElem? (i := 6) rfl))) rfl
theorem q1687 : Cond.fieldLink RX13 20 RX13 "savedRow" "[I" ∈ lw_U := mU (mT (mT8 (List.mem_of_getElem? (i := 7) rfl))) rfl
theorem q1688 : Cond.fieldLink RX13 23 RX13 "before" "[I" ∈ lw_U := mU (mT (mT8 (List.mem_of_getElem? (i := 8) rfl))) rfl
theorem q1689 : Cond.fieldLink RX13 45 RX13 "changes" "I" ∈ lw_U := mU (mT (mT8 (List.mem_of_getElem? (i := 9) rfl))) rfl
theorem q1690 : Cond.fieldLink RX13 48 RX13 "firstChange" "I" ∈ lw_U := mU (mT (mT8 (List.mem_of_getElem? (i := 10) rfl))) rfl
theorem q1691 : Cond.fieldLink RX13 281 RX13 "isSaved" "Z" ∈ lw_U := mU (mT (mT8 (List.mem_of_getElem? (i := 11) rfl))) rfl
theorem q1692 : Cond.fieldLink RX13 26 RX13 "best" "[I" ∈ lw_U := mU (mT (mT8 (List.mem_of_getElem? (i := 12) rfl))) rfl
theorem q1693 : Cond.fieldLink RX13 29 RX13 "line" "[C" ∈ lw_U := mU (mT (mT8 (List.mem_of_getElem? (i := 13) rfl))) rfl
theorem q1694 : Cond.fieldLink RX13 213 RX13 "lineLength" "I" ∈ lw_U := mU (mT (mT8 (List.mem_of_getElem? (i := 14) rfl))) rfl
theorem q1695 : Cond.fieldLink RX13 33 RX13 "buffer" "[C" ∈ lw_U := mU (mT (mT8 (List.mem_of_getElem? (i := 15) rfl))) rfl
theorem q1696 : Cond.fieldLink RX13 222 RX13 "bufferLength" "I" ∈ lw_U := mU (mT (mT8 (List.mem_of_getElem? (i := 16) rfl))) rfl
theorem q1697 : Cond.fieldLink RX13 225 RX13 "bufferAt" "I" ∈ lw_U := mU (mT (mT8 (List.mem_of_getElem? (i := 17) rfl))) rfl
theorem q1698 : Cond.fieldLink RX13 36 RX13 "errorAt" "I" ∈ lw_U := mU (mT (mT8 (List.mem_of_getElem? (i := 18) rfl))) rfl
theorem q1699 : Cond.fieldLink RX13 39 RX13 "failedAt" "I" ∈ lw_U := mU (mT (mT8 (List.mem_of_getElem? (i := 19) rfl))) rfl
theorem q1700 : Cond.fieldLink RX13 42 RX13 "numbers" "[I" ∈ lw_U := mU (mT (mT8 (List.mem_of_getElem? (i := 20) rfl))) rfl
theorem q1701 : Cond.fieldLink RX13 248 RX13 "sort" "I" ∈ lw_U := mU (mT (mT8 (List.mem_of_getElem? (i := 21) rfl))) rfl
theorem q1702 : Cond.fieldLink RX13 263 RX13 "done" "I" ∈ lw_U := mU (mT (mT8 (List.mem_of_getElem? (i := 22) rfl))) rfl
theorem q1742 : Cond.methodLink RL 157 yX13_addSpool ∈ lw_U := mU (mT (mT8 (List.mem_of_getElem? (i := 62) rfl))) rfl
theorem q1743 : Cond.instanceMethod yX13_addSpool ∈ lw_U := mU (mT (mT8 (List.mem_of_getElem? (i := 63) rfl))) rfl
theorem q1744 : Cond.selects RX13 yX13_addSpool yX13_addSpool ∈ lw_U := mU (mT (mT8 (List.mem_of_getElem? (i := 64) rfl))) rfl
theorem q1745 : Cond.code yX13_addSpool prog_15_method_22_code 4 (some .int) ∈ lw_U := mU (mT (mT8 (List.mem_of_getElem? (i := 65) rfl))) rfl
theorem q1746 : Cond.methodLink RX13 76 yX13_notSpool ∈ lw_U := mU (mT (mT8 (List.mem_of_getElem? (i := 66) rfl))) rfl
theorem q1748 : Cond.instanceMethod yX13_notSpool ∈ lw_U := mU (mT (mT8 (List.mem_of_getElem? (i := 68) rfl))) rfl
theorem q1749 : Cond.code yX13_notSpool prog_15_method_20_code 3 (some .int) ∈ lw_U := mU (mT (mT8 (List.mem_of_getElem? (i := 69) rfl))) rfl
theorem q1750 : Cond.methodLink RX13 72 yX13_isMaterial ∈ lw_U := mU (mT (mT8 (List.mem_of_getElem? (i := 70) rfl))) rfl
theorem q1751 : Cond.static yX13_isMaterial ∈ lw_U := mU (mT (mT8 (List.mem_of_getElem? (i := 71) rfl))) rfl
theorem q1752 : Cond.code yX13_isMaterial prog_15_method_9_code 1 (some .boolean) ∈ lw_U := mU (mT (mT8 (List.mem_of_getElem? (i := 72) rfl))) rfl
theorem q1753 : Cond.methodLink RX13 57 yX13_isBetween ∈ lw_U := mU (mT (mT8 (List.mem_of_getElem? (i := 73) rfl))) rfl
theorem q1754 : Cond.static yX13_isBetween ∈ lw_U := mU (mT (mT8 (List.mem_of_getElem? (i := 74) rfl))) rfl
theorem q1755 : Cond.code yX13_isBetween prog_15_method_3_code 3 (some .boolean) ∈ lw_U := mU (mT (mT8 (List.mem_of_getElem? (i := 75) rfl))) rfl
theorem q1756 : Cond.methodLink RX13 79 yX13_fails ∈ lw_U := mU (mT (mT8 (List.mem_of_getElem? (i := 76) rfl))) rfl
theorem q1758 : Cond.instanceMethod yX13_fails ∈ lw_U := mU (mT (mT8 (List.mem_of_getElem? (i := 78) rfl))) rfl
theorem q1759 : Cond.code yX13_fails prog_15_method_2_code 2 (some .int) ∈ lw_U := mU (mT (mT8 (List.mem_of_getElem? (i := 79) rfl))) rfl
theorem q1760 : Cond.methodLink RX13 83 yX13_remembers ∈ lw_U := mU (mT (mT8 (List.mem_of_getElem? (i := 80) rfl))) rfl
theorem q1762 : Cond.instanceMethod yX13_remembers ∈ lw_U := mU (mT (mT8 (List.mem_of_getElem? (i := 82) rfl))) rfl
theorem q1763 : Cond.code yX13_remembers prog_15_method_8_code 1 none ∈ lw_U := mU (mT (mT8 (List.mem_of_getElem? (i := 83) rfl))) rfl
theorem q1764 : Cond.methodLink RX13 51 yX13_copies ∈ lw_U := mU (mT (mT8 (List.mem_of_getElem? (i := 84) rfl))) rfl
theorem q1766 : Cond.instanceMethod yX13_copies ∈ lw_U := mU (mT (mT8 (List.mem_of_getElem? (i := 86) rfl))) rfl
theorem q1767 : Cond.code yX13_copies prog_15_method_5_code 2 none ∈ lw_U := mU (mT (mT8 (List.mem_of_getElem? (i := 87) rfl))) rfl
theorem q1768 : Cond.methodLink RX13 54 yX13_keeps ∈ lw_U := mU (mT (mT8 (List.mem_of_getElem? (i := 88) rfl))) rfl
theorem q1770 : Cond.instanceMethod yX13_keeps ∈ lw_U := mU (mT (mT8 (List.mem_of_getElem? (i := 90) rfl))) rfl
theorem q1771 : Cond.code yX13_keeps prog_15_method_7_code 3 none ∈ lw_U := mU (mT (mT8 (List.mem_of_getElem? (i := 91) rfl))) rfl
theorem q1772 : Cond.methodLink RX13 86 yX13_addsSpool ∈ lw_U := mU (mT (mT8 (List.mem_of_getElem? (i := 92) rfl))) rfl
theorem q1774 : Cond.instanceMethod yX13_addsSpool ∈ lw_U := mU (mT (mT8 (List.mem_of_getElem? (i := 94) rfl))) rfl
theorem q1775 : Cond.code yX13_addsSpool prog_15_method_21_code 4 (some .int) ∈ lw_U := mU (mT (mT8 (List.mem_of_getElem? (i := 95) rfl))) rfl
theorem q1776 : Cond.methodLink RL 164 yX13_retire ∈ lw_U := mU (mT (mT8 (List.mem_of_getElem? (i := 96) rfl))) rfl
theorem q1777 : Cond.instanceMethod yX13_retire ∈ lw_U := mU (mT (mT8 (List.mem_of_getElem? (i := 97) rfl))) rfl
theorem q1778 : Cond.selects RX13 yX13_retire yX13_retire ∈ lw_U := mU (mT (mT8 (List.mem_of_getElem? (i := 98) rfl))) rfl
theorem q1779 : Cond.code yX13_retire prog_15_method_25_code 2 (some .int) ∈ lw_U := mU (mT (mT8 (List.mem_of_getElem? (i := 99) rfl))) rfl
theorem q1780 : Cond.methodLink RX13 100 yX13_notRetire ∈ lw_U := mU (mT (mT8 (List.mem_of_getElem? (i := 100) rfl))) rfl
theorem q1782 : Cond.instanceMethod yX13_notRetire ∈ lw_U := mU (mT (mT8 (List.mem_of_getElem? (i := 102) rfl))) rfl
theorem q1783 : Cond.code yX13_notRetire prog_15_method_23_code 2 (some .int) ∈ lw_U := mU (mT (mT8 (List.mem_of_getElem? (i := 103) rfl))) rfl
theorem q1784 : Cond.methodLink RX13 89 yX13_spoolPlace ∈ lw_U := mU (mT (mT8 (List.mem_of_getElem? (i := 104) rfl))) rfl
theorem q1786 : Cond.instanceMethod yX13_spoolPlace ∈ lw_U := mU (mT (mT8 (List.mem_of_getElem? (i := 106) rfl))) rfl
theorem q1787 : Cond.code yX13_spoolPlace prog_15_method_13_code 3 (some .int) ∈ lw_U := mU (mT (mT8 (List.mem_of_getElem? (i := 107) rfl))) rfl
theorem q1788 : Cond.methodLink RX13 61 yX13_spoolAt ∈ lw_U := mU (mT (mT8 (List.mem_of_getElem? (i := 108) rfl))) rfl
theorem q1790 : Cond.instanceMethod yX13_spoolAt ∈ lw_U := mU (mT (mT8 (List.mem_of_getElem? (i := 110) rfl))) rfl
theorem q1791 : Cond.code yX13_spoolAt prog_15_method_10_code 3 (some .int) ∈ lw_U := mU (mT (mT8 (List.mem_of_getElem? (i := 111) rfl))) rfl
theorem q1792 : Cond.methodLink RX13 103 yX13_retires ∈ lw_U := mU (mT (mT8 (List.mem_of_getElem? (i := 112) rfl))) rfl
theorem q1794 : Cond.instanceMethod yX13_retires ∈ lw_U := mU (mT (mT8 (List.mem_of_getElem? (i := 114) rfl))) rfl
theorem q1795 : Cond.code yX13_retires prog_15_method_24_code 4 (some .int) ∈ lw_U := mU (mT (mT8 (List.mem_of_getElem? (i := 115) rfl))) rfl
theorem q1796 : Cond.methodLink RX13 92 yX13_leavesScrap ∈ lw_U := mU (mT (mT8 (List.mem_of_getElem? (i := 116) rfl))) rfl
theorem q1798 : Cond.instanceMethod yX13_leavesScrap ∈ lw_U := mU (mT (mT8 (List.mem_of_getElem? (i := 118) rfl))) rfl
theorem q1799 : Cond.code yX13_leavesScrap prog_15_method_19_code 3 none ∈ lw_U := mU (mT (mT8 (List.mem_of_getElem? (i := 119) rfl))) rfl
theorem q1800 : Cond.methodLink RX13 96 yX13_removesSpool ∈ lw_U := mU (mT (mT8 (List.mem_of_getElem? (i := 120) rfl))) rfl
theorem q1802 : Cond.instanceMethod yX13_removesSpool ∈ lw_U := mU (mT (mT8 (List.mem_of_getElem? (i := 122) rfl))) rfl
theorem q1803 : Cond.code yX13_removesSpool prog_15_method_16_code 2 none ∈ lw_U := mU (mT (mT8 (List.mem_of_getElem? (i := 123) rfl))) rfl
theorem q1804 : Cond.methodLink RX13 68 yX13_closes ∈ lw_U := mU (mT (mT8 (List.mem_of_getElem? (i := 124) rfl))) rfl
theorem q1806 : Cond.instanceMethod yX13_closes ∈ lw_U := mU (mT (mT8 (List.mem_of_getElem? (i := 126) rfl))) rfl
theorem q1807 : Cond.code yX13_closes prog_15_method_15_code 5 none ∈ lw_U := mU (mT (mT8 (List.mem_of_getElem? (i := 127) rfl))) rfl
theorem q1808 : Cond.methodLink RL 168 yX13_throwScraps ∈ lw_U := mU (mT (mT8 (List.mem_of_getElem? (i := 128) rfl))) rfl
theorem q1809 : Cond.instanceMethod yX13_throwScraps ∈ lw_U := mU (mT (mT8 (List.mem_of_getElem? (i := 129) rfl))) rfl
theorem q1810 : Cond.selects RX13 yX13_throwScraps yX13_throwScraps ∈ lw_U := mU (mT (mT8 (List.mem_of_getElem? (i := 130) rfl))) rfl
theorem q1811 : Cond.code yX13_throwScraps prog_15_method_28_code 2 (some .int) ∈ lw_U := mU (mT (mT8 (List.mem_of_getElem? (i := 131) rfl))) rfl
theorem q1812 : Cond.methodLink RX13 112 yX13_notClear ∈ lw_U := mU (mT (mT8 (List.mem_of_getElem? (i := 132) rfl))) rfl
theorem q1813 : Cond.static yX13_notClear ∈ lw_U := mU (mT (mT8 (List.mem_of_getElem? (i := 133) rfl))) rfl
theorem q1814 : Cond.code yX13_notClear prog_15_method_27_code 1 (some .int) ∈ lw_U := mU (mT (mT8 (List.mem_of_getElem? (i := 134) rfl))) rfl
theorem q1815 : Cond.methodLink RX13 115 yX13_clears ∈ lw_U := mU (mT (mT8 (List.mem_of_getElem? (i := 135) rfl))) rfl
theorem q1817 : Cond.instanceMethod yX13_clears ∈ lw_U := mU (mT (mT8 (List.mem_of_getElem? (i := 137) rfl))) rfl
theorem q1818 : Cond.code yX13_clears prog_15_method_26_code 4 (some .int) ∈ lw_U := mU (mT (mT8 (List.mem_of_getElem? (i := 138) rfl))) rfl
theorem q1819 : Cond.methodLink RX13 106 yX13_scrapAt ∈ lw_U := mU (mT (mT8 (List.mem_of_getElem? (i := 139) rfl))) rfl
theorem q1821 : Cond.instanceMethod yX13_scrapAt ∈ lw_U := mU (mT (mT8 (List.mem_of_getElem? (i := 141) rfl))) rfl
theorem q1822 : Cond.code yX13_scrapAt prog_15_method_12_code 3 (some .int) ∈ lw_U := mU (mT (mT8 (List.mem_of_getElem? (i := 142) rfl))) rfl
theorem q1823 : Cond.methodLink RX13 109 yX13_removesScrap ∈ lw_U := mU (mT (mT8 (List.mem_of_getElem? (i := 143) rfl))) rfl
theorem q1825 : Cond.instanceMethod yX13_removesScrap ∈ lw_U := mU (mT (mT8 (List.mem_of_getElem? (i := 145) rfl))) rfl
theorem q1826 : Cond.code yX13_removesScrap prog_15_method_18_code 2 none ∈ lw_U := mU (mT (mT8 (List.mem_of_getElem? (i := 146) rfl))) rfl
theorem q1827 : Cond.methodLink RL 172 yX13_addOrder ∈ lw_U := mU (mT (mT8 (List.mem_of_getElem? (i := 147) rfl))) rfl
theorem q1828 : Cond.instanceMethod yX13_addOrder ∈ lw_U := mU (mT (mT8 (List.mem_of_getElem? (i := 148) rfl))) rfl
theorem q1829 : Cond.selects RX13 yX13_addOrder yX13_addOrder ∈ lw_U := mU (mT (mT8 (List.mem_of_getElem? (i := 149) rfl))) rfl
theorem q1830 : Cond.code yX13_addOrder prog_15_method_31_code 5 (some .int) ∈ lw_U := mU (mT (mT8 (List.mem_of_getElem? (i := 150) rfl))) rfl
theorem q1831 : Cond.methodLink RX13 118 yX13_notOrder ∈ lw_U := mU (mT (mT8 (List.mem_of_getElem? (i := 151) rfl))) rfl
theorem q1833 : Cond.instanceMethod yX13_notOrder ∈ lw_U := mU (mT (mT8 (List.mem_of_getElem? (i := 153) rfl))) rfl
theorem q1834 : Cond.code yX13_notOrder prog_15_method_29_code 4 (some .int) ∈ lw_U := mU (mT (mT8 (List.mem_of_getElem? (i := 154) rfl))) rfl
theorem q1835 : Cond.methodLink RX13 122 yX13_addsOrder ∈ lw_U := mU (mT (mT8 (List.mem_of_getElem? (i := 155) rfl))) rfl
theorem q1837 : Cond.instanceMethod yX13_addsOrder ∈ lw_U := mU (mT (mT8 (List.mem_of_getElem? (i := 157) rfl))) rfl
theorem q1838 : Cond.code yX13_addsOrder prog_15_method_30_code 6 (some .int) ∈ lw_U := mU (mT (mT8 (List.mem_of_getElem? (i := 158) rfl))) rfl
theorem q1839 : Cond.methodLink RX13 65 yX13_orderOf ∈ lw_U := mU (mT (mT8 (List.mem_of_getElem? (i := 159) rfl))) rfl
theorem q1841 : Cond.instanceMethod yX13_orderOf ∈ lw_U := mU (mT (mT8 (List.mem_of_getElem? (i := 161) rfl))) rfl
theorem q1842 : Cond.code yX13_orderOf prog_15_method_11_code 3 (some .int) ∈ lw_U := mU (mT (mT8 (List.mem_of_getElem? (i := 162) rfl))) rfl
theorem q1843 : Cond.methodLink RL 175 yX13_cancel ∈ lw_U := mU (mT (mT8 (List.mem_of_getElem? (i := 163) rfl))) rfl
theorem q1844 : Cond.instanceMethod yX13_cancel ∈ lw_U := mU (mT (mT8 (List.mem_of_getElem? (i := 164) rfl))) rfl
theorem q1845 : Cond.selects RX13 yX13_cancel yX13_cancel ∈ lw_U := mU (mT (mT8 (List.mem_of_getElem? (i := 165) rfl))) rfl
theorem q1846 : Cond.code yX13_cancel prog_15_method_34_code 2 (some .int) ∈ lw_U := mU (mT (mT8 (List.mem_of_getElem? (i := 166) rfl))) rfl
theorem q1847 : Cond.methodLink RX13 131 yX13_notCancel ∈ lw_U := mU (mT (mT8 (List.mem_of_getElem? (i := 167) rfl))) rfl
theorem q1849 : Cond.instanceMethod yX13_notCancel ∈ lw_U := mU (mT (mT8 (List.mem_of_getElem? (i := 169) rfl))) rfl
theorem q1850 : Cond.code yX13_notCancel prog_15_method_32_code 2 (some .int) ∈ lw_U := mU (mT (mT8 (List.mem_of_getElem? (i := 170) rfl))) rfl
theorem q1851 : Cond.methodLink RX13 125 yX13_orderPlace ∈ lw_U := mU (mT (mT8 (List.mem_of_getElem? (i := 171) rfl))) rfl
theorem q1853 : Cond.instanceMethod yX13_orderPlace ∈ lw_U := mU (mT (mT8 (List.mem_of_getElem? (i := 173) rfl))) rfl
theorem q1854 : Cond.code yX13_orderPlace prog_15_method_14_code 3 (some .int) ∈ lw_U := mU (mT (mT8 (List.mem_of_getElem? (i := 174) rfl))) rfl
theorem q1855 : Cond.methodLink RX13 134 yX13_cancels ∈ lw_U := mU (mT (mT8 (List.mem_of_getElem? (i := 175) rfl))) rfl
theorem q1857 : Cond.instanceMethod yX13_cancels ∈ lw_U := mU (mT (mT8 (List.mem_of_getElem? (i := 177) rfl))) rfl
theorem q1858 : Cond.code yX13_cancels prog_15_method_33_code 3 (some .int) ∈ lw_U := mU (mT (mT8 (List.mem_of_getElem? (i := 178) rfl))) rfl
theorem q1859 : Cond.methodLink RX13 128 yX13_removesOrder ∈ lw_U := mU (mT (mT8 (List.mem_of_getElem? (i := 179) rfl))) rfl
theorem q1861 : Cond.instanceMethod yX13_removesOrder ∈ lw_U := mU (mT (mT8 (List.mem_of_getElem? (i := 181) rfl))) rfl
theorem q1862 : Cond.code yX13_removesOrder prog_15_method_17_code 2 none ∈ lw_U := mU (mT (mT8 (List.mem_of_getElem? (i := 182) rfl))) rfl
theorem q1863 : Cond.methodLink RL 178 yX13_fill ∈ lw_U := mU (mT (mT8 (List.mem_of_getElem? (i := 183) rfl))) rfl
theorem q1864 : Cond.instanceMethod yX13_fill ∈ lw_U := mU (mT (mT8 (List.mem_of_getElem? (i := 184) rfl))) rfl
theorem q1865 : Cond.selects RX13 yX13_fill yX13_fill ∈ lw_U := mU (mT (mT8 (List.mem_of_getElem? (i := 185) rfl))) rfl
theorem q1866 : Cond.code yX13_fill prog_15_method_44_code 3 (some .int) ∈ lw_U := mU (mT (mT8 (List.mem_of_getElem? (i := 186) rfl))) rfl
theorem q1867 : Cond.methodLink RX13 159 yX13_notFill ∈ lw_U := mU (mT (mT8 (List.mem_of_getElem? (i := 187) rfl))) rfl
theorem q1869 : Cond.instanceMethod yX13_notFill ∈ lw_U := mU (mT (mT8 (List.mem_of_getElem? (i := 189) rfl))) rfl
theorem q1870 : Cond.code yX13_notFill prog_15_method_43_code 3 (some .int) ∈ lw_U := mU (mT (mT8 (List.mem_of_getElem? (i := 190) rfl))) rfl
theorem q1871 : Cond.methodLink RX13 156 yX13_isFillable ∈ lw_U := mU (mT (mT8 (List.mem_of_getElem? (i := 191) rfl))) rfl
theorem q1873 : Cond.instanceMethod yX13_isFillable ∈ lw_U := mU (mT (mT8 (List.mem_of_getElem? (i := 193) rfl))) rfl
theorem q1874 : Cond.code yX13_isFillable prog_15_method_38_code 2 (some .boolean) ∈ lw_U := mU (mT (mT8 (List.mem_of_getElem? (i := 194) rfl))) rfl
theorem q1875 : Cond.methodLink RX13 141 yX13_scrapFor ∈ lw_U := mU (mT (mT8 (List.mem_of_getElem? (i := 195) rfl))) rfl
theorem q1877 : Cond.instanceMethod yX13_scrapFor ∈ lw_U := mU (mT (mT8 (List.mem_of_getElem? (i := 197) rfl))) rfl
theorem q1878 : Cond.code yX13_scrapFor prog_15_method_35_code 4 (some .int) ∈ lw_U := mU (mT (mT8 (List.mem_of_getElem? (i := 198) rfl))) rfl
theorem q1879 : Cond.methodLink RX13 144 yX13_spoolFor ∈ lw_U := mU (mT (mT8 (List.mem_of_getElem? (i := 199) rfl))) rfl
theorem q1881 : Cond.instanceMethod yX13_spoolFor ∈ lw_U := mU (mT (mT8 (List.mem_of_getElem? (i := 201) rfl))) rfl
theorem q1882 : Cond.code yX13_spoolFor prog_15_method_37_code 4 (some .int) ∈ lw_U := mU (mT (mT8 (List.mem_of_getElem? (i := 202) rfl))) rfl
theorem q1883 : Cond.methodLink RX13 137 yX13_isBetter ∈ lw_U := mU (mT (mT8 (List.mem_of_getElem? (i := 203) rfl))) rfl
theorem q1885 : Cond.instanceMethod yX13_isBetter ∈ lw_U := mU (mT (mT8 (List.mem_of_getElem? (i := 205) rfl))) rfl
theorem q1886 : Cond.code yX13_isBetter prog_15_method_36_code 4 (some .boolean) ∈ lw_U := mU (mT (mT8 (List.mem_of_getElem? (i := 206) rfl))) rfl
theorem q1887 : Cond.methodLink RX13 162 yX13_fillsAt ∈ lw_U := mU (mT (mT8 (List.mem_of_getElem? (i := 207) rfl))) rfl
theorem q1889 : Cond.instanceMethod yX13_fillsAt ∈ lw_U := mU (mT (mT8 (List.mem_of_getElem? (i := 209) rfl))) rfl
theorem q1890 : Cond.code yX13_fillsAt prog_15_method_42_code 6 (some .int) ∈ lw_U := mU (mT (mT8 (List.mem_of_getElem? (i := 210) rfl))) rfl
theorem q1891 : Cond.methodLink RX13 150 yX13_cutsScrap ∈ lw_U := mU (mT (mT8 (List.mem_of_getElem? (i := 211) rfl))) rfl
theorem q1893 : Cond.instanceMethod yX13_cutsScrap ∈ lw_U := mU (mT (mT8 (List.mem_of_getElem? (i := 213) rfl))) rfl
theorem q1894 : Cond.code yX13_cutsScrap prog_15_method_40_code 4 none ∈ lw_U := mU (mT (mT8 (List.mem_of_getElem? (i := 214) rfl))) rfl
theorem q1895 : Cond.methodLink RX13 147 yX13_leftOf ∈ lw_U := mU (mT (mT8 (List.mem_of_getElem? (i := 215) rfl))) rfl
theorem q1897 : Cond.instanceMethod yX13_leftOf ∈ lw_U := mU (mT (mT8 (List.mem_of_getElem? (i := 217) rfl))) rfl
theorem q1898 : Cond.code yX13_leftOf prog_15_method_39_code 6 (some .int) ∈ lw_U := mU (mT (mT8 (List.mem_of_getElem? (i := 218) rfl))) rfl
theorem q1899 : Cond.methodLink RX13 153 yX13_cutsSpool ∈ lw_U := mU (mT (mT8 (List.mem_of_getElem? (i := 219) rfl))) rfl
theorem q1901 : Cond.instanceMethod yX13_cutsSpool ∈ lw_U := mU (mT (mT8 (List.mem_of_getElem? (i := 221) rfl))) rfl
theorem q1902 : Cond.code yX13_cutsSpool prog_15_method_41_code 5 none ∈ lw_U := mU (mT (mT8 (List.mem_of_getElem? (i := 222) rfl))) rfl
theorem q1903 : Cond.methodLink RL 181 yX13_fillDue ∈ lw_U := mU (mT (mT8 (List.mem_of_getElem? (i := 223) rfl))) rfl
theorem q1904 : Cond.instanceMethod yX13_fillDue ∈ lw_U := mU (mT (mT8 (List.mem_of_getElem? (i := 224) rfl))) rfl
theorem q1905 : Cond.selects RX13 yX13_fillDue yX13_fillDue ∈ lw_U := mU (mT (mT8 (List.mem_of_getElem? (i := 225) rfl))) rfl
theorem q1906 : Cond.code yX13_fillDue prog_15_method_47_code 2 (some .int) ∈ lw_U := mU (mT (mT8 (List.mem_of_getElem? (i := 226) rfl))) rfl
theorem q1907 : Cond.methodLink RX13 165 yX13_notDue ∈ lw_U := mU (mT (mT8 (List.mem_of_getElem? (i := 227) rfl))) rfl
theorem q1908 : Cond.static yX13_notDue ∈ lw_U := mU (mT (mT8 (List.mem_of_getElem? (i := 228) rfl))) rfl
theorem q1909 : Cond.code yX13_notDue prog_15_method_45_code 1 (some .int) ∈ lw_U := mU (mT (mT8 (List.mem_of_getElem? (i := 229) rfl))) rfl
theorem q1910 : Cond.methodLink RX13 168 yX13_fillsDue ∈ lw_U := mU (mT (mT8 (List.mem_of_getElem? (i := 230) rfl))) rfl
theorem q1912 : Cond.instanceMethod yX13_fillsDue ∈ lw_U := mU (mT (mT8 (List.mem_of_getElem? (i := 232) rfl))) rfl
theorem q1913 : Cond.code yX13_fillsDue prog_15_method_46_code 4 (some .int) ∈ lw_U := mU (mT (mT8 (List.mem_of_getElem? (i := 233) rfl))) rfl
theorem q1914 : Cond.methodLink RL 184 yX13_setKerf ∈ lw_U := mU (mT (mT8 (List.mem_of_getElem? (i := 234) rfl))) rfl
theorem q1915 : Cond.instanceMethod yX13_setKerf ∈ lw_U := mU (mT (mT8 (List.mem_of_getElem? (i := 235) rfl))) rfl
theorem q1916 : Cond.selects RX13 yX13_setKerf yX13_setKerf ∈ lw_U := mU (mT (mT8 (List.mem_of_getElem? (i := 236) rfl))) rfl
theorem q1917 : Cond.code yX13_setKerf prog_15_method_50_code 2 (some .int) ∈ lw_U := mU (mT (mT8 (List.mem_of_getElem? (i := 237) rfl))) rfl
theorem q1918 : Cond.methodLink RX13 171 yX13_notKerf ∈ lw_U := mU (mT (mT8 (List.mem_of_getElem? (i := 238) rfl))) rfl
theorem q1919 : Cond.static yX13_notKerf ∈ lw_U := mU (mT (mT8 (List.mem_of_getElem? (i := 239) rfl))) rfl
theorem q1920 : Cond.code yX13_notKerf prog_15_method_49_code 1 (some .int) ∈ lw_U := mU (mT (mT9 (List.mem_of_getElem? (i := 0) rfl))) rfl
theorem q1921 : Cond.methodLink RX13 174 yX13_sets ∈ lw_U := mU (mT (mT9 (List.mem_of_getElem? (i := 1) rfl))) rfl
theorem q1923 : Cond.instanceMethod yX13_sets ∈ lw_U := mU (mT (mT9 (List.mem_of_getElem? (i := 3) rfl))) rfl
theorem q1924 : Cond.code yX13_sets prog_15_method_48_code 4 (some .int) ∈ lw_U := mU (mT (mT9 (List.mem_of_getElem? (i := 4) rfl))) rfl
theorem q1925 : Cond.methodLink RL 187 yX13_setScrapLimit ∈ lw_U := mU (mT (mT9 (List.mem_of_getElem? (i := 5) rfl))) rfl
theorem q1926 : Cond.instanceMethod yX13_setScrapLimit ∈ lw_U := mU (mT (mT9 (List.mem_of_getElem? (i := 6) rfl))) rfl
theorem q1927 : Cond.selects RX13 yX13_setScrapLimit yX13_setScrapLimit ∈ lw_U := mU (mT (mT9 (List.mem_of_getElem? (i := 7) rfl))) rfl
theorem q1928 : Cond.code yX13_setScrapLimit prog_15_method_52_code 2 (some .int) ∈ lw_U := mU (mT (mT9 (List.mem_of_getElem? (i := 8) rfl))) rfl
theorem q1929 : Cond.methodLink RX13 177 yX13_notLimit ∈ lw_U := mU (mT (mT9 (List.mem_of_getElem? (i := 9) rfl))) rfl
theorem q1930 : Cond.static yX13_notLimit ∈ lw_U := mU (mT (mT9 (List.mem_of_getElem? (i := 10) rfl))) rfl
theorem q1931 : Cond.code yX13_notLimit prog_15_method_51_code 1 (some .int) ∈ lw_U := mU (mT (mT9 (List.mem_of_getElem? (i := 11) rfl))) rfl
theorem q1932 : Cond.methodLink RL 190 yX13_setRule ∈ lw_U := mU (mT (mT9 (List.mem_of_getElem? (i := 12) rfl))) rfl
theorem q1933 : Cond.instanceMethod yX13_setRule ∈ lw_U := mU (mT (mT9 (List.mem_of_getElem? (i := 13) rfl))) rfl
theorem q1934 : Cond.selects RX13 yX13_setRule yX13_setRule ∈ lw_U := mU (mT (mT9 (List.mem_of_getElem? (i := 14) rfl))) rfl
theorem q1935 : Cond.code yX13_setRule prog_15_method_54_code 2 (some .char) ∈ lw_U := mU (mT (mT9 (List.mem_of_getElem? (i := 15) rfl))) rfl
theorem q1936 : Cond.methodLink RX13 180 yX13_notRule ∈ lw_U := mU (mT (mT9 (List.mem_of_getElem? (i := 16) rfl))) rfl
theorem q1937 : Cond.static yX13_notRule ∈ lw_U := mU (mT (mT9 (List.mem_of_getElem? (i := 17) rfl))) rfl
theorem q1938 : Cond.code yX13_notRule prog_15_method_53_code 1 (some .int) ∈ lw_U := mU (mT (mT9 (List.mem_of_getElem? (i := 18) rfl))) rfl
theorem q1939 : Cond.methodLink RL 194 yX13_kerf ∈ lw_U := mU (mT (mT9 (List.mem_of_getElem? (i := 19) rfl))) rfl
theorem q1940 : Cond.instanceMethod yX13_kerf ∈ lw_U := mU (mT (mT9 (List.mem_of_getElem? (i := 20) rfl))) rfl
theorem q1941 : Cond.selects RX13 yX13_kerf yX13_kerf ∈ lw_U := mU (mT (mT9 (List.mem_of_getElem? (i := 21) rfl))) rfl
theorem q1942 : Cond.code yX13_kerf prog_15_method_56_code 1 (some .int) ∈ lw_U := mU (mT (mT9 (List.mem_of_getElem? (i := 22) rfl))) rfl
theorem q1943 : Cond.methodLink RX13 183 yX13_asks ∈ lw_U := mU (mT (mT9 (List.mem_of_getElem? (i := 23) rfl))) rfl
theorem q1945 : Cond.instanceMethod yX13_asks ∈ lw_U := mU (mT (mT9 (List.mem_of_getElem? (i := 25) rfl))) rfl
theorem q1946 : Cond.code yX13_asks prog_15_method_55_code 2 (some .int) ∈ lw_U := mU (mT (mT9 (List.mem_of_getElem? (i := 26) rfl))) rfl
theorem q1947 : Cond.methodLink RL 198 yX13_scrapLimit ∈ lw_U := mU (mT (mT9 (List.mem_of_getElem? (i := 27) rfl))) rfl
theorem q1948 : Cond.instanceMethod yX13_scrapLimit ∈ lw_U := mU (mT (mT9 (List.mem_of_getElem? (i := 28) rfl))) rfl
theorem q1949 : Cond.selects RX13 yX13_scrapLimit yX13_scrapLimit ∈ lw_U := mU (mT (mT9 (List.mem_of_getElem? (i := 29) rfl))) rfl
theorem q1950 : Cond.code yX13_scrapLimit prog_15_method_57_code 1 (some .int) ∈ lw_U := mU (mT (mT9 (List.mem_of_getElem? (i := 30) rfl))) rfl
theorem q1951 : Cond.methodLink RL 203 yX13_rule ∈ lw_U := mU (mT (mT9 (List.mem_of_getElem? (i := 31) rfl))) rfl
theorem q1952 : Cond.instanceMethod yX13_rule ∈ lw_U := mU (mT (mT9 (List.mem_of_getElem? (i := 32) rfl))) rfl
theorem q1953 : Cond.selects RX13 yX13_rule yX13_rule ∈ lw_U := mU (mT (mT9 (List.mem_of_getElem? (i := 33) rfl))) rfl
theorem q1954 : Cond.code yX13_rule prog_15_method_58_code 1 (some .char) ∈ lw_U := mU (mT (mT9 (List.mem_of_getElem? (i := 34) rfl))) rfl
theorem q1955 : Cond.methodLink RL 207 yX13_spools ∈ lw_U := mU (mT (mT9 (List.mem_of_getElem? (i := 35) rfl))) rfl
theorem q1956 : Cond.instanceMethod yX13_spools ∈ lw_U := mU (mT (mT9 (List.mem_of_getElem? (i := 36) rfl))) rfl
theorem q1957 : Cond.selects RX13 yX13_spools yX13_spools ∈ lw_U := mU (mT (mT9 (List.mem_of_getElem? (i := 37) rfl))) rfl
theorem q1958 : Cond.code yX13_spools prog_15_method_59_code 1 (some .int) ∈ lw_U := mU (mT (mT9 (List.mem_of_getElem? (i := 38) rfl))) rfl
theorem q1959 : Cond.methodLink RL 211 yX13_hasSpool ∈ lw_U := mU (mT (mT9 (List.mem_of_getElem? (i := 39) rfl))) rfl
theorem q1960 : Cond.instanceMethod yX13_hasSpool ∈ lw_U := mU (mT (mT9 (List.mem_of_getElem? (i := 40) rfl))) rfl
theorem q1961 : Cond.selects RX13 yX13_hasSpool yX13_hasSpool ∈ lw_U := mU (mT (mT9 (List.mem_of_getElem? (i := 41) rfl))) rfl
theorem q1962 : Cond.code yX13_hasSpool prog_15_method_60_code 2 (some .boolean) ∈ lw_U := mU (mT (mT9 (List.mem_of_getElem? (i := 42) rfl))) rfl
theorem q1963 : Cond.methodLink RL 214 yX13_material ∈ lw_U := mU (mT (mT9 (List.mem_of_getElem? (i := 43) rfl))) rfl
theorem q1964 : Cond.instanceMethod yX13_material ∈ lw_U := mU (mT (mT9 (List.mem_of_getElem? (i := 44) rfl))) rfl
theorem q1965 : Cond.selects RX13 yX13_material yX13_material ∈ lw_U := mU (mT (mT9 (List.mem_of_getElem? (i := 45) rfl))) rfl
theorem q1966 : Cond.code yX13_material prog_15_method_62_code 3 (some .char) ∈ lw_U := mU (mT (mT9 (List.mem_of_getElem? (i := 46) rfl))) rfl
theorem q1967 : Cond.methodLink RX13 186 yX13_asksSpool ∈ lw_U := mU (mT (mT9 (List.mem_of_getElem? (i := 47) rfl))) rfl
theorem q1969 : Cond.instanceMethod yX13_asksSpool ∈ lw_U := mU (mT (mT9 (List.mem_of_getElem? (i := 49) rfl))) rfl
theorem q1970 : Cond.code yX13_asksSpool prog_15_method_61_code 3 (some .int) ∈ lw_U := mU (mT (mT9 (List.mem_of_getElem? (i := 50) rfl))) rfl
theorem q1971 : Cond.methodLink RL 217 yX13_remaining ∈ lw_U := mU (mT (mT9 (List.mem_of_getElem? (i := 51) rfl))) rfl
theorem q1972 : Cond.instanceMethod yX13_remaining ∈ lw_U := mU (mT (mT9 (List.mem_of_getElem? (i := 52) rfl))) rfl
theorem q1973 : Cond.selects RX13 yX13_remaining yX13_remaining ∈ lw_U := mU (mT (mT9 (List.mem_of_getElem? (i := 53) rfl))) rfl
theorem q1974 : Cond.code yX13_remaining prog_15_method_63_code 2 (some .int) ∈ lw_U := mU (mT (mT9 (List.mem_of_getElem? (i := 54) rfl))) rfl
theorem q1975 : Cond.methodLink RL 220 yX13_cuts ∈ lw_U := mU (mT (mT9 (List.mem_of_getElem? (i := 55) rfl))) rfl
theorem q1976 : Cond.instanceMethod yX13_cuts ∈ lw_U := mU (mT (mT9 (List.mem_of_getElem? (i := 56) rfl))) rfl
theorem q1977 : Cond.selects RX13 yX13_cuts yX13_cuts ∈ lw_U := mU (mT (mT9 (List.mem_of_getElem? (i := 57) rfl))) rfl
theorem q1978 : Cond.code yX13_cuts prog_15_method_64_code 2 (some .int) ∈ lw_U := mU (mT (mT9 (List.mem_of_getElem? (i := 58) rfl))) rfl
theorem q1979 : Cond.methodLink RL 223 yX13_spoolByLength ∈ lw_U := mU (mT (mT9 (List.mem_of_getElem? (i := 59) rfl))) rfl
theorem q1980 : Cond.instanceMethod yX13_spoolByLength ∈ lw_U := mU (mT (mT9 (List.mem_of_getElem? (i := 60) rfl))) rfl
theorem q1981 : Cond.selects RX13 yX13_spoolByLength yX13_spoolByLength ∈ lw_U := mU (mT (mT9 (List.mem_of_getElem? (i := 61) rfl))) rfl
theorem q1982 : Cond.code yX13_spoolByLength prog_15_method_66_code 5 (some .int) ∈ lw_U := mU (mT (mT9 (List.mem_of_getElem? (i := 62) rfl))) rfl
theorem q1983 : Cond.methodLink RX13 189 yX13_isAhead ∈ lw_U := mU (mT (mT9 (List.mem_of_getElem? (i := 63) rfl))) rfl
theorem q1985 : Cond.instanceMethod yX13_isAhead ∈ lw_U := mU (mT (mT9 (List.mem_of_getElem? (i := 65) rfl))) rfl
theorem q1986 : Cond.code yX13_isAhead prog_15_method_65_code 5 (some .boolean) ∈ lw_U := mU (mT (mT9 (List.mem_of_getElem? (i := 66) rfl))) rfl
theorem q1987 : Cond.methodLink RL 226 yX13_scraps ∈ lw_U := mU (mT (mT9 (List.mem_of_getElem? (i := 67) rfl))) rfl
theorem q1988 : Cond.instanceMethod yX13_scraps ∈ lw_U := mU (mT (mT9 (List.mem_of_getElem? (i := 68) rfl))) rfl
theorem q1989 : Cond.selects RX13 yX13_scraps yX13_scraps ∈ lw_U := mU (mT (mT9 (List.mem_of_getElem? (i := 69) rfl))) rfl
theorem q1990 : Cond.code yX13_scraps prog_15_method_67_code 4 (some .int) ∈ lw_U := mU (mT (mT9 (List.mem_of_getElem? (i := 70) rfl))) rfl
theorem q1991 : Cond.methodLink RL 229 yX13_scrap ∈ lw_U := mU (mT (mT9 (List.mem_of_getElem? (i := 71) rfl))) rfl
theorem q1992 : Cond.instanceMethod yX13_scrap ∈ lw_U := mU (mT (mT9 (List.mem_of_getElem? (i := 72) rfl))) rfl
theorem q1993 : Cond.selects RX13 yX13_scrap yX13_scrap ∈ lw_U := mU (mT (mT9 (List.mem_of_getElem? (i := 73) rfl))) rfl
theorem q1994 : Cond.code yX13_scrap prog_15_method_69_code 4 (some .int) ∈ lw_U := mU (mT (mT9 (List.mem_of_getElem? (i := 74) rfl))) rfl
theorem q1995 : Cond.methodLink RX13 192 yX13_scrapsAhead ∈ lw_U := mU (mT (mT9 (List.mem_of_getElem? (i := 75) rfl))) rfl
theorem q1997 : Cond.instanceMethod yX13_scrapsAhead ∈ lw_U := mU (mT (mT9 (List.mem_of_getElem? (i := 77) rfl))) rfl
theorem q1998 : Cond.code yX13_scrapsAhead prog_15_method_68_code 5 (some .int) ∈ lw_U := mU (mT (mT9 (List.mem_of_getElem? (i := 78) rfl))) rfl
theorem q1999 : Cond.methodLink RL 232 yX13_bestLoad ∈ lw_U := mU (mT (mT9 (List.mem_of_getElem? (i := 79) rfl))) rfl
theorem q2000 : Cond.instanceMethod yX13_bestLoad ∈ lw_U := mU (mT (mT9 (List.mem_of_getElem? (i := 80) rfl))) rfl
theorem q2001 : Cond.selects RX13 yX13_bestLoad yX13_bestLoad ∈ lw_U := mU (mT (mT9 (List.mem_of_getElem? (i := 81) rfl))) rfl
theorem q2002 : Cond.code yX13_bestLoad prog_15_method_71_code 3 (some .int) ∈ lw_U := mU (mT (mT9 (List.mem_of_getElem? (i := 82) rfl))) rfl
theorem q2003 : Cond.methodLink RX13 195 yX13_loadOf ∈ lw_U := mU (mT (mT9 (List.mem_of_getElem? (i := 83) rfl))) rfl
theorem q2005 : Cond.instanceMethod yX13_loadOf ∈ lw_U := mU (mT (mT9 (List.mem_of_getElem? (i := 85) rfl))) rfl
theorem q2006 : Cond.code yX13_loadOf prog_15_method_70_code 8 (some .int) ∈ lw_U := mU (mT (mT9 (List.mem_of_getElem? (i := 86) rfl))) rfl
theorem q2007 : Cond.methodLink RL 235 yX13_bestLoadByRecursion ∈ lw_U := mU (mT (mT9 (List.mem_of_getElem? (i := 87) rfl))) rfl
theorem q2008 : Cond.instanceMethod yX13_bestLoadByRecursion ∈ lw_U := mU (mT (mT9 (List.mem_of_getElem? (i := 88) rfl))) rfl
theorem q2009 : Cond.selects RX13 yX13_bestLoadByRecursion yX13_bestLoadByRecursion ∈ lw_U := mU (mT (mT9 (List.mem_of_getElem? (i := 89) rfl))) rfl
theorem q2010 : Cond.code yX13_bestLoadByRecursion prog_15_method_72_code 2 (some .int) ∈ lw_U := mU (mT (mT9 (List.mem_of_getElem? (i := 90) rfl))) rfl
theorem q2011 : Cond.methodLink RX13 198 yX13_bestLoad ∈ lw_U := mU (mT (mT9 (List.mem_of_getElem? (i := 91) rfl))) rfl
theorem q2012 : Cond.methodLink RL 239 yX13_orders ∈ lw_U := mU (mT (mT9 (List.mem_of_getElem? (i := 92) rfl))) rfl
theorem q2013 : Cond.instanceMethod yX13_orders ∈ lw_U := mU (mT (mT9 (List.mem_of_getElem? (i := 93) rfl))) rfl
theorem q2014 : Cond.selects RX13 yX13_orders yX13_orders ∈ lw_U := mU (mT (mT9 (List.mem_of_getElem? (i := 94) rfl))) rfl
theorem q2015 : Cond.code yX13_orders prog_15_method_73_code 1 (some .int) ∈ lw_U := mU (mT (mT9 (List.mem_of_getElem? (i := 95) rfl))) rfl
theorem q2016 : Cond.methodLink RL 243 yX13_isOpen ∈ lw_U := mU (mT (mT9 (List.mem_of_getElem? (i := 96) rfl))) rfl
theorem q2017 : Cond.instanceMethod yX13_isOpen ∈ lw_U := mU (mT (mT9 (List.mem_of_getElem? (i := 97) rfl))) rfl
theorem q2018 : Cond.selects RX13 yX13_isOpen yX13_isOpen ∈ lw_U := mU (mT (mT9 (List.mem_of_getElem? (i := 98) rfl))) rfl
theorem q2019 : Cond.code yX13_isOpen prog_15_method_74_code 2 (some .boolean) ∈ lw_U := mU (mT (mT9 (List.mem_of_getElem? (i := 99) rfl))) rfl
theorem q2020 : Cond.methodLink RL 246 yX13_orderMaterial ∈ lw_U := mU (mT (mT9 (List.mem_of_getElem? (i := 100) rfl))) rfl
theorem q2021 : Cond.instanceMethod yX13_orderMaterial ∈ lw_U := mU (mT (mT9 (List.mem_of_getElem? (i := 101) rfl))) rfl
theorem q2022 : Cond.selects RX13 yX13_orderMaterial yX13_orderMaterial ∈ lw_U := mU (mT (mT9 (List.mem_of_getElem? (i := 102) rfl))) rfl
theorem q2023 : Cond.code yX13_orderMaterial prog_15_method_76_code 3 (some .char) ∈ lw_U := mU (mT (mT9 (List.mem_of_getElem? (i := 103) rfl))) rfl
theorem q2024 : Cond.methodLink RX13 201 yX13_asksOrder ∈ lw_U := mU (mT (mT9 (List.mem_of_getElem? (i := 104) rfl))) rfl
theorem q2026 : Cond.instanceMethod yX13_asksOrder ∈ lw_U := mU (mT (mT9 (List.mem_of_getElem? (i := 106) rfl))) rfl
theorem q2027 : Cond.code yX13_asksOrder prog_15_method_75_code 3 (some .int) ∈ lw_U := mU (mT (mT9 (List.mem_of_getElem? (i := 107) rfl))) rfl
theorem q2028 : Cond.methodLink RL 249 yX13_orderLength ∈ lw_U := mU (mT (mT9 (List.mem_of_getElem? (i := 108) rfl))) rfl
theorem q2029 : Cond.instanceMethod yX13_orderLength ∈ lw_U := mU (mT (mT9 (List.mem_of_getElem? (i := 109) rfl))) rfl
theorem q2030 : Cond.selects RX13 yX13_orderLength yX13_orderLength ∈ lw_U := mU (mT (mT9 (List.mem_of_getElem? (i := 110) rfl))) rfl
theorem q2031 : Cond.code yX13_orderLength prog_15_method_77_code 2 (some .int) ∈ lw_U := mU (mT (mT9 (List.mem_of_getElem? (i := 111) rfl))) rfl
theorem q2032 : Cond.methodLink RL 252 yX13_due ∈ lw_U := mU (mT (mT9 (List.mem_of_getElem? (i := 112) rfl))) rfl
theorem q2033 : Cond.instanceMethod yX13_due ∈ lw_U := mU (mT (mT9 (List.mem_of_getElem? (i := 113) rfl))) rfl
theorem q2034 : Cond.selects RX13 yX13_due yX13_due ∈ lw_U := mU (mT (mT9 (List.mem_of_getElem? (i := 114) rfl))) rfl
theorem q2035 : Cond.code yX13_due prog_15_method_78_code 2 (some .int) ∈ lw_U := mU (mT (mT9 (List.mem_of_getElem? (i := 115) rfl))) rfl
theorem q2036 : Cond.methodLink RL 255 yX13_orderAt ∈ lw_U := mU (mT (mT9 (List.mem_of_getElem? (i := 116) rfl))) rfl
theorem q2037 : Cond.instanceMethod yX13_orderAt ∈ lw_U := mU (mT (mT9 (List.mem_of_getElem? (i := 117) rfl))) rfl
theorem q2038 : Cond.selects RX13 yX13_orderAt yX13_orderAt ∈ lw_U := mU (mT (mT9 (List.mem_of_getElem? (i := 118) rfl))) rfl
theorem q2039 : Cond.code yX13_orderAt prog_15_method_79_code 2 (some .int) ∈ lw_U := mU (mT (mT9 (List.mem_of_getElem? (i := 119) rfl))) rfl
theorem q2040 : Cond.methodLink RL 258 yX13_canFill ∈ lw_U := mU (mT (mT9 (List.mem_of_getElem? (i := 120) rfl))) rfl
theorem q2041 : Cond.instanceMethod yX13_canFill ∈ lw_U := mU (mT (mT9 (List.mem_of_getElem? (i := 121) rfl))) rfl
theorem q2042 : Cond.selects RX13 yX13_canFill yX13_canFill ∈ lw_U := mU (mT (mT9 (List.mem_of_getElem? (i := 122) rfl))) rfl
theorem q2043 : Cond.code yX13_canFill prog_15_method_80_code 3 (some .boolean) ∈ lw_U := mU (mT (mT9 (List.mem_of_getElem? (i := 123) rfl))) rfl
theorem q2044 : Cond.methodLink RL 261 yX13_chosenScrap ∈ lw_U := mU (mT (mT9 (List.mem_of_getElem? (i := 124) rfl))) rfl
theorem q2045 : Cond.instanceMethod yX13_chosenScrap ∈ lw_U := mU (mT (mT9 (List.mem_of_getElem? (i := 125) rfl))) rfl
theorem q2046 : Cond.selects RX13 yX13_chosenScrap yX13_chosenScrap ∈ lw_U := mU (mT (mT9 (List.mem_of_getElem? (i := 126) rfl))) rfl
theorem q2047 : Cond.code yX13_chosenScrap prog_15_method_81_code 3 (some .int) ∈ lw_U := mU (mT (mT9 (List.mem_of_getElem? (i := 127) rfl))) rfl
theorem q2048 : Cond.methodLink RL 264 yX13_chosenSpool ∈ lw_U := mU (mT (mT9 (List.mem_of_getElem? (i := 128) rfl))) rfl
theorem q2049 : Cond.instanceMethod yX13_chosenSpool ∈ lw_U := mU (mT (mT9 (List.mem_of_getElem? (i := 129) rfl))) rfl
theorem q2050 : Cond.selects RX13 yX13_chosenSpool yX13_chosenSpool ∈ lw_U := mU (mT (mT9 (List.mem_of_getElem? (i := 130) rfl))) rfl
theorem q2051 : Cond.code yX13_chosenSpool prog_15_method_82_code 3 (some .int) ∈ lw_U := mU (mT (mT9 (List.mem_of_getElem? (i := 131) rfl))) rfl
theorem q2052 : Cond.methodLink RL 267 yX13_wound ∈ lw_U := mU (mT (mT9 (List.mem_of_getElem? (i := 132) rfl))) rfl
theorem q2053 : Cond.instanceMethod yX13_wound ∈ lw_U := mU (mT (mT9 (List.mem_of_getElem? (i := 133) rfl))) rfl
theorem q2054 : Cond.selects RX13 yX13_wound yX13_wound ∈ lw_U := mU (mT (mT9 (List.mem_of_getElem? (i := 134) rfl))) rfl
theorem q2055 : Cond.code yX13_wound prog_15_method_84_code 2 (some .int) ∈ lw_U := mU (mT (mT9 (List.mem_of_getElem? (i := 135) rfl))) rfl
theorem q2056 : Cond.methodLink RX13 204 yX13_asksMaterial ∈ lw_U := mU (mT (mT9 (List.mem_of_getElem? (i := 136) rfl))) rfl
theorem q2058 : Cond.instanceMethod yX13_asksMaterial ∈ lw_U := mU (mT (mT9 (List.mem_of_getElem? (i := 138) rfl))) rfl
theorem q2059 : Cond.code yX13_asksMaterial prog_15_method_83_code 3 (some .int) ∈ lw_U := mU (mT (mT9 (List.mem_of_getElem? (i := 139) rfl))) rfl
theorem q2060 : Cond.methodLink RL 270 yX13_woundByParts ∈ lw_U := mU (mT (mT9 (List.mem_of_getElem? (i := 140) rfl))) rfl
theorem q2061 : Cond.instanceMethod yX13_woundByParts ∈ lw_U := mU (mT (mT9 (List.mem_of_getElem? (i := 141) rfl))) rfl
theorem q2062 : Cond.selects RX13 yX13_woundByParts yX13_woundByParts ∈ lw_U := mU (mT (mT9 (List.mem_of_getElem? (i := 142) rfl))) rfl
theorem q2063 : Cond.code yX13_woundByParts prog_15_method_86_code 2 (some .int) ∈ lw_U := mU (mT (mT9 (List.mem_of_getElem? (i := 143) rfl))) rfl
theorem q2064 : Cond.methodLink RX13 207 yX13_partsOf ∈ lw_U := mU (mT (mT9 (List.mem_of_getElem? (i := 144) rfl))) rfl
theorem q2066 : Cond.instanceMethod yX13_partsOf ∈ lw_U := mU (mT (mT9 (List.mem_of_getElem? (i := 146) rfl))) rfl
theorem q2067 : Cond.code yX13_partsOf prog_15_method_85_code 4 (some .int) ∈ lw_U := mU (mT (mT9 (List.mem_of_getElem? (i := 147) rfl))) rfl
theorem q2068 : Cond.methodLink RL 273 yX13_delivered ∈ lw_U := mU (mT (mT9 (List.mem_of_getElem? (i := 148) rfl))) rfl
theorem q2069 : Cond.instanceMethod yX13_delivered ∈ lw_U := mU (mT (mT9 (List.mem_of_getElem? (i := 149) rfl))) rfl
theorem q2070 : Cond.selects RX13 yX13_delivered yX13_delivered ∈ lw_U := mU (mT (mT9 (List.mem_of_getElem? (i := 150) rfl))) rfl
theorem q2071 : Cond.code yX13_delivered prog_15_method_87_code 2 (some .int) ∈ lw_U := mU (mT (mT9 (List.mem_of_getElem? (i := 151) rfl))) rfl
theorem q2072 : Cond.methodLink RL 276 yX13_losses ∈ lw_U := mU (mT (mT9 (List.mem_of_getElem? (i := 152) rfl))) rfl
theorem q2073 : Cond.instanceMethod yX13_losses ∈ lw_U := mU (mT (mT9 (List.mem_of_getElem? (i := 153) rfl))) rfl
theorem q2074 : Cond.selects RX13 yX13_losses yX13_losses ∈ lw_U := mU (mT (mT9 (List.mem_of_getElem? (i := 154) rfl))) rfl
theorem q2075 : Cond.code yX13_losses prog_15_method_88_code 2 (some .int) ∈ lw_U := mU (mT (mT9 (List.mem_of_getElem? (i := 155) rfl))) rfl
theorem q2076 : Cond.methodLink RL 280 yX13_filled ∈ lw_U := mU (mT (mT9 (List.mem_of_getElem? (i := 156) rfl))) rfl
theorem q2077 : Cond.instanceMethod yX13_filled ∈ lw_U := mU (mT (mT9 (List.mem_of_getElem? (i := 157) rfl))) rfl
theorem q2078 : Cond.selects RX13 yX13_filled yX13_filled ∈ lw_U := mU (mT (mT9 (List.mem_of_getElem? (i := 158) rfl))) rfl
theorem q2079 : Cond.code yX13_filled prog_15_method_89_code 1 (some .int) ∈ lw_U := mU (mT (mT9 (List.mem_of_getElem? (i := 159) rfl))) rfl
theorem q2080 : Cond.methodLink RL 285 yX13_totalDelivered ∈ lw_U := mU (mT (mT9 (List.mem_of_getElem? (i := 160) rfl))) rfl
theorem q2081 : Cond.instanceMethod yX13_totalDelivered ∈ lw_U := mU (mT (mT9 (List.mem_of_getElem? (i := 161) rfl))) rfl
theorem q2082 : Cond.selects RX13 yX13_totalDelivered yX13_totalDelivered ∈ lw_U := mU (mT (mT9 (List.mem_of_getElem? (i := 162) rfl))) rfl
theorem q2083 : Cond.code yX13_totalDelivered prog_15_method_91_code 1 (some .long) ∈ lw_U := mU (mT (mT9 (List.mem_of_getElem? (i := 163) rfl))) rfl
theorem q2084 : Cond.methodLink RX13 210 yX13_sumOf ∈ lw_U := mU (mT (mT9 (List.mem_of_getElem? (i := 164) rfl))) rfl
theorem q2086 : Cond.instanceMethod yX13_sumOf ∈ lw_U := mU (mT (mT9 (List.mem_of_getElem? (i := 166) rfl))) rfl
theorem q2087 : Cond.code yX13_sumOf prog_15_method_90_code 4 (some .int) ∈ lw_U := mU (mT (mT9 (List.mem_of_getElem? (i := 167) rfl))) rfl
theorem q2088 : Cond.methodLink RL 289 yX13_meanRemaining ∈ lw_U := mU (mT (mT9 (List.mem_of_getElem? (i := 168) rfl))) rfl
theorem q2089 : Cond.instanceMethod yX13_meanRemaining ∈ lw_U := mU (mT (mT9 (List.mem_of_getElem? (i := 169) rfl))) rfl
theorem q2090 : Cond.selects RX13 yX13_meanRemaining yX13_meanRemaining ∈ lw_U := mU (mT (mT9 (List.mem_of_getElem? (i := 170) rfl))) rfl
theorem q2091 : Cond.code yX13_meanRemaining prog_15_method_92_code 3 (some .double) ∈ lw_U := mU (mT (mT9 (List.mem_of_getElem? (i := 171) rfl))) rfl
theorem q2092 : Cond.methodLink RL 292 yX13_lossRate ∈ lw_U := mU (mT (mT9 (List.mem_of_getElem? (i := 172) rfl))) rfl
theorem q2093 : Cond.instanceMethod yX13_lossRate ∈ lw_U := mU (mT (mT9 (List.mem_of_getElem? (i := 173) rfl))) rfl
theorem q2094 : Cond.selects RX13 yX13_lossRate yX13_lossRate ∈ lw_U := mU (mT (mT9 (List.mem_of_getElem? (i := 174) rfl))) rfl
theorem q2095 : Cond.code yX13_lossRate prog_15_method_93_code 1 (some .float) ∈ lw_U := mU (mT (mT9 (List.mem_of_getElem? (i := 175) rfl))) rfl
theorem q2096 : Cond.methodLink RL 297 yX13_isConsistent ∈ lw_U := mU (mT (mT9 (List.mem_of_getElem? (i := 176) rfl))) rfl
theorem q2097 : Cond.instanceMethod yX13_isConsistent ∈ lw_U := mU (mT (mT9 (List.mem_of_getElem? (i := 177) rfl))) rfl
theorem q2098 : Cond.selects RX13 yX13_isConsistent yX13_isConsistent ∈ lw_U := mU (mT (mT9 (List.mem_of_getElem? (i := 178) rfl))) rfl
theorem q2099 : Cond.code yX13_isConsistent prog_15_method_94_code 2 (some .boolean) ∈ lw_U := mU (mT (mT9 (List.mem_of_getElem? (i := 179) rfl))) rfl
theorem q2100 : Cond.methodLink RL 300 yX13_writeSpool ∈ lw_U := mU (mT (mT9 (List.mem_of_getElem? (i := 180) rfl))) rfl
theorem q2101 : Cond.instanceMethod yX13_writeSpool ∈ lw_U := mU (mT (mT9 (List.mem_of_getElem? (i := 181) rfl))) rfl
theorem q2102 : Cond.selects RX13 yX13_writeSpool yX13_writeSpool ∈ lw_U := mU (mT (mT9 (List.mem_of_getElem? (i := 182) rfl))) rfl
theorem q2103 : Cond.code yX13_writeSpool prog_15_method_97_code 3 (some .int) ∈ lw_U := mU (mT (mT9 (List.mem_of_getElem? (i := 183) rfl))) rfl
theorem q2104 : Cond.methodLink RX13 219 yX13_writesNumber ∈ lw_U := mU (mT (mT9 (List.mem_of_getElem? (i := 184) rfl))) rfl
theorem q2106 : Cond.instanceMethod yX13_writesNumber ∈ lw_U := mU (mT (mT9 (List.mem_of_getElem? (i := 186) rfl))) rfl
theorem q2107 : Cond.code yX13_writesNumber prog_15_method_96_code 4 none ∈ lw_U := mU (mT (mT9 (List.mem_of_getElem? (i := 187) rfl))) rfl
theorem q2108 : Cond.methodLink RX13 216 yX13_writes ∈ lw_U := mU (mT (mT9 (List.mem_of_getElem? (i := 188) rfl))) rfl
theorem q2110 : Cond.instanceMethod yX13_writes ∈ lw_U := mU (mT (mT9 (List.mem_of_getElem? (i := 190) rfl))) rfl
theorem q2111 : Cond.code yX13_writes prog_15_method_95_code 2 none ∈ lw_U := mU (mT (mT9 (List.mem_of_getElem? (i := 191) rfl))) rfl
theorem q2112 : Cond.methodLink RL 304 yX13_writeOrders ∈ lw_U := mU (mT (mT9 (List.mem_of_getElem? (i := 192) rfl))) rfl
theorem q2113 : Cond.instanceMethod yX13_writeOrders ∈ lw_U := mU (mT (mT9 (List.mem_of_getElem? (i := 193) rfl))) rfl
theorem q2114 : Cond.selects RX13 yX13_writeOrders yX13_writeOrders ∈ lw_U := mU (mT (mT9 (List.mem_of_getElem? (i := 194) rfl))) rfl
theorem q2115 : Cond.code yX13_writeOrders prog_15_method_98_code 2 (some .int) ∈ lw_U := mU (mT (mT9 (List.mem_of_getElem? (i := 195) rfl))) rfl
theorem q2116 : Cond.methodLink RL 307 yX13_charAt ∈ lw_U := mU (mT (mT9 (List.mem_of_getElem? (i := 196) rfl))) rfl
theorem q2117 : Cond.instanceMethod yX13_charAt ∈ lw_U := mU (mT (mT9 (List.mem_of_getElem? (i := 197) rfl))) rfl
theorem q2118 : Cond.selects RX13 yX13_charAt yX13_charAt ∈ lw_U := mU (mT (mT9 (List.mem_of_getElem? (i := 198) rfl))) rfl
theorem q2119 : Cond.code yX13_charAt prog_15_method_99_code 2 (some .char) ∈ lw_U := mU (mT (mT9 (List.mem_of_getElem? (i := 199) rfl))) rfl
theorem q2120 : Cond.methodLink RL 310 yX13_type ∈ lw_U := mU (mT (mT9 (List.mem_of_getElem? (i := 200) rfl))) rfl
theorem q2121 : Cond.instanceMethod yX13_type ∈ lw_U := mU (mT (mT9 (List.mem_of_getElem? (i := 201) rfl))) rfl
theorem q2122 : Cond.selects RX13 yX13_type yX13_type ∈ lw_U := mU (mT (mT9 (List.mem_of_getElem? (i := 202) rfl))) rfl
theorem q2123 : Cond.code yX13_type prog_15_method_100_code 2 (some .int) ∈ lw_U := mU (mT (mT9 (List.mem_of_getElem? (i := 203) rfl))) rfl
theorem q2124 : Cond.methodLink RL 314 yX13_run ∈ lw_U := mU (mT (mT9 (List.mem_of_getElem? (i := 204) rfl))) rfl
theorem q2125 : Cond.instanceMethod yX13_run ∈ lw_U := mU (mT (mT9 (List.mem_of_getElem? (i := 205) rfl))) rfl
theorem q2126 : Cond.selects RX13 yX13_run yX13_run ∈ lw_U := mU (mT (mT9 (List.mem_of_getElem? (i := 206) rfl))) rfl
theorem q2127 : Cond.code yX13_run prog_15_method_115_code 2 (some .int) ∈ lw_U := mU (mT (mT9 (List.mem_of_getElem? (i := 207) rfl))) rfl
theorem q2128 : Cond.methodLink RX13 272 yX13_readsAll ∈ lw_U := mU (mT (mT9 (List.mem_of_getElem? (i := 208) rfl))) rfl
theorem q2130 : Cond.instanceMethod yX13_readsAll ∈ lw_U := mU (mT (mT9 (List.mem_of_getElem? (i := 210) rfl))) rfl
theorem q2131 : Cond.code yX13_readsAll prog_15_method_111_code 2 (some .boolean) ∈ lw_U := mU (mT (mT9 (List.mem_of_getElem? (i := 211) rfl))) rfl
theorem q2132 : Cond.methodLink RX13 260 yX13_readsCommand ∈ lw_U := mU (mT (mT9 (List.mem_of_getElem? (i := 212) rfl))) rfl
theorem q2134 : Cond.instanceMethod yX13_readsCommand ∈ lw_U := mU (mT (mT9 (List.mem_of_getElem? (i := 214) rfl))) rfl
theorem q2135 : Cond.code yX13_readsCommand prog_15_method_110_code 1 (some .boolean) ∈ lw_U := mU (mT (mT9 (List.mem_of_getElem? (i := 215) rfl))) rfl
theorem q2136 : Cond.methodLink RX13 228 yX13_nextChar ∈ lw_U := mU (mT (mT9 (List.mem_of_getElem? (i := 216) rfl))) rfl
theorem q2138 : Cond.instanceMethod yX13_nextChar ∈ lw_U := mU (mT (mT9 (List.mem_of_getElem? (i := 218) rfl))) rfl
theorem q2139 : Cond.code yX13_nextChar prog_15_method_101_code 1 (some .int) ∈ lw_U := mU (mT (mT9 (List.mem_of_getElem? (i := 219) rfl))) rfl
theorem q2140 : Cond.methodLink RX13 239 yX13_reads ∈ lw_U := mU (mT (mT9 (List.mem_of_getElem? (i := 220) rfl))) rfl
theorem q2142 : Cond.instanceMethod yX13_reads ∈ lw_U := mU (mT (mT9 (List.mem_of_getElem? (i := 222) rfl))) rfl
theorem q2143 : Cond.code yX13_reads prog_15_method_102_code 2 (some .boolean) ∈ lw_U := mU (mT (mT9 (List.mem_of_getElem? (i := 223) rfl))) rfl
theorem q2144 : Cond.methodLink RX13 242 yX13_readsMaterial ∈ lw_U := mU (mT (mT9 (List.mem_of_getElem? (i := 224) rfl))) rfl
theorem q2146 : Cond.instanceMethod yX13_readsMaterial ∈ lw_U := mU (mT (mT9 (List.mem_of_getElem? (i := 226) rfl))) rfl
theorem q2147 : Cond.code yX13_readsMaterial prog_15_method_106_code 1 (some .boolean) ∈ lw_U := mU (mT (mT9 (List.mem_of_getElem? (i := 227) rfl))) rfl
theorem q2148 : Cond.methodLink RX13 245 yX13_readsNumber ∈ lw_U := mU (mT (mT9 (List.mem_of_getElem? (i := 228) rfl))) rfl
theorem q2150 : Cond.instanceMethod yX13_readsNumber ∈ lw_U := mU (mT (mT9 (List.mem_of_getElem? (i := 230) rfl))) rfl
theorem q2151 : Cond.code yX13_readsNumber prog_15_method_105_code 3 (some .boolean) ∈ lw_U := mU (mT (mT9 (List.mem_of_getElem? (i := 231) rfl))) rfl
theorem q2152 : Cond.methodLink RX13 236 yX13_readsDigit ∈ lw_U := mU (mT (mT9 (List.mem_of_getElem? (i := 232) rfl))) rfl
theorem q2154 : Cond.instanceMethod yX13_readsDigit ∈ lw_U := mU (mT (mT9 (List.mem_of_getElem? (i := 234) rfl))) rfl
theorem q2155 : Cond.code yX13_readsDigit prog_15_method_104_code 2 (some .boolean) ∈ lw_U := mU (mT (mT9 (List.mem_of_getElem? (i := 235) rfl))) rfl
theorem q2156 : Cond.methodLink RX13 232 yX13_isDigitNext ∈ lw_U := mU (mT (mT9 (List.mem_of_getElem? (i := 236) rfl))) rfl
theorem q2158 : Cond.instanceMethod yX13_isDigitNext ∈ lw_U := mU (mT (mT9 (List.mem_of_getElem? (i := 238) rfl))) rfl
theorem q2159 : Cond.code yX13_isDigitNext prog_15_method_103_code 1 (some .boolean) ∈ lw_U := mU (mT (mT9 (List.mem_of_getElem? (i := 239) rfl))) rfl
theorem q2160 : Cond.methodLink RX13 251 yX13_readsOrder ∈ lw_U := mU (mT (mT10 (List.mem_of_getElem? (i := 0) rfl))) rfl
theorem q2162 : Cond.instanceMethod yX13_readsOrder ∈ lw_U := mU (mT (mT10 (List.mem_of_getElem? (i := 2) rfl))) rfl
theorem q2163 : Cond.code yX13_readsOrder prog_15_method_107_code 1 (some .boolean) ∈ lw_U := mU (mT (mT10 (List.mem_of_getElem? (i := 3) rfl))) rfl
theorem q2164 : Cond.methodLink RX13 254 yX13_readsC ∈ lw_U := mU (mT (mT10 (List.mem_of_getElem? (i := 4) rfl))) rfl
theorem q2166 : Cond.instanceMethod yX13_readsC ∈ lw_U := mU (mT (mT10 (List.mem_of_getElem? (i := 6) rfl))) rfl
theorem q2167 : Cond.code yX13_readsC prog_15_method_108_code 1 (some .boolean) ∈ lw_U := mU (mT (mT10 (List.mem_of_getElem? (i := 7) rfl))) rfl
theorem q2168 : Cond.methodLink RX13 257 yX13_readsR ∈ lw_U := mU (mT (mT10 (List.mem_of_getElem? (i := 8) rfl))) rfl
theorem q2170 : Cond.instanceMethod yX13_readsR ∈ lw_U := mU (mT (mT10 (List.mem_of_getElem? (i := 10) rfl))) rfl
theorem q2171 : Cond.code yX13_readsR prog_15_method_109_code 1 (some .boolean) ∈ lw_U := mU (mT (mT10 (List.mem_of_getElem? (i := 11) rfl))) rfl
theorem q2172 : Cond.methodLink RX13 275 yX13_doesAll ∈ lw_U := mU (mT (mT10 (List.mem_of_getElem? (i := 12) rfl))) rfl
theorem q2174 : Cond.instanceMethod yX13_doesAll ∈ lw_U := mU (mT (mT10 (List.mem_of_getElem? (i := 14) rfl))) rfl
theorem q2175 : Cond.code yX13_doesAll prog_15_method_114_code 2 (some .boolean) ∈ lw_U := mU (mT (mT10 (List.mem_of_getElem? (i := 15) rfl))) rfl
theorem q2176 : Cond.methodLink RX13 266 yX13_notNow ∈ lw_U := mU (mT (mT10 (List.mem_of_getElem? (i := 16) rfl))) rfl
theorem q2178 : Cond.instanceMethod yX13_notNow ∈ lw_U := mU (mT (mT10 (List.mem_of_getElem? (i := 18) rfl))) rfl
theorem q2179 : Cond.code yX13_notNow prog_15_method_112_code 2 (some .int) ∈ lw_U := mU (mT (mT10 (List.mem_of_getElem? (i := 19) rfl))) rfl
theorem q2180 : Cond.methodLink RX13 269 yX13_doesNow ∈ lw_U := mU (mT (mT10 (List.mem_of_getElem? (i := 20) rfl))) rfl
theorem q2182 : Cond.instanceMethod yX13_doesNow ∈ lw_U := mU (mT (mT10 (List.mem_of_getElem? (i := 22) rfl))) rfl
theorem q2183 : Cond.code yX13_doesNow prog_15_method_113_code 2 (some .int) ∈ lw_U := mU (mT (mT10 (List.mem_of_getElem? (i := 23) rfl))) rfl
theorem q2184 : Cond.methodLink RX13 278 yX13_goesBack ∈ lw_U := mU (mT (mT10 (List.mem_of_getElem? (i := 24) rfl))) rfl
theorem q2186 : Cond.instanceMethod yX13_goesBack ∈ lw_U := mU (mT (mT10 (List.mem_of_getElem? (i := 26) rfl))) rfl
theorem q2187 : Cond.code yX13_goesBack prog_15_method_6_code 2 none ∈ lw_U := mU (mT (mT10 (List.mem_of_getElem? (i := 27) rfl))) rfl
theorem q2188 : Cond.methodLink RL 317 yX13_errorPosition ∈ lw_U := mU (mT (mT10 (List.mem_of_getElem? (i := 28) rfl))) rfl
theorem q2189 : Cond.instanceMethod yX13_errorPosition ∈ lw_U := mU (mT (mT10 (List.mem_of_getElem? (i := 29) rfl))) rfl
theorem q2190 : Cond.selects RX13 yX13_errorPosition yX13_errorPosition ∈ lw_U := mU (mT (mT10 (List.mem_of_getElem? (i := 30) rfl))) rfl
theorem q2191 : Cond.code yX13_errorPosition prog_15_method_116_code 1 (some .int) ∈ lw_U := mU (mT (mT10 (List.mem_of_getElem? (i := 31) rfl))) rfl
theorem q2192 : Cond.methodLink RL 320 yX13_failedCommand ∈ lw_U := mU (mT (mT10 (List.mem_of_getElem? (i := 32) rfl))) rfl
theorem q2193 : Cond.instanceMethod yX13_failedCommand ∈ lw_U := mU (mT (mT10 (List.mem_of_getElem? (i := 33) rfl))) rfl
theorem q2194 : Cond.selects RX13 yX13_failedCommand yX13_failedCommand ∈ lw_U := mU (mT (mT10 (List.mem_of_getElem? (i := 34) rfl))) rfl
theorem q2195 : Cond.code yX13_failedCommand prog_15_method_117_code 1 (some .int) ∈ lw_U := mU (mT (mT10 (List.mem_of_getElem? (i := 35) rfl))) rfl
theorem q2196 : Cond.methodLink RL 323 yX13_undo ∈ lw_U := mU (mT (mT10 (List.mem_of_getElem? (i := 36) rfl))) rfl
theorem q2197 : Cond.instanceMethod yX13_undo ∈ lw_U := mU (mT (mT10 (List.mem_of_getElem? (i := 37) rfl))) rfl
theorem q2198 : Cond.selects RX13 yX13_undo yX13_undo ∈ lw_U := mU (mT (mT10 (List.mem_of_getElem? (i := 38) rfl))) rfl
theorem q2199 : Cond.code yX13_undo prog_15_method_118_code 3 (some .int) ∈ lw_U := mU (mT (mT10 (List.mem_of_getElem? (i := 39) rfl))) rfl
theorem q2200 : Cond.methodLink RL 327 yX13_save ∈ lw_U := mU (mT (mT10 (List.mem_of_getElem? (i := 40) rfl))) rfl
theorem q2201 : Cond.instanceMethod yX13_save ∈ lw_U := mU (mT (mT10 (List.mem_of_getElem? (i := 41) rfl))) rfl
theorem q2202 : Cond.selects RX13 yX13_save yX13_save ∈ lw_U := mU (mT (mT10 (List.mem_of_getElem? (i := 42) rfl))) rfl
theorem q2203 : Cond.code yX13_save prog_15_method_119_code 2 (some .int) ∈ lw_U := mU (mT (mT10 (List.mem_of_getElem? (i := 43) rfl))) rfl
theorem q2204 : Cond.methodLink RL 330 yX13_restore ∈ lw_U := mU (mT (mT10 (List.mem_of_getElem? (i := 44) rfl))) rfl
theorem q2205 : Cond.instanceMethod yX13_restore ∈ lw_U := mU (mT (mT10 (List.mem_of_getElem? (i := 45) rfl))) rfl
theorem q2206 : Cond.selects RX13 yX13_restore yX13_restore ∈ lw_U := mU (mT (mT10 (List.mem_of_getElem? (i := 46) rfl))) rfl
theorem q2207 : Cond.code yX13_restore prog_15_method_120_code 2 (some .int) ∈ lw_U := mU (mT (mT10 (List.mem_of_getElem? (i := 47) rfl))) rfl
theorem q2208 : Cond.arrayClass .long ∈ lw_U := mU (mT (mT10 (List.mem_of_getElem? (i := 48) rfl))) rfl
theorem q2209 : Cond.arrayClass .double ∈ lw_U := mU (mT (mT10 (List.mem_of_getElem? (i := 49) rfl))) rfl
theorem q2210 : Cond.sameMethod RJ5 RJ5 "setLength" "(I)V" ∈ lw_U := mU (mT (mT10 (List.mem_of_getElem? (i := 50) rfl))) rfl
theorem q2211 : Cond.sameMethod RJ5 RJ5 "append" "(Ljava/lang/String;)Ljava/lang/AbstractStringBuilder;" ∈ lw_U := mU (mT (mT10 (List.mem_of_getElem? (i := 51) rfl))) rfl
theorem q2212 : Cond.sameMethod RJ5 RJ5 "appendNull" "()Ljava/lang/AbstractStringBuilder;" ∈ lw_U := mU (mT (mT10 (List.mem_of_getElem? (i := 52) rfl))) rfl
theorem q2213 : Cond.sameMethod RJ5 RJ5 "ensureCapacityInternal" "(I)V" ∈ lw_U := mU (mT (mT10 (List.mem_of_getElem? (i := 53) rfl))) rfl
theorem q2214 : Cond.sameMethod RJ5 RJ5 "newCapacity" "(I)I" ∈ lw_U := mU (mT (mT10 (List.mem_of_getElem? (i := 54) rfl))) rfl
theorem q2215 : Cond.sameMethod RJ5 RJ5 "putStringAt" "(ILjava/lang/String;)V" ∈ lw_U := mU (mT (mT10 (List.mem_of_getElem? (i := 55) rfl))) rfl
theorem q2216 : Cond.sameMethod RJ5 RJ5 "inflateIfNeededFor" "(Ljava/lang/String;)V" ∈ lw_U := mU (mT (mT10 (List.mem_of_getElem? (i := 56) rfl))) rfl
theorem q2217 : Cond.sameMethod RJ5 RJ5 "inflate" "()V" ∈ lw_U := mU (mT (mT10 (List.mem_of_getElem? (i := 57) rfl))) rfl
theorem q2218 : Cond.sameMethod RJ5 RJ5 "append" "(I)Ljava/lang/AbstractStringBuilder;" ∈ lw_U := mU (mT (mT10 (List.mem_of_getElem? (i := 58) rfl))) rfl
theorem q2219 : Cond.sameMethod "java/lang/Throwable" "java/lang/Throwable" "fillInStackTrace" "(I)Ljava/lang/Throwable;" ∈ lw_U := mU (mT (mT10 (List.mem_of_getElem? (i := 59) rfl))) rfl
theorem q2220 : Cond.sameMethod RJ5 RJ5 "append" "(C)Ljava/lang/AbstractStringBuilder;" ∈ lw_U := mU (mT (mT10 (List.mem_of_getElem? (i := 60) rfl))) rfl
theorem q2221 : Cond.selects RJ4 yJ4_length_8abf5 yJ4_length_8abf5 ∈ lw_U := mU (mT (mT10 (List.mem_of_getElem? (i := 61) rfl))) rfl
theorem q2222 : Cond.sameMethod RJ5 RJ5 "charAt" "(I)C" ∈ lw_U := mU (mT (mT10 (List.mem_of_getElem? (i := 62) rfl))) rfl
theorem q2223 : Cond.castable RJx00060 "java/lang/IndexOutOfBoundsException" ∈ lw_N := nN (mT10 (List.mem_of_getElem? (i := 63) rfl)) rfl
theorem q2224 : Cond.castable RJx7c733 "java/lang/IndexOutOfBoundsException" ∈ lw_N := nN (mT10 (List.mem_of_getElem? (i := 64) rfl)) rfl
theorem q2225 : Cond.castable RX12 "java/lang/Object" ∈ lw_N := nN (mT10 (List.mem_of_getElem? (i := 65) rfl)) rfl
theorem q2226 : Cond.castable RX11 "java/lang/Object" ∈ lw_N := nN (mT10 (List.mem_of_getElem? (i := 66) rfl)) rfl
theorem q2227 : Cond.castable RX9 "java/lang/Object" ∈ lw_N := nN (mT10 (List.mem_of_getElem? (i := 67) rfl)) rfl
theorem q2228 : Cond.castable RX7 "java/lang/Object" ∈ lw_N := nN (mT10 (List.mem_of_getElem? (i := 68) rfl)) rfl
theorem q2229 : Cond.castable RX8 "java/lang/Object" ∈ lw_N := nN (mT10 (List.mem_of_getElem? (i := 69) rfl)) rfl
theorem q2230 : Cond.castable RX5 "java/lang/Object" ∈ lw_N := nN (mT10 (List.mem_of_getElem? (i := 70) rfl)) rfl
theorem q2231 : Cond.castable RX1 "java/lang/Object" ∈ lw_N := nN (mT10 (List.mem_of_getElem? (i := 71) rfl)) rfl
theorem q2232 : Cond.castable RX3 "java/lang/Object" ∈ lw_N := nN (mT10 (List.mem_of_getElem? (i := 72) rfl)) rfl
theorem q2233 : Cond.castable RX4 "java/lang/Object" ∈ lw_N := nN (mT10 (List.mem_of_getElem? (i := 73) rfl)) rfl
theorem q2234 : Cond.castable RX6 "java/lang/Object" ∈ lw_N := nN (mT10 (List.mem_of_getElem? (i := 74) rfl)) rfl
theorem q2235 : Cond.castable RX2 "java/lang/Object" ∈ lw_N := nN (mT10 (List.mem_of_getElem? (i := 75) rfl)) rfl
theorem q2236 : Cond.castable RJ4 "java/lang/Object" ∈ lw_N := nN (mT10 (List.mem_of_getElem? (i := 76) rfl)) rfl
theorem q2237 : Cond.castable RX13 "java/lang/Object" ∈ lw_N := nN (mT10 (List.mem_of_getElem? (i := 77) rfl)) rfl
theorem q2238 : Cond.castable "java/lang/IllegalArgumentException" "java/lang/Object" ∈ lw_N := nN (mT10 (List.mem_of_getElem? (i := 78) rfl)) rfl
theorem q2239 : Cond.castable "java/lang/IllegalStateException" "java/lang/Object" ∈ lw_N := nN (mT10 (List.mem_of_getElem? (i := 79) rfl)) rfl
theorem q2240 : Cond.castable "java/util/NoSuchElementException" "java/lang/Object" ∈ lw_N := nN (mT10 (List.mem_of_getElem? (i := 80) rfl)) rfl
theorem q2241 : Cond.castable "java/lang/UnsupportedOperationException" "java/lang/Object" ∈ lw_N := nN (mT10 (List.mem_of_getElem? (i := 81) rfl)) rfl
theorem q2242 : Cond.castable "java/lang/ArithmeticException" "java/lang/Object" ∈ lw_N := nN (mT10 (List.mem_of_getElem? (i := 82) rfl)) rfl
theorem q2243 : Cond.castable RJx7c733 "java/lang/Object" ∈ lw_N := nN (mT10 (List.mem_of_getElem? (i := 83) rfl)) rfl
theorem q2244 : Cond.castable RJ0 "java/lang/Object" ∈ lw_N := nN (mT10 (List.mem_of_getElem? (i := 84) rfl)) rfl
theorem q2245 : Cond.castable RJx00060 "java/lang/Object" ∈ lw_N := nN (mT10 (List.mem_of_getElem? (i := 85) rfl)) rfl
theorem q2246 : Cond.castable "java/lang/IndexOutOfBoundsException" "java/lang/Object" ∈ lw_N := nN (mT10 (List.mem_of_getElem? (i := 86) rfl)) rfl
theorem q2247 : Cond.castable RX10 "java/lang/Object" ∈ lw_N := nN (mT10 (List.mem_of_getElem? (i := 87) rfl)) rfl
theorem q2248 : Cond.castable "java/lang/Throwable" "java/lang/Object" ∈ lw_N := nN (mT10 (List.mem_of_getElem? (i := 88) rfl)) rfl
theorem q2249 : Cond.fieldLinkNest RX6 75 RX10 "word" "Ljava/lang/String;" RX12 ∈ lw_N := nN (mT10 (List.mem_of_getElem? (i := 89) rfl)) rfl
theorem q2250 : Cond.fieldLinkNest RX6 52 RX10 "parts" "Ljava/lang/String;" RX12 ∈ lw_N := nN (mT10 (List.mem_of_getElem? (i := 90) rfl)) rfl
theorem q2251 : Cond.fieldLink RJx29ce0 7 RJx29ce0 "ordinal" "I" ∈ lw_U := mU (mT (mT10 (List.mem_of_getElem? (i := 91) rfl))) rfl
theorem qs0 : Cond.selects RX12 yX12_loadsAgree yX12_loadsAgree ∈ lw_U := mU (List.mem_append_left _ (List.mem_of_getElem? (i := 0) rfl)) rfl
theorem qs1 : Cond.selects RX4 yX4_gatherPieces yX4_gatherPieces ∈ lw_U := mU (List.mem_append_left _ (List.mem_of_getElem? (i := 1) rfl)) rfl
theorem qs2 : Cond.selects RX4 yX4_enterPiece yX4_enterPiece ∈ lw_U := mU (List.mem_append_left _ (List.mem_of_getElem? (i := 2) rfl)) rfl
theorem qs3 : Cond.selects RX12 yX12_accountsAgree yX12_accountsAgree ∈ lw_U := mU (List.mem_append_left _ (List.mem_of_getElem? (i := 3) rfl)) rfl
theorem qs4 : Cond.selects "java/lang/Throwable" ⟨"java/lang/Throwable", "fillInStackTrace", "(I)Ljava/lang/Throwable;"⟩ ⟨"java/lang/Throwable", "fillInStackTrace", "(I)Ljava/lang/Throwable;"⟩ ∈ lw_U := mU (List.mem_append_left _ (List.mem_of_getElem? (i := 4) rfl)) rfl
theorem qs5 : Cond.selects RX11 yX11_fillAt yX11_fillAt ∈ lw_U := mU (List.mem_append_left _ (List.mem_of_getElem? (i := 5) rfl)) rfl
theorem qs6 : Cond.selects RX11 yX11_cutScrap yX11_cutScrap ∈ lw_U := mU (List.mem_append_left _ (List.mem_of_getElem? (i := 6) rfl)) rfl
theorem qs7 : Cond.selects RX11 yX11_lose yX11_lose ∈ lw_U := mU (List.mem_append_left _ (List.mem_of_getElem? (i := 7) rfl)) rfl
theorem qs8 : Cond.selects RX11 yX11_cutSpool yX11_cutSpool ∈ lw_U := mU (List.mem_append_left _ (List.mem_of_getElem? (i := 8) rfl)) rfl
theorem qs9 : Cond.selects RX9 yX9_rankOf yX9_rankOf ∈ lw_U := mU (List.mem_append_left _ (List.mem_of_getElem? (i := 9) rfl)) rfl
theorem qs10 : Cond.selects RX9 yX9_isBefore yX9_isBefore ∈ lw_U := mU (List.mem_append_left _ (List.mem_of_getElem? (i := 10) rfl)) rfl
theorem qs11 : Cond.selects RX6 yX6_parseCommands yX6_parseCommands ∈ lw_U := mU (List.mem_append_left _ (List.mem_of_getElem? (i := 11) rfl)) rfl
theorem qs12 : Cond.selects RX6 yX6_parseCommand yX6_parseCommand ∈ lw_U := mU (List.mem_append_left _ (List.mem_of_getElem? (i := 12) rfl)) rfl
theorem qs13 : Cond.selects RX6 yX6_parseVerb yX6_parseVerb ∈ lw_U := mU (List.mem_append_left _ (List.mem_of_getElem? (i := 13) rfl)) rfl
theorem qs14 : Cond.selects RX6 yX6_matchingSigns yX6_matchingSigns ∈ lw_U := mU (List.mem_append_left _ (List.mem_of_getElem? (i := 14) rfl)) rfl
theorem qs15 : Cond.selects RX6 yX6_isAt yX6_isAt ∈ lw_U := mU (List.mem_append_left _ (List.mem_of_getElem? (i := 15) rfl)) rfl
theorem qs16 : Cond.selects RX6 yX6_parsePart yX6_parsePart ∈ lw_U := mU (List.mem_append_left _ (List.mem_of_getElem? (i := 16) rfl)) rfl
theorem qs17 : Cond.selects RX6 yX6_current yX6_current ∈ lw_U := mU (List.mem_append_left _ (List.mem_of_getElem? (i := 17) rfl)) rfl
theorem qs18 : Cond.selects RX6 yX6_takeLetter yX6_takeLetter ∈ lw_U := mU (List.mem_append_left _ (List.mem_of_getElem? (i := 18) rfl)) rfl
theorem qs19 : Cond.selects RX6 yX6_takeNumber yX6_takeNumber ∈ lw_U := mU (List.mem_append_left _ (List.mem_of_getElem? (i := 19) rfl)) rfl
theorem qs20 : Cond.selects RX6 yX6_skip yX6_skip ∈ lw_U := mU (List.mem_append_left _ (List.mem_of_getElem? (i := 20) rfl)) rfl
theorem qs21 : Cond.selects RX12 yX12_succeeds yX12_succeeds ∈ lw_U := mU (List.mem_append_left _ (List.mem_of_getElem? (i := 21) rfl)) rfl
theorem qs22 : Cond.selects RX13 yX13_notSpool yX13_notSpool ∈ lw_U := mU (List.mem_append_left _ (List.mem_of_getElem? (i := 22) rfl)) rfl
theorem qs23 : Cond.selects RX13 yX13_fails yX13_fails ∈ lw_U := mU (List.mem_append_left _ (List.mem_of_getElem? (i := 23) rfl)) rfl
theorem qs24 : Cond.selects RX13 yX13_remembers yX13_remembers ∈ lw_U := mU (List.mem_append_left _ (List.mem_of_getElem? (i := 24) rfl)) rfl
theorem qs25 : Cond.selects RX13 yX13_copies yX13_copies ∈ lw_U := mU (List.mem_append_left _ (List.mem_of_getElem? (i := 25) rfl)) rfl
theorem qs26 : Cond.selects RX13 yX13_keeps yX13_keeps ∈ lw_U := mU (List.mem_append_left _ (List.mem_of_getElem? (i := 26) rfl)) rfl
theorem qs27 : Cond.selects RX13 yX13_addsSpool yX13_addsSpool ∈ lw_U := mU (List.mem_append_left _ (List.mem_of_getElem? (i := 27) rfl)) rfl
theorem qs28 : Cond.selects RX13 yX13_notRetire yX13_notRetire ∈ lw_U := mU (List.mem_append_left _ (List.mem_of_getElem? (i := 28) rfl)) rfl
theorem qs29 : Cond.selects RX13 yX13_spoolPlace yX13_spoolPlace ∈ lw_U := mU (List.mem_append_left _ (List.mem_of_getElem? (i := 29) rfl)) rfl
theorem qs30 : Cond.selects RX13 yX13_spoolAt yX13_spoolAt ∈ lw_U := mU (List.mem_append_left _ (List.mem_of_getElem? (i := 30) rfl)) rfl
theorem qs31 : Cond.selects RX13 yX13_retires yX13_retires ∈ lw_U := mU (List.mem_append_left _ (List.mem_of_getElem? (i := 31) rfl)) rfl
theorem qs32 : Cond.selects RX13 yX13_leavesScrap yX13_leavesScrap ∈ lw_U := mU (List.mem_append_left _ (List.mem_of_getElem? (i := 32) rfl)) rfl
theorem qs33 : Cond.selects RX13 yX13_removesSpool yX13_removesSpool ∈ lw_U := mU (List.mem_append_left _ (List.mem_of_getElem? (i := 33) rfl)) rfl
theorem qs34 : Cond.selects RX13 yX13_closes yX13_closes ∈ lw_U := mU (List.mem_append_left _ (List.mem_of_getElem? (i := 34) rfl)) rfl
theorem qs35 : Cond.selects RX13 yX13_clears yX13_clears ∈ lw_U := mU (List.mem_append_left _ (List.mem_of_getElem? (i := 35) rfl)) rfl
theorem qs36 : Cond.selects RX13 yX13_scrapAt yX13_scrapAt ∈ lw_U := mU (List.mem_append_left _ (List.mem_of_getElem? (i := 36) rfl)) rfl
theorem qs37 : Cond.selects RX13 yX13_removesScrap yX13_removesScrap ∈ lw_U := mU (List.mem_append_left _ (List.mem_of_getElem? (i := 37) rfl)) rfl
theorem qs38 : Cond.selects RX13 yX13_notOrder yX13_notOrder ∈ lw_U := mU (List.mem_append_left _ (List.mem_of_getElem? (i := 38) rfl)) rfl
theorem qs39 : Cond.selects RX13 yX13_addsOrder yX13_addsOrder ∈ lw_U := mU (List.mem_append_left _ (List.mem_of_getElem? (i := 39) rfl)) rfl
theorem qs40 : Cond.selects RX13 yX13_orderOf yX13_orderOf ∈ lw_U := mU (List.mem_append_left _ (List.mem_of_getElem? (i := 40) rfl)) rfl
theorem qs41 : Cond.selects RX13 yX13_notCancel yX13_notCancel ∈ lw_U := mU (List.mem_append_left _ (List.mem_of_getElem? (i := 41) rfl)) rfl
theorem qs42 : Cond.selects RX13 yX13_orderPlace yX13_orderPlace ∈ lw_U := mU (List.mem_append_left _ (List.mem_of_getElem? (i := 42) rfl)) rfl
theorem qs43 : Cond.selects RX13 yX13_cancels yX13_cancels ∈ lw_U := mU (List.mem_append_left _ (List.mem_of_getElem? (i := 43) rfl)) rfl
theorem qs44 : Cond.selects RX13 yX13_removesOrder yX13_removesOrder ∈ lw_U := mU (List.mem_append_left _ (List.mem_of_getElem? (i := 44) rfl)) rfl
theorem qs45 : Cond.selects RX13 yX13_notFill yX13_notFill ∈ lw_U := mU (List.mem_append_left _ (List.mem_of_getElem? (i := 45) rfl)) rfl
theorem qs46 : Cond.selects RX13 yX13_isFillable yX13_isFillable ∈ lw_U := mU (List.mem_append_left _ (List.mem_of_getElem? (i := 46) rfl)) rfl
theorem qs47 : Cond.selects RX13 yX13_scrapFor yX13_scrapFor ∈ lw_U := mU (List.mem_append_left _ (List.mem_of_getElem? (i := 47) rfl)) rfl
theorem qs48 : Cond.selects RX13 yX13_spoolFor yX13_spoolFor ∈ lw_U := mU (List.mem_append_left _ (List.mem_of_getElem? (i := 48) rfl)) rfl
theorem qs49 : Cond.selects RX13 yX13_isBetter yX13_isBetter ∈ lw_U := mU (List.mem_append_left _ (List.mem_of_getElem? (i := 49) rfl)) rfl
theorem qs50 : Cond.selects RX13 yX13_fillsAt yX13_fillsAt ∈ lw_U := mU (List.mem_append_left _ (List.mem_of_getElem? (i := 50) rfl)) rfl
theorem qs51 : Cond.selects RX13 yX13_cutsScrap yX13_cutsScrap ∈ lw_U := mU (List.mem_append_left _ (List.mem_of_getElem? (i := 51) rfl)) rfl
theorem qs52 : Cond.selects RX13 yX13_leftOf yX13_leftOf ∈ lw_U := mU (List.mem_append_left _ (List.mem_of_getElem? (i := 52) rfl)) rfl
theorem qs53 : Cond.selects RX13 yX13_cutsSpool yX13_cutsSpool ∈ lw_U := mU (List.mem_append_left _ (List.mem_of_getElem? (i := 53) rfl)) rfl
theorem qs54 : Cond.selects RX13 yX13_fillsDue yX13_fillsDue ∈ lw_U := mU (List.mem_append_left _ (List.mem_of_getElem? (i := 54) rfl)) rfl
theorem qs55 : Cond.selects RX13 yX13_sets yX13_sets ∈ lw_U := mU (List.mem_append_left _ (List.mem_of_getElem? (i := 55) rfl)) rfl
theorem qs56 : Cond.selects RX13 yX13_asks yX13_asks ∈ lw_U := mU (List.mem_append_left _ (List.mem_of_getElem? (i := 56) rfl)) rfl
theorem qs57 : Cond.selects RX13 yX13_asksSpool yX13_asksSpool ∈ lw_U := mU (List.mem_append_left _ (List.mem_of_getElem? (i := 57) rfl)) rfl
theorem qs58 : Cond.selects RX13 yX13_isAhead yX13_isAhead ∈ lw_U := mU (List.mem_append_left _ (List.mem_of_getElem? (i := 58) rfl)) rfl
theorem qs59 : Cond.selects RX13 yX13_scrapsAhead yX13_scrapsAhead ∈ lw_U := mU (List.mem_append_left _ (List.mem_of_getElem? (i := 59) rfl)) rfl
theorem qs60 : Cond.selects RX13 yX13_loadOf yX13_loadOf ∈ lw_U := mU (List.mem_append_left _ (List.mem_of_getElem? (i := 60) rfl)) rfl
theorem qs61 : Cond.selects RX13 yX13_asksOrder yX13_asksOrder ∈ lw_U := mU (List.mem_append_left _ (List.mem_of_getElem? (i := 61) rfl)) rfl
theorem qs62 : Cond.selects RX13 yX13_asksMaterial yX13_asksMaterial ∈ lw_U := mU (List.mem_append_left _ (List.mem_of_getElem? (i := 62) rfl)) rfl
theorem qs63 : Cond.selects RX13 yX13_partsOf yX13_partsOf ∈ lw_U := mU (List.mem_append_left _ (List.mem_of_getElem? (i := 63) rfl)) rfl
theorem qs64 : Cond.selects RX13 yX13_sumOf yX13_sumOf ∈ lw_U := mU (List.mem_append_left _ (List.mem_of_getElem? (i := 64) rfl)) rfl
theorem qs65 : Cond.selects RX13 yX13_writesNumber yX13_writesNumber ∈ lw_U := mU (List.mem_append_left _ (List.mem_of_getElem? (i := 65) rfl)) rfl
theorem qs66 : Cond.selects RX13 yX13_writes yX13_writes ∈ lw_U := mU (List.mem_append_left _ (List.mem_of_getElem? (i := 66) rfl)) rfl
theorem qs67 : Cond.selects RX13 yX13_readsAll yX13_readsAll ∈ lw_U := mU (List.mem_append_left _ (List.mem_of_getElem? (i := 67) rfl)) rfl
theorem qs68 : Cond.selects RX13 yX13_readsCommand yX13_readsCommand ∈ lw_U := mU (List.mem_append_left _ (List.mem_of_getElem? (i := 68) rfl)) rfl
theorem qs69 : Cond.selects RX13 yX13_nextChar yX13_nextChar ∈ lw_U := mU (List.mem_append_left _ (List.mem_of_getElem? (i := 69) rfl)) rfl
theorem qs70 : Cond.selects RX13 yX13_reads yX13_reads ∈ lw_U := mU (List.mem_append_left _ (List.mem_of_getElem? (i := 70) rfl)) rfl
theorem qs71 : Cond.selects RX13 yX13_readsMaterial yX13_readsMaterial ∈ lw_U := mU (List.mem_append_left _ (List.mem_of_getElem? (i := 71) rfl)) rfl
theorem qs72 : Cond.selects RX13 yX13_readsNumber yX13_readsNumber ∈ lw_U := mU (List.mem_append_left _ (List.mem_of_getElem? (i := 72) rfl)) rfl
theorem qs73 : Cond.selects RX13 yX13_readsDigit yX13_readsDigit ∈ lw_U := mU (List.mem_append_left _ (List.mem_of_getElem? (i := 73) rfl)) rfl
theorem qs74 : Cond.selects RX13 yX13_isDigitNext yX13_isDigitNext ∈ lw_U := mU (List.mem_append_left _ (List.mem_of_getElem? (i := 74) rfl)) rfl
theorem qs75 : Cond.selects RX13 yX13_readsOrder yX13_readsOrder ∈ lw_U := mU (List.mem_append_left _ (List.mem_of_getElem? (i := 75) rfl)) rfl
theorem qs76 : Cond.selects RX13 yX13_readsC yX13_readsC ∈ lw_U := mU (List.mem_append_left _ (List.mem_of_getElem? (i := 76) rfl)) rfl
theorem qs77 : Cond.selects RX13 yX13_readsR yX13_readsR ∈ lw_U := mU (List.mem_append_left _ (List.mem_of_getElem? (i := 77) rfl)) rfl
theorem qs78 : Cond.selects RX13 yX13_doesAll yX13_doesAll ∈ lw_U := mU (List.mem_append_left _ (List.mem_of_getElem? (i := 78) rfl)) rfl
theorem qs79 : Cond.selects RX13 yX13_notNow yX13_notNow ∈ lw_U := mU (List.mem_append_left _ (List.mem_of_getElem? (i := 79) rfl)) rfl
theorem qs80 : Cond.selects RX13 yX13_doesNow yX13_doesNow ∈ lw_U := mU (List.mem_append_left _ (List.mem_of_getElem? (i := 80) rfl)) rfl
theorem qs81 : Cond.selects RX13 yX13_goesBack yX13_goesBack ∈ lw_U := mU (List.mem_append_left _ (List.mem_of_getElem? (i := 81) rfl)) rfl
theorem inX1 : ∀ w ∈ wsX10, w ∈ lw_U := by decide +kernel
theorem inX2 : ∀ w ∈ wsX20, w ∈ lw_U := by decide +kernel
theorem inX3 : ∀ w ∈ wsX30, w ∈ lw_U := by decide +kernel
theorem inX4 : ∀ w ∈ wsX40, w ∈ lw_U := by decide +kernel
theorem inX5 : ∀ w ∈ wsX50, w ∈ lw_U := by decide +kernel
theorem inX6 : ∀ w ∈ wsX60, w ∈ lw_U := by decide +kernel
theorem inX7 : ∀ w ∈ wsX70, w ∈ lw_U := by decide +kernel
theorem inX8 : ∀ w ∈ wsX80, w ∈ lw_U := by decide +kernel
theorem inX9 : ∀ w ∈ wsX90, w ∈ lw_U := by decide +kernel
theorem inX10 : ∀ w ∈ wsX100, w ∈ lw_U := by decide +kernel
theorem inX11 : ∀ w ∈ wsX110, w ∈ lw_U := by decide +kernel
theorem inX12 : ∀ w ∈ wsX120, w ∈ lw_U := by decide +kernel
theorem inX13 : ∀ w ∈ wsX130, w ∈ lw_U := by decide +kernel
