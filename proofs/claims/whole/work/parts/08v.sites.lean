/-! the words of each throw site -/
abbrev nsW (own : String) (ic : Nat) : List Cond := (nsA own ic "java/util/NoSuchElementException" "java/lang/RuntimeException" 13 prog_44_method_4_code ["java/lang/Exception"]).filter vx_no
theorem at0 : ∀ w ∈ vx_atS RX12 244 "java/lang/ArithmeticException" ["java/lang/RuntimeException", "java/lang/Exception"], w ∈ lw_U ∨ w ∈ lw_N := by decide +kernel
theorem gt0 : ∀ w ∈ Cond.classLink RX12 240 "java/lang/ArithmeticException" :: Cond.initialized "java/lang/ArithmeticException" :: vx_atS RX12 244 "java/lang/ArithmeticException" ["java/lang/RuntimeException", "java/lang/Exception"], vx_ot w = true := by decide +kernel
theorem at1 : ∀ w ∈ vx_atS RX12 299 "java/lang/IllegalArgumentException" ["java/lang/RuntimeException", "java/lang/Exception"], w ∈ lw_U ∨ w ∈ lw_N := by decide +kernel
theorem gt1 : ∀ w ∈ Cond.classLink RX12 295 "java/lang/IllegalArgumentException" :: Cond.initialized "java/lang/IllegalArgumentException" :: vx_atS RX12 299 "java/lang/IllegalArgumentException" ["java/lang/RuntimeException", "java/lang/Exception"], vx_ot w = true := by decide +kernel
theorem at2 : ∀ w ∈ vx_atS RX12 289 "java/lang/IllegalStateException" ["java/lang/RuntimeException", "java/lang/Exception"], w ∈ lw_U ∨ w ∈ lw_N := by decide +kernel
theorem gt2 : ∀ w ∈ Cond.classLink RX12 285 "java/lang/IllegalStateException" :: Cond.initialized "java/lang/IllegalStateException" :: vx_atS RX12 289 "java/lang/IllegalStateException" ["java/lang/RuntimeException", "java/lang/Exception"], vx_ot w = true := by decide +kernel
theorem at3 : ∀ w ∈ vx_atS RX12 278 "java/lang/IndexOutOfBoundsException" ["java/lang/RuntimeException", "java/lang/Exception"], w ∈ lw_U ∨ w ∈ lw_N := by decide +kernel
theorem gt3 : ∀ w ∈ Cond.classLink RX12 274 "java/lang/IndexOutOfBoundsException" :: Cond.initialized "java/lang/IndexOutOfBoundsException" :: vx_atS RX12 278 "java/lang/IndexOutOfBoundsException" ["java/lang/RuntimeException", "java/lang/Exception"], vx_ot w = true := by decide +kernel
theorem at4 : ∀ w ∈ vx_atS RX12 316 "java/lang/UnsupportedOperationException" ["java/lang/RuntimeException", "java/lang/Exception"], w ∈ lw_U ∨ w ∈ lw_N := by decide +kernel
theorem gt4 : ∀ w ∈ Cond.classLink RX12 312 "java/lang/UnsupportedOperationException" :: Cond.initialized "java/lang/UnsupportedOperationException" :: vx_atS RX12 316 "java/lang/UnsupportedOperationException" ["java/lang/RuntimeException", "java/lang/Exception"], vx_ot w = true := by decide +kernel
theorem at5 : ∀ w ∈ nsW RX12 143, w ∈ lw_U ∨ w ∈ lw_N := by decide +kernel
theorem gt5 : ∀ w ∈ Cond.classLink RX12 139 "java/util/NoSuchElementException" :: Cond.initialized "java/util/NoSuchElementException" :: nsW RX12 143, vx_ot w = true := by decide +kernel
theorem at6 : ∀ w ∈ vx_atS RX11 87 "java/lang/IllegalArgumentException" ["java/lang/RuntimeException", "java/lang/Exception"], w ∈ lw_U ∨ w ∈ lw_N := by decide +kernel
theorem gt6 : ∀ w ∈ Cond.classLink RX11 83 "java/lang/IllegalArgumentException" :: Cond.initialized "java/lang/IllegalArgumentException" :: vx_atS RX11 87 "java/lang/IllegalArgumentException" ["java/lang/RuntimeException", "java/lang/Exception"], vx_ot w = true := by decide +kernel
theorem at7 : ∀ w ∈ vx_atS RX11 96 "java/lang/IllegalStateException" ["java/lang/RuntimeException", "java/lang/Exception"], w ∈ lw_U ∨ w ∈ lw_N := by decide +kernel
theorem gt7 : ∀ w ∈ Cond.classLink RX11 92 "java/lang/IllegalStateException" :: Cond.initialized "java/lang/IllegalStateException" :: vx_atS RX11 96 "java/lang/IllegalStateException" ["java/lang/RuntimeException", "java/lang/Exception"], vx_ot w = true := by decide +kernel
theorem at8 : ∀ w ∈ vx_atS RX11 157 "java/lang/UnsupportedOperationException" ["java/lang/RuntimeException", "java/lang/Exception"], w ∈ lw_U ∨ w ∈ lw_N := by decide +kernel
theorem gt8 : ∀ w ∈ Cond.classLink RX11 153 "java/lang/UnsupportedOperationException" :: Cond.initialized "java/lang/UnsupportedOperationException" :: vx_atS RX11 157 "java/lang/UnsupportedOperationException" ["java/lang/RuntimeException", "java/lang/Exception"], vx_ot w = true := by decide +kernel
theorem at9 : ∀ w ∈ nsW RX11 71, w ∈ lw_U ∨ w ∈ lw_N := by decide +kernel
theorem gt9 : ∀ w ∈ Cond.classLink RX11 67 "java/util/NoSuchElementException" :: Cond.initialized "java/util/NoSuchElementException" :: nsW RX11 71, vx_ot w = true := by decide +kernel
