abbrev wX1 (g : Nat → ClassId) (a0 a1 a2 a3 a4 a5 a6 : Nat) (uc : Int32) (uWn : Int32) (uWf : Nat → Int32) (uDn : Int32) (uDf : Nat → Int32) (uLn : Int32) (uLf : Nat → Int32) : va_W := [(a0, .inr (4, [.ref a1, .ref a3, .ref a5, .int uc])), (a1, .inr (10, [.ref a2, .int uWn])), (a2, .inl (g 0, 6, .inl uWf)), (a3, .inr (10, [.ref a4, .int uDn])), (a4, .inl (g 0, 6, .inl uDf)), (a5, .inr (10, [.ref a6, .int uLn])), (a6, .inl (g 0, 6, .inl uLf))]
abbrev wX5 (g : Nat → ClassId) (a0 a1 a2 a3 a4 a5 a6 a7 a8 : Nat) (ux : Int32) (uNn : Int32) (uNf : Nat → Int32) (uMn : Int32) (uMf : Nat → Int32) (uLn : Int32) (uLf : Nat → Int32) (uDn : Int32) (uDf : Nat → Int32) : va_W := [(a0, .inr (8, [.ref a1, .ref a3, .ref a5, .ref a7, .int ux])), (a1, .inr (10, [.ref a2, .int uNn])), (a2, .inl (g 0, 12, .inl uNf)), (a3, .inr (10, [.ref a4, .int uMn])), (a4, .inl (g 0, 12, .inl uMf)), (a5, .inr (10, [.ref a6, .int uLn])), (a6, .inl (g 0, 12, .inl uLf)), (a7, .inr (10, [.ref a8, .int uDn])), (a8, .inl (g 0, 12, .inl uDf))]
abbrev wX9 (g : Nat → ClassId) (a0 a1 a2 a3 a4 a5 a6 a7 a8 : Nat) (ux : Int32) (uNn : Int32) (uNf : Nat → Int32) (uMn : Int32) (uMf : Nat → Int32) (uLn : Int32) (uLf : Nat → Int32) (uKn : Int32) (uKf : Nat → Int32) : va_W := [(a0, .inr (12, [.ref a1, .ref a3, .ref a5, .ref a7, .int ux])), (a1, .inr (10, [.ref a2, .int uNn])), (a2, .inl (g 0, 10, .inl uNf)), (a3, .inr (10, [.ref a4, .int uMn])), (a4, .inl (g 0, 10, .inl uMf)), (a5, .inr (10, [.ref a6, .int uLn])), (a6, .inl (g 0, 10, .inl uLf)), (a7, .inr (10, [.ref a8, .int uKn])), (a8, .inl (g 0, 10, .inl uKf))]
abbrev wX8 (g : Nat → ClassId) (a0 a1 a2 a3 a4 a5 a6 : Nat) (uMn : Int32) (uMf : Nat → Int32) (uLn : Int32) (uLf : Nat → Int32) (uTn : Int32) (uTf : Nat → Int32) : va_W := [(a0, .inr (11, [.ref a1, .ref a3, .ref a5])), (a1, .inr (10, [.ref a2, .int uMn])), (a2, .inl (g 0, 40, .inl uMf)), (a3, .inr (10, [.ref a4, .int uLn])), (a4, .inl (g 0, 40, .inl uLf)), (a5, .inr (10, [.ref a6, .int uTn])), (a6, .inl (g 0, 6, .inl uTf))]
/-! WireCutter$Accounts.copyFrom -/
def fX1_copyFrom (uWn : Int32) (uWf : Nat → Int32) (uDn : Int32) (uDf : Nat → Int32) (uLn : Int32) (uLf : Nat → Int32) (vc : Int32) (vWn : Int32) (vWf : Nat → Int32) (vDn : Int32) (vDf : Nat → Int32) (vLn : Int32) (vLf : Nat → Int32) : Option (Int32 × Int32 × (Nat → Int32) × Int32 × (Nat → Int32) × Int32 × (Nat → Int32)) :=
  (fX7_copyFrom 6 6 uWn uWf vWn vWf).bind fun z1 =>
  (fX7_copyFrom 6 6 uDn uDf vDn vDf).bind fun z3 =>
  (fX7_copyFrom 6 6 uLn uLf vLn vLf).bind fun z5 =>
  some (vc, z1.1, z1.2, z3.1, z3.2, z5.1, z5.2)
theorem mbX1_copyFrom : MV yX1_copyFrom cX1_copyFrom 2 none 1 := ⟨⟨q917, q7, by decide +kernel⟩, q915, q916⟩
set_option maxHeartbeats 4000000 in
set_option maxRecDepth 100000 in
theorem tX1_copyFrom (l : Launch) (dC : Nat → ClassId) (dI : Nat → Nat → Nat) (g : Nat → ClassId) (a0 a1 a2 a3 a4 a5 a6 b0 b1 b2 b3 b4 b5 b6 : Nat) (uc : Int32) (uWn : Int32) (uWf : Nat → Int32) (uDn : Int32) (uDf : Nat → Int32) (uLn : Int32) (uLf : Nat → Int32) (vc : Int32) (vWn : Int32) (vWf : Nat → Int32) (vDn : Int32) (vDf : Nat → Int32) (vLn : Int32) (vLf : Nat → Int32) {r : Int32 × Int32 × (Nat → Int32) × Int32 × (Nat → Int32) × Int32 × (Nat → Int32)} (h : fX1_copyFrom uWn uWf uDn uDf uLn uLf vc vWn vWf vDn vDf vLn vLf = some r) : MU l yX1_copyFrom cX1_copyFrom 2 none 1 23 0 0 dC dI g [.ref a0, .ref b0] (wX1 g a0 a1 a2 a3 a4 a5 a6 uc uWn uWf uDn uDf uLn uLf ++ wX1 g b0 b1 b2 b3 b4 b5 b6 vc vWn vWf vDn vDf vLn vLf) (wX1 g a0 a1 a2 a3 a4 a5 a6 r.1 r.2.1 r.2.2.1 r.2.2.2.1 r.2.2.2.2.1 r.2.2.2.2.2.1 r.2.2.2.2.2.2 ++ wX1 g b0 b1 b2 b3 b4 b5 b6 vc vWn vWf vDn vDf vLn vLf) none := by
  refine MU_of (by decide) (Nat.le_of_ble_eq_true rfl) ?_
  intro p e s m below meth c ls F hr hlocks hE hX hA hP hD hS hl
  generalize va_A (wX1 g a0 a1 a2 a3 a4 a5 a6 uc uWn uWf uDn uDf uLn uLf ++ wX1 g b0 b1 b2 b3 b4 b5 b6 vc vWn vWf vDn vDf vLn vLf) s.heap.size = A at hA hD hS hX ⊢
  replace F : CF p m c cX1_copyFrom 2 s _ RX1 := F
  replace hl : lv_has ls 2 [(0, .ref a0), (1, .ref b0)] := hl
  rw [fX1_copyFrom] at h
  refine lv_aload_n F.1 F.2.1 dX1_copyFrom_0 rfl (lv_at hl 0 rfl) ?_
  refine gF (v := .ref a1) F hE hP 0 rfl rfl inX1 0 (by decide) q141 rfl dX1_copyFrom_1 ?_
  refine lv_aload_n F.1 F.2.1 dX1_copyFrom_4 rfl (lv_at hl 1 rfl) ?_
  refine gF (v := .ref b1) F hE hP 7 rfl rfl inX1 0 (by decide) q141 rfl dX1_copyFrom_5 ?_
  obtain ⟨z1, k2, h⟩ := bd_ok h
  refine cMV (As := [.ref b1]) (rest := []) (ws' := wX1 g a0 a1 a2 a3 a4 a5 a6 uc z1.1 z1.2 uDn uDf uLn uLf ++ wX1 g b0 b1 b2 b3 b4 b5 b6 vc vWn vWf vDn vDf vLn vLf) F hE hX (tX7_copyFrom l dC dI g a1 a2 b1 b2 6 6 uWn uWf vWn vWf k2) mbX7_copyFrom q918 ⟨(Nat.le_of_ble_eq_true rfl), (Nat.le_of_ble_eq_true rfl)⟩ ⟨(Nat.le_of_ble_eq_true rfl), (Nat.le_of_ble_eq_true rfl)⟩ hP hD hS hA [1, 2, 8, 9] rfl rfl rfl rfl rfl 1 rfl rfl rfl hl.1 rfl (Nat.le_of_ble_eq_true rfl) dX1_copyFrom_8 (fun H locs hP hD hS => ?_)
  refine lv_aload_n F.1 F.2.1 dX1_copyFrom_11 rfl (lv_at hl 0 rfl) ?_
  refine gF (v := .ref a3) F hE hP 0 rfl rfl inX1 1 (by decide) q144 rfl dX1_copyFrom_12 ?_
  refine lv_aload_n F.1 F.2.1 dX1_copyFrom_15 rfl (lv_at hl 1 rfl) ?_
  refine gF (v := .ref b3) F hE hP 7 rfl rfl inX1 1 (by decide) q144 rfl dX1_copyFrom_16 ?_
  obtain ⟨z3, k4, h⟩ := bd_ok h
  refine cMV (As := [.ref b3]) (rest := []) (ws' := wX1 g a0 a1 a2 a3 a4 a5 a6 uc z1.1 z1.2 z3.1 z3.2 uLn uLf ++ wX1 g b0 b1 b2 b3 b4 b5 b6 vc vWn vWf vDn vDf vLn vLf) F hE hX (tX7_copyFrom l dC dI g a3 a4 b3 b4 6 6 uDn uDf vDn vDf k4) mbX7_copyFrom q918 ⟨(Nat.le_of_ble_eq_true rfl), (Nat.le_of_ble_eq_true rfl)⟩ ⟨(Nat.le_of_ble_eq_true rfl), (Nat.le_of_ble_eq_true rfl)⟩ hP hD hS hA [3, 4, 10, 11] rfl rfl rfl rfl rfl 3 rfl rfl rfl hl.1 rfl (Nat.le_of_ble_eq_true rfl) dX1_copyFrom_19 (fun H locs hP hD hS => ?_)
  refine lv_aload_n F.1 F.2.1 dX1_copyFrom_22 rfl (lv_at hl 0 rfl) ?_
  refine gF (v := .ref a5) F hE hP 0 rfl rfl inX1 2 (by decide) q147 rfl dX1_copyFrom_23 ?_
  refine lv_aload_n F.1 F.2.1 dX1_copyFrom_26 rfl (lv_at hl 1 rfl) ?_
  refine gF (v := .ref b5) F hE hP 7 rfl rfl inX1 2 (by decide) q147 rfl dX1_copyFrom_27 ?_
  obtain ⟨z5, k6, h⟩ := bd_ok h
  refine cMV (As := [.ref b5]) (rest := []) (ws' := wX1 g a0 a1 a2 a3 a4 a5 a6 uc z1.1 z1.2 z3.1 z3.2 z5.1 z5.2 ++ wX1 g b0 b1 b2 b3 b4 b5 b6 vc vWn vWf vDn vDf vLn vLf) F hE hX (tX7_copyFrom l dC dI g a5 a6 b5 b6 6 6 uLn uLf vLn vLf k6) mbX7_copyFrom q918 ⟨(Nat.le_of_ble_eq_true rfl), (Nat.le_of_ble_eq_true rfl)⟩ ⟨(Nat.le_of_ble_eq_true rfl), (Nat.le_of_ble_eq_true rfl)⟩ hP hD hS hA [5, 6, 12, 13] rfl rfl rfl rfl rfl 5 rfl rfl rfl hl.1 rfl (Nat.le_of_ble_eq_true rfl) dX1_copyFrom_30 (fun H locs hP hD hS => ?_)
  refine lv_aload_n F.1 F.2.1 dX1_copyFrom_33 rfl (lv_at hl 0 rfl) ?_
  refine lv_aload_n F.1 F.2.1 dX1_copyFrom_34 rfl (lv_at hl 1 rfl) ?_
  refine gF (v := .int vc) F hE hP 7 rfl rfl inX1 3 (by decide) q150 rfl dX1_copyFrom_35 ?_
  refine pF (v := .int vc) F hE hP hD hS 0 rfl rfl inX1 tyX1 tyX1_ok nmX1 3 (by decide) q150 rfl rfl rfl (Nat.le_of_ble_eq_true rfl) dX1_copyFrom_38 (fun H locs hP hD hS => ?_)
  replace hP : va_P (dC, dI) vwCl (wX1 g a0 a1 a2 a3 a4 a5 a6 vc z1.1 z1.2 z3.1 z3.2 z5.1 z5.2 ++ wX1 g b0 b1 b2 b3 b4 b5 b6 vc vWn vWf vDn vDf vLn vLf) H := hP
  replace hD : va_D A (wX1 g a0 a1 a2 a3 a4 a5 a6 vc z1.1 z1.2 z3.1 z3.2 z5.1 z5.2 ++ wX1 g b0 b1 b2 b3 b4 b5 b6 vc vWn vWf vDn vDf vLn vLf) := hD
  cases h
  exact MU_v F hr hlocks (Nat.le_refl _) (Nat.le_refl _) hP hS dX1_copyFrom_41
/-! WireCutter$Orders.copyFrom -/
def fX5_copyFrom (uNn : Int32) (uNf : Nat → Int32) (uMn : Int32) (uMf : Nat → Int32) (uLn : Int32) (uLf : Nat → Int32) (uDn : Int32) (uDf : Nat → Int32) (vx : Int32) (vNn : Int32) (vNf : Nat → Int32) (vMn : Int32) (vMf : Nat → Int32) (vLn : Int32) (vLf : Nat → Int32) (vDn : Int32) (vDf : Nat → Int32) : Option (Int32 × Int32 × (Nat → Int32) × Int32 × (Nat → Int32) × Int32 × (Nat → Int32) × Int32 × (Nat → Int32)) :=
  (fX7_copyFrom 12 12 uNn uNf vNn vNf).bind fun z1 =>
  (fX7_copyFrom 12 12 uMn uMf vMn vMf).bind fun z3 =>
  (fX7_copyFrom 12 12 uLn uLf vLn vLf).bind fun z5 =>
  (fX7_copyFrom 12 12 uDn uDf vDn vDf).bind fun z7 =>
  some (vx, z1.1, z1.2, z3.1, z3.2, z5.1, z5.2, z7.1, z7.2)
theorem mbX5_copyFrom : MV yX5_copyFrom cX5_copyFrom 2 none 1 := ⟨⟨q912, q6, by decide +kernel⟩, q910, q911⟩
set_option maxHeartbeats 4000000 in
set_option maxRecDepth 100000 in
theorem tX5_copyFrom (l : Launch) (dC : Nat → ClassId) (dI : Nat → Nat → Nat) (g : Nat → ClassId) (a0 a1 a2 a3 a4 a5 a6 a7 a8 b0 b1 b2 b3 b4 b5 b6 b7 b8 : Nat) (ux : Int32) (uNn : Int32) (uNf : Nat → Int32) (uMn : Int32) (uMf : Nat → Int32) (uLn : Int32) (uLf : Nat → Int32) (uDn : Int32) (uDf : Nat → Int32) (vx : Int32) (vNn : Int32) (vNf : Nat → Int32) (vMn : Int32) (vMf : Nat → Int32) (vLn : Int32) (vLf : Nat → Int32) (vDn : Int32) (vDf : Nat → Int32) {r : Int32 × Int32 × (Nat → Int32) × Int32 × (Nat → Int32) × Int32 × (Nat → Int32) × Int32 × (Nat → Int32)} (h : fX5_copyFrom uNn uNf uMn uMf uLn uLf uDn uDf vx vNn vNf vMn vMf vLn vLf vDn vDf = some r) : MU l yX5_copyFrom cX5_copyFrom 2 none 1 23 0 0 dC dI g [.ref a0, .ref b0] (wX5 g a0 a1 a2 a3 a4 a5 a6 a7 a8 ux uNn uNf uMn uMf uLn uLf uDn uDf ++ wX5 g b0 b1 b2 b3 b4 b5 b6 b7 b8 vx vNn vNf vMn vMf vLn vLf vDn vDf) (wX5 g a0 a1 a2 a3 a4 a5 a6 a7 a8 r.1 r.2.1 r.2.2.1 r.2.2.2.1 r.2.2.2.2.1 r.2.2.2.2.2.1 r.2.2.2.2.2.2.1 r.2.2.2.2.2.2.2.1 r.2.2.2.2.2.2.2.2 ++ wX5 g b0 b1 b2 b3 b4 b5 b6 b7 b8 vx vNn vNf vMn vMf vLn vLf vDn vDf) none := by
  refine MU_of (by decide) (Nat.le_of_ble_eq_true rfl) ?_
  intro p e s m below meth c ls F hr hlocks hE hX hA hP hD hS hl
  generalize va_A (wX5 g a0 a1 a2 a3 a4 a5 a6 a7 a8 ux uNn uNf uMn uMf uLn uLf uDn uDf ++ wX5 g b0 b1 b2 b3 b4 b5 b6 b7 b8 vx vNn vNf vMn vMf vLn vLf vDn vDf) s.heap.size = A at hA hD hS hX ⊢
  replace F : CF p m c cX5_copyFrom 2 s _ RX5 := F
  replace hl : lv_has ls 2 [(0, .ref a0), (1, .ref b0)] := hl
  rw [fX5_copyFrom] at h
  refine lv_aload_n F.1 F.2.1 dX5_copyFrom_0 rfl (lv_at hl 0 rfl) ?_
  refine gF (v := .ref a1) F hE hP 0 rfl rfl inX5 0 (by decide) q118 rfl dX5_copyFrom_1 ?_
  refine lv_aload_n F.1 F.2.1 dX5_copyFrom_4 rfl (lv_at hl 1 rfl) ?_
  refine gF (v := .ref b1) F hE hP 9 rfl rfl inX5 0 (by decide) q118 rfl dX5_copyFrom_5 ?_
  obtain ⟨z1, k2, h⟩ := bd_ok h
  refine cMV (As := [.ref b1]) (rest := []) (ws' := wX5 g a0 a1 a2 a3 a4 a5 a6 a7 a8 ux z1.1 z1.2 uMn uMf uLn uLf uDn uDf ++ wX5 g b0 b1 b2 b3 b4 b5 b6 b7 b8 vx vNn vNf vMn vMf vLn vLf vDn vDf) F hE hX (tX7_copyFrom l dC dI g a1 a2 b1 b2 12 12 uNn uNf vNn vNf k2) mbX7_copyFrom q913 ⟨(Nat.le_of_ble_eq_true rfl), (Nat.le_of_ble_eq_true rfl)⟩ ⟨(Nat.le_of_ble_eq_true rfl), (Nat.le_of_ble_eq_true rfl)⟩ hP hD hS hA [1, 2, 10, 11] rfl rfl rfl rfl rfl 1 rfl rfl rfl hl.1 rfl (Nat.le_of_ble_eq_true rfl) dX5_copyFrom_8 (fun H locs hP hD hS => ?_)
  refine lv_aload_n F.1 F.2.1 dX5_copyFrom_11 rfl (lv_at hl 0 rfl) ?_
  refine gF (v := .ref a3) F hE hP 0 rfl rfl inX5 1 (by decide) q119 rfl dX5_copyFrom_12 ?_
  refine lv_aload_n F.1 F.2.1 dX5_copyFrom_15 rfl (lv_at hl 1 rfl) ?_
  refine gF (v := .ref b3) F hE hP 9 rfl rfl inX5 1 (by decide) q119 rfl dX5_copyFrom_16 ?_
  obtain ⟨z3, k4, h⟩ := bd_ok h
  refine cMV (As := [.ref b3]) (rest := []) (ws' := wX5 g a0 a1 a2 a3 a4 a5 a6 a7 a8 ux z1.1 z1.2 z3.1 z3.2 uLn uLf uDn uDf ++ wX5 g b0 b1 b2 b3 b4 b5 b6 b7 b8 vx vNn vNf vMn vMf vLn vLf vDn vDf) F hE hX (tX7_copyFrom l dC dI g a3 a4 b3 b4 12 12 uMn uMf vMn vMf k4) mbX7_copyFrom q913 ⟨(Nat.le_of_ble_eq_true rfl), (Nat.le_of_ble_eq_true rfl)⟩ ⟨(Nat.le_of_ble_eq_true rfl), (Nat.le_of_ble_eq_true rfl)⟩ hP hD hS hA [3, 4, 12, 13] rfl rfl rfl rfl rfl 3 rfl rfl rfl hl.1 rfl (Nat.le_of_ble_eq_true rfl) dX5_copyFrom_19 (fun H locs hP hD hS => ?_)
  refine lv_aload_n F.1 F.2.1 dX5_copyFrom_22 rfl (lv_at hl 0 rfl) ?_
  refine gF (v := .ref a5) F hE hP 0 rfl rfl inX5 2 (by decide) q120 rfl dX5_copyFrom_23 ?_
  refine lv_aload_n F.1 F.2.1 dX5_copyFrom_26 rfl (lv_at hl 1 rfl) ?_
  refine gF (v := .ref b5) F hE hP 9 rfl rfl inX5 2 (by decide) q120 rfl dX5_copyFrom_27 ?_
  obtain ⟨z5, k6, h⟩ := bd_ok h
  refine cMV (As := [.ref b5]) (rest := []) (ws' := wX5 g a0 a1 a2 a3 a4 a5 a6 a7 a8 ux z1.1 z1.2 z3.1 z3.2 z5.1 z5.2 uDn uDf ++ wX5 g b0 b1 b2 b3 b4 b5 b6 b7 b8 vx vNn vNf vMn vMf vLn vLf vDn vDf) F hE hX (tX7_copyFrom l dC dI g a5 a6 b5 b6 12 12 uLn uLf vLn vLf k6) mbX7_copyFrom q913 ⟨(Nat.le_of_ble_eq_true rfl), (Nat.le_of_ble_eq_true rfl)⟩ ⟨(Nat.le_of_ble_eq_true rfl), (Nat.le_of_ble_eq_true rfl)⟩ hP hD hS hA [5, 6, 14, 15] rfl rfl rfl rfl rfl 5 rfl rfl rfl hl.1 rfl (Nat.le_of_ble_eq_true rfl) dX5_copyFrom_30 (fun H locs hP hD hS => ?_)
  refine lv_aload_n F.1 F.2.1 dX5_copyFrom_33 rfl (lv_at hl 0 rfl) ?_
  refine gF (v := .ref a7) F hE hP 0 rfl rfl inX5 3 (by decide) q121 rfl dX5_copyFrom_34 ?_
  refine lv_aload_n F.1 F.2.1 dX5_copyFrom_37 rfl (lv_at hl 1 rfl) ?_
  refine gF (v := .ref b7) F hE hP 9 rfl rfl inX5 3 (by decide) q121 rfl dX5_copyFrom_38 ?_
  obtain ⟨z7, k8, h⟩ := bd_ok h
  refine cMV (As := [.ref b7]) (rest := []) (ws' := wX5 g a0 a1 a2 a3 a4 a5 a6 a7 a8 ux z1.1 z1.2 z3.1 z3.2 z5.1 z5.2 z7.1 z7.2 ++ wX5 g b0 b1 b2 b3 b4 b5 b6 b7 b8 vx vNn vNf vMn vMf vLn vLf vDn vDf) F hE hX (tX7_copyFrom l dC dI g a7 a8 b7 b8 12 12 uDn uDf vDn vDf k8) mbX7_copyFrom q913 ⟨(Nat.le_of_ble_eq_true rfl), (Nat.le_of_ble_eq_true rfl)⟩ ⟨(Nat.le_of_ble_eq_true rfl), (Nat.le_of_ble_eq_true rfl)⟩ hP hD hS hA [7, 8, 16, 17] rfl rfl rfl rfl rfl 7 rfl rfl rfl hl.1 rfl (Nat.le_of_ble_eq_true rfl) dX5_copyFrom_41 (fun H locs hP hD hS => ?_)
  refine lv_aload_n F.1 F.2.1 dX5_copyFrom_44 rfl (lv_at hl 0 rfl) ?_
  refine lv_aload_n F.1 F.2.1 dX5_copyFrom_45 rfl (lv_at hl 1 rfl) ?_
  refine gF (v := .int vx) F hE hP 9 rfl rfl inX5 4 (by decide) q122 rfl dX5_copyFrom_46 ?_
  refine pF (v := .int vx) F hE hP hD hS 0 rfl rfl inX5 tyX5 tyX5_ok nmX5 4 (by decide) q122 rfl rfl rfl (Nat.le_of_ble_eq_true rfl) dX5_copyFrom_49 (fun H locs hP hD hS => ?_)
  replace hP : va_P (dC, dI) vwCl (wX5 g a0 a1 a2 a3 a4 a5 a6 a7 a8 vx z1.1 z1.2 z3.1 z3.2 z5.1 z5.2 z7.1 z7.2 ++ wX5 g b0 b1 b2 b3 b4 b5 b6 b7 b8 vx vNn vNf vMn vMf vLn vLf vDn vDf) H := hP
  replace hD : va_D A (wX5 g a0 a1 a2 a3 a4 a5 a6 a7 a8 vx z1.1 z1.2 z3.1 z3.2 z5.1 z5.2 z7.1 z7.2 ++ wX5 g b0 b1 b2 b3 b4 b5 b6 b7 b8 vx vNn vNf vMn vMf vLn vLf vDn vDf) := hD
  cases h
  exact MU_v F hr hlocks (Nat.le_refl _) (Nat.le_refl _) hP hS dX5_copyFrom_52
/-! WireCutter$Orders.count -/
def fX5_count (uNn : Int32) : Option (Int32) :=
  (fX7_size uNn).bind fun z1 =>
  some (z1)
theorem mbX5_count : MV yX5_count cX5_count 1 (some .int) 0 := ⟨⟨q383, q6, by decide +kernel⟩, q381, q382⟩
set_option maxHeartbeats 4000000 in
set_option maxRecDepth 100000 in
theorem tX5_count (l : Launch) (dC : Nat → ClassId) (dI : Nat → Nat → Nat) (g : Nat → ClassId) (a0 a1 a2 a3 a4 a5 a6 a7 a8 : Nat) (ux : Int32) (uNn : Int32) (uNf : Nat → Int32) (uMn : Int32) (uMf : Nat → Int32) (uLn : Int32) (uLf : Nat → Int32) (uDn : Int32) (uDf : Nat → Int32) {r : Int32} (h : fX5_count uNn = some r) : RO l yX5_count cX5_count 1 (some .int) 1 20 dC dI g [.ref a0] (wX5 g a0 a1 a2 a3 a4 a5 a6 a7 a8 ux uNn uNf uMn uMf uLn uLf uDn uDf) (some (.int r)) := by
  refine RO_of (by decide) (Nat.le_of_ble_eq_true rfl) ?_
  intro p e s m below meth c ls F hr hlocks hE hX hP hl
  replace F : CF p m c cX5_count 1 s _ RX5 := F
  replace hl : lv_has ls 1 [(0, .ref a0)] := hl
  rw [fX5_count] at h
  refine lv_aload_n F.1 F.2.1 dX5_count_0 rfl (lv_at hl 0 rfl) ?_
  refine gF (v := .ref a1) F hE hP 0 rfl rfl inX5 0 (by decide) q118 rfl dX5_count_1 ?_
  obtain ⟨z1, k2, h⟩ := bd_ok h
  refine cRV (As := []) (rest := []) F hE hX va_S.rf (tX7_size l dC dI g a1 a2 12 uNn uNf k2) mbX7_size q384 ⟨(Nat.le_of_ble_eq_true rfl), (Nat.le_of_ble_eq_true rfl)⟩ ⟨Nat.zero_le _, Nat.zero_le _⟩ hP [1, 2] rfl 1 rfl rfl rfl hl.1 rfl (Nat.le_of_ble_eq_true rfl) dX5_count_4 ?_
  cases h
  exact RO_i F hr hlocks dX5_count_7
/-! WireCutter$Orders.positionOf -/
def fX5_positionOf (uNn : Int32) (uNf : Nat → Int32) (p1 : Int32) : Option (Int32) :=
  (fX7_indexOf 12 uNn uNf p1).bind fun z1 =>
  some (z1)
theorem mbX5_positionOf : MV yX5_positionOf cX5_positionOf 2 (some .int) 1 := ⟨⟨q392, q6, by decide +kernel⟩, q390, q391⟩
set_option maxHeartbeats 4000000 in
set_option maxRecDepth 100000 in
theorem tX5_positionOf (l : Launch) (dC : Nat → ClassId) (dI : Nat → Nat → Nat) (g : Nat → ClassId) (a0 a1 a2 a3 a4 a5 a6 a7 a8 : Nat) (ux : Int32) (uNn : Int32) (uNf : Nat → Int32) (uMn : Int32) (uMf : Nat → Int32) (uLn : Int32) (uLf : Nat → Int32) (uDn : Int32) (uDf : Nat → Int32) (p1 : Int32) {r : Int32} (h : fX5_positionOf uNn uNf p1 = some r) : RO l yX5_positionOf cX5_positionOf 2 (some .int) 1 22 dC dI g [.ref a0, .int p1] (wX5 g a0 a1 a2 a3 a4 a5 a6 a7 a8 ux uNn uNf uMn uMf uLn uLf uDn uDf) (some (.int r)) := by
  refine RO_of (by decide) (Nat.le_of_ble_eq_true rfl) ?_
  intro p e s m below meth c ls F hr hlocks hE hX hP hl
  replace F : CF p m c cX5_positionOf 2 s _ RX5 := F
  replace hl : lv_has ls 2 [(0, .ref a0), (1, .int p1)] := hl
  rw [fX5_positionOf] at h
  refine lv_aload_n F.1 F.2.1 dX5_positionOf_0 rfl (lv_at hl 0 rfl) ?_
  refine gF (v := .ref a1) F hE hP 0 rfl rfl inX5 0 (by decide) q118 rfl dX5_positionOf_1 ?_
  refine lv_iload_n F.1 F.2.1 dX5_positionOf_4 rfl (lv_at hl 1 rfl) ?_
  obtain ⟨z1, k2, h⟩ := bd_ok h
  refine cRV (As := [.int p1]) (rest := []) F hE hX va_S.rf (tX7_indexOf l dC dI g a1 a2 12 uNn uNf p1 k2) mbX7_indexOf q393 ⟨(Nat.le_of_ble_eq_true rfl), (Nat.le_of_ble_eq_true rfl)⟩ ⟨Nat.zero_le _, Nat.zero_le _⟩ hP [1, 2] rfl 1 rfl rfl rfl hl.1 rfl (Nat.le_of_ble_eq_true rfl) dX5_positionOf_5 ?_
  cases h
  exact RO_i F hr hlocks dX5_positionOf_8
/-! WireCutter$Orders.numberAt -/
def fX5_numberAt (uNn : Int32) (uNf : Nat → Int32) (p1 : Int32) : Option (Int32) :=
  (fX7_get 12 uNn uNf p1).bind fun z1 =>
  some (z1)
theorem mbX5_numberAt : MV yX5_numberAt cX5_numberAt 2 (some .int) 1 := ⟨⟨q879, q6, by decide +kernel⟩, q877, q878⟩
set_option maxHeartbeats 4000000 in
set_option maxRecDepth 100000 in
theorem tX5_numberAt (l : Launch) (dC : Nat → ClassId) (dI : Nat → Nat → Nat) (g : Nat → ClassId) (a0 a1 a2 a3 a4 a5 a6 a7 a8 : Nat) (ux : Int32) (uNn : Int32) (uNf : Nat → Int32) (uMn : Int32) (uMf : Nat → Int32) (uLn : Int32) (uLf : Nat → Int32) (uDn : Int32) (uDf : Nat → Int32) (p1 : Int32) {r : Int32} (h : fX5_numberAt uNn uNf p1 = some r) : RO l yX5_numberAt cX5_numberAt 2 (some .int) 1 21 dC dI g [.ref a0, .int p1] (wX5 g a0 a1 a2 a3 a4 a5 a6 a7 a8 ux uNn uNf uMn uMf uLn uLf uDn uDf) (some (.int r)) := by
  refine RO_of (by decide) (Nat.le_of_ble_eq_true rfl) ?_
  intro p e s m below meth c ls F hr hlocks hE hX hP hl
  replace F : CF p m c cX5_numberAt 2 s _ RX5 := F
  replace hl : lv_has ls 2 [(0, .ref a0), (1, .int p1)] := hl
  rw [fX5_numberAt] at h
  refine lv_aload_n F.1 F.2.1 dX5_numberAt_0 rfl (lv_at hl 0 rfl) ?_
  refine gF (v := .ref a1) F hE hP 0 rfl rfl inX5 0 (by decide) q118 rfl dX5_numberAt_1 ?_
  refine lv_iload_n F.1 F.2.1 dX5_numberAt_4 rfl (lv_at hl 1 rfl) ?_
  obtain ⟨z1, k2, h⟩ := bd_ok h
  refine cRV (As := [.int p1]) (rest := []) F hE hX va_S.rf (tX7_get l dC dI g a1 a2 12 uNn uNf p1 k2) mbX7_get q439 ⟨(Nat.le_of_ble_eq_true rfl), (Nat.le_of_ble_eq_true rfl)⟩ ⟨Nat.zero_le _, Nat.zero_le _⟩ hP [1, 2] rfl 1 rfl rfl rfl hl.1 rfl (Nat.le_of_ble_eq_true rfl) dX5_numberAt_5 ?_
  cases h
  exact RO_i F hr hlocks dX5_numberAt_8
/-! WireCutter$Orders.materialAt -/
def fX5_materialAt (uMn : Int32) (uMf : Nat → Int32) (p1 : Int32) : Option (Int32) :=
  (fX7_get 12 uMn uMf p1).bind fun z1 =>
  some ((z1.toUInt32 % 65536).toInt32)
theorem mbX5_materialAt : MV yX5_materialAt cX5_materialAt 2 (some .char) 1 := ⟨⟨q438, q6, by decide +kernel⟩, q436, q437⟩
set_option maxHeartbeats 4000000 in
set_option maxRecDepth 100000 in
theorem tX5_materialAt (l : Launch) (dC : Nat → ClassId) (dI : Nat → Nat → Nat) (g : Nat → ClassId) (a0 a1 a2 a3 a4 a5 a6 a7 a8 : Nat) (ux : Int32) (uNn : Int32) (uNf : Nat → Int32) (uMn : Int32) (uMf : Nat → Int32) (uLn : Int32) (uLf : Nat → Int32) (uDn : Int32) (uDf : Nat → Int32) (p1 : Int32) {r : Int32} (h : fX5_materialAt uMn uMf p1 = some r) : RO l yX5_materialAt cX5_materialAt 2 (some .char) 1 21 dC dI g [.ref a0, .int p1] (wX5 g a0 a1 a2 a3 a4 a5 a6 a7 a8 ux uNn uNf uMn uMf uLn uLf uDn uDf) (some (.int r)) := by
  refine RO_of (by decide) (Nat.le_of_ble_eq_true rfl) ?_
  intro p e s m below meth c ls F hr hlocks hE hX hP hl
  replace F : CF p m c cX5_materialAt 2 s _ RX5 := F
  replace hl : lv_has ls 2 [(0, .ref a0), (1, .int p1)] := hl
  rw [fX5_materialAt] at h
  refine lv_aload_n F.1 F.2.1 dX5_materialAt_0 rfl (lv_at hl 0 rfl) ?_
  refine gF (v := .ref a3) F hE hP 0 rfl rfl inX5 1 (by decide) q119 rfl dX5_materialAt_1 ?_
  refine lv_iload_n F.1 F.2.1 dX5_materialAt_4 rfl (lv_at hl 1 rfl) ?_
  obtain ⟨z1, k2, h⟩ := bd_ok h
  refine cRV (As := [.int p1]) (rest := []) F hE hX va_S.rf (tX7_get l dC dI g a3 a4 12 uMn uMf p1 k2) mbX7_get q439 ⟨(Nat.le_of_ble_eq_true rfl), (Nat.le_of_ble_eq_true rfl)⟩ ⟨Nat.zero_le _, Nat.zero_le _⟩ hP [3, 4] rfl 3 rfl rfl rfl hl.1 rfl (Nat.le_of_ble_eq_true rfl) dX5_materialAt_5 ?_
  refine lv_i2c F.1 F.2.1 dX5_materialAt_8 rfl ?_
  cases h
  exact RO_z F hr hlocks (pk_nc _) dX5_materialAt_9
/-! WireCutter$Orders.lengthAt -/
def fX5_lengthAt (uLn : Int32) (uLf : Nat → Int32) (p1 : Int32) : Option (Int32) :=
  (fX7_get 12 uLn uLf p1).bind fun z1 =>
  some (z1)
theorem mbX5_lengthAt : MV yX5_lengthAt cX5_lengthAt 2 (some .int) 1 := ⟨⟨q443, q6, by decide +kernel⟩, q441, q442⟩
set_option maxHeartbeats 4000000 in
set_option maxRecDepth 100000 in
theorem tX5_lengthAt (l : Launch) (dC : Nat → ClassId) (dI : Nat → Nat → Nat) (g : Nat → ClassId) (a0 a1 a2 a3 a4 a5 a6 a7 a8 : Nat) (ux : Int32) (uNn : Int32) (uNf : Nat → Int32) (uMn : Int32) (uMf : Nat → Int32) (uLn : Int32) (uLf : Nat → Int32) (uDn : Int32) (uDf : Nat → Int32) (p1 : Int32) {r : Int32} (h : fX5_lengthAt uLn uLf p1 = some r) : RO l yX5_lengthAt cX5_lengthAt 2 (some .int) 1 21 dC dI g [.ref a0, .int p1] (wX5 g a0 a1 a2 a3 a4 a5 a6 a7 a8 ux uNn uNf uMn uMf uLn uLf uDn uDf) (some (.int r)) := by
  refine RO_of (by decide) (Nat.le_of_ble_eq_true rfl) ?_
  intro p e s m below meth c ls F hr hlocks hE hX hP hl
  replace F : CF p m c cX5_lengthAt 2 s _ RX5 := F
  replace hl : lv_has ls 2 [(0, .ref a0), (1, .int p1)] := hl
  rw [fX5_lengthAt] at h
  refine lv_aload_n F.1 F.2.1 dX5_lengthAt_0 rfl (lv_at hl 0 rfl) ?_
  refine gF (v := .ref a5) F hE hP 0 rfl rfl inX5 2 (by decide) q120 rfl dX5_lengthAt_1 ?_
  refine lv_iload_n F.1 F.2.1 dX5_lengthAt_4 rfl (lv_at hl 1 rfl) ?_
  obtain ⟨z1, k2, h⟩ := bd_ok h
  refine cRV (As := [.int p1]) (rest := []) F hE hX va_S.rf (tX7_get l dC dI g a5 a6 12 uLn uLf p1 k2) mbX7_get q439 ⟨(Nat.le_of_ble_eq_true rfl), (Nat.le_of_ble_eq_true rfl)⟩ ⟨Nat.zero_le _, Nat.zero_le _⟩ hP [5, 6] rfl 5 rfl rfl rfl hl.1 rfl (Nat.le_of_ble_eq_true rfl) dX5_lengthAt_5 ?_
  cases h
  exact RO_i F hr hlocks dX5_lengthAt_8
/-! WireCutter$Orders.dueAt -/
def fX5_dueAt (uDn : Int32) (uDf : Nat → Int32) (p1 : Int32) : Option (Int32) :=
  (fX7_get 12 uDn uDf p1).bind fun z1 =>
  some (z1)
theorem mbX5_dueAt : MV yX5_dueAt cX5_dueAt 2 (some .int) 1 := ⟨⟨q886, q6, by decide +kernel⟩, q884, q885⟩
set_option maxHeartbeats 4000000 in
set_option maxRecDepth 100000 in
theorem tX5_dueAt (l : Launch) (dC : Nat → ClassId) (dI : Nat → Nat → Nat) (g : Nat → ClassId) (a0 a1 a2 a3 a4 a5 a6 a7 a8 : Nat) (ux : Int32) (uNn : Int32) (uNf : Nat → Int32) (uMn : Int32) (uMf : Nat → Int32) (uLn : Int32) (uLf : Nat → Int32) (uDn : Int32) (uDf : Nat → Int32) (p1 : Int32) {r : Int32} (h : fX5_dueAt uDn uDf p1 = some r) : RO l yX5_dueAt cX5_dueAt 2 (some .int) 1 21 dC dI g [.ref a0, .int p1] (wX5 g a0 a1 a2 a3 a4 a5 a6 a7 a8 ux uNn uNf uMn uMf uLn uLf uDn uDf) (some (.int r)) := by
  refine RO_of (by decide) (Nat.le_of_ble_eq_true rfl) ?_
  intro p e s m below meth c ls F hr hlocks hE hX hP hl
  replace F : CF p m c cX5_dueAt 2 s _ RX5 := F
  replace hl : lv_has ls 2 [(0, .ref a0), (1, .int p1)] := hl
  rw [fX5_dueAt] at h
  refine lv_aload_n F.1 F.2.1 dX5_dueAt_0 rfl (lv_at hl 0 rfl) ?_
  refine gF (v := .ref a7) F hE hP 0 rfl rfl inX5 3 (by decide) q121 rfl dX5_dueAt_1 ?_
  refine lv_iload_n F.1 F.2.1 dX5_dueAt_4 rfl (lv_at hl 1 rfl) ?_
  obtain ⟨z1, k2, h⟩ := bd_ok h
  refine cRV (As := [.int p1]) (rest := []) F hE hX va_S.rf (tX7_get l dC dI g a7 a8 12 uDn uDf p1 k2) mbX7_get q439 ⟨(Nat.le_of_ble_eq_true rfl), (Nat.le_of_ble_eq_true rfl)⟩ ⟨Nat.zero_le _, Nat.zero_le _⟩ hP [7, 8] rfl 7 rfl rfl rfl hl.1 rfl (Nat.le_of_ble_eq_true rfl) dX5_dueAt_5 ?_
  cases h
  exact RO_i F hr hlocks dX5_dueAt_8
/-! WireCutter$Orders.add -/
def fX5_add_L3 (x1 : Int32) (x2 : Int32) (x3 : Int32) (ux : Int32) (uNn : Int32) (uNf : Nat → Int32) (uMn : Int32) (uMf : Nat → Int32) (uLn : Int32) (uLf : Nat → Int32) (uDn : Int32) (uDf : Nat → Int32) : Nat → Int32 → Option (Int32 × Int32 × Int32 × (Nat → Int32) × Int32 × (Nat → Int32) × Int32 × (Nat → Int32) × Int32 × (Nat → Int32))
  | 0, _ => none
  | k + 1, x4 =>
    (fX5_count uNn).bind fun z1 =>
    if z1 ≤ x4 then
      (fX7_insert 12 uNn uNf x4 ux).bind fun z4 =>
      (fX7_insert 12 uMn uMf x4 x1).bind fun z6 =>
      (fX7_insert 12 uLn uLf x4 x2).bind fun z8 =>
      (fX7_insert 12 uDn uDf x4 x3).bind fun z10 =>
      some (ux, ux + 1, z4.1, z4.2, z6.1, z6.2, z8.1, z8.2, z10.1, z10.2)
    else
      (fX7_get 12 uDn uDf x4).bind fun z12 =>
      if x3 < z12 then
        (fX7_insert 12 uNn uNf x4 ux).bind fun z15 =>
        (fX7_insert 12 uMn uMf x4 x1).bind fun z17 =>
        (fX7_insert 12 uLn uLf x4 x2).bind fun z19 =>
        (fX7_insert 12 uDn uDf x4 x3).bind fun z21 =>
        some (ux, ux + 1, z15.1, z15.2, z17.1, z17.2, z19.1, z19.2, z21.1, z21.2)
      else
        fX5_add_L3 x1 x2 x3 ux uNn uNf uMn uMf uLn uLf uDn uDf k (x4 + 1)
def fX5_add (ux : Int32) (uNn : Int32) (uNf : Nat → Int32) (uMn : Int32) (uMf : Nat → Int32) (uLn : Int32) (uLf : Nat → Int32) (uDn : Int32) (uDf : Nat → Int32) (p1 : Int32) (p2 : Int32) (p3 : Int32) : Option (Int32 × Int32 × Int32 × (Nat → Int32) × Int32 × (Nat → Int32) × Int32 × (Nat → Int32) × Int32 × (Nat → Int32)) :=
  fX5_add_L3 p1 p2 p3 ux uNn uNf uMn uMf uLn uLf uDn uDf FU 0
theorem mbX5_add : MV yX5_add cX5_add 6 (some .int) 3 := ⟨⟨q1072, q6, by decide +kernel⟩, q1070, q1071⟩
set_option maxHeartbeats 4000000 in
set_option maxRecDepth 100000 in
theorem tX5_add_L3 {p : Program} {l : Launch} {e : Env} {s : State} {m : MethodId} {args : Array Value} {below : List Frame} {meth : Method} {c : Code} {dC : Nat → ClassId} {dI : Nat → Nat → Nat} {g : Nat → ClassId} {a0 a1 a2 a3 a4 a5 a6 a7 a8 : Nat} {r : Int32 × Int32 × Int32 × (Nat → Int32) × Int32 × (Nat → Int32) × Int32 × (Nat → Int32) × Int32 × (Nat → Int32)} {A : Nat → Prop} (F : CF p m c cX5_add 6 s args RX5) (hr : meth.sig.returnType = (some .int)) (hlocks : meth.locks = false) (hE : EK dC dI g s) (hX : EX g A s s.heap) (hA : ∀ q : Nat, s.heap.size ≤ q → A q) (x1 : Int32) (x2 : Int32) (x3 : Int32) (ux : Int32) (uNn : Int32) (uNf : Nat → Int32) (uMn : Int32) (uMf : Nat → Int32) (uLn : Int32) (uLf : Nat → Int32) (uDn : Int32) (uDf : Nat → Int32) : ∀ (k : Nat) (x4 : Int32), fX5_add_L3 x1 x2 x3 ux uNn uNf uMn uMf uLn uLf uDn uDf k x4 = some r → ∀ (H : Heap) (locs : List Loc), va_P (dC, dI) vwCl (wX5 g a0 a1 a2 a3 a4 a5 a6 a7 a8 ux uNn uNf uMn uMf uLn uLf uDn uDf) H → va_D A (wX5 g a0 a1 a2 a3 a4 a5 a6 a7 a8 ux uNn uNf uMn uMf uLn uLf uDn uDf) → va_S A s.heap H locs → ∀ (ls : Array Slot), lv_has ls 6 [(0, .ref a0), (1, .int x1), (2, .int x2), (3, .int x3), (4, .int x4)] → W p l e { frames := 2, cells := 0, slots := 0, locals := 40 } s m args below meth c H locs 0 0 (MQ below (fun _ st o t => o = .returned (some (.int r.1)) ∧ va_P (dC, dI) vwCl (wX5 g a0 a1 a2 a3 a4 a5 a6 a7 a8 r.2.1 r.2.2.1 r.2.2.2.1 r.2.2.2.2.1 r.2.2.2.2.2.1 r.2.2.2.2.2.2.1 r.2.2.2.2.2.2.2.1 r.2.2.2.2.2.2.2.2.1 r.2.2.2.2.2.2.2.2.2) t.heap ∧ va_F A st t) args s 0 0 A) (F0 m 3 ls []) := by
  intro k
  induction k with
  | zero =>
    intro x4 h
    exact absurd h (by simp [fX5_add_L3])
  | succ k ih =>
    intro x4 h H locs hP hD hS ls hl
    rw [fX5_add_L3] at h
    refine lv_iload F.1 F.2.1 dX5_add_3 (lv_at hl 4 rfl) ?_
    refine lv_aload_n F.1 F.2.1 dX5_add_5 rfl (lv_at hl 0 rfl) ?_
    obtain ⟨z1, k2, h⟩ := bd_ok h
    refine cRV (As := []) (rest := [.int x4]) F hE hX hS (tX5_count l dC dI g a0 a1 a2 a3 a4 a5 a6 a7 a8 ux uNn uNf uMn uMf uLn uLf uDn uDf k2) mbX5_count q502 ⟨(Nat.le_of_ble_eq_true rfl), (Nat.le_of_ble_eq_true rfl)⟩ ⟨Nat.zero_le _, Nat.zero_le _⟩ hP [0, 1, 2, 3, 4, 5, 6, 7, 8] rfl 0 rfl rfl rfl hl.1 rfl (Nat.le_of_ble_eq_true rfl) dX5_add_6 ?_
    refine lv_icmp_ge (tgt := 31) F.1 F.2.1 dX5_add_9 (by decide) (fun k3 => ?_) (fun k3 => ?_)
    · replace h := it_t k3 h
      refine lv_aload_n F.1 F.2.1 dX5_add_31 rfl (lv_at hl 0 rfl) ?_
      refine gF (v := .int ux) F hE hP 0 rfl rfl inX5 4 (by decide) q122 rfl dX5_add_32 ?_
      refine lv_istore (lv' := [(5, .int ux), (0, .ref a0), (1, .int x1), (2, .int x2), (3, .int x3), (4, .int x4)]) F.1 F.2.1 dX5_add_35 hl (by decide) rfl (fun ls hl => ?_)
      refine lv_aload_n F.1 F.2.1 dX5_add_37 rfl (lv_at hl 1 rfl) ?_
      refine gF (v := .ref a1) F hE hP 0 rfl rfl inX5 0 (by decide) q118 rfl dX5_add_38 ?_
      refine lv_iload F.1 F.2.1 dX5_add_41 (lv_at hl 5 rfl) ?_
      refine lv_iload F.1 F.2.1 dX5_add_43 (lv_at hl 0 rfl) ?_
      obtain ⟨z4, k5, h⟩ := bd_ok h
      refine cMV (As := [.int x4, .int ux]) (rest := []) (ws' := wX5 g a0 a1 a2 a3 a4 a5 a6 a7 a8 ux z4.1 z4.2 uMn uMf uLn uLf uDn uDf) F hE hX (tX7_insert l dC dI g a1 a2 12 uNn uNf x4 ux k5) mbX7_insert q1073 ⟨(Nat.le_of_ble_eq_true rfl), (Nat.le_of_ble_eq_true rfl)⟩ ⟨(Nat.le_of_ble_eq_true rfl), (Nat.le_of_ble_eq_true rfl)⟩ hP hD hS hA [1, 2] rfl rfl rfl rfl rfl 1 rfl rfl rfl hl.1 rfl (Nat.le_of_ble_eq_true rfl) dX5_add_45 (fun H locs hP hD hS => ?_)
      refine lv_aload_n F.1 F.2.1 dX5_add_48 rfl (lv_at hl 1 rfl) ?_
      refine gF (v := .ref a3) F hE hP 0 rfl rfl inX5 1 (by decide) q119 rfl dX5_add_49 ?_
      refine lv_iload F.1 F.2.1 dX5_add_52 (lv_at hl 5 rfl) ?_
      refine lv_iload_n F.1 F.2.1 dX5_add_54 rfl (lv_at hl 2 rfl) ?_
      obtain ⟨z6, k7, h⟩ := bd_ok h
      refine cMV (As := [.int x4, .int x1]) (rest := []) (ws' := wX5 g a0 a1 a2 a3 a4 a5 a6 a7 a8 ux z4.1 z4.2 z6.1 z6.2 uLn uLf uDn uDf) F hE hX (tX7_insert l dC dI g a3 a4 12 uMn uMf x4 x1 k7) mbX7_insert q1073 ⟨(Nat.le_of_ble_eq_true rfl), (Nat.le_of_ble_eq_true rfl)⟩ ⟨(Nat.le_of_ble_eq_true rfl), (Nat.le_of_ble_eq_true rfl)⟩ hP hD hS hA [3, 4] rfl rfl rfl rfl rfl 3 rfl rfl rfl hl.1 rfl (Nat.le_of_ble_eq_true rfl) dX5_add_55 (fun H locs hP hD hS => ?_)
      refine lv_aload_n F.1 F.2.1 dX5_add_58 rfl (lv_at hl 1 rfl) ?_
      refine gF (v := .ref a5) F hE hP 0 rfl rfl inX5 2 (by decide) q120 rfl dX5_add_59 ?_
      refine lv_iload F.1 F.2.1 dX5_add_62 (lv_at hl 5 rfl) ?_
      refine lv_iload_n F.1 F.2.1 dX5_add_64 rfl (lv_at hl 3 rfl) ?_
      obtain ⟨z8, k9, h⟩ := bd_ok h
      refine cMV (As := [.int x4, .int x2]) (rest := []) (ws' := wX5 g a0 a1 a2 a3 a4 a5 a6 a7 a8 ux z4.1 z4.2 z6.1 z6.2 z8.1 z8.2 uDn uDf) F hE hX (tX7_insert l dC dI g a5 a6 12 uLn uLf x4 x2 k9) mbX7_insert q1073 ⟨(Nat.le_of_ble_eq_true rfl), (Nat.le_of_ble_eq_true rfl)⟩ ⟨(Nat.le_of_ble_eq_true rfl), (Nat.le_of_ble_eq_true rfl)⟩ hP hD hS hA [5, 6] rfl rfl rfl rfl rfl 5 rfl rfl rfl hl.1 rfl (Nat.le_of_ble_eq_true rfl) dX5_add_65 (fun H locs hP hD hS => ?_)
      refine lv_aload_n F.1 F.2.1 dX5_add_68 rfl (lv_at hl 1 rfl) ?_
      refine gF (v := .ref a7) F hE hP 0 rfl rfl inX5 3 (by decide) q121 rfl dX5_add_69 ?_
      refine lv_iload F.1 F.2.1 dX5_add_72 (lv_at hl 5 rfl) ?_
      refine lv_iload_n F.1 F.2.1 dX5_add_74 rfl (lv_at hl 4 rfl) ?_
      obtain ⟨z10, k11, h⟩ := bd_ok h
      refine cMV (As := [.int x4, .int x3]) (rest := []) (ws' := wX5 g a0 a1 a2 a3 a4 a5 a6 a7 a8 ux z4.1 z4.2 z6.1 z6.2 z8.1 z8.2 z10.1 z10.2) F hE hX (tX7_insert l dC dI g a7 a8 12 uDn uDf x4 x3 k11) mbX7_insert q1073 ⟨(Nat.le_of_ble_eq_true rfl), (Nat.le_of_ble_eq_true rfl)⟩ ⟨(Nat.le_of_ble_eq_true rfl), (Nat.le_of_ble_eq_true rfl)⟩ hP hD hS hA [7, 8] rfl rfl rfl rfl rfl 7 rfl rfl rfl hl.1 rfl (Nat.le_of_ble_eq_true rfl) dX5_add_75 (fun H locs hP hD hS => ?_)
      refine lv_aload_n F.1 F.2.1 dX5_add_78 rfl (lv_at hl 1 rfl) ?_
      refine lv_dup F.1 F.2.1 dX5_add_79 rfl ?_
      refine gF (v := .int ux) F hE hP 0 rfl rfl inX5 4 (by decide) q122 rfl dX5_add_80 ?_
      refine lv_iconst (v := 1) F.1 F.2.1 dX5_add_83 (by decide) ?_
      refine lv_iadd F.1 F.2.1 dX5_add_84 ?_
      refine pF (v := .int (ux + 1)) F hE hP hD hS 0 rfl rfl inX5 tyX5 tyX5_ok nmX5 4 (by decide) q122 rfl rfl rfl (Nat.le_of_ble_eq_true rfl) dX5_add_85 (fun H locs hP hD hS => ?_)
      replace hP : va_P (dC, dI) vwCl (wX5 g a0 a1 a2 a3 a4 a5 a6 a7 a8 (ux + 1) z4.1 z4.2 z6.1 z6.2 z8.1 z8.2 z10.1 z10.2) H := hP
      replace hD : va_D A (wX5 g a0 a1 a2 a3 a4 a5 a6 a7 a8 (ux + 1) z4.1 z4.2 z6.1 z6.2 z8.1 z8.2 z10.1 z10.2) := hD
      refine lv_iload F.1 F.2.1 dX5_add_88 (lv_at hl 0 rfl) ?_
      cases h
      exact MU_i F hr hlocks (Nat.le_refl _) (Nat.le_refl _) hP hS dX5_add_90
    · replace h := it_f k3 h
      refine lv_aload_n F.1 F.2.1 dX5_add_12 rfl (lv_at hl 0 rfl) ?_
      refine gF (v := .ref a7) F hE hP 0 rfl rfl inX5 3 (by decide) q121 rfl dX5_add_13 ?_
      refine lv_iload F.1 F.2.1 dX5_add_16 (lv_at hl 4 rfl) ?_
      obtain ⟨z12, k13, h⟩ := bd_ok h
      refine cRV (As := [.int x4]) (rest := []) F hE hX hS (tX7_get l dC dI g a7 a8 12 uDn uDf x4 k13) mbX7_get q439 ⟨(Nat.le_of_ble_eq_true rfl), (Nat.le_of_ble_eq_true rfl)⟩ ⟨Nat.zero_le _, Nat.zero_le _⟩ hP [7, 8] rfl 7 rfl rfl rfl hl.1 rfl (Nat.le_of_ble_eq_true rfl) dX5_add_18 ?_
      refine lv_iload_n F.1 F.2.1 dX5_add_21 rfl (lv_at hl 3 rfl) ?_
      refine lv_icmp_gt (tgt := 31) F.1 F.2.1 dX5_add_22 (by decide) (fun k14 => ?_) (fun k14 => ?_)
      · replace h := it_t k14 h
        refine lv_aload_n F.1 F.2.1 dX5_add_31 rfl (lv_at hl 0 rfl) ?_
        refine gF (v := .int ux) F hE hP 0 rfl rfl inX5 4 (by decide) q122 rfl dX5_add_32 ?_
        refine lv_istore (lv' := [(5, .int ux), (0, .ref a0), (1, .int x1), (2, .int x2), (3, .int x3), (4, .int x4)]) F.1 F.2.1 dX5_add_35 hl (by decide) rfl (fun ls hl => ?_)
        refine lv_aload_n F.1 F.2.1 dX5_add_37 rfl (lv_at hl 1 rfl) ?_
        refine gF (v := .ref a1) F hE hP 0 rfl rfl inX5 0 (by decide) q118 rfl dX5_add_38 ?_
        refine lv_iload F.1 F.2.1 dX5_add_41 (lv_at hl 5 rfl) ?_
        refine lv_iload F.1 F.2.1 dX5_add_43 (lv_at hl 0 rfl) ?_
        obtain ⟨z15, k16, h⟩ := bd_ok h
        refine cMV (As := [.int x4, .int ux]) (rest := []) (ws' := wX5 g a0 a1 a2 a3 a4 a5 a6 a7 a8 ux z15.1 z15.2 uMn uMf uLn uLf uDn uDf) F hE hX (tX7_insert l dC dI g a1 a2 12 uNn uNf x4 ux k16) mbX7_insert q1073 ⟨(Nat.le_of_ble_eq_true rfl), (Nat.le_of_ble_eq_true rfl)⟩ ⟨(Nat.le_of_ble_eq_true rfl), (Nat.le_of_ble_eq_true rfl)⟩ hP hD hS hA [1, 2] rfl rfl rfl rfl rfl 1 rfl rfl rfl hl.1 rfl (Nat.le_of_ble_eq_true rfl) dX5_add_45 (fun H locs hP hD hS => ?_)
        refine lv_aload_n F.1 F.2.1 dX5_add_48 rfl (lv_at hl 1 rfl) ?_
        refine gF (v := .ref a3) F hE hP 0 rfl rfl inX5 1 (by decide) q119 rfl dX5_add_49 ?_
        refine lv_iload F.1 F.2.1 dX5_add_52 (lv_at hl 5 rfl) ?_
        refine lv_iload_n F.1 F.2.1 dX5_add_54 rfl (lv_at hl 2 rfl) ?_
        obtain ⟨z17, k18, h⟩ := bd_ok h
        refine cMV (As := [.int x4, .int x1]) (rest := []) (ws' := wX5 g a0 a1 a2 a3 a4 a5 a6 a7 a8 ux z15.1 z15.2 z17.1 z17.2 uLn uLf uDn uDf) F hE hX (tX7_insert l dC dI g a3 a4 12 uMn uMf x4 x1 k18) mbX7_insert q1073 ⟨(Nat.le_of_ble_eq_true rfl), (Nat.le_of_ble_eq_true rfl)⟩ ⟨(Nat.le_of_ble_eq_true rfl), (Nat.le_of_ble_eq_true rfl)⟩ hP hD hS hA [3, 4] rfl rfl rfl rfl rfl 3 rfl rfl rfl hl.1 rfl (Nat.le_of_ble_eq_true rfl) dX5_add_55 (fun H locs hP hD hS => ?_)
        refine lv_aload_n F.1 F.2.1 dX5_add_58 rfl (lv_at hl 1 rfl) ?_
        refine gF (v := .ref a5) F hE hP 0 rfl rfl inX5 2 (by decide) q120 rfl dX5_add_59 ?_
        refine lv_iload F.1 F.2.1 dX5_add_62 (lv_at hl 5 rfl) ?_
        refine lv_iload_n F.1 F.2.1 dX5_add_64 rfl (lv_at hl 3 rfl) ?_
        obtain ⟨z19, k20, h⟩ := bd_ok h
        refine cMV (As := [.int x4, .int x2]) (rest := []) (ws' := wX5 g a0 a1 a2 a3 a4 a5 a6 a7 a8 ux z15.1 z15.2 z17.1 z17.2 z19.1 z19.2 uDn uDf) F hE hX (tX7_insert l dC dI g a5 a6 12 uLn uLf x4 x2 k20) mbX7_insert q1073 ⟨(Nat.le_of_ble_eq_true rfl), (Nat.le_of_ble_eq_true rfl)⟩ ⟨(Nat.le_of_ble_eq_true rfl), (Nat.le_of_ble_eq_true rfl)⟩ hP hD hS hA [5, 6] rfl rfl rfl rfl rfl 5 rfl rfl rfl hl.1 rfl (Nat.le_of_ble_eq_true rfl) dX5_add_65 (fun H locs hP hD hS => ?_)
        refine lv_aload_n F.1 F.2.1 dX5_add_68 rfl (lv_at hl 1 rfl) ?_
        refine gF (v := .ref a7) F hE hP 0 rfl rfl inX5 3 (by decide) q121 rfl dX5_add_69 ?_
        refine lv_iload F.1 F.2.1 dX5_add_72 (lv_at hl 5 rfl) ?_
        refine lv_iload_n F.1 F.2.1 dX5_add_74 rfl (lv_at hl 4 rfl) ?_
        obtain ⟨z21, k22, h⟩ := bd_ok h
        refine cMV (As := [.int x4, .int x3]) (rest := []) (ws' := wX5 g a0 a1 a2 a3 a4 a5 a6 a7 a8 ux z15.1 z15.2 z17.1 z17.2 z19.1 z19.2 z21.1 z21.2) F hE hX (tX7_insert l dC dI g a7 a8 12 uDn uDf x4 x3 k22) mbX7_insert q1073 ⟨(Nat.le_of_ble_eq_true rfl), (Nat.le_of_ble_eq_true rfl)⟩ ⟨(Nat.le_of_ble_eq_true rfl), (Nat.le_of_ble_eq_true rfl)⟩ hP hD hS hA [7, 8] rfl rfl rfl rfl rfl 7 rfl rfl rfl hl.1 rfl (Nat.le_of_ble_eq_true rfl) dX5_add_75 (fun H locs hP hD hS => ?_)
        refine lv_aload_n F.1 F.2.1 dX5_add_78 rfl (lv_at hl 1 rfl) ?_
        refine lv_dup F.1 F.2.1 dX5_add_79 rfl ?_
        refine gF (v := .int ux) F hE hP 0 rfl rfl inX5 4 (by decide) q122 rfl dX5_add_80 ?_
        refine lv_iconst (v := 1) F.1 F.2.1 dX5_add_83 (by decide) ?_
        refine lv_iadd F.1 F.2.1 dX5_add_84 ?_
        refine pF (v := .int (ux + 1)) F hE hP hD hS 0 rfl rfl inX5 tyX5 tyX5_ok nmX5 4 (by decide) q122 rfl rfl rfl (Nat.le_of_ble_eq_true rfl) dX5_add_85 (fun H locs hP hD hS => ?_)
        replace hP : va_P (dC, dI) vwCl (wX5 g a0 a1 a2 a3 a4 a5 a6 a7 a8 (ux + 1) z15.1 z15.2 z17.1 z17.2 z19.1 z19.2 z21.1 z21.2) H := hP
        replace hD : va_D A (wX5 g a0 a1 a2 a3 a4 a5 a6 a7 a8 (ux + 1) z15.1 z15.2 z17.1 z17.2 z19.1 z19.2 z21.1 z21.2) := hD
        refine lv_iload F.1 F.2.1 dX5_add_88 (lv_at hl 0 rfl) ?_
        cases h
        exact MU_i F hr hlocks (Nat.le_refl _) (Nat.le_refl _) hP hS dX5_add_90
      · replace h := it_f k14 h
        refine lv_iinc (v := x4 + 1) (lv' := [(4, .int (x4 + 1)), (0, .ref a0), (1, .int x1), (2, .int x2), (3, .int x3)]) F.1 F.2.1 dX5_add_25 hl (k := 4) rfl (by rfl) (by decide) rfl (fun ls hl => ?_)
        refine lv_goto (tgt := 3) F.1 F.2.1 dX5_add_28 (by decide) ?_
        exact ih (x4 + 1) h _ _ hP hD hS ls (lv_sub hl [1, 2, 3, 4, 0] rfl)
set_option maxHeartbeats 4000000 in
set_option maxRecDepth 100000 in
theorem tX5_add (l : Launch) (dC : Nat → ClassId) (dI : Nat → Nat → Nat) (g : Nat → ClassId) (a0 a1 a2 a3 a4 a5 a6 a7 a8 : Nat) (ux : Int32) (uNn : Int32) (uNf : Nat → Int32) (uMn : Int32) (uMf : Nat → Int32) (uLn : Int32) (uLf : Nat → Int32) (uDn : Int32) (uDf : Nat → Int32) (p1 : Int32) (p2 : Int32) (p3 : Int32) {r : Int32 × Int32 × Int32 × (Nat → Int32) × Int32 × (Nat → Int32) × Int32 × (Nat → Int32) × Int32 × (Nat → Int32)} (h : fX5_add ux uNn uNf uMn uMf uLn uLf uDn uDf p1 p2 p3 = some r) : MU l yX5_add cX5_add 6 (some .int) 2 40 0 0 dC dI g [.ref a0, .int p1, .int p2, .int p3] (wX5 g a0 a1 a2 a3 a4 a5 a6 a7 a8 ux uNn uNf uMn uMf uLn uLf uDn uDf) (wX5 g a0 a1 a2 a3 a4 a5 a6 a7 a8 r.2.1 r.2.2.1 r.2.2.2.1 r.2.2.2.2.1 r.2.2.2.2.2.1 r.2.2.2.2.2.2.1 r.2.2.2.2.2.2.2.1 r.2.2.2.2.2.2.2.2.1 r.2.2.2.2.2.2.2.2.2) (some (.int r.1)) := by
  refine MU_of (by decide) (Nat.le_of_ble_eq_true rfl) ?_
  intro p e s m below meth c ls F hr hlocks hE hX hA hP hD hS hl
  generalize va_A (wX5 g a0 a1 a2 a3 a4 a5 a6 a7 a8 ux uNn uNf uMn uMf uLn uLf uDn uDf) s.heap.size = A at hA hD hS hX ⊢
  replace F : CF p m c cX5_add 6 s _ RX5 := F
  replace hl : lv_has ls 6 [(0, .ref a0), (1, .int p1), (2, .int p2), (3, .int p3)] := hl
  rw [fX5_add] at h
  refine lv_iconst (v := 0) F.1 F.2.1 dX5_add_0 (by decide) ?_
  refine lv_istore (lv' := [(4, .int 0), (0, .ref a0), (1, .int p1), (2, .int p2), (3, .int p3)]) F.1 F.2.1 dX5_add_1 hl (by decide) rfl (fun ls hl => ?_)
  exact tX5_add_L3 F hr hlocks hE hX hA p1 p2 p3 ux uNn uNf uMn uMf uLn uLf uDn uDf FU 0 h _ _ hP hD hS ls (lv_sub hl [1, 2, 3, 4, 0] rfl)
/-! WireCutter$Orders.removeAt -/
def fX5_removeAt (uNn : Int32) (uNf : Nat → Int32) (uMn : Int32) (uMf : Nat → Int32) (uLn : Int32) (uLf : Nat → Int32) (uDn : Int32) (uDf : Nat → Int32) (p1 : Int32) : Option (Int32 × (Nat → Int32) × Int32 × (Nat → Int32) × Int32 × (Nat → Int32) × Int32 × (Nat → Int32)) :=
  (fX7_removeAt 12 uNn uNf p1).bind fun z1 =>
  (fX7_removeAt 12 uMn uMf p1).bind fun z3 =>
  (fX7_removeAt 12 uLn uLf p1).bind fun z5 =>
  (fX7_removeAt 12 uDn uDf p1).bind fun z7 =>
  some (z1.1, z1.2, z3.1, z3.2, z5.1, z5.2, z7.1, z7.2)
theorem mbX5_removeAt : MV yX5_removeAt cX5_removeAt 2 none 1 := ⟨⟨q1094, q6, by decide +kernel⟩, q1092, q1093⟩
set_option maxHeartbeats 4000000 in
set_option maxRecDepth 100000 in
theorem tX5_removeAt (l : Launch) (dC : Nat → ClassId) (dI : Nat → Nat → Nat) (g : Nat → ClassId) (a0 a1 a2 a3 a4 a5 a6 a7 a8 : Nat) (ux : Int32) (uNn : Int32) (uNf : Nat → Int32) (uMn : Int32) (uMf : Nat → Int32) (uLn : Int32) (uLf : Nat → Int32) (uDn : Int32) (uDf : Nat → Int32) (p1 : Int32) {r : Int32 × (Nat → Int32) × Int32 × (Nat → Int32) × Int32 × (Nat → Int32) × Int32 × (Nat → Int32)} (h : fX5_removeAt uNn uNf uMn uMf uLn uLf uDn uDf p1 = some r) : MU l yX5_removeAt cX5_removeAt 2 none 1 22 0 0 dC dI g [.ref a0, .int p1] (wX5 g a0 a1 a2 a3 a4 a5 a6 a7 a8 ux uNn uNf uMn uMf uLn uLf uDn uDf) (wX5 g a0 a1 a2 a3 a4 a5 a6 a7 a8 ux r.1 r.2.1 r.2.2.1 r.2.2.2.1 r.2.2.2.2.1 r.2.2.2.2.2.1 r.2.2.2.2.2.2.1 r.2.2.2.2.2.2.2) none := by
  refine MU_of (by decide) (Nat.le_of_ble_eq_true rfl) ?_
  intro p e s m below meth c ls F hr hlocks hE hX hA hP hD hS hl
  generalize va_A (wX5 g a0 a1 a2 a3 a4 a5 a6 a7 a8 ux uNn uNf uMn uMf uLn uLf uDn uDf) s.heap.size = A at hA hD hS hX ⊢
  replace F : CF p m c cX5_removeAt 2 s _ RX5 := F
  replace hl : lv_has ls 2 [(0, .ref a0), (1, .int p1)] := hl
  rw [fX5_removeAt] at h
  refine lv_aload_n F.1 F.2.1 dX5_removeAt_0 rfl (lv_at hl 0 rfl) ?_
  refine gF (v := .ref a1) F hE hP 0 rfl rfl inX5 0 (by decide) q118 rfl dX5_removeAt_1 ?_
  refine lv_iload_n F.1 F.2.1 dX5_removeAt_4 rfl (lv_at hl 1 rfl) ?_
  obtain ⟨z1, k2, h⟩ := bd_ok h
  refine cMV (As := [.int p1]) (rest := []) (ws' := wX5 g a0 a1 a2 a3 a4 a5 a6 a7 a8 ux z1.1 z1.2 uMn uMf uLn uLf uDn uDf) F hE hX (tX7_removeAt l dC dI g a1 a2 12 uNn uNf p1 k2) mbX7_removeAt q1095 ⟨(Nat.le_of_ble_eq_true rfl), (Nat.le_of_ble_eq_true rfl)⟩ ⟨(Nat.le_of_ble_eq_true rfl), (Nat.le_of_ble_eq_true rfl)⟩ hP hD hS hA [1, 2] rfl rfl rfl rfl rfl 1 rfl rfl rfl hl.1 rfl (Nat.le_of_ble_eq_true rfl) dX5_removeAt_5 (fun H locs hP hD hS => ?_)
  refine lv_aload_n F.1 F.2.1 dX5_removeAt_8 rfl (lv_at hl 0 rfl) ?_
  refine gF (v := .ref a3) F hE hP 0 rfl rfl inX5 1 (by decide) q119 rfl dX5_removeAt_9 ?_
  refine lv_iload_n F.1 F.2.1 dX5_removeAt_12 rfl (lv_at hl 1 rfl) ?_
  obtain ⟨z3, k4, h⟩ := bd_ok h
  refine cMV (As := [.int p1]) (rest := []) (ws' := wX5 g a0 a1 a2 a3 a4 a5 a6 a7 a8 ux z1.1 z1.2 z3.1 z3.2 uLn uLf uDn uDf) F hE hX (tX7_removeAt l dC dI g a3 a4 12 uMn uMf p1 k4) mbX7_removeAt q1095 ⟨(Nat.le_of_ble_eq_true rfl), (Nat.le_of_ble_eq_true rfl)⟩ ⟨(Nat.le_of_ble_eq_true rfl), (Nat.le_of_ble_eq_true rfl)⟩ hP hD hS hA [3, 4] rfl rfl rfl rfl rfl 3 rfl rfl rfl hl.1 rfl (Nat.le_of_ble_eq_true rfl) dX5_removeAt_13 (fun H locs hP hD hS => ?_)
  refine lv_aload_n F.1 F.2.1 dX5_removeAt_16 rfl (lv_at hl 0 rfl) ?_
  refine gF (v := .ref a5) F hE hP 0 rfl rfl inX5 2 (by decide) q120 rfl dX5_removeAt_17 ?_
  refine lv_iload_n F.1 F.2.1 dX5_removeAt_20 rfl (lv_at hl 1 rfl) ?_
  obtain ⟨z5, k6, h⟩ := bd_ok h
  refine cMV (As := [.int p1]) (rest := []) (ws' := wX5 g a0 a1 a2 a3 a4 a5 a6 a7 a8 ux z1.1 z1.2 z3.1 z3.2 z5.1 z5.2 uDn uDf) F hE hX (tX7_removeAt l dC dI g a5 a6 12 uLn uLf p1 k6) mbX7_removeAt q1095 ⟨(Nat.le_of_ble_eq_true rfl), (Nat.le_of_ble_eq_true rfl)⟩ ⟨(Nat.le_of_ble_eq_true rfl), (Nat.le_of_ble_eq_true rfl)⟩ hP hD hS hA [5, 6] rfl rfl rfl rfl rfl 5 rfl rfl rfl hl.1 rfl (Nat.le_of_ble_eq_true rfl) dX5_removeAt_21 (fun H locs hP hD hS => ?_)
  refine lv_aload_n F.1 F.2.1 dX5_removeAt_24 rfl (lv_at hl 0 rfl) ?_
  refine gF (v := .ref a7) F hE hP 0 rfl rfl inX5 3 (by decide) q121 rfl dX5_removeAt_25 ?_
  refine lv_iload_n F.1 F.2.1 dX5_removeAt_28 rfl (lv_at hl 1 rfl) ?_
  obtain ⟨z7, k8, h⟩ := bd_ok h
  refine cMV (As := [.int p1]) (rest := []) (ws' := wX5 g a0 a1 a2 a3 a4 a5 a6 a7 a8 ux z1.1 z1.2 z3.1 z3.2 z5.1 z5.2 z7.1 z7.2) F hE hX (tX7_removeAt l dC dI g a7 a8 12 uDn uDf p1 k8) mbX7_removeAt q1095 ⟨(Nat.le_of_ble_eq_true rfl), (Nat.le_of_ble_eq_true rfl)⟩ ⟨(Nat.le_of_ble_eq_true rfl), (Nat.le_of_ble_eq_true rfl)⟩ hP hD hS hA [7, 8] rfl rfl rfl rfl rfl 7 rfl rfl rfl hl.1 rfl (Nat.le_of_ble_eq_true rfl) dX5_removeAt_29 (fun H locs hP hD hS => ?_)
  cases h
  exact MU_v F hr hlocks (Nat.le_refl _) (Nat.le_refl _) hP hS dX5_removeAt_32
/-! WireCutter$Orders.isSorted -/
def fX5_isSorted_L2 (uNn : Int32) (uNf : Nat → Int32) (uDn : Int32) (uDf : Nat → Int32) : Nat → Int32 → Option (Int32)
  | 0, _ => none
  | k + 1, x1 =>
    (fX5_count uNn).bind fun z1 =>
    if z1 ≤ x1 then
      some (1)
    else
      (fX7_get 12 uDn uDf (x1 - 1)).bind fun z4 =>
      (fX7_get 12 uDn uDf x1).bind fun z6 =>
      if z6 ≤ z4 then
        (fX7_get 12 uDn uDf (x1 - 1)).bind fun z9 =>
        (fX7_get 12 uDn uDf x1).bind fun z11 =>
        if z9 = z11 then
          if (0 : Int32) = 0 then
            if (1 : Int32) = 0 then
              some (0)
            else
              (fX7_get 12 uNn uNf (x1 - 1)).bind fun z23 =>
              (fX7_get 12 uNn uNf x1).bind fun z25 =>
              if z23 < z25 then
                fX5_isSorted_L2 uNn uNf uDn uDf k (x1 + 1)
              else
                some (0)
          else
            fX5_isSorted_L2 uNn uNf uDn uDf k (x1 + 1)
        else
          if (0 : Int32) = 0 then
            if (0 : Int32) = 0 then
              some (0)
            else
              (fX7_get 12 uNn uNf (x1 - 1)).bind fun z16 =>
              (fX7_get 12 uNn uNf x1).bind fun z18 =>
              if z16 < z18 then
                fX5_isSorted_L2 uNn uNf uDn uDf k (x1 + 1)
              else
                some (0)
          else
            fX5_isSorted_L2 uNn uNf uDn uDf k (x1 + 1)
      else
        (fX7_get 12 uDn uDf (x1 - 1)).bind fun z28 =>
        (fX7_get 12 uDn uDf x1).bind fun z30 =>
        if z28 = z30 then
          if (1 : Int32) = 0 then
            if (1 : Int32) = 0 then
              some (0)
            else
              (fX7_get 12 uNn uNf (x1 - 1)).bind fun z42 =>
              (fX7_get 12 uNn uNf x1).bind fun z44 =>
              if z42 < z44 then
                fX5_isSorted_L2 uNn uNf uDn uDf k (x1 + 1)
              else
                some (0)
          else
            fX5_isSorted_L2 uNn uNf uDn uDf k (x1 + 1)
        else
          if (1 : Int32) = 0 then
            if (0 : Int32) = 0 then
              some (0)
            else
              (fX7_get 12 uNn uNf (x1 - 1)).bind fun z35 =>
              (fX7_get 12 uNn uNf x1).bind fun z37 =>
              if z35 < z37 then
                fX5_isSorted_L2 uNn uNf uDn uDf k (x1 + 1)
              else
                some (0)
          else
            fX5_isSorted_L2 uNn uNf uDn uDf k (x1 + 1)
def fX5_isSorted (uNn : Int32) (uNf : Nat → Int32) (uDn : Int32) (uDf : Nat → Int32) : Option (Int32) :=
  fX5_isSorted_L2 uNn uNf uDn uDf FU 1
theorem mbX5_isSorted : MV yX5_isSorted cX5_isSorted 4 (some .boolean) 0 := ⟨⟨q501, q6, by decide +kernel⟩, q499, q500⟩
set_option maxHeartbeats 4000000 in
set_option maxRecDepth 100000 in
theorem tX5_isSorted_L2 {p : Program} {l : Launch} {e : Env} {s : State} {m : MethodId} {args : Array Value} {below : List Frame} {meth : Method} {c : Code} {dC : Nat → ClassId} {dI : Nat → Nat → Nat} {g : Nat → ClassId} {a0 a1 a2 a3 a4 a5 a6 a7 a8 : Nat} {r : Int32} (F : CF p m c cX5_isSorted 4 s args RX5) (hr : meth.sig.returnType = (some .boolean)) (hlocks : meth.locks = false) (hE : EK dC dI g s) (hX : EXr g s) (ux : Int32) (uNn : Int32) (uNf : Nat → Int32) (uMn : Int32) (uMf : Nat → Int32) (uLn : Int32) (uLf : Nat → Int32) (uDn : Int32) (uDf : Nat → Int32) (hP : va_P (dC, dI) vwCl (wX5 g a0 a1 a2 a3 a4 a5 a6 a7 a8 ux uNn uNf uMn uMf uLn uLf uDn uDf) s.heap) : ∀ (k : Nat) (x1 : Int32), fX5_isSorted_L2 uNn uNf uDn uDf k x1 = some r → ∀ (ls : Array Slot), lv_has ls 4 [(0, .ref a0), (1, .int x1)] → W p l e { frames := 2, cells := 0, slots := 0, locals := 40 } s m args below meth c s.heap [] 0 0 (MQ below (fun _ st o t => o = .returned (some (.int r)) ∧ t.heap = st.heap) args s 0 0 (fun _ => False)) (F0 m 2 ls []) := by
  intro k
  induction k with
  | zero =>
    intro x1 h
    exact absurd h (by simp [fX5_isSorted_L2])
  | succ k ih =>
    intro x1 h ls hl
    rw [fX5_isSorted_L2] at h
    refine lv_iload_n F.1 F.2.1 dX5_isSorted_2 rfl (lv_at hl 1 rfl) ?_
    refine lv_aload_n F.1 F.2.1 dX5_isSorted_3 rfl (lv_at hl 0 rfl) ?_
    obtain ⟨z1, k2, h⟩ := bd_ok h
    refine cRV (As := []) (rest := [.int x1]) F hE hX va_S.rf (tX5_count l dC dI g a0 a1 a2 a3 a4 a5 a6 a7 a8 ux uNn uNf uMn uMf uLn uLf uDn uDf k2) mbX5_count q502 ⟨(Nat.le_of_ble_eq_true rfl), (Nat.le_of_ble_eq_true rfl)⟩ ⟨Nat.zero_le _, Nat.zero_le _⟩ hP [0, 1, 2, 3, 4, 5, 6, 7, 8] rfl 0 rfl rfl rfl hl.1 rfl (Nat.le_of_ble_eq_true rfl) dX5_isSorted_4 ?_
    refine lv_icmp_ge (tgt := 101) F.1 F.2.1 dX5_isSorted_7 (by decide) (fun k3 => ?_) (fun k3 => ?_)
    · replace h := it_t k3 h
      refine lv_iconst (v := 1) F.1 F.2.1 dX5_isSorted_101 (by decide) ?_
      cases h
      exact RO_z F hr hlocks rfl dX5_isSorted_102
    · replace h := it_f k3 h
      refine lv_aload_n F.1 F.2.1 dX5_isSorted_10 rfl (lv_at hl 0 rfl) ?_
      refine gF (v := .ref a7) F hE hP 0 rfl rfl inX5 3 (by decide) q121 rfl dX5_isSorted_11 ?_
      refine lv_iload_n F.1 F.2.1 dX5_isSorted_14 rfl (lv_at hl 1 rfl) ?_
      refine lv_iconst (v := 1) F.1 F.2.1 dX5_isSorted_15 (by decide) ?_
      refine lv_isub F.1 F.2.1 dX5_isSorted_16 ?_
      obtain ⟨z4, k5, h⟩ := bd_ok h
      refine cRV (As := [.int (x1 - 1)]) (rest := []) F hE hX va_S.rf (tX7_get l dC dI g a7 a8 12 uDn uDf (x1 - 1) k5) mbX7_get q439 ⟨(Nat.le_of_ble_eq_true rfl), (Nat.le_of_ble_eq_true rfl)⟩ ⟨Nat.zero_le _, Nat.zero_le _⟩ hP [7, 8] rfl 7 rfl rfl rfl hl.1 rfl (Nat.le_of_ble_eq_true rfl) dX5_isSorted_17 ?_
      refine lv_aload_n F.1 F.2.1 dX5_isSorted_20 rfl (lv_at hl 0 rfl) ?_
      refine gF (v := .ref a7) F hE hP 0 rfl rfl inX5 3 (by decide) q121 rfl dX5_isSorted_21 ?_
      refine lv_iload_n F.1 F.2.1 dX5_isSorted_24 rfl (lv_at hl 1 rfl) ?_
      obtain ⟨z6, k7, h⟩ := bd_ok h
      refine cRV (As := [.int x1]) (rest := [.int z4]) F hE hX va_S.rf (tX7_get l dC dI g a7 a8 12 uDn uDf x1 k7) mbX7_get q439 ⟨(Nat.le_of_ble_eq_true rfl), (Nat.le_of_ble_eq_true rfl)⟩ ⟨Nat.zero_le _, Nat.zero_le _⟩ hP [7, 8] rfl 7 rfl rfl rfl hl.1 rfl (Nat.le_of_ble_eq_true rfl) dX5_isSorted_25 ?_
      refine lv_icmp_ge (tgt := 35) F.1 F.2.1 dX5_isSorted_28 (by decide) (fun k8 => ?_) (fun k8 => ?_)
      · replace h := it_t k8 h
        refine lv_iconst (v := 0) F.1 F.2.1 dX5_isSorted_35 (by decide) ?_
        refine lv_istore_n (lv' := [(2, .int 0), (0, .ref a0), (1, .int x1)]) F.1 F.2.1 dX5_isSorted_36 rfl hl (by decide) rfl (fun ls hl => ?_)
        refine lv_aload_n F.1 F.2.1 dX5_isSorted_37 rfl (lv_at hl 1 rfl) ?_
        refine gF (v := .ref a7) F hE hP 0 rfl rfl inX5 3 (by decide) q121 rfl dX5_isSorted_38 ?_
        refine lv_iload_n F.1 F.2.1 dX5_isSorted_41 rfl (lv_at hl 2 rfl) ?_
        refine lv_iconst (v := 1) F.1 F.2.1 dX5_isSorted_42 (by decide) ?_
        refine lv_isub F.1 F.2.1 dX5_isSorted_43 ?_
        obtain ⟨z9, k10, h⟩ := bd_ok h
        refine cRV (As := [.int (x1 - 1)]) (rest := []) F hE hX va_S.rf (tX7_get l dC dI g a7 a8 12 uDn uDf (x1 - 1) k10) mbX7_get q439 ⟨(Nat.le_of_ble_eq_true rfl), (Nat.le_of_ble_eq_true rfl)⟩ ⟨Nat.zero_le _, Nat.zero_le _⟩ hP [7, 8] rfl 7 rfl rfl rfl hl.1 rfl (Nat.le_of_ble_eq_true rfl) dX5_isSorted_44 ?_
        refine lv_aload_n F.1 F.2.1 dX5_isSorted_47 rfl (lv_at hl 1 rfl) ?_
        refine gF (v := .ref a7) F hE hP 0 rfl rfl inX5 3 (by decide) q121 rfl dX5_isSorted_48 ?_
        refine lv_iload_n F.1 F.2.1 dX5_isSorted_51 rfl (lv_at hl 2 rfl) ?_
        obtain ⟨z11, k12, h⟩ := bd_ok h
        refine cRV (As := [.int x1]) (rest := [.int z9]) F hE hX va_S.rf (tX7_get l dC dI g a7 a8 12 uDn uDf x1 k12) mbX7_get q439 ⟨(Nat.le_of_ble_eq_true rfl), (Nat.le_of_ble_eq_true rfl)⟩ ⟨Nat.zero_le _, Nat.zero_le _⟩ hP [7, 8] rfl 7 rfl rfl rfl hl.1 rfl (Nat.le_of_ble_eq_true rfl) dX5_isSorted_52 ?_
        refine lv_icmp_ne (tgt := 62) F.1 F.2.1 dX5_isSorted_55 (by decide) (fun k13 => ?_) (fun k13 => ?_)
        · replace h := it_f k13 h
          refine lv_iconst (v := 0) F.1 F.2.1 dX5_isSorted_62 (by decide) ?_
          refine lv_istore_n (lv' := [(3, .int 0), (2, .int 0), (0, .ref a0), (1, .int x1)]) F.1 F.2.1 dX5_isSorted_63 rfl hl (by decide) rfl (fun ls hl => ?_)
          refine lv_iload_n F.1 F.2.1 dX5_isSorted_64 rfl (lv_at hl 1 rfl) ?_
          refine lv_if_ne (tgt := 95) F.1 F.2.1 dX5_isSorted_65 (by decide) (fun k14 => ?_) (fun k14 => ?_)
          · replace h := it_f k14 h
            refine lv_iinc (v := x1 + 1) (lv' := [(1, .int (x1 + 1)), (3, .int 0), (2, .int 0), (0, .ref a0)]) F.1 F.2.1 dX5_isSorted_95 hl (k := 3) rfl (by rfl) (by decide) rfl (fun ls hl => ?_)
            refine lv_goto (tgt := 2) F.1 F.2.1 dX5_isSorted_98 (by decide) ?_
            exact ih (x1 + 1) h ls (lv_sub hl [3, 0] rfl)
          · replace h := it_t k14 h
            refine lv_iload_n F.1 F.2.1 dX5_isSorted_68 rfl (lv_at hl 0 rfl) ?_
            refine lv_if_eq (tgt := 93) F.1 F.2.1 dX5_isSorted_69 (by decide) (fun k15 => ?_) (fun k15 => ?_)
            · replace h := it_t k15 h
              refine lv_iconst (v := 0) F.1 F.2.1 dX5_isSorted_93 (by decide) ?_
              cases h
              exact RO_z F hr hlocks rfl dX5_isSorted_94
            · replace h := it_f k15 h
              refine lv_aload_n F.1 F.2.1 dX5_isSorted_72 rfl (lv_at hl 2 rfl) ?_
              refine gF (v := .ref a1) F hE hP 0 rfl rfl inX5 0 (by decide) q118 rfl dX5_isSorted_73 ?_
              refine lv_iload_n F.1 F.2.1 dX5_isSorted_76 rfl (lv_at hl 3 rfl) ?_
              refine lv_iconst (v := 1) F.1 F.2.1 dX5_isSorted_77 (by decide) ?_
              refine lv_isub F.1 F.2.1 dX5_isSorted_78 ?_
              obtain ⟨z16, k17, h⟩ := bd_ok h
              refine cRV (As := [.int (x1 - 1)]) (rest := []) F hE hX va_S.rf (tX7_get l dC dI g a1 a2 12 uNn uNf (x1 - 1) k17) mbX7_get q439 ⟨(Nat.le_of_ble_eq_true rfl), (Nat.le_of_ble_eq_true rfl)⟩ ⟨Nat.zero_le _, Nat.zero_le _⟩ hP [1, 2] rfl 1 rfl rfl rfl hl.1 rfl (Nat.le_of_ble_eq_true rfl) dX5_isSorted_79 ?_
              refine lv_aload_n F.1 F.2.1 dX5_isSorted_82 rfl (lv_at hl 2 rfl) ?_
              refine gF (v := .ref a1) F hE hP 0 rfl rfl inX5 0 (by decide) q118 rfl dX5_isSorted_83 ?_
              refine lv_iload_n F.1 F.2.1 dX5_isSorted_86 rfl (lv_at hl 3 rfl) ?_
              obtain ⟨z18, k19, h⟩ := bd_ok h
              refine cRV (As := [.int x1]) (rest := [.int z16]) F hE hX va_S.rf (tX7_get l dC dI g a1 a2 12 uNn uNf x1 k19) mbX7_get q439 ⟨(Nat.le_of_ble_eq_true rfl), (Nat.le_of_ble_eq_true rfl)⟩ ⟨Nat.zero_le _, Nat.zero_le _⟩ hP [1, 2] rfl 1 rfl rfl rfl hl.1 rfl (Nat.le_of_ble_eq_true rfl) dX5_isSorted_87 ?_
              refine lv_icmp_lt (tgt := 95) F.1 F.2.1 dX5_isSorted_90 (by decide) (fun k20 => ?_) (fun k20 => ?_)
              · replace h := it_t k20 h
                refine lv_iinc (v := x1 + 1) (lv' := [(1, .int (x1 + 1)), (3, .int 0), (2, .int 0), (0, .ref a0)]) F.1 F.2.1 dX5_isSorted_95 hl (k := 3) rfl (by rfl) (by decide) rfl (fun ls hl => ?_)
                refine lv_goto (tgt := 2) F.1 F.2.1 dX5_isSorted_98 (by decide) ?_
                exact ih (x1 + 1) h ls (lv_sub hl [3, 0] rfl)
              · replace h := it_f k20 h
                refine lv_iconst (v := 0) F.1 F.2.1 dX5_isSorted_93 (by decide) ?_
                cases h
                exact RO_z F hr hlocks rfl dX5_isSorted_94
        · replace h := it_t k13 h
          refine lv_iconst (v := 1) F.1 F.2.1 dX5_isSorted_58 (by decide) ?_
          refine lv_goto (tgt := 63) F.1 F.2.1 dX5_isSorted_59 (by decide) ?_
          refine lv_istore_n (lv' := [(3, .int 1), (2, .int 0), (0, .ref a0), (1, .int x1)]) F.1 F.2.1 dX5_isSorted_63 rfl hl (by decide) rfl (fun ls hl => ?_)
          refine lv_iload_n F.1 F.2.1 dX5_isSorted_64 rfl (lv_at hl 1 rfl) ?_
          refine lv_if_ne (tgt := 95) F.1 F.2.1 dX5_isSorted_65 (by decide) (fun k21 => ?_) (fun k21 => ?_)
          · replace h := it_f k21 h
            refine lv_iinc (v := x1 + 1) (lv' := [(1, .int (x1 + 1)), (3, .int 1), (2, .int 0), (0, .ref a0)]) F.1 F.2.1 dX5_isSorted_95 hl (k := 3) rfl (by rfl) (by decide) rfl (fun ls hl => ?_)
            refine lv_goto (tgt := 2) F.1 F.2.1 dX5_isSorted_98 (by decide) ?_
            exact ih (x1 + 1) h ls (lv_sub hl [3, 0] rfl)
          · replace h := it_t k21 h
            refine lv_iload_n F.1 F.2.1 dX5_isSorted_68 rfl (lv_at hl 0 rfl) ?_
            refine lv_if_eq (tgt := 93) F.1 F.2.1 dX5_isSorted_69 (by decide) (fun k22 => ?_) (fun k22 => ?_)
            · replace h := it_t k22 h
              refine lv_iconst (v := 0) F.1 F.2.1 dX5_isSorted_93 (by decide) ?_
              cases h
              exact RO_z F hr hlocks rfl dX5_isSorted_94
            · replace h := it_f k22 h
              refine lv_aload_n F.1 F.2.1 dX5_isSorted_72 rfl (lv_at hl 2 rfl) ?_
              refine gF (v := .ref a1) F hE hP 0 rfl rfl inX5 0 (by decide) q118 rfl dX5_isSorted_73 ?_
              refine lv_iload_n F.1 F.2.1 dX5_isSorted_76 rfl (lv_at hl 3 rfl) ?_
              refine lv_iconst (v := 1) F.1 F.2.1 dX5_isSorted_77 (by decide) ?_
              refine lv_isub F.1 F.2.1 dX5_isSorted_78 ?_
              obtain ⟨z23, k24, h⟩ := bd_ok h
              refine cRV (As := [.int (x1 - 1)]) (rest := []) F hE hX va_S.rf (tX7_get l dC dI g a1 a2 12 uNn uNf (x1 - 1) k24) mbX7_get q439 ⟨(Nat.le_of_ble_eq_true rfl), (Nat.le_of_ble_eq_true rfl)⟩ ⟨Nat.zero_le _, Nat.zero_le _⟩ hP [1, 2] rfl 1 rfl rfl rfl hl.1 rfl (Nat.le_of_ble_eq_true rfl) dX5_isSorted_79 ?_
              refine lv_aload_n F.1 F.2.1 dX5_isSorted_82 rfl (lv_at hl 2 rfl) ?_
              refine gF (v := .ref a1) F hE hP 0 rfl rfl inX5 0 (by decide) q118 rfl dX5_isSorted_83 ?_
              refine lv_iload_n F.1 F.2.1 dX5_isSorted_86 rfl (lv_at hl 3 rfl) ?_
              obtain ⟨z25, k26, h⟩ := bd_ok h
              refine cRV (As := [.int x1]) (rest := [.int z23]) F hE hX va_S.rf (tX7_get l dC dI g a1 a2 12 uNn uNf x1 k26) mbX7_get q439 ⟨(Nat.le_of_ble_eq_true rfl), (Nat.le_of_ble_eq_true rfl)⟩ ⟨Nat.zero_le _, Nat.zero_le _⟩ hP [1, 2] rfl 1 rfl rfl rfl hl.1 rfl (Nat.le_of_ble_eq_true rfl) dX5_isSorted_87 ?_
              refine lv_icmp_lt (tgt := 95) F.1 F.2.1 dX5_isSorted_90 (by decide) (fun k27 => ?_) (fun k27 => ?_)
              · replace h := it_t k27 h
                refine lv_iinc (v := x1 + 1) (lv' := [(1, .int (x1 + 1)), (3, .int 1), (2, .int 0), (0, .ref a0)]) F.1 F.2.1 dX5_isSorted_95 hl (k := 3) rfl (by rfl) (by decide) rfl (fun ls hl => ?_)
                refine lv_goto (tgt := 2) F.1 F.2.1 dX5_isSorted_98 (by decide) ?_
                exact ih (x1 + 1) h ls (lv_sub hl [3, 0] rfl)
              · replace h := it_f k27 h
                refine lv_iconst (v := 0) F.1 F.2.1 dX5_isSorted_93 (by decide) ?_
                cases h
                exact RO_z F hr hlocks rfl dX5_isSorted_94
      · replace h := it_f k8 h
        refine lv_iconst (v := 1) F.1 F.2.1 dX5_isSorted_31 (by decide) ?_
        refine lv_goto (tgt := 36) F.1 F.2.1 dX5_isSorted_32 (by decide) ?_
        refine lv_istore_n (lv' := [(2, .int 1), (0, .ref a0), (1, .int x1)]) F.1 F.2.1 dX5_isSorted_36 rfl hl (by decide) rfl (fun ls hl => ?_)
        refine lv_aload_n F.1 F.2.1 dX5_isSorted_37 rfl (lv_at hl 1 rfl) ?_
        refine gF (v := .ref a7) F hE hP 0 rfl rfl inX5 3 (by decide) q121 rfl dX5_isSorted_38 ?_
        refine lv_iload_n F.1 F.2.1 dX5_isSorted_41 rfl (lv_at hl 2 rfl) ?_
        refine lv_iconst (v := 1) F.1 F.2.1 dX5_isSorted_42 (by decide) ?_
        refine lv_isub F.1 F.2.1 dX5_isSorted_43 ?_
        obtain ⟨z28, k29, h⟩ := bd_ok h
        refine cRV (As := [.int (x1 - 1)]) (rest := []) F hE hX va_S.rf (tX7_get l dC dI g a7 a8 12 uDn uDf (x1 - 1) k29) mbX7_get q439 ⟨(Nat.le_of_ble_eq_true rfl), (Nat.le_of_ble_eq_true rfl)⟩ ⟨Nat.zero_le _, Nat.zero_le _⟩ hP [7, 8] rfl 7 rfl rfl rfl hl.1 rfl (Nat.le_of_ble_eq_true rfl) dX5_isSorted_44 ?_
        refine lv_aload_n F.1 F.2.1 dX5_isSorted_47 rfl (lv_at hl 1 rfl) ?_
        refine gF (v := .ref a7) F hE hP 0 rfl rfl inX5 3 (by decide) q121 rfl dX5_isSorted_48 ?_
        refine lv_iload_n F.1 F.2.1 dX5_isSorted_51 rfl (lv_at hl 2 rfl) ?_
        obtain ⟨z30, k31, h⟩ := bd_ok h
        refine cRV (As := [.int x1]) (rest := [.int z28]) F hE hX va_S.rf (tX7_get l dC dI g a7 a8 12 uDn uDf x1 k31) mbX7_get q439 ⟨(Nat.le_of_ble_eq_true rfl), (Nat.le_of_ble_eq_true rfl)⟩ ⟨Nat.zero_le _, Nat.zero_le _⟩ hP [7, 8] rfl 7 rfl rfl rfl hl.1 rfl (Nat.le_of_ble_eq_true rfl) dX5_isSorted_52 ?_
        refine lv_icmp_ne (tgt := 62) F.1 F.2.1 dX5_isSorted_55 (by decide) (fun k32 => ?_) (fun k32 => ?_)
        · replace h := it_f k32 h
          refine lv_iconst (v := 0) F.1 F.2.1 dX5_isSorted_62 (by decide) ?_
          refine lv_istore_n (lv' := [(3, .int 0), (2, .int 1), (0, .ref a0), (1, .int x1)]) F.1 F.2.1 dX5_isSorted_63 rfl hl (by decide) rfl (fun ls hl => ?_)
          refine lv_iload_n F.1 F.2.1 dX5_isSorted_64 rfl (lv_at hl 1 rfl) ?_
          refine lv_if_ne (tgt := 95) F.1 F.2.1 dX5_isSorted_65 (by decide) (fun k33 => ?_) (fun k33 => ?_)
          · replace h := it_f k33 h
            refine lv_iinc (v := x1 + 1) (lv' := [(1, .int (x1 + 1)), (3, .int 0), (2, .int 1), (0, .ref a0)]) F.1 F.2.1 dX5_isSorted_95 hl (k := 3) rfl (by rfl) (by decide) rfl (fun ls hl => ?_)
            refine lv_goto (tgt := 2) F.1 F.2.1 dX5_isSorted_98 (by decide) ?_
            exact ih (x1 + 1) h ls (lv_sub hl [3, 0] rfl)
          · replace h := it_t k33 h
            refine lv_iload_n F.1 F.2.1 dX5_isSorted_68 rfl (lv_at hl 0 rfl) ?_
            refine lv_if_eq (tgt := 93) F.1 F.2.1 dX5_isSorted_69 (by decide) (fun k34 => ?_) (fun k34 => ?_)
            · replace h := it_t k34 h
              refine lv_iconst (v := 0) F.1 F.2.1 dX5_isSorted_93 (by decide) ?_
              cases h
              exact RO_z F hr hlocks rfl dX5_isSorted_94
            · replace h := it_f k34 h
              refine lv_aload_n F.1 F.2.1 dX5_isSorted_72 rfl (lv_at hl 2 rfl) ?_
              refine gF (v := .ref a1) F hE hP 0 rfl rfl inX5 0 (by decide) q118 rfl dX5_isSorted_73 ?_
              refine lv_iload_n F.1 F.2.1 dX5_isSorted_76 rfl (lv_at hl 3 rfl) ?_
              refine lv_iconst (v := 1) F.1 F.2.1 dX5_isSorted_77 (by decide) ?_
              refine lv_isub F.1 F.2.1 dX5_isSorted_78 ?_
              obtain ⟨z35, k36, h⟩ := bd_ok h
              refine cRV (As := [.int (x1 - 1)]) (rest := []) F hE hX va_S.rf (tX7_get l dC dI g a1 a2 12 uNn uNf (x1 - 1) k36) mbX7_get q439 ⟨(Nat.le_of_ble_eq_true rfl), (Nat.le_of_ble_eq_true rfl)⟩ ⟨Nat.zero_le _, Nat.zero_le _⟩ hP [1, 2] rfl 1 rfl rfl rfl hl.1 rfl (Nat.le_of_ble_eq_true rfl) dX5_isSorted_79 ?_
              refine lv_aload_n F.1 F.2.1 dX5_isSorted_82 rfl (lv_at hl 2 rfl) ?_
              refine gF (v := .ref a1) F hE hP 0 rfl rfl inX5 0 (by decide) q118 rfl dX5_isSorted_83 ?_
              refine lv_iload_n F.1 F.2.1 dX5_isSorted_86 rfl (lv_at hl 3 rfl) ?_
              obtain ⟨z37, k38, h⟩ := bd_ok h
              refine cRV (As := [.int x1]) (rest := [.int z35]) F hE hX va_S.rf (tX7_get l dC dI g a1 a2 12 uNn uNf x1 k38) mbX7_get q439 ⟨(Nat.le_of_ble_eq_true rfl), (Nat.le_of_ble_eq_true rfl)⟩ ⟨Nat.zero_le _, Nat.zero_le _⟩ hP [1, 2] rfl 1 rfl rfl rfl hl.1 rfl (Nat.le_of_ble_eq_true rfl) dX5_isSorted_87 ?_
              refine lv_icmp_lt (tgt := 95) F.1 F.2.1 dX5_isSorted_90 (by decide) (fun k39 => ?_) (fun k39 => ?_)
              · replace h := it_t k39 h
                refine lv_iinc (v := x1 + 1) (lv' := [(1, .int (x1 + 1)), (3, .int 0), (2, .int 1), (0, .ref a0)]) F.1 F.2.1 dX5_isSorted_95 hl (k := 3) rfl (by rfl) (by decide) rfl (fun ls hl => ?_)
                refine lv_goto (tgt := 2) F.1 F.2.1 dX5_isSorted_98 (by decide) ?_
                exact ih (x1 + 1) h ls (lv_sub hl [3, 0] rfl)
              · replace h := it_f k39 h
                refine lv_iconst (v := 0) F.1 F.2.1 dX5_isSorted_93 (by decide) ?_
                cases h
                exact RO_z F hr hlocks rfl dX5_isSorted_94
        · replace h := it_t k32 h
          refine lv_iconst (v := 1) F.1 F.2.1 dX5_isSorted_58 (by decide) ?_
          refine lv_goto (tgt := 63) F.1 F.2.1 dX5_isSorted_59 (by decide) ?_
          refine lv_istore_n (lv' := [(3, .int 1), (2, .int 1), (0, .ref a0), (1, .int x1)]) F.1 F.2.1 dX5_isSorted_63 rfl hl (by decide) rfl (fun ls hl => ?_)
          refine lv_iload_n F.1 F.2.1 dX5_isSorted_64 rfl (lv_at hl 1 rfl) ?_
          refine lv_if_ne (tgt := 95) F.1 F.2.1 dX5_isSorted_65 (by decide) (fun k40 => ?_) (fun k40 => ?_)
          · replace h := it_f k40 h
            refine lv_iinc (v := x1 + 1) (lv' := [(1, .int (x1 + 1)), (3, .int 1), (2, .int 1), (0, .ref a0)]) F.1 F.2.1 dX5_isSorted_95 hl (k := 3) rfl (by rfl) (by decide) rfl (fun ls hl => ?_)
            refine lv_goto (tgt := 2) F.1 F.2.1 dX5_isSorted_98 (by decide) ?_
            exact ih (x1 + 1) h ls (lv_sub hl [3, 0] rfl)
          · replace h := it_t k40 h
            refine lv_iload_n F.1 F.2.1 dX5_isSorted_68 rfl (lv_at hl 0 rfl) ?_
            refine lv_if_eq (tgt := 93) F.1 F.2.1 dX5_isSorted_69 (by decide) (fun k41 => ?_) (fun k41 => ?_)
            · replace h := it_t k41 h
              refine lv_iconst (v := 0) F.1 F.2.1 dX5_isSorted_93 (by decide) ?_
              cases h
              exact RO_z F hr hlocks rfl dX5_isSorted_94
            · replace h := it_f k41 h
              refine lv_aload_n F.1 F.2.1 dX5_isSorted_72 rfl (lv_at hl 2 rfl) ?_
              refine gF (v := .ref a1) F hE hP 0 rfl rfl inX5 0 (by decide) q118 rfl dX5_isSorted_73 ?_
              refine lv_iload_n F.1 F.2.1 dX5_isSorted_76 rfl (lv_at hl 3 rfl) ?_
              refine lv_iconst (v := 1) F.1 F.2.1 dX5_isSorted_77 (by decide) ?_
              refine lv_isub F.1 F.2.1 dX5_isSorted_78 ?_
              obtain ⟨z42, k43, h⟩ := bd_ok h
              refine cRV (As := [.int (x1 - 1)]) (rest := []) F hE hX va_S.rf (tX7_get l dC dI g a1 a2 12 uNn uNf (x1 - 1) k43) mbX7_get q439 ⟨(Nat.le_of_ble_eq_true rfl), (Nat.le_of_ble_eq_true rfl)⟩ ⟨Nat.zero_le _, Nat.zero_le _⟩ hP [1, 2] rfl 1 rfl rfl rfl hl.1 rfl (Nat.le_of_ble_eq_true rfl) dX5_isSorted_79 ?_
              refine lv_aload_n F.1 F.2.1 dX5_isSorted_82 rfl (lv_at hl 2 rfl) ?_
              refine gF (v := .ref a1) F hE hP 0 rfl rfl inX5 0 (by decide) q118 rfl dX5_isSorted_83 ?_
              refine lv_iload_n F.1 F.2.1 dX5_isSorted_86 rfl (lv_at hl 3 rfl) ?_
              obtain ⟨z44, k45, h⟩ := bd_ok h
              refine cRV (As := [.int x1]) (rest := [.int z42]) F hE hX va_S.rf (tX7_get l dC dI g a1 a2 12 uNn uNf x1 k45) mbX7_get q439 ⟨(Nat.le_of_ble_eq_true rfl), (Nat.le_of_ble_eq_true rfl)⟩ ⟨Nat.zero_le _, Nat.zero_le _⟩ hP [1, 2] rfl 1 rfl rfl rfl hl.1 rfl (Nat.le_of_ble_eq_true rfl) dX5_isSorted_87 ?_
              refine lv_icmp_lt (tgt := 95) F.1 F.2.1 dX5_isSorted_90 (by decide) (fun k46 => ?_) (fun k46 => ?_)
              · replace h := it_t k46 h
                refine lv_iinc (v := x1 + 1) (lv' := [(1, .int (x1 + 1)), (3, .int 1), (2, .int 1), (0, .ref a0)]) F.1 F.2.1 dX5_isSorted_95 hl (k := 3) rfl (by rfl) (by decide) rfl (fun ls hl => ?_)
                refine lv_goto (tgt := 2) F.1 F.2.1 dX5_isSorted_98 (by decide) ?_
                exact ih (x1 + 1) h ls (lv_sub hl [3, 0] rfl)
              · replace h := it_f k46 h
                refine lv_iconst (v := 0) F.1 F.2.1 dX5_isSorted_93 (by decide) ?_
                cases h
                exact RO_z F hr hlocks rfl dX5_isSorted_94
set_option maxHeartbeats 4000000 in
set_option maxRecDepth 100000 in
theorem tX5_isSorted (l : Launch) (dC : Nat → ClassId) (dI : Nat → Nat → Nat) (g : Nat → ClassId) (a0 a1 a2 a3 a4 a5 a6 a7 a8 : Nat) (ux : Int32) (uNn : Int32) (uNf : Nat → Int32) (uMn : Int32) (uMf : Nat → Int32) (uLn : Int32) (uLf : Nat → Int32) (uDn : Int32) (uDf : Nat → Int32) {r : Int32} (h : fX5_isSorted uNn uNf uDn uDf = some r) : RO l yX5_isSorted cX5_isSorted 4 (some .boolean) 2 40 dC dI g [.ref a0] (wX5 g a0 a1 a2 a3 a4 a5 a6 a7 a8 ux uNn uNf uMn uMf uLn uLf uDn uDf) (some (.int r)) := by
  refine RO_of (by decide) (Nat.le_of_ble_eq_true rfl) ?_
  intro p e s m below meth c ls F hr hlocks hE hX hP hl
  replace F : CF p m c cX5_isSorted 4 s _ RX5 := F
  replace hl : lv_has ls 4 [(0, .ref a0)] := hl
  rw [fX5_isSorted] at h
  refine lv_iconst (v := 1) F.1 F.2.1 dX5_isSorted_0 (by decide) ?_
  refine lv_istore_n (lv' := [(1, .int 1), (0, .ref a0)]) F.1 F.2.1 dX5_isSorted_1 rfl hl (by decide) rfl (fun ls hl => ?_)
  exact tX5_isSorted_L2 F hr hlocks hE hX ux uNn uNf uMn uMf uLn uLf uDn uDf hP FU 1 h ls (lv_sub hl [1, 0] rfl)
/-! WireCutter$Spools.copyFrom -/
def fX9_copyFrom (uNn : Int32) (uNf : Nat → Int32) (uMn : Int32) (uMf : Nat → Int32) (uLn : Int32) (uLf : Nat → Int32) (uKn : Int32) (uKf : Nat → Int32) (vx : Int32) (vNn : Int32) (vNf : Nat → Int32) (vMn : Int32) (vMf : Nat → Int32) (vLn : Int32) (vLf : Nat → Int32) (vKn : Int32) (vKf : Nat → Int32) : Option (Int32 × Int32 × (Nat → Int32) × Int32 × (Nat → Int32) × Int32 × (Nat → Int32) × Int32 × (Nat → Int32)) :=
  (fX7_copyFrom 10 10 uNn uNf vNn vNf).bind fun z1 =>
  (fX7_copyFrom 10 10 uMn uMf vMn vMf).bind fun z3 =>
  (fX7_copyFrom 10 10 uLn uLf vLn vLf).bind fun z5 =>
  (fX7_copyFrom 10 10 uKn uKf vKn vKf).bind fun z7 =>
  some (vx, z1.1, z1.2, z3.1, z3.2, z5.1, z5.2, z7.1, z7.2)
theorem mbX9_copyFrom : MV yX9_copyFrom cX9_copyFrom 2 none 1 := ⟨⟨q899, q3, by decide +kernel⟩, q897, q898⟩
set_option maxHeartbeats 4000000 in
set_option maxRecDepth 100000 in
theorem tX9_copyFrom (l : Launch) (dC : Nat → ClassId) (dI : Nat → Nat → Nat) (g : Nat → ClassId) (a0 a1 a2 a3 a4 a5 a6 a7 a8 b0 b1 b2 b3 b4 b5 b6 b7 b8 : Nat) (ux : Int32) (uNn : Int32) (uNf : Nat → Int32) (uMn : Int32) (uMf : Nat → Int32) (uLn : Int32) (uLf : Nat → Int32) (uKn : Int32) (uKf : Nat → Int32) (vx : Int32) (vNn : Int32) (vNf : Nat → Int32) (vMn : Int32) (vMf : Nat → Int32) (vLn : Int32) (vLf : Nat → Int32) (vKn : Int32) (vKf : Nat → Int32) {r : Int32 × Int32 × (Nat → Int32) × Int32 × (Nat → Int32) × Int32 × (Nat → Int32) × Int32 × (Nat → Int32)} (h : fX9_copyFrom uNn uNf uMn uMf uLn uLf uKn uKf vx vNn vNf vMn vMf vLn vLf vKn vKf = some r) : MU l yX9_copyFrom cX9_copyFrom 2 none 1 23 0 0 dC dI g [.ref a0, .ref b0] (wX9 g a0 a1 a2 a3 a4 a5 a6 a7 a8 ux uNn uNf uMn uMf uLn uLf uKn uKf ++ wX9 g b0 b1 b2 b3 b4 b5 b6 b7 b8 vx vNn vNf vMn vMf vLn vLf vKn vKf) (wX9 g a0 a1 a2 a3 a4 a5 a6 a7 a8 r.1 r.2.1 r.2.2.1 r.2.2.2.1 r.2.2.2.2.1 r.2.2.2.2.2.1 r.2.2.2.2.2.2.1 r.2.2.2.2.2.2.2.1 r.2.2.2.2.2.2.2.2 ++ wX9 g b0 b1 b2 b3 b4 b5 b6 b7 b8 vx vNn vNf vMn vMf vLn vLf vKn vKf) none := by
  refine MU_of (by decide) (Nat.le_of_ble_eq_true rfl) ?_
  intro p e s m below meth c ls F hr hlocks hE hX hA hP hD hS hl
  generalize va_A (wX9 g a0 a1 a2 a3 a4 a5 a6 a7 a8 ux uNn uNf uMn uMf uLn uLf uKn uKf ++ wX9 g b0 b1 b2 b3 b4 b5 b6 b7 b8 vx vNn vNf vMn vMf vLn vLf vKn vKf) s.heap.size = A at hA hD hS hX ⊢
  replace F : CF p m c cX9_copyFrom 2 s _ RX9 := F
  replace hl : lv_has ls 2 [(0, .ref a0), (1, .ref b0)] := hl
  rw [fX9_copyFrom] at h
  refine lv_aload_n F.1 F.2.1 dX9_copyFrom_0 rfl (lv_at hl 0 rfl) ?_
  refine gF (v := .ref a1) F hE hP 0 rfl rfl inX9 0 (by decide) q71 rfl dX9_copyFrom_1 ?_
  refine lv_aload_n F.1 F.2.1 dX9_copyFrom_4 rfl (lv_at hl 1 rfl) ?_
  refine gF (v := .ref b1) F hE hP 9 rfl rfl inX9 0 (by decide) q71 rfl dX9_copyFrom_5 ?_
  obtain ⟨z1, k2, h⟩ := bd_ok h
  refine cMV (As := [.ref b1]) (rest := []) (ws' := wX9 g a0 a1 a2 a3 a4 a5 a6 a7 a8 ux z1.1 z1.2 uMn uMf uLn uLf uKn uKf ++ wX9 g b0 b1 b2 b3 b4 b5 b6 b7 b8 vx vNn vNf vMn vMf vLn vLf vKn vKf) F hE hX (tX7_copyFrom l dC dI g a1 a2 b1 b2 10 10 uNn uNf vNn vNf k2) mbX7_copyFrom q900 ⟨(Nat.le_of_ble_eq_true rfl), (Nat.le_of_ble_eq_true rfl)⟩ ⟨(Nat.le_of_ble_eq_true rfl), (Nat.le_of_ble_eq_true rfl)⟩ hP hD hS hA [1, 2, 10, 11] rfl rfl rfl rfl rfl 1 rfl rfl rfl hl.1 rfl (Nat.le_of_ble_eq_true rfl) dX9_copyFrom_8 (fun H locs hP hD hS => ?_)
  refine lv_aload_n F.1 F.2.1 dX9_copyFrom_11 rfl (lv_at hl 0 rfl) ?_
  refine gF (v := .ref a3) F hE hP 0 rfl rfl inX9 1 (by decide) q72 rfl dX9_copyFrom_12 ?_
  refine lv_aload_n F.1 F.2.1 dX9_copyFrom_15 rfl (lv_at hl 1 rfl) ?_
  refine gF (v := .ref b3) F hE hP 9 rfl rfl inX9 1 (by decide) q72 rfl dX9_copyFrom_16 ?_
  obtain ⟨z3, k4, h⟩ := bd_ok h
  refine cMV (As := [.ref b3]) (rest := []) (ws' := wX9 g a0 a1 a2 a3 a4 a5 a6 a7 a8 ux z1.1 z1.2 z3.1 z3.2 uLn uLf uKn uKf ++ wX9 g b0 b1 b2 b3 b4 b5 b6 b7 b8 vx vNn vNf vMn vMf vLn vLf vKn vKf) F hE hX (tX7_copyFrom l dC dI g a3 a4 b3 b4 10 10 uMn uMf vMn vMf k4) mbX7_copyFrom q900 ⟨(Nat.le_of_ble_eq_true rfl), (Nat.le_of_ble_eq_true rfl)⟩ ⟨(Nat.le_of_ble_eq_true rfl), (Nat.le_of_ble_eq_true rfl)⟩ hP hD hS hA [3, 4, 12, 13] rfl rfl rfl rfl rfl 3 rfl rfl rfl hl.1 rfl (Nat.le_of_ble_eq_true rfl) dX9_copyFrom_19 (fun H locs hP hD hS => ?_)
  refine lv_aload_n F.1 F.2.1 dX9_copyFrom_22 rfl (lv_at hl 0 rfl) ?_
  refine gF (v := .ref a5) F hE hP 0 rfl rfl inX9 2 (by decide) q73 rfl dX9_copyFrom_23 ?_
  refine lv_aload_n F.1 F.2.1 dX9_copyFrom_26 rfl (lv_at hl 1 rfl) ?_
  refine gF (v := .ref b5) F hE hP 9 rfl rfl inX9 2 (by decide) q73 rfl dX9_copyFrom_27 ?_
  obtain ⟨z5, k6, h⟩ := bd_ok h
  refine cMV (As := [.ref b5]) (rest := []) (ws' := wX9 g a0 a1 a2 a3 a4 a5 a6 a7 a8 ux z1.1 z1.2 z3.1 z3.2 z5.1 z5.2 uKn uKf ++ wX9 g b0 b1 b2 b3 b4 b5 b6 b7 b8 vx vNn vNf vMn vMf vLn vLf vKn vKf) F hE hX (tX7_copyFrom l dC dI g a5 a6 b5 b6 10 10 uLn uLf vLn vLf k6) mbX7_copyFrom q900 ⟨(Nat.le_of_ble_eq_true rfl), (Nat.le_of_ble_eq_true rfl)⟩ ⟨(Nat.le_of_ble_eq_true rfl), (Nat.le_of_ble_eq_true rfl)⟩ hP hD hS hA [5, 6, 14, 15] rfl rfl rfl rfl rfl 5 rfl rfl rfl hl.1 rfl (Nat.le_of_ble_eq_true rfl) dX9_copyFrom_30 (fun H locs hP hD hS => ?_)
  refine lv_aload_n F.1 F.2.1 dX9_copyFrom_33 rfl (lv_at hl 0 rfl) ?_
  refine gF (v := .ref a7) F hE hP 0 rfl rfl inX9 3 (by decide) q74 rfl dX9_copyFrom_34 ?_
  refine lv_aload_n F.1 F.2.1 dX9_copyFrom_37 rfl (lv_at hl 1 rfl) ?_
  refine gF (v := .ref b7) F hE hP 9 rfl rfl inX9 3 (by decide) q74 rfl dX9_copyFrom_38 ?_
  obtain ⟨z7, k8, h⟩ := bd_ok h
  refine cMV (As := [.ref b7]) (rest := []) (ws' := wX9 g a0 a1 a2 a3 a4 a5 a6 a7 a8 ux z1.1 z1.2 z3.1 z3.2 z5.1 z5.2 z7.1 z7.2 ++ wX9 g b0 b1 b2 b3 b4 b5 b6 b7 b8 vx vNn vNf vMn vMf vLn vLf vKn vKf) F hE hX (tX7_copyFrom l dC dI g a7 a8 b7 b8 10 10 uKn uKf vKn vKf k8) mbX7_copyFrom q900 ⟨(Nat.le_of_ble_eq_true rfl), (Nat.le_of_ble_eq_true rfl)⟩ ⟨(Nat.le_of_ble_eq_true rfl), (Nat.le_of_ble_eq_true rfl)⟩ hP hD hS hA [7, 8, 16, 17] rfl rfl rfl rfl rfl 7 rfl rfl rfl hl.1 rfl (Nat.le_of_ble_eq_true rfl) dX9_copyFrom_41 (fun H locs hP hD hS => ?_)
  refine lv_aload_n F.1 F.2.1 dX9_copyFrom_44 rfl (lv_at hl 0 rfl) ?_
  refine lv_aload_n F.1 F.2.1 dX9_copyFrom_45 rfl (lv_at hl 1 rfl) ?_
  refine gF (v := .int vx) F hE hP 9 rfl rfl inX9 4 (by decide) q75 rfl dX9_copyFrom_46 ?_
  refine pF (v := .int vx) F hE hP hD hS 0 rfl rfl inX9 tyX9 tyX9_ok nmX9 4 (by decide) q75 rfl rfl rfl (Nat.le_of_ble_eq_true rfl) dX9_copyFrom_49 (fun H locs hP hD hS => ?_)
  replace hP : va_P (dC, dI) vwCl (wX9 g a0 a1 a2 a3 a4 a5 a6 a7 a8 vx z1.1 z1.2 z3.1 z3.2 z5.1 z5.2 z7.1 z7.2 ++ wX9 g b0 b1 b2 b3 b4 b5 b6 b7 b8 vx vNn vNf vMn vMf vLn vLf vKn vKf) H := hP
  replace hD : va_D A (wX9 g a0 a1 a2 a3 a4 a5 a6 a7 a8 vx z1.1 z1.2 z3.1 z3.2 z5.1 z5.2 z7.1 z7.2 ++ wX9 g b0 b1 b2 b3 b4 b5 b6 b7 b8 vx vNn vNf vMn vMf vLn vLf vKn vKf) := hD
  cases h
  exact MU_v F hr hlocks (Nat.le_refl _) (Nat.le_refl _) hP hS dX9_copyFrom_52
/-! WireCutter$Spools.count -/
def fX9_count (uNn : Int32) : Option (Int32) :=
  (fX7_size uNn).bind fun z1 =>
  some (z1)
theorem mbX9_count : MV yX9_count cX9_count 1 (some .int) 0 := ⟨⟨q359, q3, by decide +kernel⟩, q357, q358⟩
set_option maxHeartbeats 4000000 in
set_option maxRecDepth 100000 in
theorem tX9_count (l : Launch) (dC : Nat → ClassId) (dI : Nat → Nat → Nat) (g : Nat → ClassId) (a0 a1 a2 a3 a4 a5 a6 a7 a8 : Nat) (ux : Int32) (uNn : Int32) (uNf : Nat → Int32) (uMn : Int32) (uMf : Nat → Int32) (uLn : Int32) (uLf : Nat → Int32) (uKn : Int32) (uKf : Nat → Int32) {r : Int32} (h : fX9_count uNn = some r) : RO l yX9_count cX9_count 1 (some .int) 1 20 dC dI g [.ref a0] (wX9 g a0 a1 a2 a3 a4 a5 a6 a7 a8 ux uNn uNf uMn uMf uLn uLf uKn uKf) (some (.int r)) := by
  refine RO_of (by decide) (Nat.le_of_ble_eq_true rfl) ?_
  intro p e s m below meth c ls F hr hlocks hE hX hP hl
  replace F : CF p m c cX9_count 1 s _ RX9 := F
  replace hl : lv_has ls 1 [(0, .ref a0)] := hl
  rw [fX9_count] at h
  refine lv_aload_n F.1 F.2.1 dX9_count_0 rfl (lv_at hl 0 rfl) ?_
  refine gF (v := .ref a1) F hE hP 0 rfl rfl inX9 0 (by decide) q71 rfl dX9_count_1 ?_
  obtain ⟨z1, k2, h⟩ := bd_ok h
  refine cRV (As := []) (rest := []) F hE hX va_S.rf (tX7_size l dC dI g a1 a2 10 uNn uNf k2) mbX7_size q360 ⟨(Nat.le_of_ble_eq_true rfl), (Nat.le_of_ble_eq_true rfl)⟩ ⟨Nat.zero_le _, Nat.zero_le _⟩ hP [1, 2] rfl 1 rfl rfl rfl hl.1 rfl (Nat.le_of_ble_eq_true rfl) dX9_count_4 ?_
  cases h
  exact RO_i F hr hlocks dX9_count_7
/-! WireCutter$Spools.indexOf -/
def fX9_indexOf (uNn : Int32) (uNf : Nat → Int32) (p1 : Int32) : Option (Int32) :=
  (fX7_indexOf 10 uNn uNf p1).bind fun z1 =>
  some (z1)
theorem mbX9_indexOf : MV yX9_indexOf cX9_indexOf 2 (some .int) 1 := ⟨⟨q371, q3, by decide +kernel⟩, q369, q370⟩
set_option maxHeartbeats 4000000 in
set_option maxRecDepth 100000 in
theorem tX9_indexOf (l : Launch) (dC : Nat → ClassId) (dI : Nat → Nat → Nat) (g : Nat → ClassId) (a0 a1 a2 a3 a4 a5 a6 a7 a8 : Nat) (ux : Int32) (uNn : Int32) (uNf : Nat → Int32) (uMn : Int32) (uMf : Nat → Int32) (uLn : Int32) (uLf : Nat → Int32) (uKn : Int32) (uKf : Nat → Int32) (p1 : Int32) {r : Int32} (h : fX9_indexOf uNn uNf p1 = some r) : RO l yX9_indexOf cX9_indexOf 2 (some .int) 1 22 dC dI g [.ref a0, .int p1] (wX9 g a0 a1 a2 a3 a4 a5 a6 a7 a8 ux uNn uNf uMn uMf uLn uLf uKn uKf) (some (.int r)) := by
  refine RO_of (by decide) (Nat.le_of_ble_eq_true rfl) ?_
  intro p e s m below meth c ls F hr hlocks hE hX hP hl
  replace F : CF p m c cX9_indexOf 2 s _ RX9 := F
  replace hl : lv_has ls 2 [(0, .ref a0), (1, .int p1)] := hl
  rw [fX9_indexOf] at h
  refine lv_aload_n F.1 F.2.1 dX9_indexOf_0 rfl (lv_at hl 0 rfl) ?_
  refine gF (v := .ref a1) F hE hP 0 rfl rfl inX9 0 (by decide) q71 rfl dX9_indexOf_1 ?_
  refine lv_iload_n F.1 F.2.1 dX9_indexOf_4 rfl (lv_at hl 1 rfl) ?_
  obtain ⟨z1, k2, h⟩ := bd_ok h
  refine cRV (As := [.int p1]) (rest := []) F hE hX va_S.rf (tX7_indexOf l dC dI g a1 a2 10 uNn uNf p1 k2) mbX7_indexOf q372 ⟨(Nat.le_of_ble_eq_true rfl), (Nat.le_of_ble_eq_true rfl)⟩ ⟨Nat.zero_le _, Nat.zero_le _⟩ hP [1, 2] rfl 1 rfl rfl rfl hl.1 rfl (Nat.le_of_ble_eq_true rfl) dX9_indexOf_5 ?_
  cases h
  exact RO_i F hr hlocks dX9_indexOf_8
/-! WireCutter$Spools.numberAt -/
def fX9_numberAt (uNn : Int32) (uNf : Nat → Int32) (p1 : Int32) : Option (Int32) :=
  (fX7_get 10 uNn uNf p1).bind fun z1 =>
  some (z1)
theorem mbX9_numberAt : MV yX9_numberAt cX9_numberAt 2 (some .int) 1 := ⟨⟨q1161, q3, by decide +kernel⟩, q1159, q1160⟩
set_option maxHeartbeats 4000000 in
set_option maxRecDepth 100000 in
theorem tX9_numberAt (l : Launch) (dC : Nat → ClassId) (dI : Nat → Nat → Nat) (g : Nat → ClassId) (a0 a1 a2 a3 a4 a5 a6 a7 a8 : Nat) (ux : Int32) (uNn : Int32) (uNf : Nat → Int32) (uMn : Int32) (uMf : Nat → Int32) (uLn : Int32) (uLf : Nat → Int32) (uKn : Int32) (uKf : Nat → Int32) (p1 : Int32) {r : Int32} (h : fX9_numberAt uNn uNf p1 = some r) : RO l yX9_numberAt cX9_numberAt 2 (some .int) 1 21 dC dI g [.ref a0, .int p1] (wX9 g a0 a1 a2 a3 a4 a5 a6 a7 a8 ux uNn uNf uMn uMf uLn uLf uKn uKf) (some (.int r)) := by
  refine RO_of (by decide) (Nat.le_of_ble_eq_true rfl) ?_
  intro p e s m below meth c ls F hr hlocks hE hX hP hl
  replace F : CF p m c cX9_numberAt 2 s _ RX9 := F
  replace hl : lv_has ls 2 [(0, .ref a0), (1, .int p1)] := hl
  rw [fX9_numberAt] at h
  refine lv_aload_n F.1 F.2.1 dX9_numberAt_0 rfl (lv_at hl 0 rfl) ?_
  refine gF (v := .ref a1) F hE hP 0 rfl rfl inX9 0 (by decide) q71 rfl dX9_numberAt_1 ?_
  refine lv_iload_n F.1 F.2.1 dX9_numberAt_4 rfl (lv_at hl 1 rfl) ?_
  obtain ⟨z1, k2, h⟩ := bd_ok h
  refine cRV (As := [.int p1]) (rest := []) F hE hX va_S.rf (tX7_get l dC dI g a1 a2 10 uNn uNf p1 k2) mbX7_get q422 ⟨(Nat.le_of_ble_eq_true rfl), (Nat.le_of_ble_eq_true rfl)⟩ ⟨Nat.zero_le _, Nat.zero_le _⟩ hP [1, 2] rfl 1 rfl rfl rfl hl.1 rfl (Nat.le_of_ble_eq_true rfl) dX9_numberAt_5 ?_
  cases h
  exact RO_i F hr hlocks dX9_numberAt_8
/-! WireCutter$Spools.materialAt -/
def fX9_materialAt (uMn : Int32) (uMf : Nat → Int32) (p1 : Int32) : Option (Int32) :=
  (fX7_get 10 uMn uMf p1).bind fun z1 =>
  some ((z1.toUInt32 % 65536).toInt32)
theorem mbX9_materialAt : MV yX9_materialAt cX9_materialAt 2 (some .char) 1 := ⟨⟨q421, q3, by decide +kernel⟩, q419, q420⟩
set_option maxHeartbeats 4000000 in
set_option maxRecDepth 100000 in
theorem tX9_materialAt (l : Launch) (dC : Nat → ClassId) (dI : Nat → Nat → Nat) (g : Nat → ClassId) (a0 a1 a2 a3 a4 a5 a6 a7 a8 : Nat) (ux : Int32) (uNn : Int32) (uNf : Nat → Int32) (uMn : Int32) (uMf : Nat → Int32) (uLn : Int32) (uLf : Nat → Int32) (uKn : Int32) (uKf : Nat → Int32) (p1 : Int32) {r : Int32} (h : fX9_materialAt uMn uMf p1 = some r) : RO l yX9_materialAt cX9_materialAt 2 (some .char) 1 21 dC dI g [.ref a0, .int p1] (wX9 g a0 a1 a2 a3 a4 a5 a6 a7 a8 ux uNn uNf uMn uMf uLn uLf uKn uKf) (some (.int r)) := by
  refine RO_of (by decide) (Nat.le_of_ble_eq_true rfl) ?_
  intro p e s m below meth c ls F hr hlocks hE hX hP hl
  replace F : CF p m c cX9_materialAt 2 s _ RX9 := F
  replace hl : lv_has ls 2 [(0, .ref a0), (1, .int p1)] := hl
  rw [fX9_materialAt] at h
  refine lv_aload_n F.1 F.2.1 dX9_materialAt_0 rfl (lv_at hl 0 rfl) ?_
  refine gF (v := .ref a3) F hE hP 0 rfl rfl inX9 1 (by decide) q72 rfl dX9_materialAt_1 ?_
  refine lv_iload_n F.1 F.2.1 dX9_materialAt_4 rfl (lv_at hl 1 rfl) ?_
  obtain ⟨z1, k2, h⟩ := bd_ok h
  refine cRV (As := [.int p1]) (rest := []) F hE hX va_S.rf (tX7_get l dC dI g a3 a4 10 uMn uMf p1 k2) mbX7_get q422 ⟨(Nat.le_of_ble_eq_true rfl), (Nat.le_of_ble_eq_true rfl)⟩ ⟨Nat.zero_le _, Nat.zero_le _⟩ hP [3, 4] rfl 3 rfl rfl rfl hl.1 rfl (Nat.le_of_ble_eq_true rfl) dX9_materialAt_5 ?_
  refine lv_i2c F.1 F.2.1 dX9_materialAt_8 rfl ?_
  cases h
  exact RO_z F hr hlocks (pk_nc _) dX9_materialAt_9
/-! WireCutter$Spools.lengthAt -/
def fX9_lengthAt (uLn : Int32) (uLf : Nat → Int32) (p1 : Int32) : Option (Int32) :=
  (fX7_get 10 uLn uLf p1).bind fun z1 =>
  some (z1)
theorem mbX9_lengthAt : MV yX9_lengthAt cX9_lengthAt 2 (some .int) 1 := ⟨⟨q454, q3, by decide +kernel⟩, q452, q453⟩
set_option maxHeartbeats 4000000 in
set_option maxRecDepth 100000 in
theorem tX9_lengthAt (l : Launch) (dC : Nat → ClassId) (dI : Nat → Nat → Nat) (g : Nat → ClassId) (a0 a1 a2 a3 a4 a5 a6 a7 a8 : Nat) (ux : Int32) (uNn : Int32) (uNf : Nat → Int32) (uMn : Int32) (uMf : Nat → Int32) (uLn : Int32) (uLf : Nat → Int32) (uKn : Int32) (uKf : Nat → Int32) (p1 : Int32) {r : Int32} (h : fX9_lengthAt uLn uLf p1 = some r) : RO l yX9_lengthAt cX9_lengthAt 2 (some .int) 1 21 dC dI g [.ref a0, .int p1] (wX9 g a0 a1 a2 a3 a4 a5 a6 a7 a8 ux uNn uNf uMn uMf uLn uLf uKn uKf) (some (.int r)) := by
  refine RO_of (by decide) (Nat.le_of_ble_eq_true rfl) ?_
  intro p e s m below meth c ls F hr hlocks hE hX hP hl
  replace F : CF p m c cX9_lengthAt 2 s _ RX9 := F
  replace hl : lv_has ls 2 [(0, .ref a0), (1, .int p1)] := hl
  rw [fX9_lengthAt] at h
  refine lv_aload_n F.1 F.2.1 dX9_lengthAt_0 rfl (lv_at hl 0 rfl) ?_
  refine gF (v := .ref a5) F hE hP 0 rfl rfl inX9 2 (by decide) q73 rfl dX9_lengthAt_1 ?_
  refine lv_iload_n F.1 F.2.1 dX9_lengthAt_4 rfl (lv_at hl 1 rfl) ?_
  obtain ⟨z1, k2, h⟩ := bd_ok h
  refine cRV (As := [.int p1]) (rest := []) F hE hX va_S.rf (tX7_get l dC dI g a5 a6 10 uLn uLf p1 k2) mbX7_get q422 ⟨(Nat.le_of_ble_eq_true rfl), (Nat.le_of_ble_eq_true rfl)⟩ ⟨Nat.zero_le _, Nat.zero_le _⟩ hP [5, 6] rfl 5 rfl rfl rfl hl.1 rfl (Nat.le_of_ble_eq_true rfl) dX9_lengthAt_5 ?_
  cases h
  exact RO_i F hr hlocks dX9_lengthAt_8
/-! WireCutter$Spools.cutCountAt -/
def fX9_cutCountAt (uKn : Int32) (uKf : Nat → Int32) (p1 : Int32) : Option (Int32) :=
  (fX7_get 10 uKn uKf p1).bind fun z1 =>
  some (z1)
theorem mbX9_cutCountAt : MV yX9_cutCountAt cX9_cutCountAt 2 (some .int) 1 := ⟨⟨q1253, q3, by decide +kernel⟩, q1251, q1252⟩
set_option maxHeartbeats 4000000 in
set_option maxRecDepth 100000 in
theorem tX9_cutCountAt (l : Launch) (dC : Nat → ClassId) (dI : Nat → Nat → Nat) (g : Nat → ClassId) (a0 a1 a2 a3 a4 a5 a6 a7 a8 : Nat) (ux : Int32) (uNn : Int32) (uNf : Nat → Int32) (uMn : Int32) (uMf : Nat → Int32) (uLn : Int32) (uLf : Nat → Int32) (uKn : Int32) (uKf : Nat → Int32) (p1 : Int32) {r : Int32} (h : fX9_cutCountAt uKn uKf p1 = some r) : RO l yX9_cutCountAt cX9_cutCountAt 2 (some .int) 1 21 dC dI g [.ref a0, .int p1] (wX9 g a0 a1 a2 a3 a4 a5 a6 a7 a8 ux uNn uNf uMn uMf uLn uLf uKn uKf) (some (.int r)) := by
  refine RO_of (by decide) (Nat.le_of_ble_eq_true rfl) ?_
  intro p e s m below meth c ls F hr hlocks hE hX hP hl
  replace F : CF p m c cX9_cutCountAt 2 s _ RX9 := F
  replace hl : lv_has ls 2 [(0, .ref a0), (1, .int p1)] := hl
  rw [fX9_cutCountAt] at h
  refine lv_aload_n F.1 F.2.1 dX9_cutCountAt_0 rfl (lv_at hl 0 rfl) ?_
  refine gF (v := .ref a7) F hE hP 0 rfl rfl inX9 3 (by decide) q74 rfl dX9_cutCountAt_1 ?_
  refine lv_iload_n F.1 F.2.1 dX9_cutCountAt_4 rfl (lv_at hl 1 rfl) ?_
  obtain ⟨z1, k2, h⟩ := bd_ok h
  refine cRV (As := [.int p1]) (rest := []) F hE hX va_S.rf (tX7_get l dC dI g a7 a8 10 uKn uKf p1 k2) mbX7_get q422 ⟨(Nat.le_of_ble_eq_true rfl), (Nat.le_of_ble_eq_true rfl)⟩ ⟨Nat.zero_le _, Nat.zero_le _⟩ hP [7, 8] rfl 7 rfl rfl rfl hl.1 rfl (Nat.le_of_ble_eq_true rfl) dX9_cutCountAt_5 ?_
  cases h
  exact RO_i F hr hlocks dX9_cutCountAt_8
/-! WireCutter$Spools.sumOfLengths -/
def fX9_sumOfLengths (uLn : Int32) (uLf : Nat → Int32) : Option (Int32) :=
  (fX7_sum 10 uLn uLf).bind fun z1 =>
  some (z1)
theorem mbX9_sumOfLengths : MV yX9_sumOfLengths cX9_sumOfLengths 1 (some .int) 0 := ⟨⟨q1433, q3, by decide +kernel⟩, q1431, q1432⟩
set_option maxHeartbeats 4000000 in
set_option maxRecDepth 100000 in
theorem tX9_sumOfLengths (l : Launch) (dC : Nat → ClassId) (dI : Nat → Nat → Nat) (g : Nat → ClassId) (a0 a1 a2 a3 a4 a5 a6 a7 a8 : Nat) (ux : Int32) (uNn : Int32) (uNf : Nat → Int32) (uMn : Int32) (uMf : Nat → Int32) (uLn : Int32) (uLf : Nat → Int32) (uKn : Int32) (uKf : Nat → Int32) {r : Int32} (h : fX9_sumOfLengths uLn uLf = some r) : RO l yX9_sumOfLengths cX9_sumOfLengths 1 (some .int) 1 22 dC dI g [.ref a0] (wX9 g a0 a1 a2 a3 a4 a5 a6 a7 a8 ux uNn uNf uMn uMf uLn uLf uKn uKf) (some (.int r)) := by
  refine RO_of (by decide) (Nat.le_of_ble_eq_true rfl) ?_
  intro p e s m below meth c ls F hr hlocks hE hX hP hl
  replace F : CF p m c cX9_sumOfLengths 1 s _ RX9 := F
  replace hl : lv_has ls 1 [(0, .ref a0)] := hl
  rw [fX9_sumOfLengths] at h
  refine lv_aload_n F.1 F.2.1 dX9_sumOfLengths_0 rfl (lv_at hl 0 rfl) ?_
  refine gF (v := .ref a5) F hE hP 0 rfl rfl inX9 2 (by decide) q73 rfl dX9_sumOfLengths_1 ?_
  obtain ⟨z1, k2, h⟩ := bd_ok h
  refine cRV (As := []) (rest := []) F hE hX va_S.rf (tX7_sum l dC dI g a5 a6 10 uLn uLf k2) mbX7_sum q1434 ⟨(Nat.le_of_ble_eq_true rfl), (Nat.le_of_ble_eq_true rfl)⟩ ⟨Nat.zero_le _, Nat.zero_le _⟩ hP [5, 6] rfl 5 rfl rfl rfl hl.1 rfl (Nat.le_of_ble_eq_true rfl) dX9_sumOfLengths_4 ?_
  cases h
  exact RO_i F hr hlocks dX9_sumOfLengths_7
/-! WireCutter$Spools.sumOf -/
def fX9_sumOf_L4 (x1 : Int32) (uNn : Int32) (uMn : Int32) (uMf : Nat → Int32) (uLn : Int32) (uLf : Nat → Int32) : Nat → Int32 → Int32 → Option (Int32)
  | 0, _, _ => none
  | k + 1, x2, x3 =>
    (fX9_count uNn).bind fun z1 =>
    if z1 ≤ x3 then
      some (x2)
    else
      (fX7_get 10 uMn uMf x3).bind fun z4 =>
      if z4 = x1 then
        (fX7_get 10 uLn uLf x3).bind fun z7 =>
        fX9_sumOf_L4 x1 uNn uMn uMf uLn uLf k (x2 + z7) (x3 + 1)
      else
        fX9_sumOf_L4 x1 uNn uMn uMf uLn uLf k x2 (x3 + 1)
def fX9_sumOf (uNn : Int32) (uMn : Int32) (uMf : Nat → Int32) (uLn : Int32) (uLf : Nat → Int32) (p1 : Int32) : Option (Int32) :=
  fX9_sumOf_L4 p1 uNn uMn uMf uLn uLf FU 0 0
theorem mbX9_sumOf : MV yX9_sumOf cX9_sumOf 4 (some .int) 1 := ⟨⟨q484, q3, by decide +kernel⟩, q482, q483⟩
set_option maxHeartbeats 4000000 in
set_option maxRecDepth 100000 in
theorem tX9_sumOf_L4 {p : Program} {l : Launch} {e : Env} {s : State} {m : MethodId} {args : Array Value} {below : List Frame} {meth : Method} {c : Code} {dC : Nat → ClassId} {dI : Nat → Nat → Nat} {g : Nat → ClassId} {a0 a1 a2 a3 a4 a5 a6 a7 a8 : Nat} {r : Int32} (F : CF p m c cX9_sumOf 4 s args RX9) (hr : meth.sig.returnType = (some .int)) (hlocks : meth.locks = false) (hE : EK dC dI g s) (hX : EXr g s) (x1 : Int32) (ux : Int32) (uNn : Int32) (uNf : Nat → Int32) (uMn : Int32) (uMf : Nat → Int32) (uLn : Int32) (uLf : Nat → Int32) (uKn : Int32) (uKf : Nat → Int32) (hP : va_P (dC, dI) vwCl (wX9 g a0 a1 a2 a3 a4 a5 a6 a7 a8 ux uNn uNf uMn uMf uLn uLf uKn uKf) s.heap) : ∀ (k : Nat) (x2 : Int32) (x3 : Int32), fX9_sumOf_L4 x1 uNn uMn uMf uLn uLf k x2 x3 = some r → ∀ (ls : Array Slot), lv_has ls 4 [(0, .ref a0), (1, .int x1), (2, .int x2), (3, .int x3)] → W p l e { frames := 2, cells := 0, slots := 0, locals := 40 } s m args below meth c s.heap [] 0 0 (MQ below (fun _ st o t => o = .returned (some (.int r)) ∧ t.heap = st.heap) args s 0 0 (fun _ => False)) (F0 m 4 ls []) := by
  intro k
  induction k with
  | zero =>
    intro x2 x3 h
    exact absurd h (by simp [fX9_sumOf_L4])
  | succ k ih =>
    intro x2 x3 h ls hl
    rw [fX9_sumOf_L4] at h
    refine lv_iload_n F.1 F.2.1 dX9_sumOf_4 rfl (lv_at hl 3 rfl) ?_
    refine lv_aload_n F.1 F.2.1 dX9_sumOf_5 rfl (lv_at hl 0 rfl) ?_
    obtain ⟨z1, k2, h⟩ := bd_ok h
    refine cRV (As := []) (rest := [.int x3]) F hE hX va_S.rf (tX9_count l dC dI g a0 a1 a2 a3 a4 a5 a6 a7 a8 ux uNn uNf uMn uMf uLn uLf uKn uKf k2) mbX9_count q485 ⟨(Nat.le_of_ble_eq_true rfl), (Nat.le_of_ble_eq_true rfl)⟩ ⟨Nat.zero_le _, Nat.zero_le _⟩ hP [0, 1, 2, 3, 4, 5, 6, 7, 8] rfl 0 rfl rfl rfl hl.1 rfl (Nat.le_of_ble_eq_true rfl) dX9_sumOf_6 ?_
    refine lv_icmp_ge (tgt := 41) F.1 F.2.1 dX9_sumOf_9 (by decide) (fun k3 => ?_) (fun k3 => ?_)
    · replace h := it_t k3 h
      refine lv_iload_n F.1 F.2.1 dX9_sumOf_41 rfl (lv_at hl 2 rfl) ?_
      cases h
      exact RO_i F hr hlocks dX9_sumOf_42
    · replace h := it_f k3 h
      refine lv_aload_n F.1 F.2.1 dX9_sumOf_12 rfl (lv_at hl 0 rfl) ?_
      refine gF (v := .ref a3) F hE hP 0 rfl rfl inX9 1 (by decide) q72 rfl dX9_sumOf_13 ?_
      refine lv_iload_n F.1 F.2.1 dX9_sumOf_16 rfl (lv_at hl 3 rfl) ?_
      obtain ⟨z4, k5, h⟩ := bd_ok h
      refine cRV (As := [.int x3]) (rest := []) F hE hX va_S.rf (tX7_get l dC dI g a3 a4 10 uMn uMf x3 k5) mbX7_get q422 ⟨(Nat.le_of_ble_eq_true rfl), (Nat.le_of_ble_eq_true rfl)⟩ ⟨Nat.zero_le _, Nat.zero_le _⟩ hP [3, 4] rfl 3 rfl rfl rfl hl.1 rfl (Nat.le_of_ble_eq_true rfl) dX9_sumOf_17 ?_
      refine lv_iload_n F.1 F.2.1 dX9_sumOf_20 rfl (lv_at hl 1 rfl) ?_
      refine lv_icmp_ne (tgt := 35) F.1 F.2.1 dX9_sumOf_21 (by decide) (fun k6 => ?_) (fun k6 => ?_)
      · replace h := it_f k6 h
        refine lv_iinc (v := x3 + 1) (lv' := [(3, .int (x3 + 1)), (0, .ref a0), (1, .int x1), (2, .int x2)]) F.1 F.2.1 dX9_sumOf_35 hl (k := 3) rfl (by rfl) (by decide) rfl (fun ls hl => ?_)
        refine lv_goto (tgt := 4) F.1 F.2.1 dX9_sumOf_38 (by decide) ?_
        exact ih x2 (x3 + 1) h ls (lv_sub hl [1, 2, 3, 0] rfl)
      · replace h := it_t k6 h
        refine lv_iload_n F.1 F.2.1 dX9_sumOf_24 rfl (lv_at hl 2 rfl) ?_
        refine lv_aload_n F.1 F.2.1 dX9_sumOf_25 rfl (lv_at hl 0 rfl) ?_
        refine gF (v := .ref a5) F hE hP 0 rfl rfl inX9 2 (by decide) q73 rfl dX9_sumOf_26 ?_
        refine lv_iload_n F.1 F.2.1 dX9_sumOf_29 rfl (lv_at hl 3 rfl) ?_
        obtain ⟨z7, k8, h⟩ := bd_ok h
        refine cRV (As := [.int x3]) (rest := [.int x2]) F hE hX va_S.rf (tX7_get l dC dI g a5 a6 10 uLn uLf x3 k8) mbX7_get q422 ⟨(Nat.le_of_ble_eq_true rfl), (Nat.le_of_ble_eq_true rfl)⟩ ⟨Nat.zero_le _, Nat.zero_le _⟩ hP [5, 6] rfl 5 rfl rfl rfl hl.1 rfl (Nat.le_of_ble_eq_true rfl) dX9_sumOf_30 ?_
        refine lv_iadd F.1 F.2.1 dX9_sumOf_33 ?_
        refine lv_istore_n (lv' := [(2, .int (x2 + z7)), (0, .ref a0), (1, .int x1), (3, .int x3)]) F.1 F.2.1 dX9_sumOf_34 rfl hl (by decide) rfl (fun ls hl => ?_)
        refine lv_iinc (v := x3 + 1) (lv' := [(3, .int (x3 + 1)), (2, .int (x2 + z7)), (0, .ref a0), (1, .int x1)]) F.1 F.2.1 dX9_sumOf_35 hl (k := 3) rfl (by rfl) (by decide) rfl (fun ls hl => ?_)
        refine lv_goto (tgt := 4) F.1 F.2.1 dX9_sumOf_38 (by decide) ?_
        exact ih (x2 + z7) (x3 + 1) h ls (lv_sub hl [2, 3, 1, 0] rfl)
set_option maxHeartbeats 4000000 in
set_option maxRecDepth 100000 in
theorem tX9_sumOf (l : Launch) (dC : Nat → ClassId) (dI : Nat → Nat → Nat) (g : Nat → ClassId) (a0 a1 a2 a3 a4 a5 a6 a7 a8 : Nat) (ux : Int32) (uNn : Int32) (uNf : Nat → Int32) (uMn : Int32) (uMf : Nat → Int32) (uLn : Int32) (uLf : Nat → Int32) (uKn : Int32) (uKf : Nat → Int32) (p1 : Int32) {r : Int32} (h : fX9_sumOf uNn uMn uMf uLn uLf p1 = some r) : RO l yX9_sumOf cX9_sumOf 4 (some .int) 2 40 dC dI g [.ref a0, .int p1] (wX9 g a0 a1 a2 a3 a4 a5 a6 a7 a8 ux uNn uNf uMn uMf uLn uLf uKn uKf) (some (.int r)) := by
  refine RO_of (by decide) (Nat.le_of_ble_eq_true rfl) ?_
  intro p e s m below meth c ls F hr hlocks hE hX hP hl
  replace F : CF p m c cX9_sumOf 4 s _ RX9 := F
  replace hl : lv_has ls 4 [(0, .ref a0), (1, .int p1)] := hl
  rw [fX9_sumOf] at h
  refine lv_iconst (v := 0) F.1 F.2.1 dX9_sumOf_0 (by decide) ?_
  refine lv_istore_n (lv' := [(2, .int 0), (0, .ref a0), (1, .int p1)]) F.1 F.2.1 dX9_sumOf_1 rfl hl (by decide) rfl (fun ls hl => ?_)
  refine lv_iconst (v := 0) F.1 F.2.1 dX9_sumOf_2 (by decide) ?_
  refine lv_istore_n (lv' := [(3, .int 0), (2, .int 0), (0, .ref a0), (1, .int p1)]) F.1 F.2.1 dX9_sumOf_3 rfl hl (by decide) rfl (fun ls hl => ?_)
  exact tX9_sumOf_L4 F hr hlocks hE hX p1 ux uNn uNf uMn uMf uLn uLf uKn uKf hP FU 0 0 h ls (lv_sub hl [2, 3, 1, 0] rfl)
/-! WireCutter$Spools.add -/
def fX9_add (ux : Int32) (uNn : Int32) (uNf : Nat → Int32) (uMn : Int32) (uMf : Nat → Int32) (uLn : Int32) (uLf : Nat → Int32) (uKn : Int32) (uKf : Nat → Int32) (p1 : Int32) (p2 : Int32) : Option (Int32 × Int32 × Int32 × (Nat → Int32) × Int32 × (Nat → Int32) × Int32 × (Nat → Int32) × Int32 × (Nat → Int32)) :=
  (fX7_add 10 uNn uNf ux).bind fun z1 =>
  (fX7_add 10 uMn uMf p1).bind fun z3 =>
  (fX7_add 10 uLn uLf p2).bind fun z5 =>
  (fX7_add 10 uKn uKf 0).bind fun z7 =>
  some (ux, ux + 1, z1.1, z1.2, z3.1, z3.2, z5.1, z5.2, z7.1, z7.2)
theorem mbX9_add : MV yX9_add cX9_add 4 (some .int) 2 := ⟨⟨q973, q3, by decide +kernel⟩, q971, q972⟩
set_option maxHeartbeats 4000000 in
set_option maxRecDepth 100000 in
theorem tX9_add (l : Launch) (dC : Nat → ClassId) (dI : Nat → Nat → Nat) (g : Nat → ClassId) (a0 a1 a2 a3 a4 a5 a6 a7 a8 : Nat) (ux : Int32) (uNn : Int32) (uNf : Nat → Int32) (uMn : Int32) (uMf : Nat → Int32) (uLn : Int32) (uLf : Nat → Int32) (uKn : Int32) (uKf : Nat → Int32) (p1 : Int32) (p2 : Int32) {r : Int32 × Int32 × Int32 × (Nat → Int32) × Int32 × (Nat → Int32) × Int32 × (Nat → Int32) × Int32 × (Nat → Int32)} (h : fX9_add ux uNn uNf uMn uMf uLn uLf uKn uKf p1 p2 = some r) : MU l yX9_add cX9_add 4 (some .int) 1 21 0 0 dC dI g [.ref a0, .int p1, .int p2] (wX9 g a0 a1 a2 a3 a4 a5 a6 a7 a8 ux uNn uNf uMn uMf uLn uLf uKn uKf) (wX9 g a0 a1 a2 a3 a4 a5 a6 a7 a8 r.2.1 r.2.2.1 r.2.2.2.1 r.2.2.2.2.1 r.2.2.2.2.2.1 r.2.2.2.2.2.2.1 r.2.2.2.2.2.2.2.1 r.2.2.2.2.2.2.2.2.1 r.2.2.2.2.2.2.2.2.2) (some (.int r.1)) := by
  refine MU_of (by decide) (Nat.le_of_ble_eq_true rfl) ?_
  intro p e s m below meth c ls F hr hlocks hE hX hA hP hD hS hl
  generalize va_A (wX9 g a0 a1 a2 a3 a4 a5 a6 a7 a8 ux uNn uNf uMn uMf uLn uLf uKn uKf) s.heap.size = A at hA hD hS hX ⊢
  replace F : CF p m c cX9_add 4 s _ RX9 := F
  replace hl : lv_has ls 4 [(0, .ref a0), (1, .int p1), (2, .int p2)] := hl
  rw [fX9_add] at h
  refine lv_aload_n F.1 F.2.1 dX9_add_0 rfl (lv_at hl 0 rfl) ?_
  refine gF (v := .int ux) F hE hP 0 rfl rfl inX9 4 (by decide) q75 rfl dX9_add_1 ?_
  refine lv_istore_n (lv' := [(3, .int ux), (0, .ref a0), (1, .int p1), (2, .int p2)]) F.1 F.2.1 dX9_add_4 rfl hl (by decide) rfl (fun ls hl => ?_)
  refine lv_aload_n F.1 F.2.1 dX9_add_5 rfl (lv_at hl 1 rfl) ?_
  refine gF (v := .ref a1) F hE hP 0 rfl rfl inX9 0 (by decide) q71 rfl dX9_add_6 ?_
  refine lv_iload_n F.1 F.2.1 dX9_add_9 rfl (lv_at hl 0 rfl) ?_
  obtain ⟨z1, k2, h⟩ := bd_ok h
  refine cMV (As := [.int ux]) (rest := []) (ws' := wX9 g a0 a1 a2 a3 a4 a5 a6 a7 a8 ux z1.1 z1.2 uMn uMf uLn uLf uKn uKf) F hE hX (tX7_add l dC dI g a1 a2 10 uNn uNf ux k2) mbX7_add q974 ⟨(Nat.le_of_ble_eq_true rfl), (Nat.le_of_ble_eq_true rfl)⟩ ⟨(Nat.le_of_ble_eq_true rfl), (Nat.le_of_ble_eq_true rfl)⟩ hP hD hS hA [1, 2] rfl rfl rfl rfl rfl 1 rfl rfl rfl hl.1 rfl (Nat.le_of_ble_eq_true rfl) dX9_add_10 (fun H locs hP hD hS => ?_)
  refine lv_aload_n F.1 F.2.1 dX9_add_13 rfl (lv_at hl 1 rfl) ?_
  refine gF (v := .ref a3) F hE hP 0 rfl rfl inX9 1 (by decide) q72 rfl dX9_add_14 ?_
  refine lv_iload_n F.1 F.2.1 dX9_add_17 rfl (lv_at hl 2 rfl) ?_
  obtain ⟨z3, k4, h⟩ := bd_ok h
  refine cMV (As := [.int p1]) (rest := []) (ws' := wX9 g a0 a1 a2 a3 a4 a5 a6 a7 a8 ux z1.1 z1.2 z3.1 z3.2 uLn uLf uKn uKf) F hE hX (tX7_add l dC dI g a3 a4 10 uMn uMf p1 k4) mbX7_add q974 ⟨(Nat.le_of_ble_eq_true rfl), (Nat.le_of_ble_eq_true rfl)⟩ ⟨(Nat.le_of_ble_eq_true rfl), (Nat.le_of_ble_eq_true rfl)⟩ hP hD hS hA [3, 4] rfl rfl rfl rfl rfl 3 rfl rfl rfl hl.1 rfl (Nat.le_of_ble_eq_true rfl) dX9_add_18 (fun H locs hP hD hS => ?_)
  refine lv_aload_n F.1 F.2.1 dX9_add_21 rfl (lv_at hl 1 rfl) ?_
  refine gF (v := .ref a5) F hE hP 0 rfl rfl inX9 2 (by decide) q73 rfl dX9_add_22 ?_
  refine lv_iload_n F.1 F.2.1 dX9_add_25 rfl (lv_at hl 3 rfl) ?_
  obtain ⟨z5, k6, h⟩ := bd_ok h
  refine cMV (As := [.int p2]) (rest := []) (ws' := wX9 g a0 a1 a2 a3 a4 a5 a6 a7 a8 ux z1.1 z1.2 z3.1 z3.2 z5.1 z5.2 uKn uKf) F hE hX (tX7_add l dC dI g a5 a6 10 uLn uLf p2 k6) mbX7_add q974 ⟨(Nat.le_of_ble_eq_true rfl), (Nat.le_of_ble_eq_true rfl)⟩ ⟨(Nat.le_of_ble_eq_true rfl), (Nat.le_of_ble_eq_true rfl)⟩ hP hD hS hA [5, 6] rfl rfl rfl rfl rfl 5 rfl rfl rfl hl.1 rfl (Nat.le_of_ble_eq_true rfl) dX9_add_26 (fun H locs hP hD hS => ?_)
  refine lv_aload_n F.1 F.2.1 dX9_add_29 rfl (lv_at hl 1 rfl) ?_
  refine gF (v := .ref a7) F hE hP 0 rfl rfl inX9 3 (by decide) q74 rfl dX9_add_30 ?_
  refine lv_iconst (v := 0) F.1 F.2.1 dX9_add_33 (by decide) ?_
  obtain ⟨z7, k8, h⟩ := bd_ok h
  refine cMV (As := [.int 0]) (rest := []) (ws' := wX9 g a0 a1 a2 a3 a4 a5 a6 a7 a8 ux z1.1 z1.2 z3.1 z3.2 z5.1 z5.2 z7.1 z7.2) F hE hX (tX7_add l dC dI g a7 a8 10 uKn uKf 0 k8) mbX7_add q974 ⟨(Nat.le_of_ble_eq_true rfl), (Nat.le_of_ble_eq_true rfl)⟩ ⟨(Nat.le_of_ble_eq_true rfl), (Nat.le_of_ble_eq_true rfl)⟩ hP hD hS hA [7, 8] rfl rfl rfl rfl rfl 7 rfl rfl rfl hl.1 rfl (Nat.le_of_ble_eq_true rfl) dX9_add_34 (fun H locs hP hD hS => ?_)
  refine lv_aload_n F.1 F.2.1 dX9_add_37 rfl (lv_at hl 1 rfl) ?_
  refine lv_dup F.1 F.2.1 dX9_add_38 rfl ?_
  refine gF (v := .int ux) F hE hP 0 rfl rfl inX9 4 (by decide) q75 rfl dX9_add_39 ?_
  refine lv_iconst (v := 1) F.1 F.2.1 dX9_add_42 (by decide) ?_
  refine lv_iadd F.1 F.2.1 dX9_add_43 ?_
  refine pF (v := .int (ux + 1)) F hE hP hD hS 0 rfl rfl inX9 tyX9 tyX9_ok nmX9 4 (by decide) q75 rfl rfl rfl (Nat.le_of_ble_eq_true rfl) dX9_add_44 (fun H locs hP hD hS => ?_)
  replace hP : va_P (dC, dI) vwCl (wX9 g a0 a1 a2 a3 a4 a5 a6 a7 a8 (ux + 1) z1.1 z1.2 z3.1 z3.2 z5.1 z5.2 z7.1 z7.2) H := hP
  replace hD : va_D A (wX9 g a0 a1 a2 a3 a4 a5 a6 a7 a8 (ux + 1) z1.1 z1.2 z3.1 z3.2 z5.1 z5.2 z7.1 z7.2) := hD
  refine lv_iload_n F.1 F.2.1 dX9_add_47 rfl (lv_at hl 0 rfl) ?_
  cases h
  exact MU_i F hr hlocks (Nat.le_refl _) (Nat.le_refl _) hP hS dX9_add_48
/-! WireCutter$Spools.shorten -/
def fX9_shorten (uLn : Int32) (uLf : Nat → Int32) (uKn : Int32) (uKf : Nat → Int32) (p1 : Int32) (p2 : Int32) : Option ((Nat → Int32) × (Nat → Int32)) :=
  (fX7_set 10 uLn uLf p1 p2).bind fun z1 =>
  (fX7_increase 10 uKn uKf p1 1).bind fun z3 =>
  some (z1, z3)
theorem mbX9_shorten : MV yX9_shorten cX9_shorten 3 none 2 := ⟨⟨q1169, q3, by decide +kernel⟩, q1167, q1168⟩
set_option maxHeartbeats 4000000 in
set_option maxRecDepth 100000 in
theorem tX9_shorten (l : Launch) (dC : Nat → ClassId) (dI : Nat → Nat → Nat) (g : Nat → ClassId) (a0 a1 a2 a3 a4 a5 a6 a7 a8 : Nat) (ux : Int32) (uNn : Int32) (uNf : Nat → Int32) (uMn : Int32) (uMf : Nat → Int32) (uLn : Int32) (uLf : Nat → Int32) (uKn : Int32) (uKf : Nat → Int32) (p1 : Int32) (p2 : Int32) {r : (Nat → Int32) × (Nat → Int32)} (h : fX9_shorten uLn uLf uKn uKf p1 p2 = some r) : MU l yX9_shorten cX9_shorten 3 none 1 22 0 0 dC dI g [.ref a0, .int p1, .int p2] (wX9 g a0 a1 a2 a3 a4 a5 a6 a7 a8 ux uNn uNf uMn uMf uLn uLf uKn uKf) (wX9 g a0 a1 a2 a3 a4 a5 a6 a7 a8 ux uNn uNf uMn uMf uLn r.1 uKn r.2) none := by
  refine MU_of (by decide) (Nat.le_of_ble_eq_true rfl) ?_
  intro p e s m below meth c ls F hr hlocks hE hX hA hP hD hS hl
  generalize va_A (wX9 g a0 a1 a2 a3 a4 a5 a6 a7 a8 ux uNn uNf uMn uMf uLn uLf uKn uKf) s.heap.size = A at hA hD hS hX ⊢
  replace F : CF p m c cX9_shorten 3 s _ RX9 := F
  replace hl : lv_has ls 3 [(0, .ref a0), (1, .int p1), (2, .int p2)] := hl
  rw [fX9_shorten] at h
  refine lv_aload_n F.1 F.2.1 dX9_shorten_0 rfl (lv_at hl 0 rfl) ?_
  refine gF (v := .ref a5) F hE hP 0 rfl rfl inX9 2 (by decide) q73 rfl dX9_shorten_1 ?_
  refine lv_iload_n F.1 F.2.1 dX9_shorten_4 rfl (lv_at hl 1 rfl) ?_
  refine lv_iload_n F.1 F.2.1 dX9_shorten_5 rfl (lv_at hl 2 rfl) ?_
  obtain ⟨z1, k2, h⟩ := bd_ok h
  refine cMV (As := [.int p1, .int p2]) (rest := []) (ws' := wX9 g a0 a1 a2 a3 a4 a5 a6 a7 a8 ux uNn uNf uMn uMf uLn z1 uKn uKf) F hE hX (tX7_set l dC dI g a5 a6 10 uLn uLf p1 p2 k2) mbX7_set q1170 ⟨(Nat.le_of_ble_eq_true rfl), (Nat.le_of_ble_eq_true rfl)⟩ ⟨(Nat.le_of_ble_eq_true rfl), (Nat.le_of_ble_eq_true rfl)⟩ hP hD hS hA [5, 6] rfl rfl rfl rfl rfl 5 rfl rfl rfl hl.1 rfl (Nat.le_of_ble_eq_true rfl) dX9_shorten_6 (fun H locs hP hD hS => ?_)
  refine lv_aload_n F.1 F.2.1 dX9_shorten_9 rfl (lv_at hl 0 rfl) ?_
  refine gF (v := .ref a7) F hE hP 0 rfl rfl inX9 3 (by decide) q74 rfl dX9_shorten_10 ?_
  refine lv_iload_n F.1 F.2.1 dX9_shorten_13 rfl (lv_at hl 1 rfl) ?_
  refine lv_iconst (v := 1) F.1 F.2.1 dX9_shorten_14 (by decide) ?_
  obtain ⟨z3, k4, h⟩ := bd_ok h
  refine cMV (As := [.int p1, .int 1]) (rest := []) (ws' := wX9 g a0 a1 a2 a3 a4 a5 a6 a7 a8 ux uNn uNf uMn uMf uLn z1 uKn z3) F hE hX (tX7_increase l dC dI g a7 a8 10 uKn uKf p1 1 k4) mbX7_increase q1174 ⟨(Nat.le_of_ble_eq_true rfl), (Nat.le_of_ble_eq_true rfl)⟩ ⟨(Nat.le_of_ble_eq_true rfl), (Nat.le_of_ble_eq_true rfl)⟩ hP hD hS hA [7, 8] rfl rfl rfl rfl rfl 7 rfl rfl rfl hl.1 rfl (Nat.le_of_ble_eq_true rfl) dX9_shorten_15 (fun H locs hP hD hS => ?_)
  cases h
  exact MU_v F hr hlocks (Nat.le_refl _) (Nat.le_refl _) hP hS dX9_shorten_18
/-! WireCutter$Spools.removeAt -/
def fX9_removeAt (uNn : Int32) (uNf : Nat → Int32) (uMn : Int32) (uMf : Nat → Int32) (uLn : Int32) (uLf : Nat → Int32) (uKn : Int32) (uKf : Nat → Int32) (p1 : Int32) : Option (Int32 × (Nat → Int32) × Int32 × (Nat → Int32) × Int32 × (Nat → Int32) × Int32 × (Nat → Int32)) :=
  (fX7_removeAt 10 uNn uNf p1).bind fun z1 =>
  (fX7_removeAt 10 uMn uMf p1).bind fun z3 =>
  (fX7_removeAt 10 uLn uLf p1).bind fun z5 =>
  (fX7_removeAt 10 uKn uKf p1).bind fun z7 =>
  some (z1.1, z1.2, z3.1, z3.2, z5.1, z5.2, z7.1, z7.2)
theorem mbX9_removeAt : MV yX9_removeAt cX9_removeAt 2 none 1 := ⟨⟨q1026, q3, by decide +kernel⟩, q1024, q1025⟩
set_option maxHeartbeats 4000000 in
set_option maxRecDepth 100000 in
theorem tX9_removeAt (l : Launch) (dC : Nat → ClassId) (dI : Nat → Nat → Nat) (g : Nat → ClassId) (a0 a1 a2 a3 a4 a5 a6 a7 a8 : Nat) (ux : Int32) (uNn : Int32) (uNf : Nat → Int32) (uMn : Int32) (uMf : Nat → Int32) (uLn : Int32) (uLf : Nat → Int32) (uKn : Int32) (uKf : Nat → Int32) (p1 : Int32) {r : Int32 × (Nat → Int32) × Int32 × (Nat → Int32) × Int32 × (Nat → Int32) × Int32 × (Nat → Int32)} (h : fX9_removeAt uNn uNf uMn uMf uLn uLf uKn uKf p1 = some r) : MU l yX9_removeAt cX9_removeAt 2 none 1 22 0 0 dC dI g [.ref a0, .int p1] (wX9 g a0 a1 a2 a3 a4 a5 a6 a7 a8 ux uNn uNf uMn uMf uLn uLf uKn uKf) (wX9 g a0 a1 a2 a3 a4 a5 a6 a7 a8 ux r.1 r.2.1 r.2.2.1 r.2.2.2.1 r.2.2.2.2.1 r.2.2.2.2.2.1 r.2.2.2.2.2.2.1 r.2.2.2.2.2.2.2) none := by
  refine MU_of (by decide) (Nat.le_of_ble_eq_true rfl) ?_
  intro p e s m below meth c ls F hr hlocks hE hX hA hP hD hS hl
  generalize va_A (wX9 g a0 a1 a2 a3 a4 a5 a6 a7 a8 ux uNn uNf uMn uMf uLn uLf uKn uKf) s.heap.size = A at hA hD hS hX ⊢
  replace F : CF p m c cX9_removeAt 2 s _ RX9 := F
  replace hl : lv_has ls 2 [(0, .ref a0), (1, .int p1)] := hl
  rw [fX9_removeAt] at h
  refine lv_aload_n F.1 F.2.1 dX9_removeAt_0 rfl (lv_at hl 0 rfl) ?_
  refine gF (v := .ref a1) F hE hP 0 rfl rfl inX9 0 (by decide) q71 rfl dX9_removeAt_1 ?_
  refine lv_iload_n F.1 F.2.1 dX9_removeAt_4 rfl (lv_at hl 1 rfl) ?_
  obtain ⟨z1, k2, h⟩ := bd_ok h
  refine cMV (As := [.int p1]) (rest := []) (ws' := wX9 g a0 a1 a2 a3 a4 a5 a6 a7 a8 ux z1.1 z1.2 uMn uMf uLn uLf uKn uKf) F hE hX (tX7_removeAt l dC dI g a1 a2 10 uNn uNf p1 k2) mbX7_removeAt q1027 ⟨(Nat.le_of_ble_eq_true rfl), (Nat.le_of_ble_eq_true rfl)⟩ ⟨(Nat.le_of_ble_eq_true rfl), (Nat.le_of_ble_eq_true rfl)⟩ hP hD hS hA [1, 2] rfl rfl rfl rfl rfl 1 rfl rfl rfl hl.1 rfl (Nat.le_of_ble_eq_true rfl) dX9_removeAt_5 (fun H locs hP hD hS => ?_)
  refine lv_aload_n F.1 F.2.1 dX9_removeAt_8 rfl (lv_at hl 0 rfl) ?_
  refine gF (v := .ref a3) F hE hP 0 rfl rfl inX9 1 (by decide) q72 rfl dX9_removeAt_9 ?_
  refine lv_iload_n F.1 F.2.1 dX9_removeAt_12 rfl (lv_at hl 1 rfl) ?_
  obtain ⟨z3, k4, h⟩ := bd_ok h
  refine cMV (As := [.int p1]) (rest := []) (ws' := wX9 g a0 a1 a2 a3 a4 a5 a6 a7 a8 ux z1.1 z1.2 z3.1 z3.2 uLn uLf uKn uKf) F hE hX (tX7_removeAt l dC dI g a3 a4 10 uMn uMf p1 k4) mbX7_removeAt q1027 ⟨(Nat.le_of_ble_eq_true rfl), (Nat.le_of_ble_eq_true rfl)⟩ ⟨(Nat.le_of_ble_eq_true rfl), (Nat.le_of_ble_eq_true rfl)⟩ hP hD hS hA [3, 4] rfl rfl rfl rfl rfl 3 rfl rfl rfl hl.1 rfl (Nat.le_of_ble_eq_true rfl) dX9_removeAt_13 (fun H locs hP hD hS => ?_)
  refine lv_aload_n F.1 F.2.1 dX9_removeAt_16 rfl (lv_at hl 0 rfl) ?_
  refine gF (v := .ref a5) F hE hP 0 rfl rfl inX9 2 (by decide) q73 rfl dX9_removeAt_17 ?_
  refine lv_iload_n F.1 F.2.1 dX9_removeAt_20 rfl (lv_at hl 1 rfl) ?_
  obtain ⟨z5, k6, h⟩ := bd_ok h
  refine cMV (As := [.int p1]) (rest := []) (ws' := wX9 g a0 a1 a2 a3 a4 a5 a6 a7 a8 ux z1.1 z1.2 z3.1 z3.2 z5.1 z5.2 uKn uKf) F hE hX (tX7_removeAt l dC dI g a5 a6 10 uLn uLf p1 k6) mbX7_removeAt q1027 ⟨(Nat.le_of_ble_eq_true rfl), (Nat.le_of_ble_eq_true rfl)⟩ ⟨(Nat.le_of_ble_eq_true rfl), (Nat.le_of_ble_eq_true rfl)⟩ hP hD hS hA [5, 6] rfl rfl rfl rfl rfl 5 rfl rfl rfl hl.1 rfl (Nat.le_of_ble_eq_true rfl) dX9_removeAt_21 (fun H locs hP hD hS => ?_)
  refine lv_aload_n F.1 F.2.1 dX9_removeAt_24 rfl (lv_at hl 0 rfl) ?_
  refine gF (v := .ref a7) F hE hP 0 rfl rfl inX9 3 (by decide) q74 rfl dX9_removeAt_25 ?_
  refine lv_iload_n F.1 F.2.1 dX9_removeAt_28 rfl (lv_at hl 1 rfl) ?_
  obtain ⟨z7, k8, h⟩ := bd_ok h
  refine cMV (As := [.int p1]) (rest := []) (ws' := wX9 g a0 a1 a2 a3 a4 a5 a6 a7 a8 ux z1.1 z1.2 z3.1 z3.2 z5.1 z5.2 z7.1 z7.2) F hE hX (tX7_removeAt l dC dI g a7 a8 10 uKn uKf p1 k8) mbX7_removeAt q1027 ⟨(Nat.le_of_ble_eq_true rfl), (Nat.le_of_ble_eq_true rfl)⟩ ⟨(Nat.le_of_ble_eq_true rfl), (Nat.le_of_ble_eq_true rfl)⟩ hP hD hS hA [7, 8] rfl rfl rfl rfl rfl 7 rfl rfl rfl hl.1 rfl (Nat.le_of_ble_eq_true rfl) dX9_removeAt_29 (fun H locs hP hD hS => ?_)
  cases h
  exact MU_v F hr hlocks (Nat.le_refl _) (Nat.le_refl _) hP hS dX9_removeAt_32
