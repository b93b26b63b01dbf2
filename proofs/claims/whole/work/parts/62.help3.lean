theorem mbL_chosenScrap : MSH yL_chosenScrap cL_chosenScrap 4 (some .int) [(0, 9, 12, 21)] 3 := ⟨⟨q1355, q0, by decide +kernel⟩, q1354⟩
set_option maxHeartbeats 4000000 in
set_option maxRecDepth 100000 in
theorem tL_chosenScrap (l : Launch) (hl9 : l.stackTraces = false) (dC : Nat → ClassId) (dI : Nat → Nat → Nat) (g : Nat → ClassId) (A : Nat → Nat) (A1 A2 : Nat → Nat → Nat) (aq o : Nat) (f : Nat → Int64) (u : XT) (p1 : Int32) {r : (Except String Int32) × XT} (h : gX12_chosenScrap u p1 = some r) {k : Int32} (hk : kx ["java/util/NoSuchElementException"] r.1 = some k) : MZ l yL_chosenScrap cL_chosenScrap 4 [(0, 9, 12, 21)] 8 126 2 12 dC dI g [.ref (A 0), .int p1, .ref o] (catp [wXt g A A1 A2 aq u, [(o, .inl (g 6, 1, .inr (.inl f)))]] []) (fun β => catp [wXt g A A1 A2 aq r.2, [(o, .inl (g 6, 1, .inr (.inl (oxI r.1 f))))]] []) k := by
  refine MZ_of (by decide +kernel) (Nat.le_of_ble_eq_true rfl) ?_
  intro p e s m below meth c ls F hr hlocks hC hE hX hA hP hD hS hl
  generalize va_A (catp [wXt g A A1 A2 aq u, [(o, .inl (g 6, 1, .inr (.inl f)))]] []) s.heap.size = AA at hA hD hS hX ⊢
  replace F : CF p m c cL_chosenScrap 4 s _ RL := F
  replace hl : lv_has ls 4 [(0, .ref (A 0)), (1, .int p1), (2, .ref o)] := hl
  refine lv_aload_n F.1 F.2.1 dL_chosenScrap_0 rfl (lv_at hl 2 rfl) ?_
  refine lv_iconst (v := 0) F.1 F.2.1 dL_chosenScrap_1 (by decide) ?_
  refine lv_aload_n F.1 F.2.1 dL_chosenScrap_2 rfl (lv_at hl 0 rfl) ?_
  refine lv_iload_n F.1 F.2.1 dL_chosenScrap_3 rfl (lv_at hl 1 rfl) ?_
  refine cXV1 (As := [.int p1]) (rest := [.int 0, .ref o]) (post := catp [[(o, .inl (g 6, 1, .inr (.inl f)))]] []) (ws' := catp [wXt g A A1 A2 aq r.2, [(o, .inl (g 6, 1, .inr (.inl f)))]] []) F hE hX (kX12_chosenScrap l hl9 dC dI g A A1 A2 aq u p1 h) mbX12_chosenScrap q1356 ⟨(Nat.le_of_ble_eq_true rfl), (Nat.le_of_ble_eq_true rfl)⟩ ⟨(Nat.le_of_ble_eq_true rfl), (Nat.le_of_ble_eq_true rfl)⟩ hP hD hS hA [] rfl (wXt_fst g A A1 A2 aq _ _) rfl 0 rfl rfl rfl hl.1 rfl (Nat.le_of_ble_eq_true rfl) dL_chosenScrap_4 (fun E ce q9 hx9 H locs hP hD hS h7 h8 h9 => ?_) (fun w hv H locs hP hD hS => ?_)
  · replace hP : va_P (dC, dI) vwCl (catp [wXt g A A1 A2 aq r.2, [(o, .inl (g 6, 1, .inr (.inl f)))]] []) H := hP
    replace hD : va_D AA (catp [wXt g A A1 A2 aq r.2, [(o, .inl (g 6, 1, .inr (.inl f)))]] []) := hD
    rw [hx9] at hk
    have hof : oxI r.1 f = f := by rw [hx9]; rfl
    by_cases k0 : E = "java/util/NoSuchElementException"
    · subst k0
      have hk9 : k = 1 := by simpa [kx] using hk.symm
      subst hk9
      refine vx_catch (own := RL) (name := "java/util/NoSuchElementException") F.2.2.2.1 [] ⟨0, 9, 12, 21⟩ [] hC (fun _ h9 => absurd h9 List.not_mem_nil) (by decide) (by decide) (F.2.2.2.2 _ q982) (va_Nw.use rfl (hE.2 _ q998)) h7 h8 h9 ?_
      refine lv_astore_n (lv' := [(3, .ref q9), (0, .ref (A 0)), (1, .int p1), (2, .ref o)]) F.1 F.2.1 dL_chosenScrap_12 rfl hl (by decide) rfl (fun ls hl => ?_)
      refine lv_iconst (v := 1) F.1 F.2.1 dL_chosenScrap_13 (by decide) ?_
      exact MZ_i ⟨fun _ => 0, fun _ _ => 0, fun _ _ => 0⟩ F hr hlocks (Nat.le_of_ble_eq_true rfl) (Nat.le_of_ble_eq_true rfl) (by show va_P (dC, dI) vwCl (catp [wXt g A A1 A2 aq r.2, [(o, .inl (g 6, 1, .inr (.inl (oxI r.1 f))))]] []) H; rw [hof]; exact hP) (by show va_D AA (catp [wXt g A A1 A2 aq r.2, [(o, .inl (g 6, 1, .inr (.inl (oxI r.1 f))))]] []); rw [hof]; exact hD) hS dL_chosenScrap_14
    exact absurd hk (by simp [kx, k0])
  rw [hv] at hk
  have hk9 : k = 0 := by simpa [kx] using hk.symm
  subst hk9
  replace hP : va_P (dC, dI) vwCl (catp [wXt g A A1 A2 aq r.2, [(o, .inl (g 6, 1, .inr (.inl f)))]] []) H := hP
  replace hD : va_D AA (catp [wXt g A A1 A2 aq r.2, [(o, .inl (g 6, 1, .inr (.inl f)))]] []) := hD
  refine lv_i2l F.1 F.2.1 dL_chosenScrap_7 rfl ?_
  refine va_last F.1 F.2.1 hE.1 hP hD hS 387 6 rfl rfl (inR_in (by decide : inR 0 1 = true)) dL_chosenScrap_8 (fun H locs hP hD hS => ?_)
  replace hP : va_P (dC, dI) vwCl (catp [wXt g A A1 A2 aq r.2, [(o, .inl (g 6, 1, .inr (.inl (vp_updL f 0 w.toInt64))))]] []) H := hP
  replace hD : va_D AA (catp [wXt g A A1 A2 aq r.2, [(o, .inl (g 6, 1, .inr (.inl (vp_updL f 0 w.toInt64))))]] []) := hD
  refine lv_goto (tgt := 15) F.1 F.2.1 dL_chosenScrap_9 (by decide) ?_
  refine lv_iconst (v := 0) F.1 F.2.1 dL_chosenScrap_15 (by decide) ?_
  have hof : oxI r.1 f = vp_updL f 0 w.toInt64 := by rw [hv]; rfl
  exact MZ_i ⟨fun _ => 0, fun _ _ => 0, fun _ _ => 0⟩ F hr hlocks (Nat.le_of_ble_eq_true rfl) (Nat.le_of_ble_eq_true rfl) (by show va_P (dC, dI) vwCl (catp [wXt g A A1 A2 aq r.2, [(o, .inl (g 6, 1, .inr (.inl (oxI r.1 f))))]] []) H; rw [hof]; exact hP) (by show va_D AA (catp [wXt g A A1 A2 aq r.2, [(o, .inl (g 6, 1, .inr (.inl (oxI r.1 f))))]] []); rw [hof]; exact hD) hS dL_chosenScrap_16
theorem mbL_chosenSpool : MSH yL_chosenSpool cL_chosenSpool 4 (some .int) [(0, 9, 12, 21)] 3 := ⟨⟨q1367, q0, by decide +kernel⟩, q1366⟩
set_option maxHeartbeats 4000000 in
set_option maxRecDepth 100000 in
theorem tL_chosenSpool (l : Launch) (hl9 : l.stackTraces = false) (dC : Nat → ClassId) (dI : Nat → Nat → Nat) (g : Nat → ClassId) (A : Nat → Nat) (A1 A2 : Nat → Nat → Nat) (aq o : Nat) (f : Nat → Int64) (u : XT) (p1 : Int32) {r : (Except String Int32) × XT} (h : gX12_chosenSpool u p1 = some r) {k : Int32} (hk : kx ["java/util/NoSuchElementException"] r.1 = some k) : MZ l yL_chosenSpool cL_chosenSpool 4 [(0, 9, 12, 21)] 8 127 2 12 dC dI g [.ref (A 0), .int p1, .ref o] (catp [wXt g A A1 A2 aq u, [(o, .inl (g 6, 1, .inr (.inl f)))]] []) (fun β => catp [wXt g A A1 A2 aq r.2, [(o, .inl (g 6, 1, .inr (.inl (oxI r.1 f))))]] []) k := by
  refine MZ_of (by decide +kernel) (Nat.le_of_ble_eq_true rfl) ?_
  intro p e s m below meth c ls F hr hlocks hC hE hX hA hP hD hS hl
  generalize va_A (catp [wXt g A A1 A2 aq u, [(o, .inl (g 6, 1, .inr (.inl f)))]] []) s.heap.size = AA at hA hD hS hX ⊢
  replace F : CF p m c cL_chosenSpool 4 s _ RL := F
  replace hl : lv_has ls 4 [(0, .ref (A 0)), (1, .int p1), (2, .ref o)] := hl
  refine lv_aload_n F.1 F.2.1 dL_chosenSpool_0 rfl (lv_at hl 2 rfl) ?_
  refine lv_iconst (v := 0) F.1 F.2.1 dL_chosenSpool_1 (by decide) ?_
  refine lv_aload_n F.1 F.2.1 dL_chosenSpool_2 rfl (lv_at hl 0 rfl) ?_
  refine lv_iload_n F.1 F.2.1 dL_chosenSpool_3 rfl (lv_at hl 1 rfl) ?_
  refine cXV1 (As := [.int p1]) (rest := [.int 0, .ref o]) (post := catp [[(o, .inl (g 6, 1, .inr (.inl f)))]] []) (ws' := catp [wXt g A A1 A2 aq r.2, [(o, .inl (g 6, 1, .inr (.inl f)))]] []) F hE hX (kX12_chosenSpool l hl9 dC dI g A A1 A2 aq u p1 h) mbX12_chosenSpool q1368 ⟨(Nat.le_of_ble_eq_true rfl), (Nat.le_of_ble_eq_true rfl)⟩ ⟨(Nat.le_of_ble_eq_true rfl), (Nat.le_of_ble_eq_true rfl)⟩ hP hD hS hA [] rfl (wXt_fst g A A1 A2 aq _ _) rfl 0 rfl rfl rfl hl.1 rfl (Nat.le_of_ble_eq_true rfl) dL_chosenSpool_4 (fun E ce q9 hx9 H locs hP hD hS h7 h8 h9 => ?_) (fun w hv H locs hP hD hS => ?_)
  · replace hP : va_P (dC, dI) vwCl (catp [wXt g A A1 A2 aq r.2, [(o, .inl (g 6, 1, .inr (.inl f)))]] []) H := hP
    replace hD : va_D AA (catp [wXt g A A1 A2 aq r.2, [(o, .inl (g 6, 1, .inr (.inl f)))]] []) := hD
    rw [hx9] at hk
    have hof : oxI r.1 f = f := by rw [hx9]; rfl
    by_cases k0 : E = "java/util/NoSuchElementException"
    · subst k0
      have hk9 : k = 1 := by simpa [kx] using hk.symm
      subst hk9
      refine vx_catch (own := RL) (name := "java/util/NoSuchElementException") F.2.2.2.1 [] ⟨0, 9, 12, 21⟩ [] hC (fun _ h9 => absurd h9 List.not_mem_nil) (by decide) (by decide) (F.2.2.2.2 _ q982) (va_Nw.use rfl (hE.2 _ q998)) h7 h8 h9 ?_
      refine lv_astore_n (lv' := [(3, .ref q9), (0, .ref (A 0)), (1, .int p1), (2, .ref o)]) F.1 F.2.1 dL_chosenSpool_12 rfl hl (by decide) rfl (fun ls hl => ?_)
      refine lv_iconst (v := 1) F.1 F.2.1 dL_chosenSpool_13 (by decide) ?_
      exact MZ_i ⟨fun _ => 0, fun _ _ => 0, fun _ _ => 0⟩ F hr hlocks (Nat.le_of_ble_eq_true rfl) (Nat.le_of_ble_eq_true rfl) (by show va_P (dC, dI) vwCl (catp [wXt g A A1 A2 aq r.2, [(o, .inl (g 6, 1, .inr (.inl (oxI r.1 f))))]] []) H; rw [hof]; exact hP) (by show va_D AA (catp [wXt g A A1 A2 aq r.2, [(o, .inl (g 6, 1, .inr (.inl (oxI r.1 f))))]] []); rw [hof]; exact hD) hS dL_chosenSpool_14
    exact absurd hk (by simp [kx, k0])
  rw [hv] at hk
  have hk9 : k = 0 := by simpa [kx] using hk.symm
  subst hk9
  replace hP : va_P (dC, dI) vwCl (catp [wXt g A A1 A2 aq r.2, [(o, .inl (g 6, 1, .inr (.inl f)))]] []) H := hP
  replace hD : va_D AA (catp [wXt g A A1 A2 aq r.2, [(o, .inl (g 6, 1, .inr (.inl f)))]] []) := hD
  refine lv_i2l F.1 F.2.1 dL_chosenSpool_7 rfl ?_
  refine va_last F.1 F.2.1 hE.1 hP hD hS 387 6 rfl rfl (inR_in (by decide : inR 0 1 = true)) dL_chosenSpool_8 (fun H locs hP hD hS => ?_)
  replace hP : va_P (dC, dI) vwCl (catp [wXt g A A1 A2 aq r.2, [(o, .inl (g 6, 1, .inr (.inl (vp_updL f 0 w.toInt64))))]] []) H := hP
  replace hD : va_D AA (catp [wXt g A A1 A2 aq r.2, [(o, .inl (g 6, 1, .inr (.inl (vp_updL f 0 w.toInt64))))]] []) := hD
  refine lv_goto (tgt := 15) F.1 F.2.1 dL_chosenSpool_9 (by decide) ?_
  refine lv_iconst (v := 0) F.1 F.2.1 dL_chosenSpool_15 (by decide) ?_
  have hof : oxI r.1 f = vp_updL f 0 w.toInt64 := by rw [hv]; rfl
  exact MZ_i ⟨fun _ => 0, fun _ _ => 0, fun _ _ => 0⟩ F hr hlocks (Nat.le_of_ble_eq_true rfl) (Nat.le_of_ble_eq_true rfl) (by show va_P (dC, dI) vwCl (catp [wXt g A A1 A2 aq r.2, [(o, .inl (g 6, 1, .inr (.inl (oxI r.1 f))))]] []) H; rw [hof]; exact hP) (by show va_D AA (catp [wXt g A A1 A2 aq r.2, [(o, .inl (g 6, 1, .inr (.inl (oxI r.1 f))))]] []); rw [hof]; exact hD) hS dL_chosenSpool_16
theorem mbL_wound : MSH yL_wound cL_wound 4 (some .int) [(0, 9, 12, 13)] 3 := ⟨⟨q1379, q0, by decide +kernel⟩, q1378⟩
set_option maxHeartbeats 4000000 in
set_option maxRecDepth 100000 in
theorem tL_wound (l : Launch) (hl9 : l.stackTraces = false) (dC : Nat → ClassId) (dI : Nat → Nat → Nat) (g : Nat → ClassId) (A : Nat → Nat) (A1 A2 : Nat → Nat → Nat) (aq o : Nat) (f : Nat → Int64) (u : XT) (p1 : Int32) {r : (Except String Int32) × XT} (h : gX12_wound u p1 = some r) {k : Int32} (hk : kx ["java/lang/IllegalArgumentException"] r.1 = some k) : MZ l yL_wound cL_wound 4 [(0, 9, 12, 13)] 8 123 1 6 dC dI g [.ref (A 0), .int p1, .ref o] (catp [wXt g A A1 A2 aq u, [(o, .inl (g 6, 1, .inr (.inl f)))]] []) (fun β => catp [wXt g A A1 A2 aq r.2, [(o, .inl (g 6, 1, .inr (.inl (oxI r.1 f))))]] []) k := by
  refine MZ_of (by decide +kernel) (Nat.le_of_ble_eq_true rfl) ?_
  intro p e s m below meth c ls F hr hlocks hC hE hX hA hP hD hS hl
  generalize va_A (catp [wXt g A A1 A2 aq u, [(o, .inl (g 6, 1, .inr (.inl f)))]] []) s.heap.size = AA at hA hD hS hX ⊢
  replace F : CF p m c cL_wound 4 s _ RL := F
  replace hl : lv_has ls 4 [(0, .ref (A 0)), (1, .int p1), (2, .ref o)] := hl
  refine lv_aload_n F.1 F.2.1 dL_wound_0 rfl (lv_at hl 2 rfl) ?_
  refine lv_iconst (v := 0) F.1 F.2.1 dL_wound_1 (by decide) ?_
  refine lv_aload_n F.1 F.2.1 dL_wound_2 rfl (lv_at hl 0 rfl) ?_
  refine lv_iload_n F.1 F.2.1 dL_wound_3 rfl (lv_at hl 1 rfl) ?_
  refine cXV1 (As := [.int p1]) (rest := [.int 0, .ref o]) (post := catp [[(o, .inl (g 6, 1, .inr (.inl f)))]] []) (ws' := catp [wXt g A A1 A2 aq r.2, [(o, .inl (g 6, 1, .inr (.inl f)))]] []) F hE hX (kX12_wound l hl9 dC dI g A A1 A2 aq u p1 h) mbX12_wound q1380 ⟨(Nat.le_of_ble_eq_true rfl), (Nat.le_of_ble_eq_true rfl)⟩ ⟨(Nat.le_of_ble_eq_true rfl), (Nat.le_of_ble_eq_true rfl)⟩ hP hD hS hA [] rfl (wXt_fst g A A1 A2 aq _ _) rfl 0 rfl rfl rfl hl.1 rfl (Nat.le_of_ble_eq_true rfl) dL_wound_4 (fun E ce q9 hx9 H locs hP hD hS h7 h8 h9 => ?_) (fun w hv H locs hP hD hS => ?_)
  · replace hP : va_P (dC, dI) vwCl (catp [wXt g A A1 A2 aq r.2, [(o, .inl (g 6, 1, .inr (.inl f)))]] []) H := hP
    replace hD : va_D AA (catp [wXt g A A1 A2 aq r.2, [(o, .inl (g 6, 1, .inr (.inl f)))]] []) := hD
    rw [hx9] at hk
    have hof : oxI r.1 f = f := by rw [hx9]; rfl
    by_cases k0 : E = "java/lang/IllegalArgumentException"
    · subst k0
      have hk9 : k = 1 := by simpa [kx] using hk.symm
      subst hk9
      refine vx_catch (own := RL) (name := "java/lang/IllegalArgumentException") F.2.2.2.1 [] ⟨0, 9, 12, 13⟩ [] hC (fun _ h9 => absurd h9 List.not_mem_nil) (by decide) (by decide) (F.2.2.2.2 _ q922) (va_Nw.use rfl (hE.2 _ q705)) h7 h8 h9 ?_
      refine lv_astore_n (lv' := [(3, .ref q9), (0, .ref (A 0)), (1, .int p1), (2, .ref o)]) F.1 F.2.1 dL_wound_12 rfl hl (by decide) rfl (fun ls hl => ?_)
      refine lv_iconst (v := 1) F.1 F.2.1 dL_wound_13 (by decide) ?_
      exact MZ_i ⟨fun _ => 0, fun _ _ => 0, fun _ _ => 0⟩ F hr hlocks (Nat.le_of_ble_eq_true rfl) (Nat.le_of_ble_eq_true rfl) (by show va_P (dC, dI) vwCl (catp [wXt g A A1 A2 aq r.2, [(o, .inl (g 6, 1, .inr (.inl (oxI r.1 f))))]] []) H; rw [hof]; exact hP) (by show va_D AA (catp [wXt g A A1 A2 aq r.2, [(o, .inl (g 6, 1, .inr (.inl (oxI r.1 f))))]] []); rw [hof]; exact hD) hS dL_wound_14
    exact absurd hk (by simp [kx, k0])
  rw [hv] at hk
  have hk9 : k = 0 := by simpa [kx] using hk.symm
  subst hk9
  replace hP : va_P (dC, dI) vwCl (catp [wXt g A A1 A2 aq r.2, [(o, .inl (g 6, 1, .inr (.inl f)))]] []) H := hP
  replace hD : va_D AA (catp [wXt g A A1 A2 aq r.2, [(o, .inl (g 6, 1, .inr (.inl f)))]] []) := hD
  refine lv_i2l F.1 F.2.1 dL_wound_7 rfl ?_
  refine va_last F.1 F.2.1 hE.1 hP hD hS 387 6 rfl rfl (inR_in (by decide : inR 0 1 = true)) dL_wound_8 (fun H locs hP hD hS => ?_)
  replace hP : va_P (dC, dI) vwCl (catp [wXt g A A1 A2 aq r.2, [(o, .inl (g 6, 1, .inr (.inl (vp_updL f 0 w.toInt64))))]] []) H := hP
  replace hD : va_D AA (catp [wXt g A A1 A2 aq r.2, [(o, .inl (g 6, 1, .inr (.inl (vp_updL f 0 w.toInt64))))]] []) := hD
  refine lv_goto (tgt := 15) F.1 F.2.1 dL_wound_9 (by decide) ?_
  refine lv_iconst (v := 0) F.1 F.2.1 dL_wound_15 (by decide) ?_
  have hof : oxI r.1 f = vp_updL f 0 w.toInt64 := by rw [hv]; rfl
  exact MZ_i ⟨fun _ => 0, fun _ _ => 0, fun _ _ => 0⟩ F hr hlocks (Nat.le_of_ble_eq_true rfl) (Nat.le_of_ble_eq_true rfl) (by show va_P (dC, dI) vwCl (catp [wXt g A A1 A2 aq r.2, [(o, .inl (g 6, 1, .inr (.inl (oxI r.1 f))))]] []) H; rw [hof]; exact hP) (by show va_D AA (catp [wXt g A A1 A2 aq r.2, [(o, .inl (g 6, 1, .inr (.inl (oxI r.1 f))))]] []); rw [hof]; exact hD) hS dL_wound_16
theorem mbL_woundByParts : MSH yL_woundByParts cL_woundByParts 4 (some .int) [(0, 9, 12, 13)] 3 := ⟨⟨q1387, q0, by decide +kernel⟩, q1386⟩
set_option maxHeartbeats 4000000 in
set_option maxRecDepth 100000 in
theorem tL_woundByParts (l : Launch) (hl9 : l.stackTraces = false) (dC : Nat → ClassId) (dI : Nat → Nat → Nat) (g : Nat → ClassId) (A : Nat → Nat) (A1 A2 : Nat → Nat → Nat) (aq o : Nat) (f : Nat → Int64) (u : XT) (p1 : Int32) {r : (Except String Int32) × XT} (h : gX12_woundByParts u p1 = some r) {k : Int32} (hk : kx ["java/lang/IllegalArgumentException"] r.1 = some k) : MZ l yL_woundByParts cL_woundByParts 4 [(0, 9, 12, 13)] 8 123 1 6 dC dI g [.ref (A 0), .int p1, .ref o] (catp [wXt g A A1 A2 aq u, [(o, .inl (g 6, 1, .inr (.inl f)))]] []) (fun β => catp [wXt g A A1 A2 aq r.2, [(o, .inl (g 6, 1, .inr (.inl (oxI r.1 f))))]] []) k := by
  refine MZ_of (by decide +kernel) (Nat.le_of_ble_eq_true rfl) ?_
  intro p e s m below meth c ls F hr hlocks hC hE hX hA hP hD hS hl
  generalize va_A (catp [wXt g A A1 A2 aq u, [(o, .inl (g 6, 1, .inr (.inl f)))]] []) s.heap.size = AA at hA hD hS hX ⊢
  replace F : CF p m c cL_woundByParts 4 s _ RL := F
  replace hl : lv_has ls 4 [(0, .ref (A 0)), (1, .int p1), (2, .ref o)] := hl
  refine lv_aload_n F.1 F.2.1 dL_woundByParts_0 rfl (lv_at hl 2 rfl) ?_
  refine lv_iconst (v := 0) F.1 F.2.1 dL_woundByParts_1 (by decide) ?_
  refine lv_aload_n F.1 F.2.1 dL_woundByParts_2 rfl (lv_at hl 0 rfl) ?_
  refine lv_iload_n F.1 F.2.1 dL_woundByParts_3 rfl (lv_at hl 1 rfl) ?_
  refine cXV1 (As := [.int p1]) (rest := [.int 0, .ref o]) (post := catp [[(o, .inl (g 6, 1, .inr (.inl f)))]] []) (ws' := catp [wXt g A A1 A2 aq r.2, [(o, .inl (g 6, 1, .inr (.inl f)))]] []) F hE hX (kX12_woundByParts l hl9 dC dI g A A1 A2 aq u p1 h) mbX12_woundByParts q1388 ⟨(Nat.le_of_ble_eq_true rfl), (Nat.le_of_ble_eq_true rfl)⟩ ⟨(Nat.le_of_ble_eq_true rfl), (Nat.le_of_ble_eq_true rfl)⟩ hP hD hS hA [] rfl (wXt_fst g A A1 A2 aq _ _) rfl 0 rfl rfl rfl hl.1 rfl (Nat.le_of_ble_eq_true rfl) dL_woundByParts_4 (fun E ce q9 hx9 H locs hP hD hS h7 h8 h9 => ?_) (fun w hv H locs hP hD hS => ?_)
  · replace hP : va_P (dC, dI) vwCl (catp [wXt g A A1 A2 aq r.2, [(o, .inl (g 6, 1, .inr (.inl f)))]] []) H := hP
    replace hD : va_D AA (catp [wXt g A A1 A2 aq r.2, [(o, .inl (g 6, 1, .inr (.inl f)))]] []) := hD
    rw [hx9] at hk
    have hof : oxI r.1 f = f := by rw [hx9]; rfl
    by_cases k0 : E = "java/lang/IllegalArgumentException"
    · subst k0
      have hk9 : k = 1 := by simpa [kx] using hk.symm
      subst hk9
      refine vx_catch (own := RL) (name := "java/lang/IllegalArgumentException") F.2.2.2.1 [] ⟨0, 9, 12, 13⟩ [] hC (fun _ h9 => absurd h9 List.not_mem_nil) (by decide) (by decide) (F.2.2.2.2 _ q922) (va_Nw.use rfl (hE.2 _ q705)) h7 h8 h9 ?_
      refine lv_astore_n (lv' := [(3, .ref q9), (0, .ref (A 0)), (1, .int p1), (2, .ref o)]) F.1 F.2.1 dL_woundByParts_12 rfl hl (by decide) rfl (fun ls hl => ?_)
      refine lv_iconst (v := 1) F.1 F.2.1 dL_woundByParts_13 (by decide) ?_
      exact MZ_i ⟨fun _ => 0, fun _ _ => 0, fun _ _ => 0⟩ F hr hlocks (Nat.le_of_ble_eq_true rfl) (Nat.le_of_ble_eq_true rfl) (by show va_P (dC, dI) vwCl (catp [wXt g A A1 A2 aq r.2, [(o, .inl (g 6, 1, .inr (.inl (oxI r.1 f))))]] []) H; rw [hof]; exact hP) (by show va_D AA (catp [wXt g A A1 A2 aq r.2, [(o, .inl (g 6, 1, .inr (.inl (oxI r.1 f))))]] []); rw [hof]; exact hD) hS dL_woundByParts_14
    exact absurd hk (by simp [kx, k0])
  rw [hv] at hk
  have hk9 : k = 0 := by simpa [kx] using hk.symm
  subst hk9
  replace hP : va_P (dC, dI) vwCl (catp [wXt g A A1 A2 aq r.2, [(o, .inl (g 6, 1, .inr (.inl f)))]] []) H := hP
  replace hD : va_D AA (catp [wXt g A A1 A2 aq r.2, [(o, .inl (g 6, 1, .inr (.inl f)))]] []) := hD
  refine lv_i2l F.1 F.2.1 dL_woundByParts_7 rfl ?_
  refine va_last F.1 F.2.1 hE.1 hP hD hS 387 6 rfl rfl (inR_in (by decide : inR 0 1 = true)) dL_woundByParts_8 (fun H locs hP hD hS => ?_)
  replace hP : va_P (dC, dI) vwCl (catp [wXt g A A1 A2 aq r.2, [(o, .inl (g 6, 1, .inr (.inl (vp_updL f 0 w.toInt64))))]] []) H := hP
  replace hD : va_D AA (catp [wXt g A A1 A2 aq r.2, [(o, .inl (g 6, 1, .inr (.inl (vp_updL f 0 w.toInt64))))]] []) := hD
  refine lv_goto (tgt := 15) F.1 F.2.1 dL_woundByParts_9 (by decide) ?_
  refine lv_iconst (v := 0) F.1 F.2.1 dL_woundByParts_15 (by decide) ?_
  have hof : oxI r.1 f = vp_updL f 0 w.toInt64 := by rw [hv]; rfl
  exact MZ_i ⟨fun _ => 0, fun _ _ => 0, fun _ _ => 0⟩ F hr hlocks (Nat.le_of_ble_eq_true rfl) (Nat.le_of_ble_eq_true rfl) (by show va_P (dC, dI) vwCl (catp [wXt g A A1 A2 aq r.2, [(o, .inl (g 6, 1, .inr (.inl (oxI r.1 f))))]] []) H; rw [hof]; exact hP) (by show va_D AA (catp [wXt g A A1 A2 aq r.2, [(o, .inl (g 6, 1, .inr (.inl (oxI r.1 f))))]] []); rw [hof]; exact hD) hS dL_woundByParts_16
theorem mbL_delivered : MSH yL_delivered cL_delivered 4 (some .int) [(0, 9, 12, 13)] 3 := ⟨⟨q1394, q0, by decide +kernel⟩, q1393⟩
set_option maxHeartbeats 4000000 in
set_option maxRecDepth 100000 in
theorem tL_delivered (l : Launch) (hl9 : l.stackTraces = false) (dC : Nat → ClassId) (dI : Nat → Nat → Nat) (g : Nat → ClassId) (A : Nat → Nat) (A1 A2 : Nat → Nat → Nat) (aq o : Nat) (f : Nat → Int64) (u : XT) (p1 : Int32) {r : (Except String Int32) × XT} (h : gX12_delivered u p1 = some r) {k : Int32} (hk : kx ["java/lang/IllegalArgumentException"] r.1 = some k) : MZ l yL_delivered cL_delivered 4 [(0, 9, 12, 13)] 8 123 1 6 dC dI g [.ref (A 0), .int p1, .ref o] (catp [wXt g A A1 A2 aq u, [(o, .inl (g 6, 1, .inr (.inl f)))]] []) (fun β => catp [wXt g A A1 A2 aq r.2, [(o, .inl (g 6, 1, .inr (.inl (oxI r.1 f))))]] []) k := by
  refine MZ_of (by decide +kernel) (Nat.le_of_ble_eq_true rfl) ?_
  intro p e s m below meth c ls F hr hlocks hC hE hX hA hP hD hS hl
  generalize va_A (catp [wXt g A A1 A2 aq u, [(o, .inl (g 6, 1, .inr (.inl f)))]] []) s.heap.size = AA at hA hD hS hX ⊢
  replace F : CF p m c cL_delivered 4 s _ RL := F
  replace hl : lv_has ls 4 [(0, .ref (A 0)), (1, .int p1), (2, .ref o)] := hl
  refine lv_aload_n F.1 F.2.1 dL_delivered_0 rfl (lv_at hl 2 rfl) ?_
  refine lv_iconst (v := 0) F.1 F.2.1 dL_delivered_1 (by decide) ?_
  refine lv_aload_n F.1 F.2.1 dL_delivered_2 rfl (lv_at hl 0 rfl) ?_
  refine lv_iload_n F.1 F.2.1 dL_delivered_3 rfl (lv_at hl 1 rfl) ?_
  refine cXV1 (As := [.int p1]) (rest := [.int 0, .ref o]) (post := catp [[(o, .inl (g 6, 1, .inr (.inl f)))]] []) (ws' := catp [wXt g A A1 A2 aq r.2, [(o, .inl (g 6, 1, .inr (.inl f)))]] []) F hE hX (kX12_delivered l hl9 dC dI g A A1 A2 aq u p1 h) mbX12_delivered q1395 ⟨(Nat.le_of_ble_eq_true rfl), (Nat.le_of_ble_eq_true rfl)⟩ ⟨(Nat.le_of_ble_eq_true rfl), (Nat.le_of_ble_eq_true rfl)⟩ hP hD hS hA [] rfl (wXt_fst g A A1 A2 aq _ _) rfl 0 rfl rfl rfl hl.1 rfl (Nat.le_of_ble_eq_true rfl) dL_delivered_4 (fun E ce q9 hx9 H locs hP hD hS h7 h8 h9 => ?_) (fun w hv H locs hP hD hS => ?_)
  · replace hP : va_P (dC, dI) vwCl (catp [wXt g A A1 A2 aq r.2, [(o, .inl (g 6, 1, .inr (.inl f)))]] []) H := hP
    replace hD : va_D AA (catp [wXt g A A1 A2 aq r.2, [(o, .inl (g 6, 1, .inr (.inl f)))]] []) := hD
    rw [hx9] at hk
    have hof : oxI r.1 f = f := by rw [hx9]; rfl
    by_cases k0 : E = "java/lang/IllegalArgumentException"
    · subst k0
      have hk9 : k = 1 := by simpa [kx] using hk.symm
      subst hk9
      refine vx_catch (own := RL) (name := "java/lang/IllegalArgumentException") F.2.2.2.1 [] ⟨0, 9, 12, 13⟩ [] hC (fun _ h9 => absurd h9 List.not_mem_nil) (by decide) (by decide) (F.2.2.2.2 _ q922) (va_Nw.use rfl (hE.2 _ q705)) h7 h8 h9 ?_
      refine lv_astore_n (lv' := [(3, .ref q9), (0, .ref (A 0)), (1, .int p1), (2, .ref o)]) F.1 F.2.1 dL_delivered_12 rfl hl (by decide) rfl (fun ls hl => ?_)
      refine lv_iconst (v := 1) F.1 F.2.1 dL_delivered_13 (by decide) ?_
      exact MZ_i ⟨fun _ => 0, fun _ _ => 0, fun _ _ => 0⟩ F hr hlocks (Nat.le_of_ble_eq_true rfl) (Nat.le_of_ble_eq_true rfl) (by show va_P (dC, dI) vwCl (catp [wXt g A A1 A2 aq r.2, [(o, .inl (g 6, 1, .inr (.inl (oxI r.1 f))))]] []) H; rw [hof]; exact hP) (by show va_D AA (catp [wXt g A A1 A2 aq r.2, [(o, .inl (g 6, 1, .inr (.inl (oxI r.1 f))))]] []); rw [hof]; exact hD) hS dL_delivered_14
    exact absurd hk (by simp [kx, k0])
  rw [hv] at hk
  have hk9 : k = 0 := by simpa [kx] using hk.symm
  subst hk9
  replace hP : va_P (dC, dI) vwCl (catp [wXt g A A1 A2 aq r.2, [(o, .inl (g 6, 1, .inr (.inl f)))]] []) H := hP
  replace hD : va_D AA (catp [wXt g A A1 A2 aq r.2, [(o, .inl (g 6, 1, .inr (.inl f)))]] []) := hD
  refine lv_i2l F.1 F.2.1 dL_delivered_7 rfl ?_
  refine va_last F.1 F.2.1 hE.1 hP hD hS 387 6 rfl rfl (inR_in (by decide : inR 0 1 = true)) dL_delivered_8 (fun H locs hP hD hS => ?_)
  replace hP : va_P (dC, dI) vwCl (catp [wXt g A A1 A2 aq r.2, [(o, .inl (g 6, 1, .inr (.inl (vp_updL f 0 w.toInt64))))]] []) H := hP
  replace hD : va_D AA (catp [wXt g A A1 A2 aq r.2, [(o, .inl (g 6, 1, .inr (.inl (vp_updL f 0 w.toInt64))))]] []) := hD
  refine lv_goto (tgt := 15) F.1 F.2.1 dL_delivered_9 (by decide) ?_
  refine lv_iconst (v := 0) F.1 F.2.1 dL_delivered_15 (by decide) ?_
  have hof : oxI r.1 f = vp_updL f 0 w.toInt64 := by rw [hv]; rfl
  exact MZ_i ⟨fun _ => 0, fun _ _ => 0, fun _ _ => 0⟩ F hr hlocks (Nat.le_of_ble_eq_true rfl) (Nat.le_of_ble_eq_true rfl) (by show va_P (dC, dI) vwCl (catp [wXt g A A1 A2 aq r.2, [(o, .inl (g 6, 1, .inr (.inl (oxI r.1 f))))]] []) H; rw [hof]; exact hP) (by show va_D AA (catp [wXt g A A1 A2 aq r.2, [(o, .inl (g 6, 1, .inr (.inl (oxI r.1 f))))]] []); rw [hof]; exact hD) hS dL_delivered_16
theorem mbL_losses : MSH yL_losses cL_losses 4 (some .int) [(0, 9, 12, 13)] 3 := ⟨⟨q1401, q0, by decide +kernel⟩, q1400⟩
set_option maxHeartbeats 4000000 in
set_option maxRecDepth 100000 in
theorem tL_losses (l : Launch) (hl9 : l.stackTraces = false) (dC : Nat → ClassId) (dI : Nat → Nat → Nat) (g : Nat → ClassId) (A : Nat → Nat) (A1 A2 : Nat → Nat → Nat) (aq o : Nat) (f : Nat → Int64) (u : XT) (p1 : Int32) {r : (Except String Int32) × XT} (h : gX12_losses u p1 = some r) {k : Int32} (hk : kx ["java/lang/IllegalArgumentException"] r.1 = some k) : MZ l yL_losses cL_losses 4 [(0, 9, 12, 13)] 8 123 1 6 dC dI g [.ref (A 0), .int p1, .ref o] (catp [wXt g A A1 A2 aq u, [(o, .inl (g 6, 1, .inr (.inl f)))]] []) (fun β => catp [wXt g A A1 A2 aq r.2, [(o, .inl (g 6, 1, .inr (.inl (oxI r.1 f))))]] []) k := by
  refine MZ_of (by decide +kernel) (Nat.le_of_ble_eq_true rfl) ?_
  intro p e s m below meth c ls F hr hlocks hC hE hX hA hP hD hS hl
  generalize va_A (catp [wXt g A A1 A2 aq u, [(o, .inl (g 6, 1, .inr (.inl f)))]] []) s.heap.size = AA at hA hD hS hX ⊢
  replace F : CF p m c cL_losses 4 s _ RL := F
  replace hl : lv_has ls 4 [(0, .ref (A 0)), (1, .int p1), (2, .ref o)] := hl
  refine lv_aload_n F.1 F.2.1 dL_losses_0 rfl (lv_at hl 2 rfl) ?_
  refine lv_iconst (v := 0) F.1 F.2.1 dL_losses_1 (by decide) ?_
  refine lv_aload_n F.1 F.2.1 dL_losses_2 rfl (lv_at hl 0 rfl) ?_
  refine lv_iload_n F.1 F.2.1 dL_losses_3 rfl (lv_at hl 1 rfl) ?_
  refine cXV1 (As := [.int p1]) (rest := [.int 0, .ref o]) (post := catp [[(o, .inl (g 6, 1, .inr (.inl f)))]] []) (ws' := catp [wXt g A A1 A2 aq r.2, [(o, .inl (g 6, 1, .inr (.inl f)))]] []) F hE hX (kX12_losses l hl9 dC dI g A A1 A2 aq u p1 h) mbX12_losses q1402 ⟨(Nat.le_of_ble_eq_true rfl), (Nat.le_of_ble_eq_true rfl)⟩ ⟨(Nat.le_of_ble_eq_true rfl), (Nat.le_of_ble_eq_true rfl)⟩ hP hD hS hA [] rfl (wXt_fst g A A1 A2 aq _ _) rfl 0 rfl rfl rfl hl.1 rfl (Nat.le_of_ble_eq_true rfl) dL_losses_4 (fun E ce q9 hx9 H locs hP hD hS h7 h8 h9 => ?_) (fun w hv H locs hP hD hS => ?_)
  · replace hP : va_P (dC, dI) vwCl (catp [wXt g A A1 A2 aq r.2, [(o, .inl (g 6, 1, .inr (.inl f)))]] []) H := hP
    replace hD : va_D AA (catp [wXt g A A1 A2 aq r.2, [(o, .inl (g 6, 1, .inr (.inl f)))]] []) := hD
    rw [hx9] at hk
    have hof : oxI r.1 f = f := by rw [hx9]; rfl
    by_cases k0 : E = "java/lang/IllegalArgumentException"
    · subst k0
      have hk9 : k = 1 := by simpa [kx] using hk.symm
      subst hk9
      refine vx_catch (own := RL) (name := "java/lang/IllegalArgumentException") F.2.2.2.1 [] ⟨0, 9, 12, 13⟩ [] hC (fun _ h9 => absurd h9 List.not_mem_nil) (by decide) (by decide) (F.2.2.2.2 _ q922) (va_Nw.use rfl (hE.2 _ q705)) h7 h8 h9 ?_
      refine lv_astore_n (lv' := [(3, .ref q9), (0, .ref (A 0)), (1, .int p1), (2, .ref o)]) F.1 F.2.1 dL_losses_12 rfl hl (by decide) rfl (fun ls hl => ?_)
      refine lv_iconst (v := 1) F.1 F.2.1 dL_losses_13 (by decide) ?_
      exact MZ_i ⟨fun _ => 0, fun _ _ => 0, fun _ _ => 0⟩ F hr hlocks (Nat.le_of_ble_eq_true rfl) (Nat.le_of_ble_eq_true rfl) (by show va_P (dC, dI) vwCl (catp [wXt g A A1 A2 aq r.2, [(o, .inl (g 6, 1, .inr (.inl (oxI r.1 f))))]] []) H; rw [hof]; exact hP) (by show va_D AA (catp [wXt g A A1 A2 aq r.2, [(o, .inl (g 6, 1, .inr (.inl (oxI r.1 f))))]] []); rw [hof]; exact hD) hS dL_losses_14
    exact absurd hk (by simp [kx, k0])
  rw [hv] at hk
  have hk9 : k = 0 := by simpa [kx] using hk.symm
  subst hk9
  replace hP : va_P (dC, dI) vwCl (catp [wXt g A A1 A2 aq r.2, [(o, .inl (g 6, 1, .inr (.inl f)))]] []) H := hP
  replace hD : va_D AA (catp [wXt g A A1 A2 aq r.2, [(o, .inl (g 6, 1, .inr (.inl f)))]] []) := hD
  refine lv_i2l F.1 F.2.1 dL_losses_7 rfl ?_
  refine va_last F.1 F.2.1 hE.1 hP hD hS 387 6 rfl rfl (inR_in (by decide : inR 0 1 = true)) dL_losses_8 (fun H locs hP hD hS => ?_)
  replace hP : va_P (dC, dI) vwCl (catp [wXt g A A1 A2 aq r.2, [(o, .inl (g 6, 1, .inr (.inl (vp_updL f 0 w.toInt64))))]] []) H := hP
  replace hD : va_D AA (catp [wXt g A A1 A2 aq r.2, [(o, .inl (g 6, 1, .inr (.inl (vp_updL f 0 w.toInt64))))]] []) := hD
  refine lv_goto (tgt := 15) F.1 F.2.1 dL_losses_9 (by decide) ?_
  refine lv_iconst (v := 0) F.1 F.2.1 dL_losses_15 (by decide) ?_
  have hof : oxI r.1 f = vp_updL f 0 w.toInt64 := by rw [hv]; rfl
  exact MZ_i ⟨fun _ => 0, fun _ _ => 0, fun _ _ => 0⟩ F hr hlocks (Nat.le_of_ble_eq_true rfl) (Nat.le_of_ble_eq_true rfl) (by show va_P (dC, dI) vwCl (catp [wXt g A A1 A2 aq r.2, [(o, .inl (g 6, 1, .inr (.inl (oxI r.1 f))))]] []) H; rw [hof]; exact hP) (by show va_D AA (catp [wXt g A A1 A2 aq r.2, [(o, .inl (g 6, 1, .inr (.inl (oxI r.1 f))))]] []); rw [hof]; exact hD) hS dL_losses_16
theorem mbL_meanRemaining : MSH yL_meanRemaining cL_meanRemaining 3 (some .int) [(0, 7, 10, 115)] 2 := ⟨⟨q1408, q0, by decide +kernel⟩, q1407⟩
set_option maxHeartbeats 4000000 in
set_option maxRecDepth 100000 in
theorem tL_meanRemaining (l : Launch) (hl9 : l.stackTraces = false) (dC : Nat → ClassId) (dI : Nat → Nat → Nat) (g : Nat → ClassId) (A : Nat → Nat) (A1 A2 : Nat → Nat → Nat) (aq o : Nat) (f : Nat → UInt64) (u : XT) {r : (Except String UInt64) × XT} (h : gX12_meanRemaining u = some r) {k : Int32} (hk : kx ["java/lang/ArithmeticException"] r.1 = some k) : MZ l yL_meanRemaining cL_meanRemaining 3 [(0, 7, 10, 115)] 7 103 1 6 dC dI g [.ref (A 0), .ref o] (catp [wXt g A A1 A2 aq u, [(o, .inl (g 7, 1, .inr (.inr (.inr (.inl f)))))]] []) (fun β => catp [wXt g A A1 A2 aq r.2, [(o, .inl (g 7, 1, .inr (.inr (.inr (.inl (oxD r.1 f))))))]] []) k := by
  refine MZ_of (by decide +kernel) (Nat.le_of_ble_eq_true rfl) ?_
  intro p e s m below meth c ls F hr hlocks hC hE hX hA hP hD hS hl
  generalize va_A (catp [wXt g A A1 A2 aq u, [(o, .inl (g 7, 1, .inr (.inr (.inr (.inl f)))))]] []) s.heap.size = AA at hA hD hS hX ⊢
  replace F : CF p m c cL_meanRemaining 3 s _ RL := F
  replace hl : lv_has ls 3 [(0, .ref (A 0)), (1, .ref o)] := hl
  refine lv_aload_n F.1 F.2.1 dL_meanRemaining_0 rfl (lv_at hl 1 rfl) ?_
  refine lv_iconst (v := 0) F.1 F.2.1 dL_meanRemaining_1 (by decide) ?_
  refine lv_aload_n F.1 F.2.1 dL_meanRemaining_2 rfl (lv_at hl 0 rfl) ?_
  refine cXV1 (As := []) (rest := [.int 0, .ref o]) (post := catp [[(o, .inl (g 7, 1, .inr (.inr (.inr (.inl f)))))]] []) (ws' := catp [wXt g A A1 A2 aq r.2, [(o, .inl (g 7, 1, .inr (.inr (.inr (.inl f)))))]] []) F hE hX (kX12_meanRemaining l hl9 dC dI g A A1 A2 aq u h) mbX12_meanRemaining q1423 ⟨(Nat.le_of_ble_eq_true rfl), (Nat.le_of_ble_eq_true rfl)⟩ ⟨(Nat.le_of_ble_eq_true rfl), (Nat.le_of_ble_eq_true rfl)⟩ hP hD hS hA [] rfl (wXt_fst g A A1 A2 aq _ _) rfl 0 rfl rfl rfl hl.1 rfl (Nat.le_of_ble_eq_true rfl) dL_meanRemaining_3 (fun E ce q9 hx9 H locs hP hD hS h7 h8 h9 => ?_) (fun w hv H locs hP hD hS => ?_)
  · replace hP : va_P (dC, dI) vwCl (catp [wXt g A A1 A2 aq r.2, [(o, .inl (g 7, 1, .inr (.inr (.inr (.inl f)))))]] []) H := hP
    replace hD : va_D AA (catp [wXt g A A1 A2 aq r.2, [(o, .inl (g 7, 1, .inr (.inr (.inr (.inl f)))))]] []) := hD
    rw [hx9] at hk
    have hof : oxD r.1 f = f := by rw [hx9]; rfl
    by_cases k0 : E = "java/lang/ArithmeticException"
    · subst k0
      have hk9 : k = 1 := by simpa [kx] using hk.symm
      subst hk9
      refine vx_catch (own := RL) (name := "java/lang/ArithmeticException") F.2.2.2.1 [] ⟨0, 7, 10, 115⟩ [] hC (fun _ h9 => absurd h9 List.not_mem_nil) (by decide) (by decide) (F.2.2.2.2 _ q1409) (va_Nw.use rfl (hE.2 _ q1421)) h7 h8 h9 ?_
      refine lv_astore_n (lv' := [(2, .ref q9), (0, .ref (A 0)), (1, .ref o)]) F.1 F.2.1 dL_meanRemaining_10 rfl hl (by decide) rfl (fun ls hl => ?_)
      refine lv_iconst (v := 1) F.1 F.2.1 dL_meanRemaining_11 (by decide) ?_
      exact MZ_i ⟨fun _ => 0, fun _ _ => 0, fun _ _ => 0⟩ F hr hlocks (Nat.le_of_ble_eq_true rfl) (Nat.le_of_ble_eq_true rfl) (by show va_P (dC, dI) vwCl (catp [wXt g A A1 A2 aq r.2, [(o, .inl (g 7, 1, .inr (.inr (.inr (.inl (oxD r.1 f))))))]] []) H; rw [hof]; exact hP) (by show va_D AA (catp [wXt g A A1 A2 aq r.2, [(o, .inl (g 7, 1, .inr (.inr (.inr (.inl (oxD r.1 f))))))]] []); rw [hof]; exact hD) hS dL_meanRemaining_12
    exact absurd hk (by simp [kx, k0])
  rw [hv] at hk
  have hk9 : k = 0 := by simpa [kx] using hk.symm
  subst hk9
  replace hP : va_P (dC, dI) vwCl (catp [wXt g A A1 A2 aq r.2, [(o, .inl (g 7, 1, .inr (.inr (.inr (.inl f)))))]] []) H := hP
  replace hD : va_D AA (catp [wXt g A A1 A2 aq r.2, [(o, .inl (g 7, 1, .inr (.inr (.inr (.inl f)))))]] []) := hD
  refine va_dast F.1 F.2.1 hE.1 hP hD hS 387 7 rfl rfl (inR_in (by decide : inR 0 1 = true)) dL_meanRemaining_6 (fun H locs hP hD hS => ?_)
  replace hP : va_P (dC, dI) vwCl (catp [wXt g A A1 A2 aq r.2, [(o, .inl (g 7, 1, .inr (.inr (.inr (.inl (vf_upd f 0 w))))))]] []) H := hP
  replace hD : va_D AA (catp [wXt g A A1 A2 aq r.2, [(o, .inl (g 7, 1, .inr (.inr (.inr (.inl (vf_upd f 0 w))))))]] []) := hD
  refine lv_goto (tgt := 13) F.1 F.2.1 dL_meanRemaining_7 (by decide) ?_
  refine lv_iconst (v := 0) F.1 F.2.1 dL_meanRemaining_13 (by decide) ?_
  have hof : oxD r.1 f = vf_upd f 0 w := by rw [hv]; rfl
  exact MZ_i ⟨fun _ => 0, fun _ _ => 0, fun _ _ => 0⟩ F hr hlocks (Nat.le_of_ble_eq_true rfl) (Nat.le_of_ble_eq_true rfl) (by show va_P (dC, dI) vwCl (catp [wXt g A A1 A2 aq r.2, [(o, .inl (g 7, 1, .inr (.inr (.inr (.inl (oxD r.1 f))))))]] []) H; rw [hof]; exact hP) (by show va_D AA (catp [wXt g A A1 A2 aq r.2, [(o, .inl (g 7, 1, .inr (.inr (.inr (.inl (oxD r.1 f))))))]] []); rw [hof]; exact hD) hS dL_meanRemaining_14
theorem mbL_lossRate : MSH yL_lossRate cL_lossRate 3 (some .int) [(0, 8, 11, 115)] 2 := ⟨⟨q1437, q0, by decide +kernel⟩, q1436⟩
set_option maxHeartbeats 4000000 in
set_option maxRecDepth 100000 in
theorem tL_lossRate (l : Launch) (hl9 : l.stackTraces = false) (dC : Nat → ClassId) (dI : Nat → Nat → Nat) (g : Nat → ClassId) (A : Nat → Nat) (A1 A2 : Nat → Nat → Nat) (aq o : Nat) (f : Nat → UInt64) (u : XT) {r : (Except String UInt32) × XT} (h : gX12_lossRate u = some r) {k : Int32} (hk : kx ["java/lang/ArithmeticException"] r.1 = some k) (hn : ∀ v, r.1 = .ok v → vf_n64 (FP.f2d v)) : MZ l yL_lossRate cL_lossRate 3 [(0, 8, 11, 115)] 7 104 1 6 dC dI g [.ref (A 0), .ref o] (catp [wXt g A A1 A2 aq u, [(o, .inl (g 7, 1, .inr (.inr (.inr (.inl f)))))]] []) (fun β => catp [wXt g A A1 A2 aq r.2, [(o, .inl (g 7, 1, .inr (.inr (.inr (.inl (oxF r.1 f))))))]] []) k := by
  refine MZ_of (by decide +kernel) (Nat.le_of_ble_eq_true rfl) ?_
  intro p e s m below meth c ls F hr hlocks hC hE hX hA hP hD hS hl
  generalize va_A (catp [wXt g A A1 A2 aq u, [(o, .inl (g 7, 1, .inr (.inr (.inr (.inl f)))))]] []) s.heap.size = AA at hA hD hS hX ⊢
  replace F : CF p m c cL_lossRate 3 s _ RL := F
  replace hl : lv_has ls 3 [(0, .ref (A 0)), (1, .ref o)] := hl
  refine lv_aload_n F.1 F.2.1 dL_lossRate_0 rfl (lv_at hl 1 rfl) ?_
  refine lv_iconst (v := 0) F.1 F.2.1 dL_lossRate_1 (by decide) ?_
  refine lv_aload_n F.1 F.2.1 dL_lossRate_2 rfl (lv_at hl 0 rfl) ?_
  refine cXV1 (As := []) (rest := [.int 0, .ref o]) (post := catp [[(o, .inl (g 7, 1, .inr (.inr (.inr (.inl f)))))]] []) (ws' := catp [wXt g A A1 A2 aq r.2, [(o, .inl (g 7, 1, .inr (.inr (.inr (.inl f)))))]] []) F hE hX (kX12_lossRate l hl9 dC dI g A A1 A2 aq u h) mbX12_lossRate q1438 ⟨(Nat.le_of_ble_eq_true rfl), (Nat.le_of_ble_eq_true rfl)⟩ ⟨(Nat.le_of_ble_eq_true rfl), (Nat.le_of_ble_eq_true rfl)⟩ hP hD hS hA [] rfl (wXt_fst g A A1 A2 aq _ _) rfl 0 rfl rfl rfl hl.1 rfl (Nat.le_of_ble_eq_true rfl) dL_lossRate_3 (fun E ce q9 hx9 H locs hP hD hS h7 h8 h9 => ?_) (fun w hv H locs hP hD hS => ?_)
  · replace hP : va_P (dC, dI) vwCl (catp [wXt g A A1 A2 aq r.2, [(o, .inl (g 7, 1, .inr (.inr (.inr (.inl f)))))]] []) H := hP
    replace hD : va_D AA (catp [wXt g A A1 A2 aq r.2, [(o, .inl (g 7, 1, .inr (.inr (.inr (.inl f)))))]] []) := hD
    rw [hx9] at hk
    have hof : oxF r.1 f = f := by rw [hx9]; rfl
    by_cases k0 : E = "java/lang/ArithmeticException"
    · subst k0
      have hk9 : k = 1 := by simpa [kx] using hk.symm
      subst hk9
      refine vx_catch (own := RL) (name := "java/lang/ArithmeticException") F.2.2.2.1 [] ⟨0, 8, 11, 115⟩ [] hC (fun _ h9 => absurd h9 List.not_mem_nil) (by decide) (by decide) (F.2.2.2.2 _ q1409) (va_Nw.use rfl (hE.2 _ q1421)) h7 h8 h9 ?_
      refine lv_astore_n (lv' := [(2, .ref q9), (0, .ref (A 0)), (1, .ref o)]) F.1 F.2.1 dL_lossRate_11 rfl hl (by decide) rfl (fun ls hl => ?_)
      refine lv_iconst (v := 1) F.1 F.2.1 dL_lossRate_12 (by decide) ?_
      exact MZ_i ⟨fun _ => 0, fun _ _ => 0, fun _ _ => 0⟩ F hr hlocks (Nat.le_of_ble_eq_true rfl) (Nat.le_of_ble_eq_true rfl) (by show va_P (dC, dI) vwCl (catp [wXt g A A1 A2 aq r.2, [(o, .inl (g 7, 1, .inr (.inr (.inr (.inl (oxF r.1 f))))))]] []) H; rw [hof]; exact hP) (by show va_D AA (catp [wXt g A A1 A2 aq r.2, [(o, .inl (g 7, 1, .inr (.inr (.inr (.inl (oxF r.1 f))))))]] []); rw [hof]; exact hD) hS dL_lossRate_13
    exact absurd hk (by simp [kx, k0])
  rw [hv] at hk
  have hk9 : k = 0 := by simpa [kx] using hk.symm
  subst hk9
  replace hP : va_P (dC, dI) vwCl (catp [wXt g A A1 A2 aq r.2, [(o, .inl (g 7, 1, .inr (.inr (.inr (.inl f)))))]] []) H := hP
  replace hD : va_D AA (catp [wXt g A A1 A2 aq r.2, [(o, .inl (g 7, 1, .inr (.inr (.inr (.inl f)))))]] []) := hD
  refine lv_f2d F.1 F.2.1 dL_lossRate_6 (hn w hv) ?_
  refine va_dast F.1 F.2.1 hE.1 hP hD hS 387 7 rfl rfl (inR_in (by decide : inR 0 1 = true)) dL_lossRate_7 (fun H locs hP hD hS => ?_)
  replace hP : va_P (dC, dI) vwCl (catp [wXt g A A1 A2 aq r.2, [(o, .inl (g 7, 1, .inr (.inr (.inr (.inl (vf_upd f 0 (FP.f2d w)))))))]] []) H := hP
  replace hD : va_D AA (catp [wXt g A A1 A2 aq r.2, [(o, .inl (g 7, 1, .inr (.inr (.inr (.inl (vf_upd f 0 (FP.f2d w)))))))]] []) := hD
  refine lv_goto (tgt := 14) F.1 F.2.1 dL_lossRate_8 (by decide) ?_
  refine lv_iconst (v := 0) F.1 F.2.1 dL_lossRate_14 (by decide) ?_
  have hof : oxF r.1 f = vf_upd f 0 (FP.f2d w) := by rw [hv]; rfl
  exact MZ_i ⟨fun _ => 0, fun _ _ => 0, fun _ _ => 0⟩ F hr hlocks (Nat.le_of_ble_eq_true rfl) (Nat.le_of_ble_eq_true rfl) (by show va_P (dC, dI) vwCl (catp [wXt g A A1 A2 aq r.2, [(o, .inl (g 7, 1, .inr (.inr (.inr (.inl (oxF r.1 f))))))]] []) H; rw [hof]; exact hP) (by show va_D AA (catp [wXt g A A1 A2 aq r.2, [(o, .inl (g 7, 1, .inr (.inr (.inr (.inl (oxF r.1 f))))))]] []); rw [hof]; exact hD) hS dL_lossRate_15
