theorem mbL_setKerf : MSH yL_setKerf cL_setKerf 4 (some .int) [(0, 9, 12, 13)] 3 := ⟨⟨q1189, q0, by decide +kernel⟩, q1188⟩
set_option maxHeartbeats 4000000 in
set_option maxRecDepth 100000 in
theorem tL_setKerf (l : Launch) (hl9 : l.stackTraces = false) (dC : Nat → ClassId) (dI : Nat → Nat → Nat) (g : Nat → ClassId) (A : Nat → Nat) (A1 A2 : Nat → Nat → Nat) (aq o : Nat) (f : Nat → Int64) (u : XT) (p1 : Int32) {r : (Except String Int32) × XT} (h : gX12_setKerf u p1 = some r) {k : Int32} (hk : kx ["java/lang/IllegalArgumentException"] r.1 = some k) : MZ l yL_setKerf cL_setKerf 4 [(0, 9, 12, 13)] 8 126 1 6 dC dI g [.ref (A 0), .int p1, .ref o] (catp [wXt g A A1 A2 aq u, [(o, .inl (g 6, 1, .inr (.inl f)))]] []) (fun β => catp [wXt g A A1 A2 aq r.2, [(o, .inl (g 6, 1, .inr (.inl (oxI r.1 f))))]] []) k := by
  refine MZ_of (by decide +kernel) (Nat.le_of_ble_eq_true rfl) ?_
  intro p e s m below meth c ls F hr hlocks hC hE hX hA hP hD hS hl
  generalize va_A (catp [wXt g A A1 A2 aq u, [(o, .inl (g 6, 1, .inr (.inl f)))]] []) s.heap.size = AA at hA hD hS hX ⊢
  replace F : CF p m c cL_setKerf 4 s _ RL := F
  replace hl : lv_has ls 4 [(0, .ref (A 0)), (1, .int p1), (2, .ref o)] := hl
  refine lv_aload_n F.1 F.2.1 dL_setKerf_0 rfl (lv_at hl 2 rfl) ?_
  refine lv_iconst (v := 0) F.1 F.2.1 dL_setKerf_1 (by decide) ?_
  refine lv_aload_n F.1 F.2.1 dL_setKerf_2 rfl (lv_at hl 0 rfl) ?_
  refine lv_iload_n F.1 F.2.1 dL_setKerf_3 rfl (lv_at hl 1 rfl) ?_
  refine cXV1 (As := [.int p1]) (rest := [.int 0, .ref o]) (post := catp [[(o, .inl (g 6, 1, .inr (.inl f)))]] []) (ws' := catp [wXt g A A1 A2 aq r.2, [(o, .inl (g 6, 1, .inr (.inl f)))]] []) F hE hX (kX12_setKerf l hl9 dC dI g A A1 A2 aq u p1 h) mbX12_setKerf q1190 ⟨(Nat.le_of_ble_eq_true rfl), (Nat.le_of_ble_eq_true rfl)⟩ ⟨(Nat.le_of_ble_eq_true rfl), (Nat.le_of_ble_eq_true rfl)⟩ hP hD hS hA [] rfl (wXt_fst g A A1 A2 aq _ _) rfl 0 rfl rfl rfl hl.1 rfl (Nat.le_of_ble_eq_true rfl) dL_setKerf_4 (fun E ce q9 hx9 H locs hP hD hS h7 h8 h9 => ?_) (fun w hv H locs hP hD hS => ?_)
  · replace hP : va_P (dC, dI) vwCl (catp [wXt g A A1 A2 aq r.2, [(o, .inl (g 6, 1, .inr (.inl f)))]] []) H := hP
    replace hD : va_D AA (catp [wXt g A A1 A2 aq r.2, [(o, .inl (g 6, 1, .inr (.inl f)))]] []) := hD
    rw [hx9] at hk
    have hof : oxI r.1 f = f := by rw [hx9]; rfl
    by_cases k0 : E = "java/lang/IllegalArgumentException"
    · subst k0
      have hk9 : k = 1 := by simpa [kx] using hk.symm
      subst hk9
      refine vx_catch (own := RL) (name := "java/lang/IllegalArgumentException") F.2.2.2.1 [] ⟨0, 9, 12, 13⟩ [] hC (fun _ h9 => absurd h9 List.not_mem_nil) (by decide) (by decide) (F.2.2.2.2 _ q922) (va_Nw.use rfl (hE.2 _ q705)) h7 h8 h9 ?_
      refine lv_astore_n (lv' := [(3, .ref q9), (0, .ref (A 0)), (1, .int p1), (2, .ref o)]) F.1 F.2.1 dL_setKerf_12 rfl hl (by decide) rfl (fun ls hl => ?_)
      refine lv_iconst (v := 1) F.1 F.2.1 dL_setKerf_13 (by decide) ?_
      exact MZ_i ⟨fun _ => 0, fun _ _ => 0, fun _ _ => 0⟩ F hr hlocks (Nat.le_of_ble_eq_true rfl) (Nat.le_of_ble_eq_true rfl) (by show va_P (dC, dI) vwCl (catp [wXt g A A1 A2 aq r.2, [(o, .inl (g 6, 1, .inr (.inl (oxI r.1 f))))]] []) H; rw [hof]; exact hP) (by show va_D AA (catp [wXt g A A1 A2 aq r.2, [(o, .inl (g 6, 1, .inr (.inl (oxI r.1 f))))]] []); rw [hof]; exact hD) hS dL_setKerf_14
    exact absurd hk (by simp [kx, k0])
  rw [hv] at hk
  have hk9 : k = 0 := by simpa [kx] using hk.symm
  subst hk9
  replace hP : va_P (dC, dI) vwCl (catp [wXt g A A1 A2 aq r.2, [(o, .inl (g 6, 1, .inr (.inl f)))]] []) H := hP
  replace hD : va_D AA (catp [wXt g A A1 A2 aq r.2, [(o, .inl (g 6, 1, .inr (.inl f)))]] []) := hD
  refine lv_i2l F.1 F.2.1 dL_setKerf_7 rfl ?_
  refine va_last F.1 F.2.1 hE.1 hP hD hS 387 6 rfl rfl (inR_in (by decide : inR 0 1 = true)) dL_setKerf_8 (fun H locs hP hD hS => ?_)
  replace hP : va_P (dC, dI) vwCl (catp [wXt g A A1 A2 aq r.2, [(o, .inl (g 6, 1, .inr (.inl (vp_updL f 0 w.toInt64))))]] []) H := hP
  replace hD : va_D AA (catp [wXt g A A1 A2 aq r.2, [(o, .inl (g 6, 1, .inr (.inl (vp_updL f 0 w.toInt64))))]] []) := hD
  refine lv_goto (tgt := 15) F.1 F.2.1 dL_setKerf_9 (by decide) ?_
  refine lv_iconst (v := 0) F.1 F.2.1 dL_setKerf_15 (by decide) ?_
  have hof : oxI r.1 f = vp_updL f 0 w.toInt64 := by rw [hv]; rfl
  exact MZ_i ⟨fun _ => 0, fun _ _ => 0, fun _ _ => 0⟩ F hr hlocks (Nat.le_of_ble_eq_true rfl) (Nat.le_of_ble_eq_true rfl) (by show va_P (dC, dI) vwCl (catp [wXt g A A1 A2 aq r.2, [(o, .inl (g 6, 1, .inr (.inl (oxI r.1 f))))]] []) H; rw [hof]; exact hP) (by show va_D AA (catp [wXt g A A1 A2 aq r.2, [(o, .inl (g 6, 1, .inr (.inl (oxI r.1 f))))]] []); rw [hof]; exact hD) hS dL_setKerf_16
theorem mbL_setScrapLimit : MSH yL_setScrapLimit cL_setScrapLimit 4 (some .int) [(0, 9, 12, 13)] 3 := ⟨⟨q1201, q0, by decide +kernel⟩, q1200⟩
set_option maxHeartbeats 4000000 in
set_option maxRecDepth 100000 in
theorem tL_setScrapLimit (l : Launch) (hl9 : l.stackTraces = false) (dC : Nat → ClassId) (dI : Nat → Nat → Nat) (g : Nat → ClassId) (A : Nat → Nat) (A1 A2 : Nat → Nat → Nat) (aq o : Nat) (f : Nat → Int64) (u : XT) (p1 : Int32) {r : (Except String Int32) × XT} (h : gX12_setScrapLimit u p1 = some r) {k : Int32} (hk : kx ["java/lang/IllegalArgumentException"] r.1 = some k) : MZ l yL_setScrapLimit cL_setScrapLimit 4 [(0, 9, 12, 13)] 8 126 1 6 dC dI g [.ref (A 0), .int p1, .ref o] (catp [wXt g A A1 A2 aq u, [(o, .inl (g 6, 1, .inr (.inl f)))]] []) (fun β => catp [wXt g A A1 A2 aq r.2, [(o, .inl (g 6, 1, .inr (.inl (oxI r.1 f))))]] []) k := by
  refine MZ_of (by decide +kernel) (Nat.le_of_ble_eq_true rfl) ?_
  intro p e s m below meth c ls F hr hlocks hC hE hX hA hP hD hS hl
  generalize va_A (catp [wXt g A A1 A2 aq u, [(o, .inl (g 6, 1, .inr (.inl f)))]] []) s.heap.size = AA at hA hD hS hX ⊢
  replace F : CF p m c cL_setScrapLimit 4 s _ RL := F
  replace hl : lv_has ls 4 [(0, .ref (A 0)), (1, .int p1), (2, .ref o)] := hl
  refine lv_aload_n F.1 F.2.1 dL_setScrapLimit_0 rfl (lv_at hl 2 rfl) ?_
  refine lv_iconst (v := 0) F.1 F.2.1 dL_setScrapLimit_1 (by decide) ?_
  refine lv_aload_n F.1 F.2.1 dL_setScrapLimit_2 rfl (lv_at hl 0 rfl) ?_
  refine lv_iload_n F.1 F.2.1 dL_setScrapLimit_3 rfl (lv_at hl 1 rfl) ?_
  refine cXV1 (As := [.int p1]) (rest := [.int 0, .ref o]) (post := catp [[(o, .inl (g 6, 1, .inr (.inl f)))]] []) (ws' := catp [wXt g A A1 A2 aq r.2, [(o, .inl (g 6, 1, .inr (.inl f)))]] []) F hE hX (kX12_setScrapLimit l hl9 dC dI g A A1 A2 aq u p1 h) mbX12_setScrapLimit q1202 ⟨(Nat.le_of_ble_eq_true rfl), (Nat.le_of_ble_eq_true rfl)⟩ ⟨(Nat.le_of_ble_eq_true rfl), (Nat.le_of_ble_eq_true rfl)⟩ hP hD hS hA [] rfl (wXt_fst g A A1 A2 aq _ _) rfl 0 rfl rfl rfl hl.1 rfl (Nat.le_of_ble_eq_true rfl) dL_setScrapLimit_4 (fun E ce q9 hx9 H locs hP hD hS h7 h8 h9 => ?_) (fun w hv H locs hP hD hS => ?_)
  · replace hP : va_P (dC, dI) vwCl (catp [wXt g A A1 A2 aq r.2, [(o, .inl (g 6, 1, .inr (.inl f)))]] []) H := hP
    replace hD : va_D AA (catp [wXt g A A1 A2 aq r.2, [(o, .inl (g 6, 1, .inr (.inl f)))]] []) := hD
    rw [hx9] at hk
    have hof : oxI r.1 f = f := by rw [hx9]; rfl
    by_cases k0 : E = "java/lang/IllegalArgumentException"
    · subst k0
      have hk9 : k = 1 := by simpa [kx] using hk.symm
      subst hk9
      refine vx_catch (own := RL) (name := "java/lang/IllegalArgumentException") F.2.2.2.1 [] ⟨0, 9, 12, 13⟩ [] hC (fun _ h9 => absurd h9 List.not_mem_nil) (by decide) (by decide) (F.2.2.2.2 _ q922) (va_Nw.use rfl (hE.2 _ q705)) h7 h8 h9 ?_
      refine lv_astore_n (lv' := [(3, .ref q9), (0, .ref (A 0)), (1, .int p1), (2, .ref o)]) F.1 F.2.1 dL_setScrapLimit_12 rfl hl (by decide) rfl (fun ls hl => ?_)
      refine lv_iconst (v := 1) F.1 F.2.1 dL_setScrapLimit_13 (by decide) ?_
      exact MZ_i ⟨fun _ => 0, fun _ _ => 0, fun _ _ => 0⟩ F hr hlocks (Nat.le_of_ble_eq_true rfl) (Nat.le_of_ble_eq_true rfl) (by show va_P (dC, dI) vwCl (catp [wXt g A A1 A2 aq r.2, [(o, .inl (g 6, 1, .inr (.inl (oxI r.1 f))))]] []) H; rw [hof]; exact hP) (by show va_D AA (catp [wXt g A A1 A2 aq r.2, [(o, .inl (g 6, 1, .inr (.inl (oxI r.1 f))))]] []); rw [hof]; exact hD) hS dL_setScrapLimit_14
    exact absurd hk (by simp [kx, k0])
  rw [hv] at hk
  have hk9 : k = 0 := by simpa [kx] using hk.symm
  subst hk9
  replace hP : va_P (dC, dI) vwCl (catp [wXt g A A1 A2 aq r.2, [(o, .inl (g 6, 1, .inr (.inl f)))]] []) H := hP
  replace hD : va_D AA (catp [wXt g A A1 A2 aq r.2, [(o, .inl (g 6, 1, .inr (.inl f)))]] []) := hD
  refine lv_i2l F.1 F.2.1 dL_setScrapLimit_7 rfl ?_
  refine va_last F.1 F.2.1 hE.1 hP hD hS 387 6 rfl rfl (inR_in (by decide : inR 0 1 = true)) dL_setScrapLimit_8 (fun H locs hP hD hS => ?_)
  replace hP : va_P (dC, dI) vwCl (catp [wXt g A A1 A2 aq r.2, [(o, .inl (g 6, 1, .inr (.inl (vp_updL f 0 w.toInt64))))]] []) H := hP
  replace hD : va_D AA (catp [wXt g A A1 A2 aq r.2, [(o, .inl (g 6, 1, .inr (.inl (vp_updL f 0 w.toInt64))))]] []) := hD
  refine lv_goto (tgt := 15) F.1 F.2.1 dL_setScrapLimit_9 (by decide) ?_
  refine lv_iconst (v := 0) F.1 F.2.1 dL_setScrapLimit_15 (by decide) ?_
  have hof : oxI r.1 f = vp_updL f 0 w.toInt64 := by rw [hv]; rfl
  exact MZ_i ⟨fun _ => 0, fun _ _ => 0, fun _ _ => 0⟩ F hr hlocks (Nat.le_of_ble_eq_true rfl) (Nat.le_of_ble_eq_true rfl) (by show va_P (dC, dI) vwCl (catp [wXt g A A1 A2 aq r.2, [(o, .inl (g 6, 1, .inr (.inl (oxI r.1 f))))]] []) H; rw [hof]; exact hP) (by show va_D AA (catp [wXt g A A1 A2 aq r.2, [(o, .inl (g 6, 1, .inr (.inl (oxI r.1 f))))]] []); rw [hof]; exact hD) hS dL_setScrapLimit_16
theorem mbL_setRule : MSH yL_setRule cL_setRule 4 (some .int) [(0, 9, 12, 13)] 3 := ⟨⟨q1213, q0, by decide +kernel⟩, q1212⟩
set_option maxHeartbeats 4000000 in
set_option maxRecDepth 100000 in
theorem tL_setRule (l : Launch) (hl9 : l.stackTraces = false) (dC : Nat → ClassId) (dI : Nat → Nat → Nat) (g : Nat → ClassId) (A : Nat → Nat) (A1 A2 : Nat → Nat → Nat) (aq o : Nat) (f : Nat → Int64) (u : XT) (p1 : Int32) {r : (Except String Int32) × XT} (h : gX12_setRule u p1 = some r) {k : Int32} (hk : kx ["java/lang/IllegalArgumentException"] r.1 = some k) : MZ l yL_setRule cL_setRule 4 [(0, 9, 12, 13)] 8 126 1 6 dC dI g [.ref (A 0), .int p1, .ref o] (catp [wXt g A A1 A2 aq u, [(o, .inl (g 6, 1, .inr (.inl f)))]] []) (fun β => catp [wXt g A A1 A2 aq r.2, [(o, .inl (g 6, 1, .inr (.inl (oxI r.1 f))))]] []) k := by
  refine MZ_of (by decide +kernel) (Nat.le_of_ble_eq_true rfl) ?_
  intro p e s m below meth c ls F hr hlocks hC hE hX hA hP hD hS hl
  generalize va_A (catp [wXt g A A1 A2 aq u, [(o, .inl (g 6, 1, .inr (.inl f)))]] []) s.heap.size = AA at hA hD hS hX ⊢
  replace F : CF p m c cL_setRule 4 s _ RL := F
  replace hl : lv_has ls 4 [(0, .ref (A 0)), (1, .int p1), (2, .ref o)] := hl
  refine lv_aload_n F.1 F.2.1 dL_setRule_0 rfl (lv_at hl 2 rfl) ?_
  refine lv_iconst (v := 0) F.1 F.2.1 dL_setRule_1 (by decide) ?_
  refine lv_aload_n F.1 F.2.1 dL_setRule_2 rfl (lv_at hl 0 rfl) ?_
  refine lv_iload_n F.1 F.2.1 dL_setRule_3 rfl (lv_at hl 1 rfl) ?_
  refine cXV1 (As := [.int p1]) (rest := [.int 0, .ref o]) (post := catp [[(o, .inl (g 6, 1, .inr (.inl f)))]] []) (ws' := catp [wXt g A A1 A2 aq r.2, [(o, .inl (g 6, 1, .inr (.inl f)))]] []) F hE hX (kX12_setRule l hl9 dC dI g A A1 A2 aq u p1 h) mbX12_setRule q1214 ⟨(Nat.le_of_ble_eq_true rfl), (Nat.le_of_ble_eq_true rfl)⟩ ⟨(Nat.le_of_ble_eq_true rfl), (Nat.le_of_ble_eq_true rfl)⟩ hP hD hS hA [] rfl (wXt_fst g A A1 A2 aq _ _) rfl 0 rfl rfl rfl hl.1 rfl (Nat.le_of_ble_eq_true rfl) dL_setRule_4 (fun E ce q9 hx9 H locs hP hD hS h7 h8 h9 => ?_) (fun w hv H locs hP hD hS => ?_)
  · replace hP : va_P (dC, dI) vwCl (catp [wXt g A A1 A2 aq r.2, [(o, .inl (g 6, 1, .inr (.inl f)))]] []) H := hP
    replace hD : va_D AA (catp [wXt g A A1 A2 aq r.2, [(o, .inl (g 6, 1, .inr (.inl f)))]] []) := hD
    rw [hx9] at hk
    have hof : oxI r.1 f = f := by rw [hx9]; rfl
    by_cases k0 : E = "java/lang/IllegalArgumentException"
    · subst k0
      have hk9 : k = 1 := by simpa [kx] using hk.symm
      subst hk9
      refine vx_catch (own := RL) (name := "java/lang/IllegalArgumentException") F.2.2.2.1 [] ⟨0, 9, 12, 13⟩ [] hC (fun _ h9 => absurd h9 List.not_mem_nil) (by decide) (by decide) (F.2.2.2.2 _ q922) (va_Nw.use rfl (hE.2 _ q705)) h7 h8 h9 ?_
      refine lv_astore_n (lv' := [(3, .ref q9), (0, .ref (A 0)), (1, .int p1), (2, .ref o)]) F.1 F.2.1 dL_setRule_12 rfl hl (by decide) rfl (fun ls hl => ?_)
      refine lv_iconst (v := 1) F.1 F.2.1 dL_setRule_13 (by decide) ?_
      exact MZ_i ⟨fun _ => 0, fun _ _ => 0, fun _ _ => 0⟩ F hr hlocks (Nat.le_of_ble_eq_true rfl) (Nat.le_of_ble_eq_true rfl) (by show va_P (dC, dI) vwCl (catp [wXt g A A1 A2 aq r.2, [(o, .inl (g 6, 1, .inr (.inl (oxI r.1 f))))]] []) H; rw [hof]; exact hP) (by show va_D AA (catp [wXt g A A1 A2 aq r.2, [(o, .inl (g 6, 1, .inr (.inl (oxI r.1 f))))]] []); rw [hof]; exact hD) hS dL_setRule_14
    exact absurd hk (by simp [kx, k0])
  rw [hv] at hk
  have hk9 : k = 0 := by simpa [kx] using hk.symm
  subst hk9
  replace hP : va_P (dC, dI) vwCl (catp [wXt g A A1 A2 aq r.2, [(o, .inl (g 6, 1, .inr (.inl f)))]] []) H := hP
  replace hD : va_D AA (catp [wXt g A A1 A2 aq r.2, [(o, .inl (g 6, 1, .inr (.inl f)))]] []) := hD
  refine lv_i2l F.1 F.2.1 dL_setRule_7 rfl ?_
  refine va_last F.1 F.2.1 hE.1 hP hD hS 387 6 rfl rfl (inR_in (by decide : inR 0 1 = true)) dL_setRule_8 (fun H locs hP hD hS => ?_)
  replace hP : va_P (dC, dI) vwCl (catp [wXt g A A1 A2 aq r.2, [(o, .inl (g 6, 1, .inr (.inl (vp_updL f 0 w.toInt64))))]] []) H := hP
  replace hD : va_D AA (catp [wXt g A A1 A2 aq r.2, [(o, .inl (g 6, 1, .inr (.inl (vp_updL f 0 w.toInt64))))]] []) := hD
  refine lv_goto (tgt := 15) F.1 F.2.1 dL_setRule_9 (by decide) ?_
  refine lv_iconst (v := 0) F.1 F.2.1 dL_setRule_15 (by decide) ?_
  have hof : oxI r.1 f = vp_updL f 0 w.toInt64 := by rw [hv]; rfl
  exact MZ_i ⟨fun _ => 0, fun _ _ => 0, fun _ _ => 0⟩ F hr hlocks (Nat.le_of_ble_eq_true rfl) (Nat.le_of_ble_eq_true rfl) (by show va_P (dC, dI) vwCl (catp [wXt g A A1 A2 aq r.2, [(o, .inl (g 6, 1, .inr (.inl (oxI r.1 f))))]] []) H; rw [hof]; exact hP) (by show va_D AA (catp [wXt g A A1 A2 aq r.2, [(o, .inl (g 6, 1, .inr (.inl (oxI r.1 f))))]] []); rw [hof]; exact hD) hS dL_setRule_16
theorem mbL_material : MSH yL_material cL_material 4 (some .int) [(0, 9, 12, 21)] 3 := ⟨⟨q1228, q0, by decide +kernel⟩, q1227⟩
set_option maxHeartbeats 4000000 in
set_option maxRecDepth 100000 in
theorem tL_material (l : Launch) (hl9 : l.stackTraces = false) (dC : Nat → ClassId) (dI : Nat → Nat → Nat) (g : Nat → ClassId) (A : Nat → Nat) (A1 A2 : Nat → Nat → Nat) (aq o : Nat) (f : Nat → Int64) (u : XT) (p1 : Int32) {r : (Except String Int32) × XT} (h : gX12_material u p1 = some r) {k : Int32} (hk : kx ["java/util/NoSuchElementException"] r.1 = some k) : MZ l yL_material cL_material 4 [(0, 9, 12, 21)] 8 125 1 6 dC dI g [.ref (A 0), .int p1, .ref o] (catp [wXt g A A1 A2 aq u, [(o, .inl (g 6, 1, .inr (.inl f)))]] []) (fun β => catp [wXt g A A1 A2 aq r.2, [(o, .inl (g 6, 1, .inr (.inl (oxI r.1 f))))]] []) k := by
  refine MZ_of (by decide +kernel) (Nat.le_of_ble_eq_true rfl) ?_
  intro p e s m below meth c ls F hr hlocks hC hE hX hA hP hD hS hl
  generalize va_A (catp [wXt g A A1 A2 aq u, [(o, .inl (g 6, 1, .inr (.inl f)))]] []) s.heap.size = AA at hA hD hS hX ⊢
  replace F : CF p m c cL_material 4 s _ RL := F
  replace hl : lv_has ls 4 [(0, .ref (A 0)), (1, .int p1), (2, .ref o)] := hl
  refine lv_aload_n F.1 F.2.1 dL_material_0 rfl (lv_at hl 2 rfl) ?_
  refine lv_iconst (v := 0) F.1 F.2.1 dL_material_1 (by decide) ?_
  refine lv_aload_n F.1 F.2.1 dL_material_2 rfl (lv_at hl 0 rfl) ?_
  refine lv_iload_n F.1 F.2.1 dL_material_3 rfl (lv_at hl 1 rfl) ?_
  refine cXV1 (As := [.int p1]) (rest := [.int 0, .ref o]) (post := catp [[(o, .inl (g 6, 1, .inr (.inl f)))]] []) (ws' := catp [wXt g A A1 A2 aq r.2, [(o, .inl (g 6, 1, .inr (.inl f)))]] []) F hE hX (kX12_material l hl9 dC dI g A A1 A2 aq u p1 h) mbX12_material q1229 ⟨(Nat.le_of_ble_eq_true rfl), (Nat.le_of_ble_eq_true rfl)⟩ ⟨(Nat.le_of_ble_eq_true rfl), (Nat.le_of_ble_eq_true rfl)⟩ hP hD hS hA [] rfl (wXt_fst g A A1 A2 aq _ _) rfl 0 rfl rfl rfl hl.1 rfl (Nat.le_of_ble_eq_true rfl) dL_material_4 (fun E ce q9 hx9 H locs hP hD hS h7 h8 h9 => ?_) (fun w hv H locs hP hD hS => ?_)
  · replace hP : va_P (dC, dI) vwCl (catp [wXt g A A1 A2 aq r.2, [(o, .inl (g 6, 1, .inr (.inl f)))]] []) H := hP
    replace hD : va_D AA (catp [wXt g A A1 A2 aq r.2, [(o, .inl (g 6, 1, .inr (.inl f)))]] []) := hD
    rw [hx9] at hk
    have hof : oxI r.1 f = f := by rw [hx9]; rfl
    by_cases k0 : E = "java/util/NoSuchElementException"
    · subst k0
      have hk9 : k = 1 := by simpa [kx] using hk.symm
      subst hk9
      refine vx_catch (own := RL) (name := "java/util/NoSuchElementException") F.2.2.2.1 [] ⟨0, 9, 12, 21⟩ [] hC (fun _ h9 => absurd h9 List.not_mem_nil) (by decide) (by decide) (F.2.2.2.2 _ q982) (va_Nw.use rfl (hE.2 _ q998)) h7 h8 h9 ?_
      refine lv_astore_n (lv' := [(3, .ref q9), (0, .ref (A 0)), (1, .int p1), (2, .ref o)]) F.1 F.2.1 dL_material_12 rfl hl (by decide) rfl (fun ls hl => ?_)
      refine lv_iconst (v := 1) F.1 F.2.1 dL_material_13 (by decide) ?_
      exact MZ_i ⟨fun _ => 0, fun _ _ => 0, fun _ _ => 0⟩ F hr hlocks (Nat.le_of_ble_eq_true rfl) (Nat.le_of_ble_eq_true rfl) (by show va_P (dC, dI) vwCl (catp [wXt g A A1 A2 aq r.2, [(o, .inl (g 6, 1, .inr (.inl (oxI r.1 f))))]] []) H; rw [hof]; exact hP) (by show va_D AA (catp [wXt g A A1 A2 aq r.2, [(o, .inl (g 6, 1, .inr (.inl (oxI r.1 f))))]] []); rw [hof]; exact hD) hS dL_material_14
    exact absurd hk (by simp [kx, k0])
  rw [hv] at hk
  have hk9 : k = 0 := by simpa [kx] using hk.symm
  subst hk9
  replace hP : va_P (dC, dI) vwCl (catp [wXt g A A1 A2 aq r.2, [(o, .inl (g 6, 1, .inr (.inl f)))]] []) H := hP
  replace hD : va_D AA (catp [wXt g A A1 A2 aq r.2, [(o, .inl (g 6, 1, .inr (.inl f)))]] []) := hD
  refine lv_i2l F.1 F.2.1 dL_material_7 rfl ?_
  refine va_last F.1 F.2.1 hE.1 hP hD hS 387 6 rfl rfl (inR_in (by decide : inR 0 1 = true)) dL_material_8 (fun H locs hP hD hS => ?_)
  replace hP : va_P (dC, dI) vwCl (catp [wXt g A A1 A2 aq r.2, [(o, .inl (g 6, 1, .inr (.inl (vp_updL f 0 w.toInt64))))]] []) H := hP
  replace hD : va_D AA (catp [wXt g A A1 A2 aq r.2, [(o, .inl (g 6, 1, .inr (.inl (vp_updL f 0 w.toInt64))))]] []) := hD
  refine lv_goto (tgt := 15) F.1 F.2.1 dL_material_9 (by decide) ?_
  refine lv_iconst (v := 0) F.1 F.2.1 dL_material_15 (by decide) ?_
  have hof : oxI r.1 f = vp_updL f 0 w.toInt64 := by rw [hv]; rfl
  exact MZ_i ⟨fun _ => 0, fun _ _ => 0, fun _ _ => 0⟩ F hr hlocks (Nat.le_of_ble_eq_true rfl) (Nat.le_of_ble_eq_true rfl) (by show va_P (dC, dI) vwCl (catp [wXt g A A1 A2 aq r.2, [(o, .inl (g 6, 1, .inr (.inl (oxI r.1 f))))]] []) H; rw [hof]; exact hP) (by show va_D AA (catp [wXt g A A1 A2 aq r.2, [(o, .inl (g 6, 1, .inr (.inl (oxI r.1 f))))]] []); rw [hof]; exact hD) hS dL_material_16
theorem mbL_remaining : MSH yL_remaining cL_remaining 4 (some .int) [(0, 9, 12, 21)] 3 := ⟨⟨q1237, q0, by decide +kernel⟩, q1236⟩
set_option maxHeartbeats 4000000 in
set_option maxRecDepth 100000 in
theorem tL_remaining (l : Launch) (hl9 : l.stackTraces = false) (dC : Nat → ClassId) (dI : Nat → Nat → Nat) (g : Nat → ClassId) (A : Nat → Nat) (A1 A2 : Nat → Nat → Nat) (aq o : Nat) (f : Nat → Int64) (u : XT) (p1 : Int32) {r : (Except String Int32) × XT} (h : gX12_remaining u p1 = some r) {k : Int32} (hk : kx ["java/util/NoSuchElementException"] r.1 = some k) : MZ l yL_remaining cL_remaining 4 [(0, 9, 12, 21)] 8 125 1 6 dC dI g [.ref (A 0), .int p1, .ref o] (catp [wXt g A A1 A2 aq u, [(o, .inl (g 6, 1, .inr (.inl f)))]] []) (fun β => catp [wXt g A A1 A2 aq r.2, [(o, .inl (g 6, 1, .inr (.inl (oxI r.1 f))))]] []) k := by
  refine MZ_of (by decide +kernel) (Nat.le_of_ble_eq_true rfl) ?_
  intro p e s m below meth c ls F hr hlocks hC hE hX hA hP hD hS hl
  generalize va_A (catp [wXt g A A1 A2 aq u, [(o, .inl (g 6, 1, .inr (.inl f)))]] []) s.heap.size = AA at hA hD hS hX ⊢
  replace F : CF p m c cL_remaining 4 s _ RL := F
  replace hl : lv_has ls 4 [(0, .ref (A 0)), (1, .int p1), (2, .ref o)] := hl
  refine lv_aload_n F.1 F.2.1 dL_remaining_0 rfl (lv_at hl 2 rfl) ?_
  refine lv_iconst (v := 0) F.1 F.2.1 dL_remaining_1 (by decide) ?_
  refine lv_aload_n F.1 F.2.1 dL_remaining_2 rfl (lv_at hl 0 rfl) ?_
  refine lv_iload_n F.1 F.2.1 dL_remaining_3 rfl (lv_at hl 1 rfl) ?_
  refine cXV1 (As := [.int p1]) (rest := [.int 0, .ref o]) (post := catp [[(o, .inl (g 6, 1, .inr (.inl f)))]] []) (ws' := catp [wXt g A A1 A2 aq r.2, [(o, .inl (g 6, 1, .inr (.inl f)))]] []) F hE hX (kX12_remaining l hl9 dC dI g A A1 A2 aq u p1 h) mbX12_remaining q1238 ⟨(Nat.le_of_ble_eq_true rfl), (Nat.le_of_ble_eq_true rfl)⟩ ⟨(Nat.le_of_ble_eq_true rfl), (Nat.le_of_ble_eq_true rfl)⟩ hP hD hS hA [] rfl (wXt_fst g A A1 A2 aq _ _) rfl 0 rfl rfl rfl hl.1 rfl (Nat.le_of_ble_eq_true rfl) dL_remaining_4 (fun E ce q9 hx9 H locs hP hD hS h7 h8 h9 => ?_) (fun w hv H locs hP hD hS => ?_)
  · replace hP : va_P (dC, dI) vwCl (catp [wXt g A A1 A2 aq r.2, [(o, .inl (g 6, 1, .inr (.inl f)))]] []) H := hP
    replace hD : va_D AA (catp [wXt g A A1 A2 aq r.2, [(o, .inl (g 6, 1, .inr (.inl f)))]] []) := hD
    rw [hx9] at hk
    have hof : oxI r.1 f = f := by rw [hx9]; rfl
    by_cases k0 : E = "java/util/NoSuchElementException"
    · subst k0
      have hk9 : k = 1 := by simpa [kx] using hk.symm
      subst hk9
      refine vx_catch (own := RL) (name := "java/util/NoSuchElementException") F.2.2.2.1 [] ⟨0, 9, 12, 21⟩ [] hC (fun _ h9 => absurd h9 List.not_mem_nil) (by decide) (by decide) (F.2.2.2.2 _ q982) (va_Nw.use rfl (hE.2 _ q998)) h7 h8 h9 ?_
      refine lv_astore_n (lv' := [(3, .ref q9), (0, .ref (A 0)), (1, .int p1), (2, .ref o)]) F.1 F.2.1 dL_remaining_12 rfl hl (by decide) rfl (fun ls hl => ?_)
      refine lv_iconst (v := 1) F.1 F.2.1 dL_remaining_13 (by decide) ?_
      exact MZ_i ⟨fun _ => 0, fun _ _ => 0, fun _ _ => 0⟩ F hr hlocks (Nat.le_of_ble_eq_true rfl) (Nat.le_of_ble_eq_true rfl) (by show va_P (dC, dI) vwCl (catp [wXt g A A1 A2 aq r.2, [(o, .inl (g 6, 1, .inr (.inl (oxI r.1 f))))]] []) H; rw [hof]; exact hP) (by show va_D AA (catp [wXt g A A1 A2 aq r.2, [(o, .inl (g 6, 1, .inr (.inl (oxI r.1 f))))]] []); rw [hof]; exact hD) hS dL_remaining_14
    exact absurd hk (by simp [kx, k0])
  rw [hv] at hk
  have hk9 : k = 0 := by simpa [kx] using hk.symm
  subst hk9
  replace hP : va_P (dC, dI) vwCl (catp [wXt g A A1 A2 aq r.2, [(o, .inl (g 6, 1, .inr (.inl f)))]] []) H := hP
  replace hD : va_D AA (catp [wXt g A A1 A2 aq r.2, [(o, .inl (g 6, 1, .inr (.inl f)))]] []) := hD
  refine lv_i2l F.1 F.2.1 dL_remaining_7 rfl ?_
  refine va_last F.1 F.2.1 hE.1 hP hD hS 387 6 rfl rfl (inR_in (by decide : inR 0 1 = true)) dL_remaining_8 (fun H locs hP hD hS => ?_)
  replace hP : va_P (dC, dI) vwCl (catp [wXt g A A1 A2 aq r.2, [(o, .inl (g 6, 1, .inr (.inl (vp_updL f 0 w.toInt64))))]] []) H := hP
  replace hD : va_D AA (catp [wXt g A A1 A2 aq r.2, [(o, .inl (g 6, 1, .inr (.inl (vp_updL f 0 w.toInt64))))]] []) := hD
  refine lv_goto (tgt := 15) F.1 F.2.1 dL_remaining_9 (by decide) ?_
  refine lv_iconst (v := 0) F.1 F.2.1 dL_remaining_15 (by decide) ?_
  have hof : oxI r.1 f = vp_updL f 0 w.toInt64 := by rw [hv]; rfl
  exact MZ_i ⟨fun _ => 0, fun _ _ => 0, fun _ _ => 0⟩ F hr hlocks (Nat.le_of_ble_eq_true rfl) (Nat.le_of_ble_eq_true rfl) (by show va_P (dC, dI) vwCl (catp [wXt g A A1 A2 aq r.2, [(o, .inl (g 6, 1, .inr (.inl (oxI r.1 f))))]] []) H; rw [hof]; exact hP) (by show va_D AA (catp [wXt g A A1 A2 aq r.2, [(o, .inl (g 6, 1, .inr (.inl (oxI r.1 f))))]] []); rw [hof]; exact hD) hS dL_remaining_16
theorem mbL_cuts : MSH yL_cuts cL_cuts 4 (some .int) [(0, 9, 12, 21)] 3 := ⟨⟨q1245, q0, by decide +kernel⟩, q1244⟩
set_option maxHeartbeats 4000000 in
set_option maxRecDepth 100000 in
theorem tL_cuts (l : Launch) (hl9 : l.stackTraces = false) (dC : Nat → ClassId) (dI : Nat → Nat → Nat) (g : Nat → ClassId) (A : Nat → Nat) (A1 A2 : Nat → Nat → Nat) (aq o : Nat) (f : Nat → Int64) (u : XT) (p1 : Int32) {r : (Except String Int32) × XT} (h : gX12_cuts u p1 = some r) {k : Int32} (hk : kx ["java/util/NoSuchElementException"] r.1 = some k) : MZ l yL_cuts cL_cuts 4 [(0, 9, 12, 21)] 8 125 1 6 dC dI g [.ref (A 0), .int p1, .ref o] (catp [wXt g A A1 A2 aq u, [(o, .inl (g 6, 1, .inr (.inl f)))]] []) (fun β => catp [wXt g A A1 A2 aq r.2, [(o, .inl (g 6, 1, .inr (.inl (oxI r.1 f))))]] []) k := by
  refine MZ_of (by decide +kernel) (Nat.le_of_ble_eq_true rfl) ?_
  intro p e s m below meth c ls F hr hlocks hC hE hX hA hP hD hS hl
  generalize va_A (catp [wXt g A A1 A2 aq u, [(o, .inl (g 6, 1, .inr (.inl f)))]] []) s.heap.size = AA at hA hD hS hX ⊢
  replace F : CF p m c cL_cuts 4 s _ RL := F
  replace hl : lv_has ls 4 [(0, .ref (A 0)), (1, .int p1), (2, .ref o)] := hl
  refine lv_aload_n F.1 F.2.1 dL_cuts_0 rfl (lv_at hl 2 rfl) ?_
  refine lv_iconst (v := 0) F.1 F.2.1 dL_cuts_1 (by decide) ?_
  refine lv_aload_n F.1 F.2.1 dL_cuts_2 rfl (lv_at hl 0 rfl) ?_
  refine lv_iload_n F.1 F.2.1 dL_cuts_3 rfl (lv_at hl 1 rfl) ?_
  refine cXV1 (As := [.int p1]) (rest := [.int 0, .ref o]) (post := catp [[(o, .inl (g 6, 1, .inr (.inl f)))]] []) (ws' := catp [wXt g A A1 A2 aq r.2, [(o, .inl (g 6, 1, .inr (.inl f)))]] []) F hE hX (kX12_cuts l hl9 dC dI g A A1 A2 aq u p1 h) mbX12_cuts q1246 ⟨(Nat.le_of_ble_eq_true rfl), (Nat.le_of_ble_eq_true rfl)⟩ ⟨(Nat.le_of_ble_eq_true rfl), (Nat.le_of_ble_eq_true rfl)⟩ hP hD hS hA [] rfl (wXt_fst g A A1 A2 aq _ _) rfl 0 rfl rfl rfl hl.1 rfl (Nat.le_of_ble_eq_true rfl) dL_cuts_4 (fun E ce q9 hx9 H locs hP hD hS h7 h8 h9 => ?_) (fun w hv H locs hP hD hS => ?_)
  · replace hP : va_P (dC, dI) vwCl (catp [wXt g A A1 A2 aq r.2, [(o, .inl (g 6, 1, .inr (.inl f)))]] []) H := hP
    replace hD : va_D AA (catp [wXt g A A1 A2 aq r.2, [(o, .inl (g 6, 1, .inr (.inl f)))]] []) := hD
    rw [hx9] at hk
    have hof : oxI r.1 f = f := by rw [hx9]; rfl
    by_cases k0 : E = "java/util/NoSuchElementException"
    · subst k0
      have hk9 : k = 1 := by simpa [kx] using hk.symm
      subst hk9
      refine vx_catch (own := RL) (name := "java/util/NoSuchElementException") F.2.2.2.1 [] ⟨0, 9, 12, 21⟩ [] hC (fun _ h9 => absurd h9 List.not_mem_nil) (by decide) (by decide) (F.2.2.2.2 _ q982) (va_Nw.use rfl (hE.2 _ q998)) h7 h8 h9 ?_
      refine lv_astore_n (lv' := [(3, .ref q9), (0, .ref (A 0)), (1, .int p1), (2, .ref o)]) F.1 F.2.1 dL_cuts_12 rfl hl (by decide) rfl (fun ls hl => ?_)
      refine lv_iconst (v := 1) F.1 F.2.1 dL_cuts_13 (by decide) ?_
      exact MZ_i ⟨fun _ => 0, fun _ _ => 0, fun _ _ => 0⟩ F hr hlocks (Nat.le_of_ble_eq_true rfl) (Nat.le_of_ble_eq_true rfl) (by show va_P (dC, dI) vwCl (catp [wXt g A A1 A2 aq r.2, [(o, .inl (g 6, 1, .inr (.inl (oxI r.1 f))))]] []) H; rw [hof]; exact hP) (by show va_D AA (catp [wXt g A A1 A2 aq r.2, [(o, .inl (g 6, 1, .inr (.inl (oxI r.1 f))))]] []); rw [hof]; exact hD) hS dL_cuts_14
    exact absurd hk (by simp [kx, k0])
  rw [hv] at hk
  have hk9 : k = 0 := by simpa [kx] using hk.symm
  subst hk9
  replace hP : va_P (dC, dI) vwCl (catp [wXt g A A1 A2 aq r.2, [(o, .inl (g 6, 1, .inr (.inl f)))]] []) H := hP
  replace hD : va_D AA (catp [wXt g A A1 A2 aq r.2, [(o, .inl (g 6, 1, .inr (.inl f)))]] []) := hD
  refine lv_i2l F.1 F.2.1 dL_cuts_7 rfl ?_
  refine va_last F.1 F.2.1 hE.1 hP hD hS 387 6 rfl rfl (inR_in (by decide : inR 0 1 = true)) dL_cuts_8 (fun H locs hP hD hS => ?_)
  replace hP : va_P (dC, dI) vwCl (catp [wXt g A A1 A2 aq r.2, [(o, .inl (g 6, 1, .inr (.inl (vp_updL f 0 w.toInt64))))]] []) H := hP
  replace hD : va_D AA (catp [wXt g A A1 A2 aq r.2, [(o, .inl (g 6, 1, .inr (.inl (vp_updL f 0 w.toInt64))))]] []) := hD
  refine lv_goto (tgt := 15) F.1 F.2.1 dL_cuts_9 (by decide) ?_
  refine lv_iconst (v := 0) F.1 F.2.1 dL_cuts_15 (by decide) ?_
  have hof : oxI r.1 f = vp_updL f 0 w.toInt64 := by rw [hv]; rfl
  exact MZ_i ⟨fun _ => 0, fun _ _ => 0, fun _ _ => 0⟩ F hr hlocks (Nat.le_of_ble_eq_true rfl) (Nat.le_of_ble_eq_true rfl) (by show va_P (dC, dI) vwCl (catp [wXt g A A1 A2 aq r.2, [(o, .inl (g 6, 1, .inr (.inl (oxI r.1 f))))]] []) H; rw [hof]; exact hP) (by show va_D AA (catp [wXt g A A1 A2 aq r.2, [(o, .inl (g 6, 1, .inr (.inl (oxI r.1 f))))]] []); rw [hof]; exact hD) hS dL_cuts_16
theorem mbL_spoolByLength : MSH yL_spoolByLength cL_spoolByLength 4 (some .int) [(0, 9, 12, 21)] 3 := ⟨⟨q1256, q0, by decide +kernel⟩, q1255⟩
set_option maxHeartbeats 4000000 in
set_option maxRecDepth 100000 in
theorem tL_spoolByLength (l : Launch) (hl9 : l.stackTraces = false) (dC : Nat → ClassId) (dI : Nat → Nat → Nat) (g : Nat → ClassId) (A : Nat → Nat) (A1 A2 : Nat → Nat → Nat) (aq o : Nat) (f : Nat → Int64) (u : XT) (p1 : Int32) {r : (Except String Int32) × XT} (h : gX12_spoolByLength u p1 = some r) {k : Int32} (hk : kx ["java/util/NoSuchElementException"] r.1 = some k) : MZ l yL_spoolByLength cL_spoolByLength 4 [(0, 9, 12, 21)] 7 110 1 6 dC dI g [.ref (A 0), .int p1, .ref o] (catp [wXt g A A1 A2 aq u, [(o, .inl (g 6, 1, .inr (.inl f)))]] []) (fun β => catp [wXt g A A1 A2 aq r.2, [(o, .inl (g 6, 1, .inr (.inl (oxI r.1 f))))]] []) k := by
  refine MZ_of (by decide +kernel) (Nat.le_of_ble_eq_true rfl) ?_
  intro p e s m below meth c ls F hr hlocks hC hE hX hA hP hD hS hl
  generalize va_A (catp [wXt g A A1 A2 aq u, [(o, .inl (g 6, 1, .inr (.inl f)))]] []) s.heap.size = AA at hA hD hS hX ⊢
  replace F : CF p m c cL_spoolByLength 4 s _ RL := F
  replace hl : lv_has ls 4 [(0, .ref (A 0)), (1, .int p1), (2, .ref o)] := hl
  refine lv_aload_n F.1 F.2.1 dL_spoolByLength_0 rfl (lv_at hl 2 rfl) ?_
  refine lv_iconst (v := 0) F.1 F.2.1 dL_spoolByLength_1 (by decide) ?_
  refine lv_aload_n F.1 F.2.1 dL_spoolByLength_2 rfl (lv_at hl 0 rfl) ?_
  refine lv_iload_n F.1 F.2.1 dL_spoolByLength_3 rfl (lv_at hl 1 rfl) ?_
  refine cXV1 (As := [.int p1]) (rest := [.int 0, .ref o]) (post := catp [[(o, .inl (g 6, 1, .inr (.inl f)))]] []) (ws' := catp [wXt g A A1 A2 aq r.2, [(o, .inl (g 6, 1, .inr (.inl f)))]] []) F hE hX (kX12_spoolByLength l hl9 dC dI g A A1 A2 aq u p1 h) mbX12_spoolByLength q1257 ⟨(Nat.le_of_ble_eq_true rfl), (Nat.le_of_ble_eq_true rfl)⟩ ⟨(Nat.le_of_ble_eq_true rfl), (Nat.le_of_ble_eq_true rfl)⟩ hP hD hS hA [] rfl (wXt_fst g A A1 A2 aq _ _) rfl 0 rfl rfl rfl hl.1 rfl (Nat.le_of_ble_eq_true rfl) dL_spoolByLength_4 (fun E ce q9 hx9 H locs hP hD hS h7 h8 h9 => ?_) (fun w hv H locs hP hD hS => ?_)
  · replace hP : va_P (dC, dI) vwCl (catp [wXt g A A1 A2 aq r.2, [(o, .inl (g 6, 1, .inr (.inl f)))]] []) H := hP
    replace hD : va_D AA (catp [wXt g A A1 A2 aq r.2, [(o, .inl (g 6, 1, .inr (.inl f)))]] []) := hD
    rw [hx9] at hk
    have hof : oxI r.1 f = f := by rw [hx9]; rfl
    by_cases k0 : E = "java/util/NoSuchElementException"
    · subst k0
      have hk9 : k = 1 := by simpa [kx] using hk.symm
      subst hk9
      refine vx_catch (own := RL) (name := "java/util/NoSuchElementException") F.2.2.2.1 [] ⟨0, 9, 12, 21⟩ [] hC (fun _ h9 => absurd h9 List.not_mem_nil) (by decide) (by decide) (F.2.2.2.2 _ q982) (va_Nw.use rfl (hE.2 _ q998)) h7 h8 h9 ?_
      refine lv_astore_n (lv' := [(3, .ref q9), (0, .ref (A 0)), (1, .int p1), (2, .ref o)]) F.1 F.2.1 dL_spoolByLength_12 rfl hl (by decide) rfl (fun ls hl => ?_)
      refine lv_iconst (v := 1) F.1 F.2.1 dL_spoolByLength_13 (by decide) ?_
      exact MZ_i ⟨fun _ => 0, fun _ _ => 0, fun _ _ => 0⟩ F hr hlocks (Nat.le_of_ble_eq_true rfl) (Nat.le_of_ble_eq_true rfl) (by show va_P (dC, dI) vwCl (catp [wXt g A A1 A2 aq r.2, [(o, .inl (g 6, 1, .inr (.inl (oxI r.1 f))))]] []) H; rw [hof]; exact hP) (by show va_D AA (catp [wXt g A A1 A2 aq r.2, [(o, .inl (g 6, 1, .inr (.inl (oxI r.1 f))))]] []); rw [hof]; exact hD) hS dL_spoolByLength_14
    exact absurd hk (by simp [kx, k0])
  rw [hv] at hk
  have hk9 : k = 0 := by simpa [kx] using hk.symm
  subst hk9
  replace hP : va_P (dC, dI) vwCl (catp [wXt g A A1 A2 aq r.2, [(o, .inl (g 6, 1, .inr (.inl f)))]] []) H := hP
  replace hD : va_D AA (catp [wXt g A A1 A2 aq r.2, [(o, .inl (g 6, 1, .inr (.inl f)))]] []) := hD
  refine lv_i2l F.1 F.2.1 dL_spoolByLength_7 rfl ?_
  refine va_last F.1 F.2.1 hE.1 hP hD hS 387 6 rfl rfl (inR_in (by decide : inR 0 1 = true)) dL_spoolByLength_8 (fun H locs hP hD hS => ?_)
  replace hP : va_P (dC, dI) vwCl (catp [wXt g A A1 A2 aq r.2, [(o, .inl (g 6, 1, .inr (.inl (vp_updL f 0 w.toInt64))))]] []) H := hP
  replace hD : va_D AA (catp [wXt g A A1 A2 aq r.2, [(o, .inl (g 6, 1, .inr (.inl (vp_updL f 0 w.toInt64))))]] []) := hD
  refine lv_goto (tgt := 15) F.1 F.2.1 dL_spoolByLength_9 (by decide) ?_
  refine lv_iconst (v := 0) F.1 F.2.1 dL_spoolByLength_15 (by decide) ?_
  have hof : oxI r.1 f = vp_updL f 0 w.toInt64 := by rw [hv]; rfl
  exact MZ_i ⟨fun _ => 0, fun _ _ => 0, fun _ _ => 0⟩ F hr hlocks (Nat.le_of_ble_eq_true rfl) (Nat.le_of_ble_eq_true rfl) (by show va_P (dC, dI) vwCl (catp [wXt g A A1 A2 aq r.2, [(o, .inl (g 6, 1, .inr (.inl (oxI r.1 f))))]] []) H; rw [hof]; exact hP) (by show va_D AA (catp [wXt g A A1 A2 aq r.2, [(o, .inl (g 6, 1, .inr (.inl (oxI r.1 f))))]] []); rw [hof]; exact hD) hS dL_spoolByLength_16
theorem mbL_scraps : MSH yL_scraps cL_scraps 4 (some .int) [(0, 9, 12, 13)] 3 := ⟨⟨q1279, q0, by decide +kernel⟩, q1278⟩
set_option maxHeartbeats 4000000 in
set_option maxRecDepth 100000 in
theorem tL_scraps (l : Launch) (hl9 : l.stackTraces = false) (dC : Nat → ClassId) (dI : Nat → Nat → Nat) (g : Nat → ClassId) (A : Nat → Nat) (A1 A2 : Nat → Nat → Nat) (aq o : Nat) (f : Nat → Int64) (u : XT) (p1 : Int32) {r : (Except String Int32) × XT} (h : gX12_scraps u p1 = some r) {k : Int32} (hk : kx ["java/lang/IllegalArgumentException"] r.1 = some k) : MZ l yL_scraps cL_scraps 4 [(0, 9, 12, 13)] 8 123 1 6 dC dI g [.ref (A 0), .int p1, .ref o] (catp [wXt g A A1 A2 aq u, [(o, .inl (g 6, 1, .inr (.inl f)))]] []) (fun β => catp [wXt g A A1 A2 aq r.2, [(o, .inl (g 6, 1, .inr (.inl (oxI r.1 f))))]] []) k := by
  refine MZ_of (by decide +kernel) (Nat.le_of_ble_eq_true rfl) ?_
  intro p e s m below meth c ls F hr hlocks hC hE hX hA hP hD hS hl
  generalize va_A (catp [wXt g A A1 A2 aq u, [(o, .inl (g 6, 1, .inr (.inl f)))]] []) s.heap.size = AA at hA hD hS hX ⊢
  replace F : CF p m c cL_scraps 4 s _ RL := F
  replace hl : lv_has ls 4 [(0, .ref (A 0)), (1, .int p1), (2, .ref o)] := hl
  refine lv_aload_n F.1 F.2.1 dL_scraps_0 rfl (lv_at hl 2 rfl) ?_
  refine lv_iconst (v := 0) F.1 F.2.1 dL_scraps_1 (by decide) ?_
  refine lv_aload_n F.1 F.2.1 dL_scraps_2 rfl (lv_at hl 0 rfl) ?_
  refine lv_iload_n F.1 F.2.1 dL_scraps_3 rfl (lv_at hl 1 rfl) ?_
  refine cXV1 (As := [.int p1]) (rest := [.int 0, .ref o]) (post := catp [[(o, .inl (g 6, 1, .inr (.inl f)))]] []) (ws' := catp [wXt g A A1 A2 aq r.2, [(o, .inl (g 6, 1, .inr (.inl f)))]] []) F hE hX (kX12_scraps l hl9 dC dI g A A1 A2 aq u p1 h) mbX12_scraps q1280 ⟨(Nat.le_of_ble_eq_true rfl), (Nat.le_of_ble_eq_true rfl)⟩ ⟨(Nat.le_of_ble_eq_true rfl), (Nat.le_of_ble_eq_true rfl)⟩ hP hD hS hA [] rfl (wXt_fst g A A1 A2 aq _ _) rfl 0 rfl rfl rfl hl.1 rfl (Nat.le_of_ble_eq_true rfl) dL_scraps_4 (fun E ce q9 hx9 H locs hP hD hS h7 h8 h9 => ?_) (fun w hv H locs hP hD hS => ?_)
  · replace hP : va_P (dC, dI) vwCl (catp [wXt g A A1 A2 aq r.2, [(o, .inl (g 6, 1, .inr (.inl f)))]] []) H := hP
    replace hD : va_D AA (catp [wXt g A A1 A2 aq r.2, [(o, .inl (g 6, 1, .inr (.inl f)))]] []) := hD
    rw [hx9] at hk
    have hof : oxI r.1 f = f := by rw [hx9]; rfl
    by_cases k0 : E = "java/lang/IllegalArgumentException"
    · subst k0
      have hk9 : k = 1 := by simpa [kx] using hk.symm
      subst hk9
      refine vx_catch (own := RL) (name := "java/lang/IllegalArgumentException") F.2.2.2.1 [] ⟨0, 9, 12, 13⟩ [] hC (fun _ h9 => absurd h9 List.not_mem_nil) (by decide) (by decide) (F.2.2.2.2 _ q922) (va_Nw.use rfl (hE.2 _ q705)) h7 h8 h9 ?_
      refine lv_astore_n (lv' := [(3, .ref q9), (0, .ref (A 0)), (1, .int p1), (2, .ref o)]) F.1 F.2.1 dL_scraps_12 rfl hl (by decide) rfl (fun ls hl => ?_)
      refine lv_iconst (v := 1) F.1 F.2.1 dL_scraps_13 (by decide) ?_
      exact MZ_i ⟨fun _ => 0, fun _ _ => 0, fun _ _ => 0⟩ F hr hlocks (Nat.le_of_ble_eq_true rfl) (Nat.le_of_ble_eq_true rfl) (by show va_P (dC, dI) vwCl (catp [wXt g A A1 A2 aq r.2, [(o, .inl (g 6, 1, .inr (.inl (oxI r.1 f))))]] []) H; rw [hof]; exact hP) (by show va_D AA (catp [wXt g A A1 A2 aq r.2, [(o, .inl (g 6, 1, .inr (.inl (oxI r.1 f))))]] []); rw [hof]; exact hD) hS dL_scraps_14
    exact absurd hk (by simp [kx, k0])
  rw [hv] at hk
  have hk9 : k = 0 := by simpa [kx] using hk.symm
  subst hk9
  replace hP : va_P (dC, dI) vwCl (catp [wXt g A A1 A2 aq r.2, [(o, .inl (g 6, 1, .inr (.inl f)))]] []) H := hP
  replace hD : va_D AA (catp [wXt g A A1 A2 aq r.2, [(o, .inl (g 6, 1, .inr (.inl f)))]] []) := hD
  refine lv_i2l F.1 F.2.1 dL_scraps_7 rfl ?_
  refine va_last F.1 F.2.1 hE.1 hP hD hS 387 6 rfl rfl (inR_in (by decide : inR 0 1 = true)) dL_scraps_8 (fun H locs hP hD hS => ?_)
  replace hP : va_P (dC, dI) vwCl (catp [wXt g A A1 A2 aq r.2, [(o, .inl (g 6, 1, .inr (.inl (vp_updL f 0 w.toInt64))))]] []) H := hP
  replace hD : va_D AA (catp [wXt g A A1 A2 aq r.2, [(o, .inl (g 6, 1, .inr (.inl (vp_updL f 0 w.toInt64))))]] []) := hD
  refine lv_goto (tgt := 15) F.1 F.2.1 dL_scraps_9 (by decide) ?_
  refine lv_iconst (v := 0) F.1 F.2.1 dL_scraps_15 (by decide) ?_
  have hof : oxI r.1 f = vp_updL f 0 w.toInt64 := by rw [hv]; rfl
  exact MZ_i ⟨fun _ => 0, fun _ _ => 0, fun _ _ => 0⟩ F hr hlocks (Nat.le_of_ble_eq_true rfl) (Nat.le_of_ble_eq_true rfl) (by show va_P (dC, dI) vwCl (catp [wXt g A A1 A2 aq r.2, [(o, .inl (g 6, 1, .inr (.inl (oxI r.1 f))))]] []) H; rw [hof]; exact hP) (by show va_D AA (catp [wXt g A A1 A2 aq r.2, [(o, .inl (g 6, 1, .inr (.inl (oxI r.1 f))))]] []); rw [hof]; exact hD) hS dL_scraps_16
