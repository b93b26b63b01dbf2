theorem mbL_scrap : MSH yL_scrap cL_scrap 5 (some .int) [(0, 10, 13, 13), (0, 10, 17, 21)] 4 := ⟨⟨q1291, q0, by decide +kernel⟩, q1290⟩
set_option maxHeartbeats 4000000 in
set_option maxRecDepth 100000 in
theorem tL_scrap (l : Launch) (hl9 : l.stackTraces = false) (dC : Nat → ClassId) (dI : Nat → Nat → Nat) (g : Nat → ClassId) (A : Nat → Nat) (A1 A2 : Nat → Nat → Nat) (aq o : Nat) (f : Nat → Int64) (u : XT) (p1 : Int32) (p2 : Int32) {r : (Except String Int32) × XT} (h : gX12_scrap u p1 p2 = some r) {k : Int32} (hk : kx ["java/lang/IllegalArgumentException", "java/util/NoSuchElementException"] r.1 = some k) : MZ l yL_scrap cL_scrap 5 [(0, 10, 13, 13), (0, 10, 17, 21)] 8 125 2 12 dC dI g [.ref (A 0), .int p1, .int p2, .ref o] (catp [wXt g A A1 A2 aq u, [(o, .inl (g 6, 1, .inr (.inl f)))]] []) (fun β => catp [wXt g A A1 A2 aq r.2, [(o, .inl (g 6, 1, .inr (.inl (oxI r.1 f))))]] []) k := by
  refine MZ_of (by decide +kernel) (Nat.le_of_ble_eq_true rfl) ?_
  intro p e s m below meth c ls F hr hlocks hC hE hX hA hP hD hS hl
  generalize va_A (catp [wXt g A A1 A2 aq u, [(o, .inl (g 6, 1, .inr (.inl f)))]] []) s.heap.size = AA at hA hD hS hX ⊢
  replace F : CF p m c cL_scrap 5 s _ RL := F
  replace hl : lv_has ls 5 [(0, .ref (A 0)), (1, .int p1), (2, .int p2), (3, .ref o)] := hl
  refine lv_aload_n F.1 F.2.1 dL_scrap_0 rfl (lv_at hl 3 rfl) ?_
  refine lv_iconst (v := 0) F.1 F.2.1 dL_scrap_1 (by decide) ?_
  refine lv_aload_n F.1 F.2.1 dL_scrap_2 rfl (lv_at hl 0 rfl) ?_
  refine lv_iload_n F.1 F.2.1 dL_scrap_3 rfl (lv_at hl 1 rfl) ?_
  refine lv_iload_n F.1 F.2.1 dL_scrap_4 rfl (lv_at hl 2 rfl) ?_
  refine cXV1 (As := [.int p1, .int p2]) (rest := [.int 0, .ref o]) (post := catp [[(o, .inl (g 6, 1, .inr (.inl f)))]] []) (ws' := catp [wXt g A A1 A2 aq r.2, [(o, .inl (g 6, 1, .inr (.inl f)))]] []) F hE hX (kX12_scrap l hl9 dC dI g A A1 A2 aq u p1 p2 h) mbX12_scrap q1292 ⟨(Nat.le_of_ble_eq_true rfl), (Nat.le_of_ble_eq_true rfl)⟩ ⟨(Nat.le_of_ble_eq_true rfl), (Nat.le_of_ble_eq_true rfl)⟩ hP hD hS hA [] rfl (wXt_fst g A A1 A2 aq _ _) rfl 0 rfl rfl rfl hl.1 rfl (Nat.le_of_ble_eq_true rfl) dL_scrap_5 (fun E ce q9 hx9 H locs hP hD hS h7 h8 h9 => ?_) (fun w hv H locs hP hD hS => ?_)
  · replace hP : va_P (dC, dI) vwCl (catp [wXt g A A1 A2 aq r.2, [(o, .inl (g 6, 1, .inr (.inl f)))]] []) H := hP
    replace hD : va_D AA (catp [wXt g A A1 A2 aq r.2, [(o, .inl (g 6, 1, .inr (.inl f)))]] []) := hD
    rw [hx9] at hk
    have hof : oxI r.1 f = f := by rw [hx9]; rfl
    by_cases k0 : E = "java/lang/IllegalArgumentException"
    · subst k0
      have hk9 : k = 1 := by simpa [kx] using hk.symm
      subst hk9
      refine vx_catch (own := RL) (name := "java/lang/IllegalArgumentException") F.2.2.2.1 [] ⟨0, 10, 13, 13⟩ [⟨0, 10, 17, 21⟩] hC (fun _ h9 => absurd h9 List.not_mem_nil) (by decide) (by decide) (F.2.2.2.2 _ q922) (va_Nw.use rfl (hE.2 _ q705)) h7 h8 h9 ?_
      refine lv_astore (lv' := [(4, .ref q9), (0, .ref (A 0)), (1, .int p1), (2, .int p2), (3, .ref o)]) F.1 F.2.1 dL_scrap_13 hl (by decide) rfl (fun ls hl => ?_)
      refine lv_iconst (v := 1) F.1 F.2.1 dL_scrap_15 (by decide) ?_
      exact MZ_i ⟨fun _ => 0, fun _ _ => 0, fun _ _ => 0⟩ F hr hlocks (Nat.le_of_ble_eq_true rfl) (Nat.le_of_ble_eq_true rfl) (by show va_P (dC, dI) vwCl (catp [wXt g A A1 A2 aq r.2, [(o, .inl (g 6, 1, .inr (.inl (oxI r.1 f))))]] []) H; rw [hof]; exact hP) (by show va_D AA (catp [wXt g A A1 A2 aq r.2, [(o, .inl (g 6, 1, .inr (.inl (oxI r.1 f))))]] []); rw [hof]; exact hD) hS dL_scrap_16
    by_cases k1 : E = "java/util/NoSuchElementException"
    · subst k1
      have hk9 : k = 2 := by simpa [kx] using hk.symm
      subst hk9
      refine vx_catch (own := RL) (name := "java/util/NoSuchElementException") F.2.2.2.1 [⟨0, 10, 13, 13⟩] ⟨0, 10, 17, 21⟩ [] hC (List.forall_mem_cons.mpr ⟨Or.inr ⟨by decide, "java/lang/IllegalArgumentException", F.2.2.2.2 _ q922, hX.2.2.1 ("java/util/NoSuchElementException", "java/lang/IllegalArgumentException") (by decide +kernel)⟩, (fun _ h9 => absurd h9 List.not_mem_nil)⟩) (by decide) (by decide) (F.2.2.2.2 _ q982) (va_Nw.use rfl (hE.2 _ q998)) h7 h8 h9 ?_
      refine lv_astore (lv' := [(4, .ref q9), (0, .ref (A 0)), (1, .int p1), (2, .int p2), (3, .ref o)]) F.1 F.2.1 dL_scrap_17 hl (by decide) rfl (fun ls hl => ?_)
      refine lv_iconst (v := 2) F.1 F.2.1 dL_scrap_19 (by decide) ?_
      exact MZ_i ⟨fun _ => 0, fun _ _ => 0, fun _ _ => 0⟩ F hr hlocks (Nat.le_of_ble_eq_true rfl) (Nat.le_of_ble_eq_true rfl) (by show va_P (dC, dI) vwCl (catp [wXt g A A1 A2 aq r.2, [(o, .inl (g 6, 1, .inr (.inl (oxI r.1 f))))]] []) H; rw [hof]; exact hP) (by show va_D AA (catp [wXt g A A1 A2 aq r.2, [(o, .inl (g 6, 1, .inr (.inl (oxI r.1 f))))]] []); rw [hof]; exact hD) hS dL_scrap_20
    exact absurd hk (by simp [kx, k0, k1])
  rw [hv] at hk
  have hk9 : k = 0 := by simpa [kx] using hk.symm
  subst hk9
  replace hP : va_P (dC, dI) vwCl (catp [wXt g A A1 A2 aq r.2, [(o, .inl (g 6, 1, .inr (.inl f)))]] []) H := hP
  replace hD : va_D AA (catp [wXt g A A1 A2 aq r.2, [(o, .inl (g 6, 1, .inr (.inl f)))]] []) := hD
  refine lv_i2l F.1 F.2.1 dL_scrap_8 rfl ?_
  refine va_last F.1 F.2.1 hE.1 hP hD hS 387 6 rfl rfl (inR_in (by decide : inR 0 1 = true)) dL_scrap_9 (fun H locs hP hD hS => ?_)
  replace hP : va_P (dC, dI) vwCl (catp [wXt g A A1 A2 aq r.2, [(o, .inl (g 6, 1, .inr (.inl (vp_updL f 0 w.toInt64))))]] []) H := hP
  replace hD : va_D AA (catp [wXt g A A1 A2 aq r.2, [(o, .inl (g 6, 1, .inr (.inl (vp_updL f 0 w.toInt64))))]] []) := hD
  refine lv_goto (tgt := 21) F.1 F.2.1 dL_scrap_10 (by decide) ?_
  refine lv_iconst (v := 0) F.1 F.2.1 dL_scrap_21 (by decide) ?_
  have hof : oxI r.1 f = vp_updL f 0 w.toInt64 := by rw [hv]; rfl
  exact MZ_i ⟨fun _ => 0, fun _ _ => 0, fun _ _ => 0⟩ F hr hlocks (Nat.le_of_ble_eq_true rfl) (Nat.le_of_ble_eq_true rfl) (by show va_P (dC, dI) vwCl (catp [wXt g A A1 A2 aq r.2, [(o, .inl (g 6, 1, .inr (.inl (oxI r.1 f))))]] []) H; rw [hof]; exact hP) (by show va_D AA (catp [wXt g A A1 A2 aq r.2, [(o, .inl (g 6, 1, .inr (.inl (oxI r.1 f))))]] []); rw [hof]; exact hD) hS dL_scrap_22
theorem mbL_bestLoad : MSH yL_bestLoad cL_bestLoad 4 (some .int) [(0, 9, 12, 21)] 3 := ⟨⟨q1303, q0, by decide +kernel⟩, q1302⟩
set_option maxHeartbeats 4000000 in
set_option maxRecDepth 100000 in
theorem tL_bestLoad (l : Launch) (hl9 : l.stackTraces = false) (dC : Nat → ClassId) (dI : Nat → Nat → Nat) (g : Nat → ClassId) (A : Nat → Nat) (A1 A2 : Nat → Nat → Nat) (aq o : Nat) (f : Nat → Int64) (u : XT) (p1 : Int32) {r : (Except String Int32) × XT} (h : gX12_bestLoad u p1 = some r) {k : Int32} (hk : kx ["java/util/NoSuchElementException"] r.1 = some k) : MZ l yL_bestLoad cL_bestLoad 4 [(0, 9, 12, 21)] 8 125 1 6 dC dI g [.ref (A 0), .int p1, .ref o] (catp [wXt g A A1 A2 aq u, [(o, .inl (g 6, 1, .inr (.inl f)))]] []) (fun β => catp [wXt g A A1 A2 aq r.2, [(o, .inl (g 6, 1, .inr (.inl (oxI r.1 f))))]] []) k := by
  refine MZ_of (by decide +kernel) (Nat.le_of_ble_eq_true rfl) ?_
  intro p e s m below meth c ls F hr hlocks hC hE hX hA hP hD hS hl
  generalize va_A (catp [wXt g A A1 A2 aq u, [(o, .inl (g 6, 1, .inr (.inl f)))]] []) s.heap.size = AA at hA hD hS hX ⊢
  replace F : CF p m c cL_bestLoad 4 s _ RL := F
  replace hl : lv_has ls 4 [(0, .ref (A 0)), (1, .int p1), (2, .ref o)] := hl
  refine lv_aload_n F.1 F.2.1 dL_bestLoad_0 rfl (lv_at hl 2 rfl) ?_
  refine lv_iconst (v := 0) F.1 F.2.1 dL_bestLoad_1 (by decide) ?_
  refine lv_aload_n F.1 F.2.1 dL_bestLoad_2 rfl (lv_at hl 0 rfl) ?_
  refine lv_iload_n F.1 F.2.1 dL_bestLoad_3 rfl (lv_at hl 1 rfl) ?_
  refine cXV1 (As := [.int p1]) (rest := [.int 0, .ref o]) (post := catp [[(o, .inl (g 6, 1, .inr (.inl f)))]] []) (ws' := catp [wXt g A A1 A2 aq r.2, [(o, .inl (g 6, 1, .inr (.inl f)))]] []) F hE hX (kX12_bestLoad l hl9 dC dI g A A1 A2 aq u p1 h) mbX12_bestLoad q1304 ⟨(Nat.le_of_ble_eq_true rfl), (Nat.le_of_ble_eq_true rfl)⟩ ⟨(Nat.le_of_ble_eq_true rfl), (Nat.le_of_ble_eq_true rfl)⟩ hP hD hS hA [] rfl (wXt_fst g A A1 A2 aq _ _) rfl 0 rfl rfl rfl hl.1 rfl (Nat.le_of_ble_eq_true rfl) dL_bestLoad_4 (fun E ce q9 hx9 H locs hP hD hS h7 h8 h9 => ?_) (fun w hv H locs hP hD hS => ?_)
  · replace hP : va_P (dC, dI) vwCl (catp [wXt g A A1 A2 aq r.2, [(o, .inl (g 6, 1, .inr (.inl f)))]] []) H := hP
    replace hD : va_D AA (catp [wXt g A A1 A2 aq r.2, [(o, .inl (g 6, 1, .inr (.inl f)))]] []) := hD
    rw [hx9] at hk
    have hof : oxI r.1 f = f := by rw [hx9]; rfl
    by_cases k0 : E = "java/util/NoSuchElementException"
    · subst k0
      have hk9 : k = 1 := by simpa [kx] using hk.symm
      subst hk9
      refine vx_catch (own := RL) (name := "java/util/NoSuchElementException") F.2.2.2.1 [] ⟨0, 9, 12, 21⟩ [] hC (fun _ h9 => absurd h9 List.not_mem_nil) (by decide) (by decide) (F.2.2.2.2 _ q982) (va_Nw.use rfl (hE.2 _ q998)) h7 h8 h9 ?_
      refine lv_astore_n (lv' := [(3, .ref q9), (0, .ref (A 0)), (1, .int p1), (2, .ref o)]) F.1 F.2.1 dL_bestLoad_12 rfl hl (by decide) rfl (fun ls hl => ?_)
      refine lv_iconst (v := 1) F.1 F.2.1 dL_bestLoad_13 (by decide) ?_
      exact MZ_i ⟨fun _ => 0, fun _ _ => 0, fun _ _ => 0⟩ F hr hlocks (Nat.le_of_ble_eq_true rfl) (Nat.le_of_ble_eq_true rfl) (by show va_P (dC, dI) vwCl (catp [wXt g A A1 A2 aq r.2, [(o, .inl (g 6, 1, .inr (.inl (oxI r.1 f))))]] []) H; rw [hof]; exact hP) (by show va_D AA (catp [wXt g A A1 A2 aq r.2, [(o, .inl (g 6, 1, .inr (.inl (oxI r.1 f))))]] []); rw [hof]; exact hD) hS dL_bestLoad_14
    exact absurd hk (by simp [kx, k0])
  rw [hv] at hk
  have hk9 : k = 0 := by simpa [kx] using hk.symm
  subst hk9
  replace hP : va_P (dC, dI) vwCl (catp [wXt g A A1 A2 aq r.2, [(o, .inl (g 6, 1, .inr (.inl f)))]] []) H := hP
  replace hD : va_D AA (catp [wXt g A A1 A2 aq r.2, [(o, .inl (g 6, 1, .inr (.inl f)))]] []) := hD
  refine lv_i2l F.1 F.2.1 dL_bestLoad_7 rfl ?_
  refine va_last F.1 F.2.1 hE.1 hP hD hS 387 6 rfl rfl (inR_in (by decide : inR 0 1 = true)) dL_bestLoad_8 (fun H locs hP hD hS => ?_)
  replace hP : va_P (dC, dI) vwCl (catp [wXt g A A1 A2 aq r.2, [(o, .inl (g 6, 1, .inr (.inl (vp_updL f 0 w.toInt64))))]] []) H := hP
  replace hD : va_D AA (catp [wXt g A A1 A2 aq r.2, [(o, .inl (g 6, 1, .inr (.inl (vp_updL f 0 w.toInt64))))]] []) := hD
  refine lv_goto (tgt := 15) F.1 F.2.1 dL_bestLoad_9 (by decide) ?_
  refine lv_iconst (v := 0) F.1 F.2.1 dL_bestLoad_15 (by decide) ?_
  have hof : oxI r.1 f = vp_updL f 0 w.toInt64 := by rw [hv]; rfl
  exact MZ_i ⟨fun _ => 0, fun _ _ => 0, fun _ _ => 0⟩ F hr hlocks (Nat.le_of_ble_eq_true rfl) (Nat.le_of_ble_eq_true rfl) (by show va_P (dC, dI) vwCl (catp [wXt g A A1 A2 aq r.2, [(o, .inl (g 6, 1, .inr (.inl (oxI r.1 f))))]] []) H; rw [hof]; exact hP) (by show va_D AA (catp [wXt g A A1 A2 aq r.2, [(o, .inl (g 6, 1, .inr (.inl (oxI r.1 f))))]] []); rw [hof]; exact hD) hS dL_bestLoad_16
theorem mbL_bestLoadByRecursion : MSH yL_bestLoadByRecursion cL_bestLoadByRecursion 4 (some .int) [(0, 9, 12, 21)] 3 := ⟨⟨q1310, q0, by decide +kernel⟩, q1309⟩
set_option maxHeartbeats 4000000 in
set_option maxRecDepth 100000 in
theorem tL_bestLoadByRecursion (l : Launch) (hl9 : l.stackTraces = false) (dC : Nat → ClassId) (dI : Nat → Nat → Nat) (g : Nat → ClassId) (A : Nat → Nat) (A1 A2 : Nat → Nat → Nat) (aq o : Nat) (f : Nat → Int64) (u : XT) (p1 : Int32) {r : (Except String Int32) × XT} (h : gX12_bestLoadByRecursion u p1 = some r) {k : Int32} (hk : kx ["java/util/NoSuchElementException"] r.1 = some k) : MZ l yL_bestLoadByRecursion cL_bestLoadByRecursion 4 [(0, 9, 12, 21)] 17 456 1 6 dC dI g [.ref (A 0), .int p1, .ref o] (catp [wXt g A A1 A2 aq u, [(o, .inl (g 6, 1, .inr (.inl f)))]] []) (fun β => catp [wXt g A A1 A2 aq r.2, [(o, .inl (g 6, 1, .inr (.inl (oxI r.1 f))))]] []) k := by
  refine MZ_of (by decide +kernel) (Nat.le_of_ble_eq_true rfl) ?_
  intro p e s m below meth c ls F hr hlocks hC hE hX hA hP hD hS hl
  generalize va_A (catp [wXt g A A1 A2 aq u, [(o, .inl (g 6, 1, .inr (.inl f)))]] []) s.heap.size = AA at hA hD hS hX ⊢
  replace F : CF p m c cL_bestLoadByRecursion 4 s _ RL := F
  replace hl : lv_has ls 4 [(0, .ref (A 0)), (1, .int p1), (2, .ref o)] := hl
  refine lv_aload_n F.1 F.2.1 dL_bestLoadByRecursion_0 rfl (lv_at hl 2 rfl) ?_
  refine lv_iconst (v := 0) F.1 F.2.1 dL_bestLoadByRecursion_1 (by decide) ?_
  refine lv_aload_n F.1 F.2.1 dL_bestLoadByRecursion_2 rfl (lv_at hl 0 rfl) ?_
  refine lv_iload_n F.1 F.2.1 dL_bestLoadByRecursion_3 rfl (lv_at hl 1 rfl) ?_
  refine cXV1 (As := [.int p1]) (rest := [.int 0, .ref o]) (post := catp [[(o, .inl (g 6, 1, .inr (.inl f)))]] []) (ws' := catp [wXt g A A1 A2 aq r.2, [(o, .inl (g 6, 1, .inr (.inl f)))]] []) F hE hX (kX12_bestLoadByRecursion l hl9 dC dI g A A1 A2 aq u p1 h) mbX12_bestLoadByRecursion q1311 ⟨(Nat.le_of_ble_eq_true rfl), (Nat.le_of_ble_eq_true rfl)⟩ ⟨(Nat.le_of_ble_eq_true rfl), (Nat.le_of_ble_eq_true rfl)⟩ hP hD hS hA [] rfl (wXt_fst g A A1 A2 aq _ _) rfl 0 rfl rfl rfl hl.1 rfl (Nat.le_of_ble_eq_true rfl) dL_bestLoadByRecursion_4 (fun E ce q9 hx9 H locs hP hD hS h7 h8 h9 => ?_) (fun w hv H locs hP hD hS => ?_)
  · replace hP : va_P (dC, dI) vwCl (catp [wXt g A A1 A2 aq r.2, [(o, .inl (g 6, 1, .inr (.inl f)))]] []) H := hP
    replace hD : va_D AA (catp [wXt g A A1 A2 aq r.2, [(o, .inl (g 6, 1, .inr (.inl f)))]] []) := hD
    rw [hx9] at hk
    have hof : oxI r.1 f = f := by rw [hx9]; rfl
    by_cases k0 : E = "java/util/NoSuchElementException"
    · subst k0
      have hk9 : k = 1 := by simpa [kx] using hk.symm
      subst hk9
      refine vx_catch (own := RL) (name := "java/util/NoSuchElementException") F.2.2.2.1 [] ⟨0, 9, 12, 21⟩ [] hC (fun _ h9 => absurd h9 List.not_mem_nil) (by decide) (by decide) (F.2.2.2.2 _ q982) (va_Nw.use rfl (hE.2 _ q998)) h7 h8 h9 ?_
      refine lv_astore_n (lv' := [(3, .ref q9), (0, .ref (A 0)), (1, .int p1), (2, .ref o)]) F.1 F.2.1 dL_bestLoadByRecursion_12 rfl hl (by decide) rfl (fun ls hl => ?_)
      refine lv_iconst (v := 1) F.1 F.2.1 dL_bestLoadByRecursion_13 (by decide) ?_
      exact MZ_i ⟨fun _ => 0, fun _ _ => 0, fun _ _ => 0⟩ F hr hlocks (Nat.le_of_ble_eq_true rfl) (Nat.le_of_ble_eq_true rfl) (by show va_P (dC, dI) vwCl (catp [wXt g A A1 A2 aq r.2, [(o, .inl (g 6, 1, .inr (.inl (oxI r.1 f))))]] []) H; rw [hof]; exact hP) (by show va_D AA (catp [wXt g A A1 A2 aq r.2, [(o, .inl (g 6, 1, .inr (.inl (oxI r.1 f))))]] []); rw [hof]; exact hD) hS dL_bestLoadByRecursion_14
    exact absurd hk (by simp [kx, k0])
  rw [hv] at hk
  have hk9 : k = 0 := by simpa [kx] using hk.symm
  subst hk9
  replace hP : va_P (dC, dI) vwCl (catp [wXt g A A1 A2 aq r.2, [(o, .inl (g 6, 1, .inr (.inl f)))]] []) H := hP
  replace hD : va_D AA (catp [wXt g A A1 A2 aq r.2, [(o, .inl (g 6, 1, .inr (.inl f)))]] []) := hD
  refine lv_i2l F.1 F.2.1 dL_bestLoadByRecursion_7 rfl ?_
  refine va_last F.1 F.2.1 hE.1 hP hD hS 387 6 rfl rfl (inR_in (by decide : inR 0 1 = true)) dL_bestLoadByRecursion_8 (fun H locs hP hD hS => ?_)
  replace hP : va_P (dC, dI) vwCl (catp [wXt g A A1 A2 aq r.2, [(o, .inl (g 6, 1, .inr (.inl (vp_updL f 0 w.toInt64))))]] []) H := hP
  replace hD : va_D AA (catp [wXt g A A1 A2 aq r.2, [(o, .inl (g 6, 1, .inr (.inl (vp_updL f 0 w.toInt64))))]] []) := hD
  refine lv_goto (tgt := 15) F.1 F.2.1 dL_bestLoadByRecursion_9 (by decide) ?_
  refine lv_iconst (v := 0) F.1 F.2.1 dL_bestLoadByRecursion_15 (by decide) ?_
  have hof : oxI r.1 f = vp_updL f 0 w.toInt64 := by rw [hv]; rfl
  exact MZ_i ⟨fun _ => 0, fun _ _ => 0, fun _ _ => 0⟩ F hr hlocks (Nat.le_of_ble_eq_true rfl) (Nat.le_of_ble_eq_true rfl) (by show va_P (dC, dI) vwCl (catp [wXt g A A1 A2 aq r.2, [(o, .inl (g 6, 1, .inr (.inl (oxI r.1 f))))]] []) H; rw [hof]; exact hP) (by show va_D AA (catp [wXt g A A1 A2 aq r.2, [(o, .inl (g 6, 1, .inr (.inl (oxI r.1 f))))]] []); rw [hof]; exact hD) hS dL_bestLoadByRecursion_16
theorem mbL_orderMaterial : MSH yL_orderMaterial cL_orderMaterial 4 (some .int) [(0, 9, 12, 21)] 3 := ⟨⟨q1317, q0, by decide +kernel⟩, q1316⟩
set_option maxHeartbeats 4000000 in
set_option maxRecDepth 100000 in
theorem tL_orderMaterial (l : Launch) (hl9 : l.stackTraces = false) (dC : Nat → ClassId) (dI : Nat → Nat → Nat) (g : Nat → ClassId) (A : Nat → Nat) (A1 A2 : Nat → Nat → Nat) (aq o : Nat) (f : Nat → Int64) (u : XT) (p1 : Int32) {r : (Except String Int32) × XT} (h : gX12_orderMaterial u p1 = some r) {k : Int32} (hk : kx ["java/util/NoSuchElementException"] r.1 = some k) : MZ l yL_orderMaterial cL_orderMaterial 4 [(0, 9, 12, 21)] 8 125 1 6 dC dI g [.ref (A 0), .int p1, .ref o] (catp [wXt g A A1 A2 aq u, [(o, .inl (g 6, 1, .inr (.inl f)))]] []) (fun β => catp [wXt g A A1 A2 aq r.2, [(o, .inl (g 6, 1, .inr (.inl (oxI r.1 f))))]] []) k := by
  refine MZ_of (by decide +kernel) (Nat.le_of_ble_eq_true rfl) ?_
  intro p e s m below meth c ls F hr hlocks hC hE hX hA hP hD hS hl
  generalize va_A (catp [wXt g A A1 A2 aq u, [(o, .inl (g 6, 1, .inr (.inl f)))]] []) s.heap.size = AA at hA hD hS hX ⊢
  replace F : CF p m c cL_orderMaterial 4 s _ RL := F
  replace hl : lv_has ls 4 [(0, .ref (A 0)), (1, .int p1), (2, .ref o)] := hl
  refine lv_aload_n F.1 F.2.1 dL_orderMaterial_0 rfl (lv_at hl 2 rfl) ?_
  refine lv_iconst (v := 0) F.1 F.2.1 dL_orderMaterial_1 (by decide) ?_
  refine lv_aload_n F.1 F.2.1 dL_orderMaterial_2 rfl (lv_at hl 0 rfl) ?_
  refine lv_iload_n F.1 F.2.1 dL_orderMaterial_3 rfl (lv_at hl 1 rfl) ?_
  refine cXV1 (As := [.int p1]) (rest := [.int 0, .ref o]) (post := catp [[(o, .inl (g 6, 1, .inr (.inl f)))]] []) (ws' := catp [wXt g A A1 A2 aq r.2, [(o, .inl (g 6, 1, .inr (.inl f)))]] []) F hE hX (kX12_orderMaterial l hl9 dC dI g A A1 A2 aq u p1 h) mbX12_orderMaterial q1318 ⟨(Nat.le_of_ble_eq_true rfl), (Nat.le_of_ble_eq_true rfl)⟩ ⟨(Nat.le_of_ble_eq_true rfl), (Nat.le_of_ble_eq_true rfl)⟩ hP hD hS hA [] rfl (wXt_fst g A A1 A2 aq _ _) rfl 0 rfl rfl rfl hl.1 rfl (Nat.le_of_ble_eq_true rfl) dL_orderMaterial_4 (fun E ce q9 hx9 H locs hP hD hS h7 h8 h9 => ?_) (fun w hv H locs hP hD hS => ?_)
  · replace hP : va_P (dC, dI) vwCl (catp [wXt g A A1 A2 aq r.2, [(o, .inl (g 6, 1, .inr (.inl f)))]] []) H := hP
    replace hD : va_D AA (catp [wXt g A A1 A2 aq r.2, [(o, .inl (g 6, 1, .inr (.inl f)))]] []) := hD
    rw [hx9] at hk
    have hof : oxI r.1 f = f := by rw [hx9]; rfl
    by_cases k0 : E = "java/util/NoSuchElementException"
    · subst k0
      have hk9 : k = 1 := by simpa [kx] using hk.symm
      subst hk9
      refine vx_catch (own := RL) (name := "java/util/NoSuchElementException") F.2.2.2.1 [] ⟨0, 9, 12, 21⟩ [] hC (fun _ h9 => absurd h9 List.not_mem_nil) (by decide) (by decide) (F.2.2.2.2 _ q982) (va_Nw.use rfl (hE.2 _ q998)) h7 h8 h9 ?_
      refine lv_astore_n (lv' := [(3, .ref q9), (0, .ref (A 0)), (1, .int p1), (2, .ref o)]) F.1 F.2.1 dL_orderMaterial_12 rfl hl (by decide) rfl (fun ls hl => ?_)
      refine lv_iconst (v := 1) F.1 F.2.1 dL_orderMaterial_13 (by decide) ?_
      exact MZ_i ⟨fun _ => 0, fun _ _ => 0, fun _ _ => 0⟩ F hr hlocks (Nat.le_of_ble_eq_true rfl) (Nat.le_of_ble_eq_true rfl) (by show va_P (dC, dI) vwCl (catp [wXt g A A1 A2 aq r.2, [(o, .inl (g 6, 1, .inr (.inl (oxI r.1 f))))]] []) H; rw [hof]; exact hP) (by show va_D AA (catp [wXt g A A1 A2 aq r.2, [(o, .inl (g 6, 1, .inr (.inl (oxI r.1 f))))]] []); rw [hof]; exact hD) hS dL_orderMaterial_14
    exact absurd hk (by simp [kx, k0])
  rw [hv] at hk
  have hk9 : k = 0 := by simpa [kx] using hk.symm
  subst hk9
  replace hP : va_P (dC, dI) vwCl (catp [wXt g A A1 A2 aq r.2, [(o, .inl (g 6, 1, .inr (.inl f)))]] []) H := hP
  replace hD : va_D AA (catp [wXt g A A1 A2 aq r.2, [(o, .inl (g 6, 1, .inr (.inl f)))]] []) := hD
  refine lv_i2l F.1 F.2.1 dL_orderMaterial_7 rfl ?_
  refine va_last F.1 F.2.1 hE.1 hP hD hS 387 6 rfl rfl (inR_in (by decide : inR 0 1 = true)) dL_orderMaterial_8 (fun H locs hP hD hS => ?_)
  replace hP : va_P (dC, dI) vwCl (catp [wXt g A A1 A2 aq r.2, [(o, .inl (g 6, 1, .inr (.inl (vp_updL f 0 w.toInt64))))]] []) H := hP
  replace hD : va_D AA (catp [wXt g A A1 A2 aq r.2, [(o, .inl (g 6, 1, .inr (.inl (vp_updL f 0 w.toInt64))))]] []) := hD
  refine lv_goto (tgt := 15) F.1 F.2.1 dL_orderMaterial_9 (by decide) ?_
  refine lv_iconst (v := 0) F.1 F.2.1 dL_orderMaterial_15 (by decide) ?_
  have hof : oxI r.1 f = vp_updL f 0 w.toInt64 := by rw [hv]; rfl
  exact MZ_i ⟨fun _ => 0, fun _ _ => 0, fun _ _ => 0⟩ F hr hlocks (Nat.le_of_ble_eq_true rfl) (Nat.le_of_ble_eq_true rfl) (by show va_P (dC, dI) vwCl (catp [wXt g A A1 A2 aq r.2, [(o, .inl (g 6, 1, .inr (.inl (oxI r.1 f))))]] []) H; rw [hof]; exact hP) (by show va_D AA (catp [wXt g A A1 A2 aq r.2, [(o, .inl (g 6, 1, .inr (.inl (oxI r.1 f))))]] []); rw [hof]; exact hD) hS dL_orderMaterial_16
theorem mbL_orderLength : MSH yL_orderLength cL_orderLength 4 (some .int) [(0, 9, 12, 21)] 3 := ⟨⟨q1325, q0, by decide +kernel⟩, q1324⟩
set_option maxHeartbeats 4000000 in
set_option maxRecDepth 100000 in
theorem tL_orderLength (l : Launch) (hl9 : l.stackTraces = false) (dC : Nat → ClassId) (dI : Nat → Nat → Nat) (g : Nat → ClassId) (A : Nat → Nat) (A1 A2 : Nat → Nat → Nat) (aq o : Nat) (f : Nat → Int64) (u : XT) (p1 : Int32) {r : (Except String Int32) × XT} (h : gX12_orderLength u p1 = some r) {k : Int32} (hk : kx ["java/util/NoSuchElementException"] r.1 = some k) : MZ l yL_orderLength cL_orderLength 4 [(0, 9, 12, 21)] 8 125 1 6 dC dI g [.ref (A 0), .int p1, .ref o] (catp [wXt g A A1 A2 aq u, [(o, .inl (g 6, 1, .inr (.inl f)))]] []) (fun β => catp [wXt g A A1 A2 aq r.2, [(o, .inl (g 6, 1, .inr (.inl (oxI r.1 f))))]] []) k := by
  refine MZ_of (by decide +kernel) (Nat.le_of_ble_eq_true rfl) ?_
  intro p e s m below meth c ls F hr hlocks hC hE hX hA hP hD hS hl
  generalize va_A (catp [wXt g A A1 A2 aq u, [(o, .inl (g 6, 1, .inr (.inl f)))]] []) s.heap.size = AA at hA hD hS hX ⊢
  replace F : CF p m c cL_orderLength 4 s _ RL := F
  replace hl : lv_has ls 4 [(0, .ref (A 0)), (1, .int p1), (2, .ref o)] := hl
  refine lv_aload_n F.1 F.2.1 dL_orderLength_0 rfl (lv_at hl 2 rfl) ?_
  refine lv_iconst (v := 0) F.1 F.2.1 dL_orderLength_1 (by decide) ?_
  refine lv_aload_n F.1 F.2.1 dL_orderLength_2 rfl (lv_at hl 0 rfl) ?_
  refine lv_iload_n F.1 F.2.1 dL_orderLength_3 rfl (lv_at hl 1 rfl) ?_
  refine cXV1 (As := [.int p1]) (rest := [.int 0, .ref o]) (post := catp [[(o, .inl (g 6, 1, .inr (.inl f)))]] []) (ws' := catp [wXt g A A1 A2 aq r.2, [(o, .inl (g 6, 1, .inr (.inl f)))]] []) F hE hX (kX12_orderLength l hl9 dC dI g A A1 A2 aq u p1 h) mbX12_orderLength q1326 ⟨(Nat.le_of_ble_eq_true rfl), (Nat.le_of_ble_eq_true rfl)⟩ ⟨(Nat.le_of_ble_eq_true rfl), (Nat.le_of_ble_eq_true rfl)⟩ hP hD hS hA [] rfl (wXt_fst g A A1 A2 aq _ _) rfl 0 rfl rfl rfl hl.1 rfl (Nat.le_of_ble_eq_true rfl) dL_orderLength_4 (fun E ce q9 hx9 H locs hP hD hS h7 h8 h9 => ?_) (fun w hv H locs hP hD hS => ?_)
  · replace hP : va_P (dC, dI) vwCl (catp [wXt g A A1 A2 aq r.2, [(o, .inl (g 6, 1, .inr (.inl f)))]] []) H := hP
    replace hD : va_D AA (catp [wXt g A A1 A2 aq r.2, [(o, .inl (g 6, 1, .inr (.inl f)))]] []) := hD
    rw [hx9] at hk
    have hof : oxI r.1 f = f := by rw [hx9]; rfl
    by_cases k0 : E = "java/util/NoSuchElementException"
    · subst k0
      have hk9 : k = 1 := by simpa [kx] using hk.symm
      subst hk9
      refine vx_catch (own := RL) (name := "java/util/NoSuchElementException") F.2.2.2.1 [] ⟨0, 9, 12, 21⟩ [] hC (fun _ h9 => absurd h9 List.not_mem_nil) (by decide) (by decide) (F.2.2.2.2 _ q982) (va_Nw.use rfl (hE.2 _ q998)) h7 h8 h9 ?_
      refine lv_astore_n (lv' := [(3, .ref q9), (0, .ref (A 0)), (1, .int p1), (2, .ref o)]) F.1 F.2.1 dL_orderLength_12 rfl hl (by decide) rfl (fun ls hl => ?_)
      refine lv_iconst (v := 1) F.1 F.2.1 dL_orderLength_13 (by decide) ?_
      exact MZ_i ⟨fun _ => 0, fun _ _ => 0, fun _ _ => 0⟩ F hr hlocks (Nat.le_of_ble_eq_true rfl) (Nat.le_of_ble_eq_true rfl) (by show va_P (dC, dI) vwCl (catp [wXt g A A1 A2 aq r.2, [(o, .inl (g 6, 1, .inr (.inl (oxI r.1 f))))]] []) H; rw [hof]; exact hP) (by show va_D AA (catp [wXt g A A1 A2 aq r.2, [(o, .inl (g 6, 1, .inr (.inl (oxI r.1 f))))]] []); rw [hof]; exact hD) hS dL_orderLength_14
    exact absurd hk (by simp [kx, k0])
  rw [hv] at hk
  have hk9 : k = 0 := by simpa [kx] using hk.symm
  subst hk9
  replace hP : va_P (dC, dI) vwCl (catp [wXt g A A1 A2 aq r.2, [(o, .inl (g 6, 1, .inr (.inl f)))]] []) H := hP
  replace hD : va_D AA (catp [wXt g A A1 A2 aq r.2, [(o, .inl (g 6, 1, .inr (.inl f)))]] []) := hD
  refine lv_i2l F.1 F.2.1 dL_orderLength_7 rfl ?_
  refine va_last F.1 F.2.1 hE.1 hP hD hS 387 6 rfl rfl (inR_in (by decide : inR 0 1 = true)) dL_orderLength_8 (fun H locs hP hD hS => ?_)
  replace hP : va_P (dC, dI) vwCl (catp [wXt g A A1 A2 aq r.2, [(o, .inl (g 6, 1, .inr (.inl (vp_updL f 0 w.toInt64))))]] []) H := hP
  replace hD : va_D AA (catp [wXt g A A1 A2 aq r.2, [(o, .inl (g 6, 1, .inr (.inl (vp_updL f 0 w.toInt64))))]] []) := hD
  refine lv_goto (tgt := 15) F.1 F.2.1 dL_orderLength_9 (by decide) ?_
  refine lv_iconst (v := 0) F.1 F.2.1 dL_orderLength_15 (by decide) ?_
  have hof : oxI r.1 f = vp_updL f 0 w.toInt64 := by rw [hv]; rfl
  exact MZ_i ⟨fun _ => 0, fun _ _ => 0, fun _ _ => 0⟩ F hr hlocks (Nat.le_of_ble_eq_true rfl) (Nat.le_of_ble_eq_true rfl) (by show va_P (dC, dI) vwCl (catp [wXt g A A1 A2 aq r.2, [(o, .inl (g 6, 1, .inr (.inl (oxI r.1 f))))]] []) H; rw [hof]; exact hP) (by show va_D AA (catp [wXt g A A1 A2 aq r.2, [(o, .inl (g 6, 1, .inr (.inl (oxI r.1 f))))]] []); rw [hof]; exact hD) hS dL_orderLength_16
theorem mbL_due : MSH yL_due cL_due 4 (some .int) [(0, 9, 12, 21)] 3 := ⟨⟨q1332, q0, by decide +kernel⟩, q1331⟩
set_option maxHeartbeats 4000000 in
set_option maxRecDepth 100000 in
theorem tL_due (l : Launch) (hl9 : l.stackTraces = false) (dC : Nat → ClassId) (dI : Nat → Nat → Nat) (g : Nat → ClassId) (A : Nat → Nat) (A1 A2 : Nat → Nat → Nat) (aq o : Nat) (f : Nat → Int64) (u : XT) (p1 : Int32) {r : (Except String Int32) × XT} (h : gX12_due u p1 = some r) {k : Int32} (hk : kx ["java/util/NoSuchElementException"] r.1 = some k) : MZ l yL_due cL_due 4 [(0, 9, 12, 21)] 8 125 1 6 dC dI g [.ref (A 0), .int p1, .ref o] (catp [wXt g A A1 A2 aq u, [(o, .inl (g 6, 1, .inr (.inl f)))]] []) (fun β => catp [wXt g A A1 A2 aq r.2, [(o, .inl (g 6, 1, .inr (.inl (oxI r.1 f))))]] []) k := by
  refine MZ_of (by decide +kernel) (Nat.le_of_ble_eq_true rfl) ?_
  intro p e s m below meth c ls F hr hlocks hC hE hX hA hP hD hS hl
  generalize va_A (catp [wXt g A A1 A2 aq u, [(o, .inl (g 6, 1, .inr (.inl f)))]] []) s.heap.size = AA at hA hD hS hX ⊢
  replace F : CF p m c cL_due 4 s _ RL := F
  replace hl : lv_has ls 4 [(0, .ref (A 0)), (1, .int p1), (2, .ref o)] := hl
  refine lv_aload_n F.1 F.2.1 dL_due_0 rfl (lv_at hl 2 rfl) ?_
  refine lv_iconst (v := 0) F.1 F.2.1 dL_due_1 (by decide) ?_
  refine lv_aload_n F.1 F.2.1 dL_due_2 rfl (lv_at hl 0 rfl) ?_
  refine lv_iload_n F.1 F.2.1 dL_due_3 rfl (lv_at hl 1 rfl) ?_
  refine cXV1 (As := [.int p1]) (rest := [.int 0, .ref o]) (post := catp [[(o, .inl (g 6, 1, .inr (.inl f)))]] []) (ws' := catp [wXt g A A1 A2 aq r.2, [(o, .inl (g 6, 1, .inr (.inl f)))]] []) F hE hX (kX12_due l hl9 dC dI g A A1 A2 aq u p1 h) mbX12_due q1333 ⟨(Nat.le_of_ble_eq_true rfl), (Nat.le_of_ble_eq_true rfl)⟩ ⟨(Nat.le_of_ble_eq_true rfl), (Nat.le_of_ble_eq_true rfl)⟩ hP hD hS hA [] rfl (wXt_fst g A A1 A2 aq _ _) rfl 0 rfl rfl rfl hl.1 rfl (Nat.le_of_ble_eq_true rfl) dL_due_4 (fun E ce q9 hx9 H locs hP hD hS h7 h8 h9 => ?_) (fun w hv H locs hP hD hS => ?_)
  · replace hP : va_P (dC, dI) vwCl (catp [wXt g A A1 A2 aq r.2, [(o, .inl (g 6, 1, .inr (.inl f)))]] []) H := hP
    replace hD : va_D AA (catp [wXt g A A1 A2 aq r.2, [(o, .inl (g 6, 1, .inr (.inl f)))]] []) := hD
    rw [hx9] at hk
    have hof : oxI r.1 f = f := by rw [hx9]; rfl
    by_cases k0 : E = "java/util/NoSuchElementException"
    · subst k0
      have hk9 : k = 1 := by simpa [kx] using hk.symm
      subst hk9
      refine vx_catch (own := RL) (name := "java/util/NoSuchElementException") F.2.2.2.1 [] ⟨0, 9, 12, 21⟩ [] hC (fun _ h9 => absurd h9 List.not_mem_nil) (by decide) (by decide) (F.2.2.2.2 _ q982) (va_Nw.use rfl (hE.2 _ q998)) h7 h8 h9 ?_
      refine lv_astore_n (lv' := [(3, .ref q9), (0, .ref (A 0)), (1, .int p1), (2, .ref o)]) F.1 F.2.1 dL_due_12 rfl hl (by decide) rfl (fun ls hl => ?_)
      refine lv_iconst (v := 1) F.1 F.2.1 dL_due_13 (by decide) ?_
      exact MZ_i ⟨fun _ => 0, fun _ _ => 0, fun _ _ => 0⟩ F hr hlocks (Nat.le_of_ble_eq_true rfl) (Nat.le_of_ble_eq_true rfl) (by show va_P (dC, dI) vwCl (catp [wXt g A A1 A2 aq r.2, [(o, .inl (g 6, 1, .inr (.inl (oxI r.1 f))))]] []) H; rw [hof]; exact hP) (by show va_D AA (catp [wXt g A A1 A2 aq r.2, [(o, .inl (g 6, 1, .inr (.inl (oxI r.1 f))))]] []); rw [hof]; exact hD) hS dL_due_14
    exact absurd hk (by simp [kx, k0])
  rw [hv] at hk
  have hk9 : k = 0 := by simpa [kx] using hk.symm
  subst hk9
  replace hP : va_P (dC, dI) vwCl (catp [wXt g A A1 A2 aq r.2, [(o, .inl (g 6, 1, .inr (.inl f)))]] []) H := hP
  replace hD : va_D AA (catp [wXt g A A1 A2 aq r.2, [(o, .inl (g 6, 1, .inr (.inl f)))]] []) := hD
  refine lv_i2l F.1 F.2.1 dL_due_7 rfl ?_
  refine va_last F.1 F.2.1 hE.1 hP hD hS 387 6 rfl rfl (inR_in (by decide : inR 0 1 = true)) dL_due_8 (fun H locs hP hD hS => ?_)
  replace hP : va_P (dC, dI) vwCl (catp [wXt g A A1 A2 aq r.2, [(o, .inl (g 6, 1, .inr (.inl (vp_updL f 0 w.toInt64))))]] []) H := hP
  replace hD : va_D AA (catp [wXt g A A1 A2 aq r.2, [(o, .inl (g 6, 1, .inr (.inl (vp_updL f 0 w.toInt64))))]] []) := hD
  refine lv_goto (tgt := 15) F.1 F.2.1 dL_due_9 (by decide) ?_
  refine lv_iconst (v := 0) F.1 F.2.1 dL_due_15 (by decide) ?_
  have hof : oxI r.1 f = vp_updL f 0 w.toInt64 := by rw [hv]; rfl
  exact MZ_i ⟨fun _ => 0, fun _ _ => 0, fun _ _ => 0⟩ F hr hlocks (Nat.le_of_ble_eq_true rfl) (Nat.le_of_ble_eq_true rfl) (by show va_P (dC, dI) vwCl (catp [wXt g A A1 A2 aq r.2, [(o, .inl (g 6, 1, .inr (.inl (oxI r.1 f))))]] []) H; rw [hof]; exact hP) (by show va_D AA (catp [wXt g A A1 A2 aq r.2, [(o, .inl (g 6, 1, .inr (.inl (oxI r.1 f))))]] []); rw [hof]; exact hD) hS dL_due_16
theorem mbL_orderAt : MSH yL_orderAt cL_orderAt 4 (some .int) [(0, 9, 12, 21)] 3 := ⟨⟨q1339, q0, by decide +kernel⟩, q1338⟩
set_option maxHeartbeats 4000000 in
set_option maxRecDepth 100000 in
theorem tL_orderAt (l : Launch) (hl9 : l.stackTraces = false) (dC : Nat → ClassId) (dI : Nat → Nat → Nat) (g : Nat → ClassId) (A : Nat → Nat) (A1 A2 : Nat → Nat → Nat) (aq o : Nat) (f : Nat → Int64) (u : XT) (p1 : Int32) {r : (Except String Int32) × XT} (h : gX12_orderAt u p1 = some r) {k : Int32} (hk : kx ["java/util/NoSuchElementException"] r.1 = some k) : MZ l yL_orderAt cL_orderAt 4 [(0, 9, 12, 21)] 7 103 1 6 dC dI g [.ref (A 0), .int p1, .ref o] (catp [wXt g A A1 A2 aq u, [(o, .inl (g 6, 1, .inr (.inl f)))]] []) (fun β => catp [wXt g A A1 A2 aq r.2, [(o, .inl (g 6, 1, .inr (.inl (oxI r.1 f))))]] []) k := by
  refine MZ_of (by decide +kernel) (Nat.le_of_ble_eq_true rfl) ?_
  intro p e s m below meth c ls F hr hlocks hC hE hX hA hP hD hS hl
  generalize va_A (catp [wXt g A A1 A2 aq u, [(o, .inl (g 6, 1, .inr (.inl f)))]] []) s.heap.size = AA at hA hD hS hX ⊢
  replace F : CF p m c cL_orderAt 4 s _ RL := F
  replace hl : lv_has ls 4 [(0, .ref (A 0)), (1, .int p1), (2, .ref o)] := hl
  refine lv_aload_n F.1 F.2.1 dL_orderAt_0 rfl (lv_at hl 2 rfl) ?_
  refine lv_iconst (v := 0) F.1 F.2.1 dL_orderAt_1 (by decide) ?_
  refine lv_aload_n F.1 F.2.1 dL_orderAt_2 rfl (lv_at hl 0 rfl) ?_
  refine lv_iload_n F.1 F.2.1 dL_orderAt_3 rfl (lv_at hl 1 rfl) ?_
  refine cXV1 (As := [.int p1]) (rest := [.int 0, .ref o]) (post := catp [[(o, .inl (g 6, 1, .inr (.inl f)))]] []) (ws' := catp [wXt g A A1 A2 aq r.2, [(o, .inl (g 6, 1, .inr (.inl f)))]] []) F hE hX (kX12_orderAt l hl9 dC dI g A A1 A2 aq u p1 h) mbX12_orderAt q1340 ⟨(Nat.le_of_ble_eq_true rfl), (Nat.le_of_ble_eq_true rfl)⟩ ⟨(Nat.le_of_ble_eq_true rfl), (Nat.le_of_ble_eq_true rfl)⟩ hP hD hS hA [] rfl (wXt_fst g A A1 A2 aq _ _) rfl 0 rfl rfl rfl hl.1 rfl (Nat.le_of_ble_eq_true rfl) dL_orderAt_4 (fun E ce q9 hx9 H locs hP hD hS h7 h8 h9 => ?_) (fun w hv H locs hP hD hS => ?_)
  · replace hP : va_P (dC, dI) vwCl (catp [wXt g A A1 A2 aq r.2, [(o, .inl (g 6, 1, .inr (.inl f)))]] []) H := hP
    replace hD : va_D AA (catp [wXt g A A1 A2 aq r.2, [(o, .inl (g 6, 1, .inr (.inl f)))]] []) := hD
    rw [hx9] at hk
    have hof : oxI r.1 f = f := by rw [hx9]; rfl
    by_cases k0 : E = "java/util/NoSuchElementException"
    · subst k0
      have hk9 : k = 1 := by simpa [kx] using hk.symm
      subst hk9
      refine vx_catch (own := RL) (name := "java/util/NoSuchElementException") F.2.2.2.1 [] ⟨0, 9, 12, 21⟩ [] hC (fun _ h9 => absurd h9 List.not_mem_nil) (by decide) (by decide) (F.2.2.2.2 _ q982) (va_Nw.use rfl (hE.2 _ q998)) h7 h8 h9 ?_
      refine lv_astore_n (lv' := [(3, .ref q9), (0, .ref (A 0)), (1, .int p1), (2, .ref o)]) F.1 F.2.1 dL_orderAt_12 rfl hl (by decide) rfl (fun ls hl => ?_)
      refine lv_iconst (v := 1) F.1 F.2.1 dL_orderAt_13 (by decide) ?_
      exact MZ_i ⟨fun _ => 0, fun _ _ => 0, fun _ _ => 0⟩ F hr hlocks (Nat.le_of_ble_eq_true rfl) (Nat.le_of_ble_eq_true rfl) (by show va_P (dC, dI) vwCl (catp [wXt g A A1 A2 aq r.2, [(o, .inl (g 6, 1, .inr (.inl (oxI r.1 f))))]] []) H; rw [hof]; exact hP) (by show va_D AA (catp [wXt g A A1 A2 aq r.2, [(o, .inl (g 6, 1, .inr (.inl (oxI r.1 f))))]] []); rw [hof]; exact hD) hS dL_orderAt_14
    exact absurd hk (by simp [kx, k0])
  rw [hv] at hk
  have hk9 : k = 0 := by simpa [kx] using hk.symm
  subst hk9
  replace hP : va_P (dC, dI) vwCl (catp [wXt g A A1 A2 aq r.2, [(o, .inl (g 6, 1, .inr (.inl f)))]] []) H := hP
  replace hD : va_D AA (catp [wXt g A A1 A2 aq r.2, [(o, .inl (g 6, 1, .inr (.inl f)))]] []) := hD
  refine lv_i2l F.1 F.2.1 dL_orderAt_7 rfl ?_
  refine va_last F.1 F.2.1 hE.1 hP hD hS 387 6 rfl rfl (inR_in (by decide : inR 0 1 = true)) dL_orderAt_8 (fun H locs hP hD hS => ?_)
  replace hP : va_P (dC, dI) vwCl (catp [wXt g A A1 A2 aq r.2, [(o, .inl (g 6, 1, .inr (.inl (vp_updL f 0 w.toInt64))))]] []) H := hP
  replace hD : va_D AA (catp [wXt g A A1 A2 aq r.2, [(o, .inl (g 6, 1, .inr (.inl (vp_updL f 0 w.toInt64))))]] []) := hD
  refine lv_goto (tgt := 15) F.1 F.2.1 dL_orderAt_9 (by decide) ?_
  refine lv_iconst (v := 0) F.1 F.2.1 dL_orderAt_15 (by decide) ?_
  have hof : oxI r.1 f = vp_updL f 0 w.toInt64 := by rw [hv]; rfl
  exact MZ_i ⟨fun _ => 0, fun _ _ => 0, fun _ _ => 0⟩ F hr hlocks (Nat.le_of_ble_eq_true rfl) (Nat.le_of_ble_eq_true rfl) (by show va_P (dC, dI) vwCl (catp [wXt g A A1 A2 aq r.2, [(o, .inl (g 6, 1, .inr (.inl (oxI r.1 f))))]] []) H; rw [hof]; exact hP) (by show va_D AA (catp [wXt g A A1 A2 aq r.2, [(o, .inl (g 6, 1, .inr (.inl (oxI r.1 f))))]] []); rw [hof]; exact hD) hS dL_orderAt_16
theorem mbL_canFill : MSH yL_canFill cL_canFill 4 (some .int) [(0, 16, 19, 21)] 3 := ⟨⟨q1347, q0, by decide +kernel⟩, q1346⟩
set_option maxHeartbeats 4000000 in
set_option maxRecDepth 100000 in
theorem tL_canFill (l : Launch) (hl9 : l.stackTraces = false) (dC : Nat → ClassId) (dI : Nat → Nat → Nat) (g : Nat → ClassId) (A : Nat → Nat) (A1 A2 : Nat → Nat → Nat) (aq o : Nat) (f : Nat → Int64) (u : XT) (p1 : Int32) {r : (Except String Int32) × XT} (h : gX12_canFill u p1 = some r) {k : Int32} (hk : kx ["java/util/NoSuchElementException"] r.1 = some k) : MZ l yL_canFill cL_canFill 4 [(0, 16, 19, 21)] 8 125 1 6 dC dI g [.ref (A 0), .int p1, .ref o] (catp [wXt g A A1 A2 aq u, [(o, .inl (g 6, 1, .inr (.inl f)))]] []) (fun β => catp [wXt g A A1 A2 aq r.2, [(o, .inl (g 6, 1, .inr (.inl (oxZ r.1 f))))]] []) k := by
  refine MZ_of (by decide +kernel) (Nat.le_of_ble_eq_true rfl) ?_
  intro p e s m below meth c ls F hr hlocks hC hE hX hA hP hD hS hl
  generalize va_A (catp [wXt g A A1 A2 aq u, [(o, .inl (g 6, 1, .inr (.inl f)))]] []) s.heap.size = AA at hA hD hS hX ⊢
  replace F : CF p m c cL_canFill 4 s _ RL := F
  replace hl : lv_has ls 4 [(0, .ref (A 0)), (1, .int p1), (2, .ref o)] := hl
  refine lv_aload_n F.1 F.2.1 dL_canFill_0 rfl (lv_at hl 2 rfl) ?_
  refine lv_iconst (v := 0) F.1 F.2.1 dL_canFill_1 (by decide) ?_
  refine lv_aload_n F.1 F.2.1 dL_canFill_2 rfl (lv_at hl 0 rfl) ?_
  refine lv_iload_n F.1 F.2.1 dL_canFill_3 rfl (lv_at hl 1 rfl) ?_
  refine cXV1 (As := [.int p1]) (rest := [.int 0, .ref o]) (post := catp [[(o, .inl (g 6, 1, .inr (.inl f)))]] []) (ws' := catp [wXt g A A1 A2 aq r.2, [(o, .inl (g 6, 1, .inr (.inl f)))]] []) F hE hX (kX12_canFill l hl9 dC dI g A A1 A2 aq u p1 h) mbX12_canFill q1348 ⟨(Nat.le_of_ble_eq_true rfl), (Nat.le_of_ble_eq_true rfl)⟩ ⟨(Nat.le_of_ble_eq_true rfl), (Nat.le_of_ble_eq_true rfl)⟩ hP hD hS hA [] rfl (wXt_fst g A A1 A2 aq _ _) rfl 0 rfl rfl rfl hl.1 rfl (Nat.le_of_ble_eq_true rfl) dL_canFill_4 (fun E ce q9 hx9 H locs hP hD hS h7 h8 h9 => ?_) (fun w hv H locs hP hD hS => ?_)
  · replace hP : va_P (dC, dI) vwCl (catp [wXt g A A1 A2 aq r.2, [(o, .inl (g 6, 1, .inr (.inl f)))]] []) H := hP
    replace hD : va_D AA (catp [wXt g A A1 A2 aq r.2, [(o, .inl (g 6, 1, .inr (.inl f)))]] []) := hD
    rw [hx9] at hk
    have hof : oxZ r.1 f = f := by rw [hx9]; rfl
    by_cases k0 : E = "java/util/NoSuchElementException"
    · subst k0
      have hk9 : k = 1 := by simpa [kx] using hk.symm
      subst hk9
      refine vx_catch (own := RL) (name := "java/util/NoSuchElementException") F.2.2.2.1 [] ⟨0, 16, 19, 21⟩ [] hC (fun _ h9 => absurd h9 List.not_mem_nil) (by decide) (by decide) (F.2.2.2.2 _ q982) (va_Nw.use rfl (hE.2 _ q998)) h7 h8 h9 ?_
      refine lv_astore_n (lv' := [(3, .ref q9), (0, .ref (A 0)), (1, .int p1), (2, .ref o)]) F.1 F.2.1 dL_canFill_19 rfl hl (by decide) rfl (fun ls hl => ?_)
      refine lv_iconst (v := 1) F.1 F.2.1 dL_canFill_20 (by decide) ?_
      exact MZ_i ⟨fun _ => 0, fun _ _ => 0, fun _ _ => 0⟩ F hr hlocks (Nat.le_of_ble_eq_true rfl) (Nat.le_of_ble_eq_true rfl) (by show va_P (dC, dI) vwCl (catp [wXt g A A1 A2 aq r.2, [(o, .inl (g 6, 1, .inr (.inl (oxZ r.1 f))))]] []) H; rw [hof]; exact hP) (by show va_D AA (catp [wXt g A A1 A2 aq r.2, [(o, .inl (g 6, 1, .inr (.inl (oxZ r.1 f))))]] []); rw [hof]; exact hD) hS dL_canFill_21
    exact absurd hk (by simp [kx, k0])
  rw [hv] at hk
  have hk9 : k = 0 := by simpa [kx] using hk.symm
  subst hk9
  replace hP : va_P (dC, dI) vwCl (catp [wXt g A A1 A2 aq r.2, [(o, .inl (g 6, 1, .inr (.inl f)))]] []) H := hP
  replace hD : va_D AA (catp [wXt g A A1 A2 aq r.2, [(o, .inl (g 6, 1, .inr (.inl f)))]] []) := hD
  refine lv_if_eq (tgt := 14) F.1 F.2.1 dL_canFill_7 (by decide) (fun kz => ?_) (fun kz => ?_)
  · refine lv_lconst (v := 0) F.1 F.2.1 dL_canFill_14 (by decide) ?_
    refine va_last F.1 F.2.1 hE.1 hP hD hS 387 6 rfl rfl (inR_in (by decide : inR 0 1 = true)) dL_canFill_15 (fun H locs hP hD hS => ?_)
    replace hP : va_P (dC, dI) vwCl (catp [wXt g A A1 A2 aq r.2, [(o, .inl (g 6, 1, .inr (.inl (vp_updL f 0 0))))]] []) H := hP
    replace hD : va_D AA (catp [wXt g A A1 A2 aq r.2, [(o, .inl (g 6, 1, .inr (.inl (vp_updL f 0 0))))]] []) := hD
    refine lv_goto (tgt := 22) F.1 F.2.1 dL_canFill_16 (by decide) ?_
    refine lv_iconst (v := 0) F.1 F.2.1 dL_canFill_22 (by decide) ?_
    have hof : oxZ r.1 f = vp_updL f 0 0 := by rw [hv]; simp [oxZ, kz]
    exact MZ_i ⟨fun _ => 0, fun _ _ => 0, fun _ _ => 0⟩ F hr hlocks (Nat.le_of_ble_eq_true rfl) (Nat.le_of_ble_eq_true rfl) (by show va_P (dC, dI) vwCl (catp [wXt g A A1 A2 aq r.2, [(o, .inl (g 6, 1, .inr (.inl (oxZ r.1 f))))]] []) H; rw [hof]; exact hP) (by show va_D AA (catp [wXt g A A1 A2 aq r.2, [(o, .inl (g 6, 1, .inr (.inl (oxZ r.1 f))))]] []); rw [hof]; exact hD) hS dL_canFill_23
  · refine lv_lconst (v := 1) F.1 F.2.1 dL_canFill_10 (by decide) ?_
    refine lv_goto (tgt := 15) F.1 F.2.1 dL_canFill_11 (by decide) ?_
    refine va_last F.1 F.2.1 hE.1 hP hD hS 387 6 rfl rfl (inR_in (by decide : inR 0 1 = true)) dL_canFill_15 (fun H locs hP hD hS => ?_)
    replace hP : va_P (dC, dI) vwCl (catp [wXt g A A1 A2 aq r.2, [(o, .inl (g 6, 1, .inr (.inl (vp_updL f 0 1))))]] []) H := hP
    replace hD : va_D AA (catp [wXt g A A1 A2 aq r.2, [(o, .inl (g 6, 1, .inr (.inl (vp_updL f 0 1))))]] []) := hD
    refine lv_goto (tgt := 22) F.1 F.2.1 dL_canFill_16 (by decide) ?_
    refine lv_iconst (v := 0) F.1 F.2.1 dL_canFill_22 (by decide) ?_
    have hof : oxZ r.1 f = vp_updL f 0 1 := by rw [hv]; simp [oxZ, kz]
    exact MZ_i ⟨fun _ => 0, fun _ _ => 0, fun _ _ => 0⟩ F hr hlocks (Nat.le_of_ble_eq_true rfl) (Nat.le_of_ble_eq_true rfl) (by show va_P (dC, dI) vwCl (catp [wXt g A A1 A2 aq r.2, [(o, .inl (g 6, 1, .inr (.inl (oxZ r.1 f))))]] []) H; rw [hof]; exact hP) (by show va_D AA (catp [wXt g A A1 A2 aq r.2, [(o, .inl (g 6, 1, .inr (.inl (oxZ r.1 f))))]] []); rw [hof]; exact hD) hS dL_canFill_23
