theorem mbL_writeSpool : MSH yL_writeSpool cL_writeSpool 4 (some .int) [(0, 9, 12, 21)] 3 := ⟨⟨q1445, q0, by decide +kernel⟩, q1444⟩
set_option maxHeartbeats 4000000 in
set_option maxRecDepth 100000 in
theorem tL_writeSpool (l : Launch) (hl9 : l.stackTraces = false) (dC : Nat → ClassId) (dI : Nat → Nat → Nat) (g : Nat → ClassId) (A : Nat → Nat) (A1 A2 : Nat → Nat → Nat) (aq o : Nat) (f : Nat → Int64) (u : XT) (p1 : Int32) {r : (Except String Int32) × XT} (h : gX12_writeSpool u p1 = some r) {k : Int32} (hk : kx ["java/util/NoSuchElementException"] r.1 = some k) : MZ l yL_writeSpool cL_writeSpool 4 [(0, 9, 12, 21)] 10 233 590 590 dC dI g [.ref (A 0), .int p1, .ref o] (catp [wXt g A A1 A2 aq u, [(o, .inl (g 6, 1, .inr (.inl f)))]] []) (fun β => catp [wXt g A A1 A2 (β.1 0) r.2, [(o, .inl (g 6, 1, .inr (.inl (oxI r.1 f))))]] []) k := by
  refine MZ_of (by decide +kernel) (Nat.le_of_ble_eq_true rfl) ?_
  intro p e s m below meth c ls F hr hlocks hC hE hX hA hP hD hS hl
  generalize va_A (catp [wXt g A A1 A2 aq u, [(o, .inl (g 6, 1, .inr (.inl f)))]] []) s.heap.size = AA at hA hD hS hX ⊢
  replace F : CF p m c cL_writeSpool 4 s _ RL := F
  replace hl : lv_has ls 4 [(0, .ref (A 0)), (1, .int p1), (2, .ref o)] := hl
  refine lv_aload_n F.1 F.2.1 dL_writeSpool_0 rfl (lv_at hl 2 rfl) ?_
  refine lv_iconst (v := 0) F.1 F.2.1 dL_writeSpool_1 (by decide) ?_
  refine lv_aload_n F.1 F.2.1 dL_writeSpool_2 rfl (lv_at hl 0 rfl) ?_
  refine lv_iload_n F.1 F.2.1 dL_writeSpool_3 rfl (lv_at hl 1 rfl) ?_
  refine cYV (As := [.int p1]) (rest := [.int 0, .ref o]) (post := catp [[(o, .inl (g 6, 1, .inr (.inl f)))]] []) F hE hX (kX12_writeSpool l hl9 dC dI g A A1 A2 aq u p1 h) mbX12_writeSpool q1446 ⟨(Nat.le_of_ble_eq_true rfl), (Nat.le_of_ble_eq_true rfl)⟩ ⟨(Nat.le_of_ble_eq_true rfl), (Nat.le_of_ble_eq_true rfl)⟩ hP hD hS hA [] rfl 0 rfl rfl rfl hl.1 rfl (Nat.le_of_ble_eq_true rfl) dL_writeSpool_4 (fun E ce q9 hx9 b9 H locs hP hD hS h7 h8 h9 => ?_) (fun w hv b9 H locs hP hD hS => ?_)
  · replace hP : va_P (dC, dI) vwCl (catp [wXt g A A1 A2 (b9.1 0) r.2, [(o, .inl (g 6, 1, .inr (.inl f)))]] []) H := hP
    replace hD : va_D AA (catp [wXt g A A1 A2 (b9.1 0) r.2, [(o, .inl (g 6, 1, .inr (.inl f)))]] []) := hD
    rw [hx9] at hk
    have hof : oxI r.1 f = f := by rw [hx9]; rfl
    by_cases k0 : E = "java/util/NoSuchElementException"
    · subst k0
      have hk9 : k = 1 := by simpa [kx] using hk.symm
      subst hk9
      refine vx_catch (own := RL) (name := "java/util/NoSuchElementException") F.2.2.2.1 [] ⟨0, 9, 12, 21⟩ [] hC (fun _ h9 => absurd h9 List.not_mem_nil) (by decide) (by decide) (F.2.2.2.2 _ q982) (va_Nw.use rfl (hE.2 _ q998)) h7 h8 h9 ?_
      refine lv_astore_n (lv' := [(3, .ref q9), (0, .ref (A 0)), (1, .int p1), (2, .ref o)]) F.1 F.2.1 dL_writeSpool_12 rfl hl (by decide) rfl (fun ls hl => ?_)
      refine lv_iconst (v := 1) F.1 F.2.1 dL_writeSpool_13 (by decide) ?_
      exact MZ_i ⟨fun _ => b9.1 0, fun _ _ => 0, fun _ _ => 0⟩ F hr hlocks (Nat.le_of_ble_eq_true rfl) (Nat.le_of_ble_eq_true rfl) (by show va_P (dC, dI) vwCl (catp [wXt g A A1 A2 (b9.1 0) r.2, [(o, .inl (g 6, 1, .inr (.inl (oxI r.1 f))))]] []) H; rw [hof]; exact hP) (by show va_D AA (catp [wXt g A A1 A2 (b9.1 0) r.2, [(o, .inl (g 6, 1, .inr (.inl (oxI r.1 f))))]] []); rw [hof]; exact hD) hS dL_writeSpool_14
    exact absurd hk (by simp [kx, k0])
  rw [hv] at hk
  have hk9 : k = 0 := by simpa [kx] using hk.symm
  subst hk9
  replace hP : va_P (dC, dI) vwCl (catp [wXt g A A1 A2 (b9.1 0) r.2, [(o, .inl (g 6, 1, .inr (.inl f)))]] []) H := hP
  replace hD : va_D AA (catp [wXt g A A1 A2 (b9.1 0) r.2, [(o, .inl (g 6, 1, .inr (.inl f)))]] []) := hD
  refine lv_i2l F.1 F.2.1 dL_writeSpool_7 rfl ?_
  refine va_last F.1 F.2.1 hE.1 hP hD hS 387 6 rfl rfl (inR_in (by decide : inR 0 1 = true)) dL_writeSpool_8 (fun H locs hP hD hS => ?_)
  replace hP : va_P (dC, dI) vwCl (catp [wXt g A A1 A2 (b9.1 0) r.2, [(o, .inl (g 6, 1, .inr (.inl (vp_updL f 0 w.toInt64))))]] []) H := hP
  replace hD : va_D AA (catp [wXt g A A1 A2 (b9.1 0) r.2, [(o, .inl (g 6, 1, .inr (.inl (vp_updL f 0 w.toInt64))))]] []) := hD
  refine lv_goto (tgt := 15) F.1 F.2.1 dL_writeSpool_9 (by decide) ?_
  refine lv_iconst (v := 0) F.1 F.2.1 dL_writeSpool_15 (by decide) ?_
  have hof : oxI r.1 f = vp_updL f 0 w.toInt64 := by rw [hv]; rfl
  exact MZ_i ⟨fun _ => b9.1 0, fun _ _ => 0, fun _ _ => 0⟩ F hr hlocks (Nat.le_of_ble_eq_true rfl) (Nat.le_of_ble_eq_true rfl) (by show va_P (dC, dI) vwCl (catp [wXt g A A1 A2 (b9.1 0) r.2, [(o, .inl (g 6, 1, .inr (.inl (oxI r.1 f))))]] []) H; rw [hof]; exact hP) (by show va_D AA (catp [wXt g A A1 A2 (b9.1 0) r.2, [(o, .inl (g 6, 1, .inr (.inl (oxI r.1 f))))]] []); rw [hof]; exact hD) hS dL_writeSpool_16
theorem mbL_charAt : MSH yL_charAt cL_charAt 4 (some .int) [(0, 9, 12, 127)] 3 := ⟨⟨q1452, q0, by decide +kernel⟩, q1451⟩
set_option maxHeartbeats 4000000 in
set_option maxRecDepth 100000 in
theorem tL_charAt (l : Launch) (hl9 : l.stackTraces = false) (dC : Nat → ClassId) (dI : Nat → Nat → Nat) (g : Nat → ClassId) (A : Nat → Nat) (A1 A2 : Nat → Nat → Nat) (aq o : Nat) (f : Nat → Int64) (u : XT) (p1 : Int32) {r : (Except String Int32) × XT} (h : gX12_charAt u p1 = some r) {k : Int32} (hk : kx ["java/lang/IndexOutOfBoundsException"] r.1 = some k) : MZ l yL_charAt cL_charAt 4 [(0, 9, 12, 127)] 7 151 1 6 dC dI g [.ref (A 0), .int p1, .ref o] (catp [wXt g A A1 A2 aq u, [(o, .inl (g 6, 1, .inr (.inl f)))]] []) (fun β => catp [wXt g A A1 A2 aq r.2, [(o, .inl (g 6, 1, .inr (.inl (oxI r.1 f))))]] []) k := by
  refine MZ_of (by decide +kernel) (Nat.le_of_ble_eq_true rfl) ?_
  intro p e s m below meth c ls F hr hlocks hC hE hX hA hP hD hS hl
  generalize va_A (catp [wXt g A A1 A2 aq u, [(o, .inl (g 6, 1, .inr (.inl f)))]] []) s.heap.size = AA at hA hD hS hX ⊢
  replace F : CF p m c cL_charAt 4 s _ RL := F
  replace hl : lv_has ls 4 [(0, .ref (A 0)), (1, .int p1), (2, .ref o)] := hl
  refine lv_aload_n F.1 F.2.1 dL_charAt_0 rfl (lv_at hl 2 rfl) ?_
  refine lv_iconst (v := 0) F.1 F.2.1 dL_charAt_1 (by decide) ?_
  refine lv_aload_n F.1 F.2.1 dL_charAt_2 rfl (lv_at hl 0 rfl) ?_
  refine lv_iload_n F.1 F.2.1 dL_charAt_3 rfl (lv_at hl 1 rfl) ?_
  refine cXV1 (As := [.int p1]) (rest := [.int 0, .ref o]) (post := catp [[(o, .inl (g 6, 1, .inr (.inl f)))]] []) (ws' := catp [wXt g A A1 A2 aq r.2, [(o, .inl (g 6, 1, .inr (.inl f)))]] []) F hE hX (kX12_charAt l hl9 dC dI g A A1 A2 aq u p1 h) mbX12_charAt q1456 ⟨(Nat.le_of_ble_eq_true rfl), (Nat.le_of_ble_eq_true rfl)⟩ ⟨(Nat.le_of_ble_eq_true rfl), (Nat.le_of_ble_eq_true rfl)⟩ hP hD hS hA [] rfl (wXt_fst g A A1 A2 aq _ _) rfl 0 rfl rfl rfl hl.1 rfl (Nat.le_of_ble_eq_true rfl) dL_charAt_4 (fun E ce q9 hx9 H locs hP hD hS h7 h8 h9 => ?_) (fun w hv H locs hP hD hS => ?_)
  · replace hP : va_P (dC, dI) vwCl (catp [wXt g A A1 A2 aq r.2, [(o, .inl (g 6, 1, .inr (.inl f)))]] []) H := hP
    replace hD : va_D AA (catp [wXt g A A1 A2 aq r.2, [(o, .inl (g 6, 1, .inr (.inl f)))]] []) := hD
    rw [hx9] at hk
    have hof : oxI r.1 f = f := by rw [hx9]; rfl
    by_cases k0 : E = "java/lang/IndexOutOfBoundsException"
    · subst k0
      have hk9 : k = 1 := by simpa [kx] using hk.symm
      subst hk9
      refine vx_catch (own := RL) (name := "java/lang/IndexOutOfBoundsException") F.2.2.2.1 [] ⟨0, 9, 12, 127⟩ [] hC (fun _ h9 => absurd h9 List.not_mem_nil) (by decide) (by decide) (F.2.2.2.2 _ q1453) (va_Nw.use rfl (hE.2 _ q1462)) h7 h8 h9 ?_
      refine lv_astore_n (lv' := [(3, .ref q9), (0, .ref (A 0)), (1, .int p1), (2, .ref o)]) F.1 F.2.1 dL_charAt_12 rfl hl (by decide) rfl (fun ls hl => ?_)
      refine lv_iconst (v := 1) F.1 F.2.1 dL_charAt_13 (by decide) ?_
      exact MZ_i ⟨fun _ => 0, fun _ _ => 0, fun _ _ => 0⟩ F hr hlocks (Nat.le_of_ble_eq_true rfl) (Nat.le_of_ble_eq_true rfl) (by show va_P (dC, dI) vwCl (catp [wXt g A A1 A2 aq r.2, [(o, .inl (g 6, 1, .inr (.inl (oxI r.1 f))))]] []) H; rw [hof]; exact hP) (by show va_D AA (catp [wXt g A A1 A2 aq r.2, [(o, .inl (g 6, 1, .inr (.inl (oxI r.1 f))))]] []); rw [hof]; exact hD) hS dL_charAt_14
    exact absurd hk (by simp [kx, k0])
  rw [hv] at hk
  have hk9 : k = 0 := by simpa [kx] using hk.symm
  subst hk9
  replace hP : va_P (dC, dI) vwCl (catp [wXt g A A1 A2 aq r.2, [(o, .inl (g 6, 1, .inr (.inl f)))]] []) H := hP
  replace hD : va_D AA (catp [wXt g A A1 A2 aq r.2, [(o, .inl (g 6, 1, .inr (.inl f)))]] []) := hD
  refine lv_i2l F.1 F.2.1 dL_charAt_7 rfl ?_
  refine va_last F.1 F.2.1 hE.1 hP hD hS 387 6 rfl rfl (inR_in (by decide : inR 0 1 = true)) dL_charAt_8 (fun H locs hP hD hS => ?_)
  replace hP : va_P (dC, dI) vwCl (catp [wXt g A A1 A2 aq r.2, [(o, .inl (g 6, 1, .inr (.inl (vp_updL f 0 w.toInt64))))]] []) H := hP
  replace hD : va_D AA (catp [wXt g A A1 A2 aq r.2, [(o, .inl (g 6, 1, .inr (.inl (vp_updL f 0 w.toInt64))))]] []) := hD
  refine lv_goto (tgt := 15) F.1 F.2.1 dL_charAt_9 (by decide) ?_
  refine lv_iconst (v := 0) F.1 F.2.1 dL_charAt_15 (by decide) ?_
  have hof : oxI r.1 f = vp_updL f 0 w.toInt64 := by rw [hv]; rfl
  exact MZ_i ⟨fun _ => 0, fun _ _ => 0, fun _ _ => 0⟩ F hr hlocks (Nat.le_of_ble_eq_true rfl) (Nat.le_of_ble_eq_true rfl) (by show va_P (dC, dI) vwCl (catp [wXt g A A1 A2 aq r.2, [(o, .inl (g 6, 1, .inr (.inl (oxI r.1 f))))]] []) H; rw [hof]; exact hP) (by show va_D AA (catp [wXt g A A1 A2 aq r.2, [(o, .inl (g 6, 1, .inr (.inl (oxI r.1 f))))]] []); rw [hof]; exact hD) hS dL_charAt_16
theorem mbL_type : MSH yL_type cL_type 4 (some .int) [(0, 9, 12, 15)] 3 := ⟨⟨q1485, q0, by decide +kernel⟩, q1484⟩
set_option maxHeartbeats 4000000 in
set_option maxRecDepth 100000 in
theorem tL_type (l : Launch) (hl9 : l.stackTraces = false) (dC : Nat → ClassId) (dI : Nat → Nat → Nat) (g : Nat → ClassId) (A : Nat → Nat) (A1 A2 : Nat → Nat → Nat) (aq o : Nat) (f : Nat → Int64) (u : XT) (p1 : Int32) {r : (Except String Int32) × XT} (h : gX12_type u p1 = some r) {k : Int32} (hk : kx ["java/lang/IllegalStateException"] r.1 = some k) : MZ l yL_type cL_type 4 [(0, 9, 12, 15)] 7 103 1 6 dC dI g [.ref (A 0), .int p1, .ref o] (catp [wXt g A A1 A2 aq u, [(o, .inl (g 6, 1, .inr (.inl f)))]] []) (fun β => catp [wXt g A A1 A2 aq r.2, [(o, .inl (g 6, 1, .inr (.inl (oxI r.1 f))))]] []) k := by
  refine MZ_of (by decide +kernel) (Nat.le_of_ble_eq_true rfl) ?_
  intro p e s m below meth c ls F hr hlocks hC hE hX hA hP hD hS hl
  generalize va_A (catp [wXt g A A1 A2 aq u, [(o, .inl (g 6, 1, .inr (.inl f)))]] []) s.heap.size = AA at hA hD hS hX ⊢
  replace F : CF p m c cL_type 4 s _ RL := F
  replace hl : lv_has ls 4 [(0, .ref (A 0)), (1, .int p1), (2, .ref o)] := hl
  refine lv_aload_n F.1 F.2.1 dL_type_0 rfl (lv_at hl 2 rfl) ?_
  refine lv_iconst (v := 0) F.1 F.2.1 dL_type_1 (by decide) ?_
  refine lv_aload_n F.1 F.2.1 dL_type_2 rfl (lv_at hl 0 rfl) ?_
  refine lv_iload_n F.1 F.2.1 dL_type_3 rfl (lv_at hl 1 rfl) ?_
  refine cXV1 (As := [.int p1]) (rest := [.int 0, .ref o]) (post := catp [[(o, .inl (g 6, 1, .inr (.inl f)))]] []) (ws' := catp [wXt g A A1 A2 aq r.2, [(o, .inl (g 6, 1, .inr (.inl f)))]] []) F hE hX (kX12_type l hl9 dC dI g A A1 A2 aq u p1 h) mbX12_type q1486 ⟨(Nat.le_of_ble_eq_true rfl), (Nat.le_of_ble_eq_true rfl)⟩ ⟨(Nat.le_of_ble_eq_true rfl), (Nat.le_of_ble_eq_true rfl)⟩ hP hD hS hA [] rfl (wXt_fst g A A1 A2 aq _ _) rfl 0 rfl rfl rfl hl.1 rfl (Nat.le_of_ble_eq_true rfl) dL_type_4 (fun E ce q9 hx9 H locs hP hD hS h7 h8 h9 => ?_) (fun w hv H locs hP hD hS => ?_)
  · replace hP : va_P (dC, dI) vwCl (catp [wXt g A A1 A2 aq r.2, [(o, .inl (g 6, 1, .inr (.inl f)))]] []) H := hP
    replace hD : va_D AA (catp [wXt g A A1 A2 aq r.2, [(o, .inl (g 6, 1, .inr (.inl f)))]] []) := hD
    rw [hx9] at hk
    have hof : oxI r.1 f = f := by rw [hx9]; rfl
    by_cases k0 : E = "java/lang/IllegalStateException"
    · subst k0
      have hk9 : k = 1 := by simpa [kx] using hk.symm
      subst hk9
      refine vx_catch (own := RL) (name := "java/lang/IllegalStateException") F.2.2.2.1 [] ⟨0, 9, 12, 15⟩ [] hC (fun _ h9 => absurd h9 List.not_mem_nil) (by decide) (by decide) (F.2.2.2.2 _ q923) (va_Nw.use rfl (hE.2 _ q952)) h7 h8 h9 ?_
      refine lv_astore_n (lv' := [(3, .ref q9), (0, .ref (A 0)), (1, .int p1), (2, .ref o)]) F.1 F.2.1 dL_type_12 rfl hl (by decide) rfl (fun ls hl => ?_)
      refine lv_iconst (v := 1) F.1 F.2.1 dL_type_13 (by decide) ?_
      exact MZ_i ⟨fun _ => 0, fun _ _ => 0, fun _ _ => 0⟩ F hr hlocks (Nat.le_of_ble_eq_true rfl) (Nat.le_of_ble_eq_true rfl) (by show va_P (dC, dI) vwCl (catp [wXt g A A1 A2 aq r.2, [(o, .inl (g 6, 1, .inr (.inl (oxI r.1 f))))]] []) H; rw [hof]; exact hP) (by show va_D AA (catp [wXt g A A1 A2 aq r.2, [(o, .inl (g 6, 1, .inr (.inl (oxI r.1 f))))]] []); rw [hof]; exact hD) hS dL_type_14
    exact absurd hk (by simp [kx, k0])
  rw [hv] at hk
  have hk9 : k = 0 := by simpa [kx] using hk.symm
  subst hk9
  replace hP : va_P (dC, dI) vwCl (catp [wXt g A A1 A2 aq r.2, [(o, .inl (g 6, 1, .inr (.inl f)))]] []) H := hP
  replace hD : va_D AA (catp [wXt g A A1 A2 aq r.2, [(o, .inl (g 6, 1, .inr (.inl f)))]] []) := hD
  refine lv_i2l F.1 F.2.1 dL_type_7 rfl ?_
  refine va_last F.1 F.2.1 hE.1 hP hD hS 387 6 rfl rfl (inR_in (by decide : inR 0 1 = true)) dL_type_8 (fun H locs hP hD hS => ?_)
  replace hP : va_P (dC, dI) vwCl (catp [wXt g A A1 A2 aq r.2, [(o, .inl (g 6, 1, .inr (.inl (vp_updL f 0 w.toInt64))))]] []) H := hP
  replace hD : va_D AA (catp [wXt g A A1 A2 aq r.2, [(o, .inl (g 6, 1, .inr (.inl (vp_updL f 0 w.toInt64))))]] []) := hD
  refine lv_goto (tgt := 15) F.1 F.2.1 dL_type_9 (by decide) ?_
  refine lv_iconst (v := 0) F.1 F.2.1 dL_type_15 (by decide) ?_
  have hof : oxI r.1 f = vp_updL f 0 w.toInt64 := by rw [hv]; rfl
  exact MZ_i ⟨fun _ => 0, fun _ _ => 0, fun _ _ => 0⟩ F hr hlocks (Nat.le_of_ble_eq_true rfl) (Nat.le_of_ble_eq_true rfl) (by show va_P (dC, dI) vwCl (catp [wXt g A A1 A2 aq r.2, [(o, .inl (g 6, 1, .inr (.inl (oxI r.1 f))))]] []) H; rw [hof]; exact hP) (by show va_D AA (catp [wXt g A A1 A2 aq r.2, [(o, .inl (g 6, 1, .inr (.inl (oxI r.1 f))))]] []); rw [hof]; exact hD) hS dL_type_16
theorem mbL_run : MSH yL_run cL_run 3 (some .int) [(0, 8, 11, 13), (0, 8, 14, 37)] 2 := ⟨⟨q1503, q0, by decide +kernel⟩, q1502⟩
set_option maxHeartbeats 4000000 in
set_option maxRecDepth 100000 in
theorem tL_run (l : Launch) (hl9 : l.stackTraces = false) (dC : Nat → ClassId) (dI : Nat → Nat → Nat) (g : Nat → ClassId) (A : Nat → Nat) (A1 A2 : Nat → Nat → Nat) (aq o : Nat) (f : Nat → Int64) (u : XT) {r : (Except String Int32) × XT} (h : gX12_run u = some r) {k : Int32} (hk : kx ["java/lang/IllegalArgumentException", "java/lang/UnsupportedOperationException"] r.1 = some k) : MZ l yL_run cL_run 3 [(0, 8, 11, 13), (0, 8, 14, 37)] 11 217 40 240 dC dI g [.ref (A 0), .ref o] (catp [wXt g A A1 A2 aq u, [(o, .inl (g 6, 1, .inr (.inl f)))]] []) (fun β => catp [wXt g A A1 A2 aq r.2, [(o, .inl (g 6, 1, .inr (.inl (oxI r.1 f))))]] []) k := by
  refine MZ_of (by decide +kernel) (Nat.le_of_ble_eq_true rfl) ?_
  intro p e s m below meth c ls F hr hlocks hC hE hX hA hP hD hS hl
  generalize va_A (catp [wXt g A A1 A2 aq u, [(o, .inl (g 6, 1, .inr (.inl f)))]] []) s.heap.size = AA at hA hD hS hX ⊢
  replace F : CF p m c cL_run 3 s _ RL := F
  replace hl : lv_has ls 3 [(0, .ref (A 0)), (1, .ref o)] := hl
  refine lv_aload_n F.1 F.2.1 dL_run_0 rfl (lv_at hl 1 rfl) ?_
  refine lv_iconst (v := 0) F.1 F.2.1 dL_run_1 (by decide) ?_
  refine lv_aload_n F.1 F.2.1 dL_run_2 rfl (lv_at hl 0 rfl) ?_
  refine cXV1 (As := []) (rest := [.int 0, .ref o]) (post := catp [[(o, .inl (g 6, 1, .inr (.inl f)))]] []) (ws' := catp [wXt g A A1 A2 aq r.2, [(o, .inl (g 6, 1, .inr (.inl f)))]] []) F hE hX (kX12_run l hl9 dC dI g A A1 A2 aq u h) mbX12_run q1504 ⟨(Nat.le_of_ble_eq_true rfl), (Nat.le_of_ble_eq_true rfl)⟩ ⟨(Nat.le_of_ble_eq_true rfl), (Nat.le_of_ble_eq_true rfl)⟩ hP hD hS hA [] rfl (wXt_fst g A A1 A2 aq _ _) rfl 0 rfl rfl rfl hl.1 rfl (Nat.le_of_ble_eq_true rfl) dL_run_3 (fun E ce q9 hx9 H locs hP hD hS h7 h8 h9 => ?_) (fun w hv H locs hP hD hS => ?_)
  · replace hP : va_P (dC, dI) vwCl (catp [wXt g A A1 A2 aq r.2, [(o, .inl (g 6, 1, .inr (.inl f)))]] []) H := hP
    replace hD : va_D AA (catp [wXt g A A1 A2 aq r.2, [(o, .inl (g 6, 1, .inr (.inl f)))]] []) := hD
    rw [hx9] at hk
    have hof : oxI r.1 f = f := by rw [hx9]; rfl
    by_cases k0 : E = "java/lang/IllegalArgumentException"
    · subst k0
      have hk9 : k = 1 := by simpa [kx] using hk.symm
      subst hk9
      refine vx_catch (own := RL) (name := "java/lang/IllegalArgumentException") F.2.2.2.1 [] ⟨0, 8, 11, 13⟩ [⟨0, 8, 14, 37⟩] hC (fun _ h9 => absurd h9 List.not_mem_nil) (by decide) (by decide) (F.2.2.2.2 _ q922) (va_Nw.use rfl (hE.2 _ q705)) h7 h8 h9 ?_
      refine lv_astore_n (lv' := [(2, .ref q9), (0, .ref (A 0)), (1, .ref o)]) F.1 F.2.1 dL_run_11 rfl hl (by decide) rfl (fun ls hl => ?_)
      refine lv_iconst (v := 1) F.1 F.2.1 dL_run_12 (by decide) ?_
      exact MZ_i ⟨fun _ => 0, fun _ _ => 0, fun _ _ => 0⟩ F hr hlocks (Nat.le_of_ble_eq_true rfl) (Nat.le_of_ble_eq_true rfl) (by show va_P (dC, dI) vwCl (catp [wXt g A A1 A2 aq r.2, [(o, .inl (g 6, 1, .inr (.inl (oxI r.1 f))))]] []) H; rw [hof]; exact hP) (by show va_D AA (catp [wXt g A A1 A2 aq r.2, [(o, .inl (g 6, 1, .inr (.inl (oxI r.1 f))))]] []); rw [hof]; exact hD) hS dL_run_13
    by_cases k1 : E = "java/lang/UnsupportedOperationException"
    · subst k1
      have hk9 : k = 2 := by simpa [kx] using hk.symm
      subst hk9
      refine vx_catch (own := RL) (name := "java/lang/UnsupportedOperationException") F.2.2.2.1 [⟨0, 8, 11, 13⟩] ⟨0, 8, 14, 37⟩ [] hC (List.forall_mem_cons.mpr ⟨Or.inr ⟨by decide, "java/lang/IllegalArgumentException", F.2.2.2.2 _ q922, hX.2.2.1 ("java/lang/UnsupportedOperationException", "java/lang/IllegalArgumentException") (by decide +kernel)⟩, (fun _ h9 => absurd h9 List.not_mem_nil)⟩) (by decide) (by decide) (F.2.2.2.2 _ q1099) (va_Nw.use rfl (hE.2 _ q1127)) h7 h8 h9 ?_
      refine lv_astore_n (lv' := [(2, .ref q9), (0, .ref (A 0)), (1, .ref o)]) F.1 F.2.1 dL_run_14 rfl hl (by decide) rfl (fun ls hl => ?_)
      refine lv_iconst (v := 2) F.1 F.2.1 dL_run_15 (by decide) ?_
      exact MZ_i ⟨fun _ => 0, fun _ _ => 0, fun _ _ => 0⟩ F hr hlocks (Nat.le_of_ble_eq_true rfl) (Nat.le_of_ble_eq_true rfl) (by show va_P (dC, dI) vwCl (catp [wXt g A A1 A2 aq r.2, [(o, .inl (g 6, 1, .inr (.inl (oxI r.1 f))))]] []) H; rw [hof]; exact hP) (by show va_D AA (catp [wXt g A A1 A2 aq r.2, [(o, .inl (g 6, 1, .inr (.inl (oxI r.1 f))))]] []); rw [hof]; exact hD) hS dL_run_16
    exact absurd hk (by simp [kx, k0, k1])
  rw [hv] at hk
  have hk9 : k = 0 := by simpa [kx] using hk.symm
  subst hk9
  replace hP : va_P (dC, dI) vwCl (catp [wXt g A A1 A2 aq r.2, [(o, .inl (g 6, 1, .inr (.inl f)))]] []) H := hP
  replace hD : va_D AA (catp [wXt g A A1 A2 aq r.2, [(o, .inl (g 6, 1, .inr (.inl f)))]] []) := hD
  refine lv_i2l F.1 F.2.1 dL_run_6 rfl ?_
  refine va_last F.1 F.2.1 hE.1 hP hD hS 387 6 rfl rfl (inR_in (by decide : inR 0 1 = true)) dL_run_7 (fun H locs hP hD hS => ?_)
  replace hP : va_P (dC, dI) vwCl (catp [wXt g A A1 A2 aq r.2, [(o, .inl (g 6, 1, .inr (.inl (vp_updL f 0 w.toInt64))))]] []) H := hP
  replace hD : va_D AA (catp [wXt g A A1 A2 aq r.2, [(o, .inl (g 6, 1, .inr (.inl (vp_updL f 0 w.toInt64))))]] []) := hD
  refine lv_goto (tgt := 17) F.1 F.2.1 dL_run_8 (by decide) ?_
  refine lv_iconst (v := 0) F.1 F.2.1 dL_run_17 (by decide) ?_
  have hof : oxI r.1 f = vp_updL f 0 w.toInt64 := by rw [hv]; rfl
  exact MZ_i ⟨fun _ => 0, fun _ _ => 0, fun _ _ => 0⟩ F hr hlocks (Nat.le_of_ble_eq_true rfl) (Nat.le_of_ble_eq_true rfl) (by show va_P (dC, dI) vwCl (catp [wXt g A A1 A2 aq r.2, [(o, .inl (g 6, 1, .inr (.inl (oxI r.1 f))))]] []) H; rw [hof]; exact hP) (by show va_D AA (catp [wXt g A A1 A2 aq r.2, [(o, .inl (g 6, 1, .inr (.inl (oxI r.1 f))))]] []); rw [hof]; exact hD) hS dL_run_18
theorem mbL_errorPosition : MSH yL_errorPosition cL_errorPosition 3 (some .int) [(0, 8, 11, 21)] 2 := ⟨⟨q1631, q0, by decide +kernel⟩, q1630⟩
set_option maxHeartbeats 4000000 in
set_option maxRecDepth 100000 in
theorem tL_errorPosition (l : Launch) (hl9 : l.stackTraces = false) (dC : Nat → ClassId) (dI : Nat → Nat → Nat) (g : Nat → ClassId) (A : Nat → Nat) (A1 A2 : Nat → Nat → Nat) (aq o : Nat) (f : Nat → Int64) (u : XT) {r : (Except String Int32) × XT} (h : gX12_errorPosition u = some r) {k : Int32} (hk : kx ["java/util/NoSuchElementException"] r.1 = some k) : MZ l yL_errorPosition cL_errorPosition 3 [(0, 8, 11, 21)] 7 102 1 6 dC dI g [.ref (A 0), .ref o] (catp [wXt g A A1 A2 aq u, [(o, .inl (g 6, 1, .inr (.inl f)))]] []) (fun β => catp [wXt g A A1 A2 aq r.2, [(o, .inl (g 6, 1, .inr (.inl (oxI r.1 f))))]] []) k := by
  refine MZ_of (by decide +kernel) (Nat.le_of_ble_eq_true rfl) ?_
  intro p e s m below meth c ls F hr hlocks hC hE hX hA hP hD hS hl
  generalize va_A (catp [wXt g A A1 A2 aq u, [(o, .inl (g 6, 1, .inr (.inl f)))]] []) s.heap.size = AA at hA hD hS hX ⊢
  replace F : CF p m c cL_errorPosition 3 s _ RL := F
  replace hl : lv_has ls 3 [(0, .ref (A 0)), (1, .ref o)] := hl
  refine lv_aload_n F.1 F.2.1 dL_errorPosition_0 rfl (lv_at hl 1 rfl) ?_
  refine lv_iconst (v := 0) F.1 F.2.1 dL_errorPosition_1 (by decide) ?_
  refine lv_aload_n F.1 F.2.1 dL_errorPosition_2 rfl (lv_at hl 0 rfl) ?_
  refine cXV1 (As := []) (rest := [.int 0, .ref o]) (post := catp [[(o, .inl (g 6, 1, .inr (.inl f)))]] []) (ws' := catp [wXt g A A1 A2 aq r.2, [(o, .inl (g 6, 1, .inr (.inl f)))]] []) F hE hX (kX12_errorPosition l hl9 dC dI g A A1 A2 aq u h) mbX12_errorPosition q1632 ⟨(Nat.le_of_ble_eq_true rfl), (Nat.le_of_ble_eq_true rfl)⟩ ⟨(Nat.le_of_ble_eq_true rfl), (Nat.le_of_ble_eq_true rfl)⟩ hP hD hS hA [] rfl (wXt_fst g A A1 A2 aq _ _) rfl 0 rfl rfl rfl hl.1 rfl (Nat.le_of_ble_eq_true rfl) dL_errorPosition_3 (fun E ce q9 hx9 H locs hP hD hS h7 h8 h9 => ?_) (fun w hv H locs hP hD hS => ?_)
  · replace hP : va_P (dC, dI) vwCl (catp [wXt g A A1 A2 aq r.2, [(o, .inl (g 6, 1, .inr (.inl f)))]] []) H := hP
    replace hD : va_D AA (catp [wXt g A A1 A2 aq r.2, [(o, .inl (g 6, 1, .inr (.inl f)))]] []) := hD
    rw [hx9] at hk
    have hof : oxI r.1 f = f := by rw [hx9]; rfl
    by_cases k0 : E = "java/util/NoSuchElementException"
    · subst k0
      have hk9 : k = 1 := by simpa [kx] using hk.symm
      subst hk9
      refine vx_catch (own := RL) (name := "java/util/NoSuchElementException") F.2.2.2.1 [] ⟨0, 8, 11, 21⟩ [] hC (fun _ h9 => absurd h9 List.not_mem_nil) (by decide) (by decide) (F.2.2.2.2 _ q982) (va_Nw.use rfl (hE.2 _ q998)) h7 h8 h9 ?_
      refine lv_astore_n (lv' := [(2, .ref q9), (0, .ref (A 0)), (1, .ref o)]) F.1 F.2.1 dL_errorPosition_11 rfl hl (by decide) rfl (fun ls hl => ?_)
      refine lv_iconst (v := 1) F.1 F.2.1 dL_errorPosition_12 (by decide) ?_
      exact MZ_i ⟨fun _ => 0, fun _ _ => 0, fun _ _ => 0⟩ F hr hlocks (Nat.le_of_ble_eq_true rfl) (Nat.le_of_ble_eq_true rfl) (by show va_P (dC, dI) vwCl (catp [wXt g A A1 A2 aq r.2, [(o, .inl (g 6, 1, .inr (.inl (oxI r.1 f))))]] []) H; rw [hof]; exact hP) (by show va_D AA (catp [wXt g A A1 A2 aq r.2, [(o, .inl (g 6, 1, .inr (.inl (oxI r.1 f))))]] []); rw [hof]; exact hD) hS dL_errorPosition_13
    exact absurd hk (by simp [kx, k0])
  rw [hv] at hk
  have hk9 : k = 0 := by simpa [kx] using hk.symm
  subst hk9
  replace hP : va_P (dC, dI) vwCl (catp [wXt g A A1 A2 aq r.2, [(o, .inl (g 6, 1, .inr (.inl f)))]] []) H := hP
  replace hD : va_D AA (catp [wXt g A A1 A2 aq r.2, [(o, .inl (g 6, 1, .inr (.inl f)))]] []) := hD
  refine lv_i2l F.1 F.2.1 dL_errorPosition_6 rfl ?_
  refine va_last F.1 F.2.1 hE.1 hP hD hS 387 6 rfl rfl (inR_in (by decide : inR 0 1 = true)) dL_errorPosition_7 (fun H locs hP hD hS => ?_)
  replace hP : va_P (dC, dI) vwCl (catp [wXt g A A1 A2 aq r.2, [(o, .inl (g 6, 1, .inr (.inl (vp_updL f 0 w.toInt64))))]] []) H := hP
  replace hD : va_D AA (catp [wXt g A A1 A2 aq r.2, [(o, .inl (g 6, 1, .inr (.inl (vp_updL f 0 w.toInt64))))]] []) := hD
  refine lv_goto (tgt := 14) F.1 F.2.1 dL_errorPosition_8 (by decide) ?_
  refine lv_iconst (v := 0) F.1 F.2.1 dL_errorPosition_14 (by decide) ?_
  have hof : oxI r.1 f = vp_updL f 0 w.toInt64 := by rw [hv]; rfl
  exact MZ_i ⟨fun _ => 0, fun _ _ => 0, fun _ _ => 0⟩ F hr hlocks (Nat.le_of_ble_eq_true rfl) (Nat.le_of_ble_eq_true rfl) (by show va_P (dC, dI) vwCl (catp [wXt g A A1 A2 aq r.2, [(o, .inl (g 6, 1, .inr (.inl (oxI r.1 f))))]] []) H; rw [hof]; exact hP) (by show va_D AA (catp [wXt g A A1 A2 aq r.2, [(o, .inl (g 6, 1, .inr (.inl (oxI r.1 f))))]] []); rw [hof]; exact hD) hS dL_errorPosition_15
theorem mbL_failedCommand : MSH yL_failedCommand cL_failedCommand 3 (some .int) [(0, 8, 11, 21)] 2 := ⟨⟨q1639, q0, by decide +kernel⟩, q1638⟩
set_option maxHeartbeats 4000000 in
set_option maxRecDepth 100000 in
theorem tL_failedCommand (l : Launch) (hl9 : l.stackTraces = false) (dC : Nat → ClassId) (dI : Nat → Nat → Nat) (g : Nat → ClassId) (A : Nat → Nat) (A1 A2 : Nat → Nat → Nat) (aq o : Nat) (f : Nat → Int64) (u : XT) {r : (Except String Int32) × XT} (h : gX12_failedCommand u = some r) {k : Int32} (hk : kx ["java/util/NoSuchElementException"] r.1 = some k) : MZ l yL_failedCommand cL_failedCommand 3 [(0, 8, 11, 21)] 7 102 1 6 dC dI g [.ref (A 0), .ref o] (catp [wXt g A A1 A2 aq u, [(o, .inl (g 6, 1, .inr (.inl f)))]] []) (fun β => catp [wXt g A A1 A2 aq r.2, [(o, .inl (g 6, 1, .inr (.inl (oxI r.1 f))))]] []) k := by
  refine MZ_of (by decide +kernel) (Nat.le_of_ble_eq_true rfl) ?_
  intro p e s m below meth c ls F hr hlocks hC hE hX hA hP hD hS hl
  generalize va_A (catp [wXt g A A1 A2 aq u, [(o, .inl (g 6, 1, .inr (.inl f)))]] []) s.heap.size = AA at hA hD hS hX ⊢
  replace F : CF p m c cL_failedCommand 3 s _ RL := F
  replace hl : lv_has ls 3 [(0, .ref (A 0)), (1, .ref o)] := hl
  refine lv_aload_n F.1 F.2.1 dL_failedCommand_0 rfl (lv_at hl 1 rfl) ?_
  refine lv_iconst (v := 0) F.1 F.2.1 dL_failedCommand_1 (by decide) ?_
  refine lv_aload_n F.1 F.2.1 dL_failedCommand_2 rfl (lv_at hl 0 rfl) ?_
  refine cXV1 (As := []) (rest := [.int 0, .ref o]) (post := catp [[(o, .inl (g 6, 1, .inr (.inl f)))]] []) (ws' := catp [wXt g A A1 A2 aq r.2, [(o, .inl (g 6, 1, .inr (.inl f)))]] []) F hE hX (kX12_failedCommand l hl9 dC dI g A A1 A2 aq u h) mbX12_failedCommand q1640 ⟨(Nat.le_of_ble_eq_true rfl), (Nat.le_of_ble_eq_true rfl)⟩ ⟨(Nat.le_of_ble_eq_true rfl), (Nat.le_of_ble_eq_true rfl)⟩ hP hD hS hA [] rfl (wXt_fst g A A1 A2 aq _ _) rfl 0 rfl rfl rfl hl.1 rfl (Nat.le_of_ble_eq_true rfl) dL_failedCommand_3 (fun E ce q9 hx9 H locs hP hD hS h7 h8 h9 => ?_) (fun w hv H locs hP hD hS => ?_)
  · replace hP : va_P (dC, dI) vwCl (catp [wXt g A A1 A2 aq r.2, [(o, .inl (g 6, 1, .inr (.inl f)))]] []) H := hP
    replace hD : va_D AA (catp [wXt g A A1 A2 aq r.2, [(o, .inl (g 6, 1, .inr (.inl f)))]] []) := hD
    rw [hx9] at hk
    have hof : oxI r.1 f = f := by rw [hx9]; rfl
    by_cases k0 : E = "java/util/NoSuchElementException"
    · subst k0
      have hk9 : k = 1 := by simpa [kx] using hk.symm
      subst hk9
      refine vx_catch (own := RL) (name := "java/util/NoSuchElementException") F.2.2.2.1 [] ⟨0, 8, 11, 21⟩ [] hC (fun _ h9 => absurd h9 List.not_mem_nil) (by decide) (by decide) (F.2.2.2.2 _ q982) (va_Nw.use rfl (hE.2 _ q998)) h7 h8 h9 ?_
      refine lv_astore_n (lv' := [(2, .ref q9), (0, .ref (A 0)), (1, .ref o)]) F.1 F.2.1 dL_failedCommand_11 rfl hl (by decide) rfl (fun ls hl => ?_)
      refine lv_iconst (v := 1) F.1 F.2.1 dL_failedCommand_12 (by decide) ?_
      exact MZ_i ⟨fun _ => 0, fun _ _ => 0, fun _ _ => 0⟩ F hr hlocks (Nat.le_of_ble_eq_true rfl) (Nat.le_of_ble_eq_true rfl) (by show va_P (dC, dI) vwCl (catp [wXt g A A1 A2 aq r.2, [(o, .inl (g 6, 1, .inr (.inl (oxI r.1 f))))]] []) H; rw [hof]; exact hP) (by show va_D AA (catp [wXt g A A1 A2 aq r.2, [(o, .inl (g 6, 1, .inr (.inl (oxI r.1 f))))]] []); rw [hof]; exact hD) hS dL_failedCommand_13
    exact absurd hk (by simp [kx, k0])
  rw [hv] at hk
  have hk9 : k = 0 := by simpa [kx] using hk.symm
  subst hk9
  replace hP : va_P (dC, dI) vwCl (catp [wXt g A A1 A2 aq r.2, [(o, .inl (g 6, 1, .inr (.inl f)))]] []) H := hP
  replace hD : va_D AA (catp [wXt g A A1 A2 aq r.2, [(o, .inl (g 6, 1, .inr (.inl f)))]] []) := hD
  refine lv_i2l F.1 F.2.1 dL_failedCommand_6 rfl ?_
  refine va_last F.1 F.2.1 hE.1 hP hD hS 387 6 rfl rfl (inR_in (by decide : inR 0 1 = true)) dL_failedCommand_7 (fun H locs hP hD hS => ?_)
  replace hP : va_P (dC, dI) vwCl (catp [wXt g A A1 A2 aq r.2, [(o, .inl (g 6, 1, .inr (.inl (vp_updL f 0 w.toInt64))))]] []) H := hP
  replace hD : va_D AA (catp [wXt g A A1 A2 aq r.2, [(o, .inl (g 6, 1, .inr (.inl (vp_updL f 0 w.toInt64))))]] []) := hD
  refine lv_goto (tgt := 14) F.1 F.2.1 dL_failedCommand_8 (by decide) ?_
  refine lv_iconst (v := 0) F.1 F.2.1 dL_failedCommand_14 (by decide) ?_
  have hof : oxI r.1 f = vp_updL f 0 w.toInt64 := by rw [hv]; rfl
  exact MZ_i ⟨fun _ => 0, fun _ _ => 0, fun _ _ => 0⟩ F hr hlocks (Nat.le_of_ble_eq_true rfl) (Nat.le_of_ble_eq_true rfl) (by show va_P (dC, dI) vwCl (catp [wXt g A A1 A2 aq r.2, [(o, .inl (g 6, 1, .inr (.inl (oxI r.1 f))))]] []) H; rw [hof]; exact hP) (by show va_D AA (catp [wXt g A A1 A2 aq r.2, [(o, .inl (g 6, 1, .inr (.inl (oxI r.1 f))))]] []); rw [hof]; exact hD) hS dL_failedCommand_15
theorem mbL_undo : MSH yL_undo cL_undo 3 (some .int) [(0, 8, 11, 15)] 2 := ⟨⟨q1647, q0, by decide +kernel⟩, q1646⟩
set_option maxHeartbeats 4000000 in
set_option maxRecDepth 100000 in
theorem tL_undo (l : Launch) (hl9 : l.stackTraces = false) (dC : Nat → ClassId) (dI : Nat → Nat → Nat) (g : Nat → ClassId) (A : Nat → Nat) (A1 A2 : Nat → Nat → Nat) (aq o : Nat) (f : Nat → Int64) (u : XT) {r : (Except String Int32) × XT} (h : gX12_undo u = some r) {k : Int32} (hk : kx ["java/lang/IllegalStateException"] r.1 = some k) : MZ l yL_undo cL_undo 3 [(0, 8, 11, 15)] 7 127 1 6 dC dI g [.ref (A 0), .ref o] (catp [wXt g A A1 A2 aq u, [(o, .inl (g 6, 1, .inr (.inl f)))]] []) (fun β => catp [wXt g A A1 A2 aq r.2, [(o, .inl (g 6, 1, .inr (.inl (oxI r.1 f))))]] []) k := by
  refine MZ_of (by decide +kernel) (Nat.le_of_ble_eq_true rfl) ?_
  intro p e s m below meth c ls F hr hlocks hC hE hX hA hP hD hS hl
  generalize va_A (catp [wXt g A A1 A2 aq u, [(o, .inl (g 6, 1, .inr (.inl f)))]] []) s.heap.size = AA at hA hD hS hX ⊢
  replace F : CF p m c cL_undo 3 s _ RL := F
  replace hl : lv_has ls 3 [(0, .ref (A 0)), (1, .ref o)] := hl
  refine lv_aload_n F.1 F.2.1 dL_undo_0 rfl (lv_at hl 1 rfl) ?_
  refine lv_iconst (v := 0) F.1 F.2.1 dL_undo_1 (by decide) ?_
  refine lv_aload_n F.1 F.2.1 dL_undo_2 rfl (lv_at hl 0 rfl) ?_
  refine cXV1 (As := []) (rest := [.int 0, .ref o]) (post := catp [[(o, .inl (g 6, 1, .inr (.inl f)))]] []) (ws' := catp [wXt g A A1 A2 aq r.2, [(o, .inl (g 6, 1, .inr (.inl f)))]] []) F hE hX (kX12_undo l hl9 dC dI g A A1 A2 aq u h) mbX12_undo q1648 ⟨(Nat.le_of_ble_eq_true rfl), (Nat.le_of_ble_eq_true rfl)⟩ ⟨(Nat.le_of_ble_eq_true rfl), (Nat.le_of_ble_eq_true rfl)⟩ hP hD hS hA [] rfl (wXt_fst g A A1 A2 aq _ _) rfl 0 rfl rfl rfl hl.1 rfl (Nat.le_of_ble_eq_true rfl) dL_undo_3 (fun E ce q9 hx9 H locs hP hD hS h7 h8 h9 => ?_) (fun w hv H locs hP hD hS => ?_)
  · replace hP : va_P (dC, dI) vwCl (catp [wXt g A A1 A2 aq r.2, [(o, .inl (g 6, 1, .inr (.inl f)))]] []) H := hP
    replace hD : va_D AA (catp [wXt g A A1 A2 aq r.2, [(o, .inl (g 6, 1, .inr (.inl f)))]] []) := hD
    rw [hx9] at hk
    have hof : oxI r.1 f = f := by rw [hx9]; rfl
    by_cases k0 : E = "java/lang/IllegalStateException"
    · subst k0
      have hk9 : k = 1 := by simpa [kx] using hk.symm
      subst hk9
      refine vx_catch (own := RL) (name := "java/lang/IllegalStateException") F.2.2.2.1 [] ⟨0, 8, 11, 15⟩ [] hC (fun _ h9 => absurd h9 List.not_mem_nil) (by decide) (by decide) (F.2.2.2.2 _ q923) (va_Nw.use rfl (hE.2 _ q952)) h7 h8 h9 ?_
      refine lv_astore_n (lv' := [(2, .ref q9), (0, .ref (A 0)), (1, .ref o)]) F.1 F.2.1 dL_undo_11 rfl hl (by decide) rfl (fun ls hl => ?_)
      refine lv_iconst (v := 1) F.1 F.2.1 dL_undo_12 (by decide) ?_
      exact MZ_i ⟨fun _ => 0, fun _ _ => 0, fun _ _ => 0⟩ F hr hlocks (Nat.le_of_ble_eq_true rfl) (Nat.le_of_ble_eq_true rfl) (by show va_P (dC, dI) vwCl (catp [wXt g A A1 A2 aq r.2, [(o, .inl (g 6, 1, .inr (.inl (oxI r.1 f))))]] []) H; rw [hof]; exact hP) (by show va_D AA (catp [wXt g A A1 A2 aq r.2, [(o, .inl (g 6, 1, .inr (.inl (oxI r.1 f))))]] []); rw [hof]; exact hD) hS dL_undo_13
    exact absurd hk (by simp [kx, k0])
  rw [hv] at hk
  have hk9 : k = 0 := by simpa [kx] using hk.symm
  subst hk9
  replace hP : va_P (dC, dI) vwCl (catp [wXt g A A1 A2 aq r.2, [(o, .inl (g 6, 1, .inr (.inl f)))]] []) H := hP
  replace hD : va_D AA (catp [wXt g A A1 A2 aq r.2, [(o, .inl (g 6, 1, .inr (.inl f)))]] []) := hD
  refine lv_i2l F.1 F.2.1 dL_undo_6 rfl ?_
  refine va_last F.1 F.2.1 hE.1 hP hD hS 387 6 rfl rfl (inR_in (by decide : inR 0 1 = true)) dL_undo_7 (fun H locs hP hD hS => ?_)
  replace hP : va_P (dC, dI) vwCl (catp [wXt g A A1 A2 aq r.2, [(o, .inl (g 6, 1, .inr (.inl (vp_updL f 0 w.toInt64))))]] []) H := hP
  replace hD : va_D AA (catp [wXt g A A1 A2 aq r.2, [(o, .inl (g 6, 1, .inr (.inl (vp_updL f 0 w.toInt64))))]] []) := hD
  refine lv_goto (tgt := 14) F.1 F.2.1 dL_undo_8 (by decide) ?_
  refine lv_iconst (v := 0) F.1 F.2.1 dL_undo_14 (by decide) ?_
  have hof : oxI r.1 f = vp_updL f 0 w.toInt64 := by rw [hv]; rfl
  exact MZ_i ⟨fun _ => 0, fun _ _ => 0, fun _ _ => 0⟩ F hr hlocks (Nat.le_of_ble_eq_true rfl) (Nat.le_of_ble_eq_true rfl) (by show va_P (dC, dI) vwCl (catp [wXt g A A1 A2 aq r.2, [(o, .inl (g 6, 1, .inr (.inl (oxI r.1 f))))]] []) H; rw [hof]; exact hP) (by show va_D AA (catp [wXt g A A1 A2 aq r.2, [(o, .inl (g 6, 1, .inr (.inl (oxI r.1 f))))]] []); rw [hof]; exact hD) hS dL_undo_15
theorem mbL_restore : MSH yL_restore cL_restore 3 (some .int) [(0, 8, 11, 15)] 2 := ⟨⟨q1664, q0, by decide +kernel⟩, q1663⟩
set_option maxHeartbeats 4000000 in
set_option maxRecDepth 100000 in
theorem tL_restore (l : Launch) (hl9 : l.stackTraces = false) (dC : Nat → ClassId) (dI : Nat → Nat → Nat) (g : Nat → ClassId) (A : Nat → Nat) (A1 A2 : Nat → Nat → Nat) (aq o : Nat) (f : Nat → Int64) (u : XT) {r : (Except String Int32) × XT} (h : gX12_restore u = some r) {k : Int32} (hk : kx ["java/lang/IllegalStateException"] r.1 = some k) : MZ l yL_restore cL_restore 3 [(0, 8, 11, 15)] 7 102 1 6 dC dI g [.ref (A 0), .ref o] (catp [wXt g A A1 A2 aq u, [(o, .inl (g 6, 1, .inr (.inl f)))]] []) (fun β => catp [wXt g A A1 A2 aq r.2, [(o, .inl (g 6, 1, .inr (.inl (oxI r.1 f))))]] []) k := by
  refine MZ_of (by decide +kernel) (Nat.le_of_ble_eq_true rfl) ?_
  intro p e s m below meth c ls F hr hlocks hC hE hX hA hP hD hS hl
  generalize va_A (catp [wXt g A A1 A2 aq u, [(o, .inl (g 6, 1, .inr (.inl f)))]] []) s.heap.size = AA at hA hD hS hX ⊢
  replace F : CF p m c cL_restore 3 s _ RL := F
  replace hl : lv_has ls 3 [(0, .ref (A 0)), (1, .ref o)] := hl
  refine lv_aload_n F.1 F.2.1 dL_restore_0 rfl (lv_at hl 1 rfl) ?_
  refine lv_iconst (v := 0) F.1 F.2.1 dL_restore_1 (by decide) ?_
  refine lv_aload_n F.1 F.2.1 dL_restore_2 rfl (lv_at hl 0 rfl) ?_
  refine cXV1 (As := []) (rest := [.int 0, .ref o]) (post := catp [[(o, .inl (g 6, 1, .inr (.inl f)))]] []) (ws' := catp [wXt g A A1 A2 aq r.2, [(o, .inl (g 6, 1, .inr (.inl f)))]] []) F hE hX (kX12_restore l hl9 dC dI g A A1 A2 aq u h) mbX12_restore q1665 ⟨(Nat.le_of_ble_eq_true rfl), (Nat.le_of_ble_eq_true rfl)⟩ ⟨(Nat.le_of_ble_eq_true rfl), (Nat.le_of_ble_eq_true rfl)⟩ hP hD hS hA [] rfl (wXt_fst g A A1 A2 aq _ _) rfl 0 rfl rfl rfl hl.1 rfl (Nat.le_of_ble_eq_true rfl) dL_restore_3 (fun E ce q9 hx9 H locs hP hD hS h7 h8 h9 => ?_) (fun w hv H locs hP hD hS => ?_)
  · replace hP : va_P (dC, dI) vwCl (catp [wXt g A A1 A2 aq r.2, [(o, .inl (g 6, 1, .inr (.inl f)))]] []) H := hP
    replace hD : va_D AA (catp [wXt g A A1 A2 aq r.2, [(o, .inl (g 6, 1, .inr (.inl f)))]] []) := hD
    rw [hx9] at hk
    have hof : oxI r.1 f = f := by rw [hx9]; rfl
    by_cases k0 : E = "java/lang/IllegalStateException"
    · subst k0
      have hk9 : k = 1 := by simpa [kx] using hk.symm
      subst hk9
      refine vx_catch (own := RL) (name := "java/lang/IllegalStateException") F.2.2.2.1 [] ⟨0, 8, 11, 15⟩ [] hC (fun _ h9 => absurd h9 List.not_mem_nil) (by decide) (by decide) (F.2.2.2.2 _ q923) (va_Nw.use rfl (hE.2 _ q952)) h7 h8 h9 ?_
      refine lv_astore_n (lv' := [(2, .ref q9), (0, .ref (A 0)), (1, .ref o)]) F.1 F.2.1 dL_restore_11 rfl hl (by decide) rfl (fun ls hl => ?_)
      refine lv_iconst (v := 1) F.1 F.2.1 dL_restore_12 (by decide) ?_
      exact MZ_i ⟨fun _ => 0, fun _ _ => 0, fun _ _ => 0⟩ F hr hlocks (Nat.le_of_ble_eq_true rfl) (Nat.le_of_ble_eq_true rfl) (by show va_P (dC, dI) vwCl (catp [wXt g A A1 A2 aq r.2, [(o, .inl (g 6, 1, .inr (.inl (oxI r.1 f))))]] []) H; rw [hof]; exact hP) (by show va_D AA (catp [wXt g A A1 A2 aq r.2, [(o, .inl (g 6, 1, .inr (.inl (oxI r.1 f))))]] []); rw [hof]; exact hD) hS dL_restore_13
    exact absurd hk (by simp [kx, k0])
  rw [hv] at hk
  have hk9 : k = 0 := by simpa [kx] using hk.symm
  subst hk9
  replace hP : va_P (dC, dI) vwCl (catp [wXt g A A1 A2 aq r.2, [(o, .inl (g 6, 1, .inr (.inl f)))]] []) H := hP
  replace hD : va_D AA (catp [wXt g A A1 A2 aq r.2, [(o, .inl (g 6, 1, .inr (.inl f)))]] []) := hD
  refine lv_i2l F.1 F.2.1 dL_restore_6 rfl ?_
  refine va_last F.1 F.2.1 hE.1 hP hD hS 387 6 rfl rfl (inR_in (by decide : inR 0 1 = true)) dL_restore_7 (fun H locs hP hD hS => ?_)
  replace hP : va_P (dC, dI) vwCl (catp [wXt g A A1 A2 aq r.2, [(o, .inl (g 6, 1, .inr (.inl (vp_updL f 0 w.toInt64))))]] []) H := hP
  replace hD : va_D AA (catp [wXt g A A1 A2 aq r.2, [(o, .inl (g 6, 1, .inr (.inl (vp_updL f 0 w.toInt64))))]] []) := hD
  refine lv_goto (tgt := 14) F.1 F.2.1 dL_restore_8 (by decide) ?_
  refine lv_iconst (v := 0) F.1 F.2.1 dL_restore_14 (by decide) ?_
  have hof : oxI r.1 f = vp_updL f 0 w.toInt64 := by rw [hv]; rfl
  exact MZ_i ⟨fun _ => 0, fun _ _ => 0, fun _ _ => 0⟩ F hr hlocks (Nat.le_of_ble_eq_true rfl) (Nat.le_of_ble_eq_true rfl) (by show va_P (dC, dI) vwCl (catp [wXt g A A1 A2 aq r.2, [(o, .inl (g 6, 1, .inr (.inl (oxI r.1 f))))]] []) H; rw [hof]; exact hP) (by show va_D AA (catp [wXt g A A1 A2 aq r.2, [(o, .inl (g 6, 1, .inr (.inl (oxI r.1 f))))]] []); rw [hof]; exact hD) hS dL_restore_15
