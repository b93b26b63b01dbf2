theorem mbL_addSpool : MSH yL_addSpool cL_addSpool 5 (some .int) [(0, 10, 13, 13), (0, 10, 17, 15)] 4 := ⟨⟨q921, q0, by decide +kernel⟩, q920⟩
set_option maxHeartbeats 4000000 in
set_option maxRecDepth 100000 in
theorem tL_addSpool (l : Launch) (hl9 : l.stackTraces = false) (dC : Nat → ClassId) (dI : Nat → Nat → Nat) (g : Nat → ClassId) (A : Nat → Nat) (A1 A2 : Nat → Nat → Nat) (aq o : Nat) (f : Nat → Int64) (u : XT) (p1 : Int32) (p2 : Int32) {r : (Except String Int32) × XT} (h : gX12_addSpool u p1 p2 = some r) {k : Int32} (hk : kx ["java/lang/IllegalArgumentException", "java/lang/IllegalStateException"] r.1 = some k) : MZ l yL_addSpool cL_addSpool 5 [(0, 10, 13, 13), (0, 10, 17, 15)] 9 147 2 12 dC dI g [.ref (A 0), .int p1, .int p2, .ref o] (catp [wXt g A A1 A2 aq u, [(o, .inl (g 6, 1, .inr (.inl f)))]] []) (fun β => catp [wXt g A A1 A2 aq r.2, [(o, .inl (g 6, 1, .inr (.inl (oxI r.1 f))))]] []) k := by
  refine MZ_of (by decide +kernel) (Nat.le_of_ble_eq_true rfl) ?_
  intro p e s m below meth c ls F hr hlocks hC hE hX hA hP hD hS hl
  generalize va_A (catp [wXt g A A1 A2 aq u, [(o, .inl (g 6, 1, .inr (.inl f)))]] []) s.heap.size = AA at hA hD hS hX ⊢
  replace F : CF p m c cL_addSpool 5 s _ RL := F
  replace hl : lv_has ls 5 [(0, .ref (A 0)), (1, .int p1), (2, .int p2), (3, .ref o)] := hl
  refine lv_aload_n F.1 F.2.1 dL_addSpool_0 rfl (lv_at hl 3 rfl) ?_
  refine lv_iconst (v := 0) F.1 F.2.1 dL_addSpool_1 (by decide) ?_
  refine lv_aload_n F.1 F.2.1 dL_addSpool_2 rfl (lv_at hl 0 rfl) ?_
  refine lv_iload_n F.1 F.2.1 dL_addSpool_3 rfl (lv_at hl 1 rfl) ?_
  refine lv_iload_n F.1 F.2.1 dL_addSpool_4 rfl (lv_at hl 2 rfl) ?_
  refine cXV1 (As := [.int p1, .int p2]) (rest := [.int 0, .ref o]) (post := catp [[(o, .inl (g 6, 1, .inr (.inl f)))]] []) (ws' := catp [wXt g A A1 A2 aq r.2, [(o, .inl (g 6, 1, .inr (.inl f)))]] []) F hE hX (kX12_addSpool l hl9 dC dI g A A1 A2 aq u p1 p2 h) mbX12_addSpool q924 ⟨(Nat.le_of_ble_eq_true rfl), (Nat.le_of_ble_eq_true rfl)⟩ ⟨(Nat.le_of_ble_eq_true rfl), (Nat.le_of_ble_eq_true rfl)⟩ hP hD hS hA [] rfl (wXt_fst g A A1 A2 aq _ _) rfl 0 rfl rfl rfl hl.1 rfl (Nat.le_of_ble_eq_true rfl) dL_addSpool_5 (fun E ce q9 hx9 H locs hP hD hS h7 h8 h9 => ?_) (fun w hv H locs hP hD hS => ?_)
  · replace hP : va_P (dC, dI) vwCl (catp [wXt g A A1 A2 aq r.2, [(o, .inl (g 6, 1, .inr (.inl f)))]] []) H := hP
    replace hD : va_D AA (catp [wXt g A A1 A2 aq r.2, [(o, .inl (g 6, 1, .inr (.inl f)))]] []) := hD
    rw [hx9] at hk
    have hof : oxI r.1 f = f := by rw [hx9]; rfl
    by_cases k0 : E = "java/lang/IllegalArgumentException"
    · subst k0
      have hk9 : k = 1 := by simpa [kx] using hk.symm
      subst hk9
      refine vx_catch (own := RL) (name := "java/lang/IllegalArgumentException") F.2.2.2.1 [] ⟨0, 10, 13, 13⟩ [⟨0, 10, 17, 15⟩] hC (fun _ h9 => absurd h9 List.not_mem_nil) (by decide) (by decide) (F.2.2.2.2 _ q922) (va_Nw.use rfl (hE.2 _ q705)) h7 h8 h9 ?_
      refine lv_astore (lv' := [(4, .ref q9), (0, .ref (A 0)), (1, .int p1), (2, .int p2), (3, .ref o)]) F.1 F.2.1 dL_addSpool_13 hl (by decide) rfl (fun ls hl => ?_)
      refine lv_iconst (v := 1) F.1 F.2.1 dL_addSpool_15 (by decide) ?_
      exact MZ_i ⟨fun _ => 0, fun _ _ => 0, fun _ _ => 0⟩ F hr hlocks (Nat.le_of_ble_eq_true rfl) (Nat.le_of_ble_eq_true rfl) (by show va_P (dC, dI) vwCl (catp [wXt g A A1 A2 aq r.2, [(o, .inl (g 6, 1, .inr (.inl (oxI r.1 f))))]] []) H; rw [hof]; exact hP) (by show va_D AA (catp [wXt g A A1 A2 aq r.2, [(o, .inl (g 6, 1, .inr (.inl (oxI r.1 f))))]] []); rw [hof]; exact hD) hS dL_addSpool_16
    by_cases k1 : E = "java/lang/IllegalStateException"
    · subst k1
      have hk9 : k = 2 := by simpa [kx] using hk.symm
      subst hk9
      refine vx_catch (own := RL) (name := "java/lang/IllegalStateException") F.2.2.2.1 [⟨0, 10, 13, 13⟩] ⟨0, 10, 17, 15⟩ [] hC (List.forall_mem_cons.mpr ⟨Or.inr ⟨by decide, "java/lang/IllegalArgumentException", F.2.2.2.2 _ q922, hX.2.2.1 ("java/lang/IllegalStateException", "java/lang/IllegalArgumentException") (by decide +kernel)⟩, (fun _ h9 => absurd h9 List.not_mem_nil)⟩) (by decide) (by decide) (F.2.2.2.2 _ q923) (va_Nw.use rfl (hE.2 _ q952)) h7 h8 h9 ?_
      refine lv_astore (lv' := [(4, .ref q9), (0, .ref (A 0)), (1, .int p1), (2, .int p2), (3, .ref o)]) F.1 F.2.1 dL_addSpool_17 hl (by decide) rfl (fun ls hl => ?_)
      refine lv_iconst (v := 2) F.1 F.2.1 dL_addSpool_19 (by decide) ?_
      exact MZ_i ⟨fun _ => 0, fun _ _ => 0, fun _ _ => 0⟩ F hr hlocks (Nat.le_of_ble_eq_true rfl) (Nat.le_of_ble_eq_true rfl) (by show va_P (dC, dI) vwCl (catp [wXt g A A1 A2 aq r.2, [(o, .inl (g 6, 1, .inr (.inl (oxI r.1 f))))]] []) H; rw [hof]; exact hP) (by show va_D AA (catp [wXt g A A1 A2 aq r.2, [(o, .inl (g 6, 1, .inr (.inl (oxI r.1 f))))]] []); rw [hof]; exact hD) hS dL_addSpool_20
    exact absurd hk (by simp [kx, k0, k1])
  rw [hv] at hk
  have hk9 : k = 0 := by simpa [kx] using hk.symm
  subst hk9
  replace hP : va_P (dC, dI) vwCl (catp [wXt g A A1 A2 aq r.2, [(o, .inl (g 6, 1, .inr (.inl f)))]] []) H := hP
  replace hD : va_D AA (catp [wXt g A A1 A2 aq r.2, [(o, .inl (g 6, 1, .inr (.inl f)))]] []) := hD
  refine lv_i2l F.1 F.2.1 dL_addSpool_8 rfl ?_
  refine va_last F.1 F.2.1 hE.1 hP hD hS 387 6 rfl rfl (inR_in (by decide : inR 0 1 = true)) dL_addSpool_9 (fun H locs hP hD hS => ?_)
  replace hP : va_P (dC, dI) vwCl (catp [wXt g A A1 A2 aq r.2, [(o, .inl (g 6, 1, .inr (.inl (vp_updL f 0 w.toInt64))))]] []) H := hP
  replace hD : va_D AA (catp [wXt g A A1 A2 aq r.2, [(o, .inl (g 6, 1, .inr (.inl (vp_updL f 0 w.toInt64))))]] []) := hD
  refine lv_goto (tgt := 21) F.1 F.2.1 dL_addSpool_10 (by decide) ?_
  refine lv_iconst (v := 0) F.1 F.2.1 dL_addSpool_21 (by decide) ?_
  have hof : oxI r.1 f = vp_updL f 0 w.toInt64 := by rw [hv]; rfl
  exact MZ_i ⟨fun _ => 0, fun _ _ => 0, fun _ _ => 0⟩ F hr hlocks (Nat.le_of_ble_eq_true rfl) (Nat.le_of_ble_eq_true rfl) (by show va_P (dC, dI) vwCl (catp [wXt g A A1 A2 aq r.2, [(o, .inl (g 6, 1, .inr (.inl (oxI r.1 f))))]] []) H; rw [hof]; exact hP) (by show va_D AA (catp [wXt g A A1 A2 aq r.2, [(o, .inl (g 6, 1, .inr (.inl (oxI r.1 f))))]] []); rw [hof]; exact hD) hS dL_addSpool_22
theorem mbL_retire : MSH yL_retire cL_retire 4 (some .int) [(0, 9, 12, 21)] 3 := ⟨⟨q981, q0, by decide +kernel⟩, q980⟩
set_option maxHeartbeats 4000000 in
set_option maxRecDepth 100000 in
theorem tL_retire (l : Launch) (hl9 : l.stackTraces = false) (dC : Nat → ClassId) (dI : Nat → Nat → Nat) (g : Nat → ClassId) (A : Nat → Nat) (A1 A2 : Nat → Nat → Nat) (aq o : Nat) (f : Nat → Int64) (u : XT) (p1 : Int32) {r : (Except String Int32) × XT} (h : gX12_retire u p1 = some r) {k : Int32} (hk : kx ["java/util/NoSuchElementException"] r.1 = some k) : MZ l yL_retire cL_retire 4 [(0, 9, 12, 21)] 9 149 1 6 dC dI g [.ref (A 0), .int p1, .ref o] (catp [wXt g A A1 A2 aq u, [(o, .inl (g 6, 1, .inr (.inl f)))]] []) (fun β => catp [wXt g A A1 A2 aq r.2, [(o, .inl (g 6, 1, .inr (.inl (oxI r.1 f))))]] []) k := by
  refine MZ_of (by decide +kernel) (Nat.le_of_ble_eq_true rfl) ?_
  intro p e s m below meth c ls F hr hlocks hC hE hX hA hP hD hS hl
  generalize va_A (catp [wXt g A A1 A2 aq u, [(o, .inl (g 6, 1, .inr (.inl f)))]] []) s.heap.size = AA at hA hD hS hX ⊢
  replace F : CF p m c cL_retire 4 s _ RL := F
  replace hl : lv_has ls 4 [(0, .ref (A 0)), (1, .int p1), (2, .ref o)] := hl
  refine lv_aload_n F.1 F.2.1 dL_retire_0 rfl (lv_at hl 2 rfl) ?_
  refine lv_iconst (v := 0) F.1 F.2.1 dL_retire_1 (by decide) ?_
  refine lv_aload_n F.1 F.2.1 dL_retire_2 rfl (lv_at hl 0 rfl) ?_
  refine lv_iload_n F.1 F.2.1 dL_retire_3 rfl (lv_at hl 1 rfl) ?_
  refine cXV1 (As := [.int p1]) (rest := [.int 0, .ref o]) (post := catp [[(o, .inl (g 6, 1, .inr (.inl f)))]] []) (ws' := catp [wXt g A A1 A2 aq r.2, [(o, .inl (g 6, 1, .inr (.inl f)))]] []) F hE hX (kX12_retire l hl9 dC dI g A A1 A2 aq u p1 h) mbX12_retire q983 ⟨(Nat.le_of_ble_eq_true rfl), (Nat.le_of_ble_eq_true rfl)⟩ ⟨(Nat.le_of_ble_eq_true rfl), (Nat.le_of_ble_eq_true rfl)⟩ hP hD hS hA [] rfl (wXt_fst g A A1 A2 aq _ _) rfl 0 rfl rfl rfl hl.1 rfl (Nat.le_of_ble_eq_true rfl) dL_retire_4 (fun E ce q9 hx9 H locs hP hD hS h7 h8 h9 => ?_) (fun w hv H locs hP hD hS => ?_)
  · replace hP : va_P (dC, dI) vwCl (catp [wXt g A A1 A2 aq r.2, [(o, .inl (g 6, 1, .inr (.inl f)))]] []) H := hP
    replace hD : va_D AA (catp [wXt g A A1 A2 aq r.2, [(o, .inl (g 6, 1, .inr (.inl f)))]] []) := hD
    rw [hx9] at hk
    have hof : oxI r.1 f = f := by rw [hx9]; rfl
    by_cases k0 : E = "java/util/NoSuchElementException"
    · subst k0
      have hk9 : k = 1 := by simpa [kx] using hk.symm
      subst hk9
      refine vx_catch (own := RL) (name := "java/util/NoSuchElementException") F.2.2.2.1 [] ⟨0, 9, 12, 21⟩ [] hC (fun _ h9 => absurd h9 List.not_mem_nil) (by decide) (by decide) (F.2.2.2.2 _ q982) (va_Nw.use rfl (hE.2 _ q998)) h7 h8 h9 ?_
      refine lv_astore_n (lv' := [(3, .ref q9), (0, .ref (A 0)), (1, .int p1), (2, .ref o)]) F.1 F.2.1 dL_retire_12 rfl hl (by decide) rfl (fun ls hl => ?_)
      refine lv_iconst (v := 1) F.1 F.2.1 dL_retire_13 (by decide) ?_
      exact MZ_i ⟨fun _ => 0, fun _ _ => 0, fun _ _ => 0⟩ F hr hlocks (Nat.le_of_ble_eq_true rfl) (Nat.le_of_ble_eq_true rfl) (by show va_P (dC, dI) vwCl (catp [wXt g A A1 A2 aq r.2, [(o, .inl (g 6, 1, .inr (.inl (oxI r.1 f))))]] []) H; rw [hof]; exact hP) (by show va_D AA (catp [wXt g A A1 A2 aq r.2, [(o, .inl (g 6, 1, .inr (.inl (oxI r.1 f))))]] []); rw [hof]; exact hD) hS dL_retire_14
    exact absurd hk (by simp [kx, k0])
  rw [hv] at hk
  have hk9 : k = 0 := by simpa [kx] using hk.symm
  subst hk9
  replace hP : va_P (dC, dI) vwCl (catp [wXt g A A1 A2 aq r.2, [(o, .inl (g 6, 1, .inr (.inl f)))]] []) H := hP
  replace hD : va_D AA (catp [wXt g A A1 A2 aq r.2, [(o, .inl (g 6, 1, .inr (.inl f)))]] []) := hD
  refine lv_i2l F.1 F.2.1 dL_retire_7 rfl ?_
  refine va_last F.1 F.2.1 hE.1 hP hD hS 387 6 rfl rfl (inR_in (by decide : inR 0 1 = true)) dL_retire_8 (fun H locs hP hD hS => ?_)
  replace hP : va_P (dC, dI) vwCl (catp [wXt g A A1 A2 aq r.2, [(o, .inl (g 6, 1, .inr (.inl (vp_updL f 0 w.toInt64))))]] []) H := hP
  replace hD : va_D AA (catp [wXt g A A1 A2 aq r.2, [(o, .inl (g 6, 1, .inr (.inl (vp_updL f 0 w.toInt64))))]] []) := hD
  refine lv_goto (tgt := 15) F.1 F.2.1 dL_retire_9 (by decide) ?_
  refine lv_iconst (v := 0) F.1 F.2.1 dL_retire_15 (by decide) ?_
  have hof : oxI r.1 f = vp_updL f 0 w.toInt64 := by rw [hv]; rfl
  exact MZ_i ⟨fun _ => 0, fun _ _ => 0, fun _ _ => 0⟩ F hr hlocks (Nat.le_of_ble_eq_true rfl) (Nat.le_of_ble_eq_true rfl) (by show va_P (dC, dI) vwCl (catp [wXt g A A1 A2 aq r.2, [(o, .inl (g 6, 1, .inr (.inl (oxI r.1 f))))]] []) H; rw [hof]; exact hP) (by show va_D AA (catp [wXt g A A1 A2 aq r.2, [(o, .inl (g 6, 1, .inr (.inl (oxI r.1 f))))]] []); rw [hof]; exact hD) hS dL_retire_16
theorem mbL_throwScraps : MSH yL_throwScraps cL_throwScraps 4 (some .int) [(0, 9, 12, 13)] 3 := ⟨⟨q1033, q0, by decide +kernel⟩, q1032⟩
set_option maxHeartbeats 4000000 in
set_option maxRecDepth 100000 in
theorem tL_throwScraps (l : Launch) (hl9 : l.stackTraces = false) (dC : Nat → ClassId) (dI : Nat → Nat → Nat) (g : Nat → ClassId) (A : Nat → Nat) (A1 A2 : Nat → Nat → Nat) (aq o : Nat) (f : Nat → Int64) (u : XT) (p1 : Int32) {r : (Except String Int32) × XT} (h : gX12_throwScraps u p1 = some r) {k : Int32} (hk : kx ["java/lang/IllegalArgumentException"] r.1 = some k) : MZ l yL_throwScraps cL_throwScraps 4 [(0, 9, 12, 13)] 9 145 1 6 dC dI g [.ref (A 0), .int p1, .ref o] (catp [wXt g A A1 A2 aq u, [(o, .inl (g 6, 1, .inr (.inl f)))]] []) (fun β => catp [wXt g A A1 A2 aq r.2, [(o, .inl (g 6, 1, .inr (.inl (oxI r.1 f))))]] []) k := by
  refine MZ_of (by decide +kernel) (Nat.le_of_ble_eq_true rfl) ?_
  intro p e s m below meth c ls F hr hlocks hC hE hX hA hP hD hS hl
  generalize va_A (catp [wXt g A A1 A2 aq u, [(o, .inl (g 6, 1, .inr (.inl f)))]] []) s.heap.size = AA at hA hD hS hX ⊢
  replace F : CF p m c cL_throwScraps 4 s _ RL := F
  replace hl : lv_has ls 4 [(0, .ref (A 0)), (1, .int p1), (2, .ref o)] := hl
  refine lv_aload_n F.1 F.2.1 dL_throwScraps_0 rfl (lv_at hl 2 rfl) ?_
  refine lv_iconst (v := 0) F.1 F.2.1 dL_throwScraps_1 (by decide) ?_
  refine lv_aload_n F.1 F.2.1 dL_throwScraps_2 rfl (lv_at hl 0 rfl) ?_
  refine lv_iload_n F.1 F.2.1 dL_throwScraps_3 rfl (lv_at hl 1 rfl) ?_
  refine cXV1 (As := [.int p1]) (rest := [.int 0, .ref o]) (post := catp [[(o, .inl (g 6, 1, .inr (.inl f)))]] []) (ws' := catp [wXt g A A1 A2 aq r.2, [(o, .inl (g 6, 1, .inr (.inl f)))]] []) F hE hX (kX12_throwScraps l hl9 dC dI g A A1 A2 aq u p1 h) mbX12_throwScraps q1034 ⟨(Nat.le_of_ble_eq_true rfl), (Nat.le_of_ble_eq_true rfl)⟩ ⟨(Nat.le_of_ble_eq_true rfl), (Nat.le_of_ble_eq_true rfl)⟩ hP hD hS hA [] rfl (wXt_fst g A A1 A2 aq _ _) rfl 0 rfl rfl rfl hl.1 rfl (Nat.le_of_ble_eq_true rfl) dL_throwScraps_4 (fun E ce q9 hx9 H locs hP hD hS h7 h8 h9 => ?_) (fun w hv H locs hP hD hS => ?_)
  · replace hP : va_P (dC, dI) vwCl (catp [wXt g A A1 A2 aq r.2, [(o, .inl (g 6, 1, .inr (.inl f)))]] []) H := hP
    replace hD : va_D AA (catp [wXt g A A1 A2 aq r.2, [(o, .inl (g 6, 1, .inr (.inl f)))]] []) := hD
    rw [hx9] at hk
    have hof : oxI r.1 f = f := by rw [hx9]; rfl
    by_cases k0 : E = "java/lang/IllegalArgumentException"
    · subst k0
      have hk9 : k = 1 := by simpa [kx] using hk.symm
      subst hk9
      refine vx_catch (own := RL) (name := "java/lang/IllegalArgumentException") F.2.2.2.1 [] ⟨0, 9, 12, 13⟩ [] hC (fun _ h9 => absurd h9 List.not_mem_nil) (by decide) (by decide) (F.2.2.2.2 _ q922) (va_Nw.use rfl (hE.2 _ q705)) h7 h8 h9 ?_
      refine lv_astore_n (lv' := [(3, .ref q9), (0, .ref (A 0)), (1, .int p1), (2, .ref o)]) F.1 F.2.1 dL_throwScraps_12 rfl hl (by decide) rfl (fun ls hl => ?_)
      refine lv_iconst (v := 1) F.1 F.2.1 dL_throwScraps_13 (by decide) ?_
      exact MZ_i ⟨fun _ => 0, fun _ _ => 0, fun _ _ => 0⟩ F hr hlocks (Nat.le_of_ble_eq_true rfl) (Nat.le_of_ble_eq_true rfl) (by show va_P (dC, dI) vwCl (catp [wXt g A A1 A2 aq r.2, [(o, .inl (g 6, 1, .inr (.inl (oxI r.1 f))))]] []) H; rw [hof]; exact hP) (by show va_D AA (catp [wXt g A A1 A2 aq r.2, [(o, .inl (g 6, 1, .inr (.inl (oxI r.1 f))))]] []); rw [hof]; exact hD) hS dL_throwScraps_14
    exact absurd hk (by simp [kx, k0])
  rw [hv] at hk
  have hk9 : k = 0 := by simpa [kx] using hk.symm
  subst hk9
  replace hP : va_P (dC, dI) vwCl (catp [wXt g A A1 A2 aq r.2, [(o, .inl (g 6, 1, .inr (.inl f)))]] []) H := hP
  replace hD : va_D AA (catp [wXt g A A1 A2 aq r.2, [(o, .inl (g 6, 1, .inr (.inl f)))]] []) := hD
  refine lv_i2l F.1 F.2.1 dL_throwScraps_7 rfl ?_
  refine va_last F.1 F.2.1 hE.1 hP hD hS 387 6 rfl rfl (inR_in (by decide : inR 0 1 = true)) dL_throwScraps_8 (fun H locs hP hD hS => ?_)
  replace hP : va_P (dC, dI) vwCl (catp [wXt g A A1 A2 aq r.2, [(o, .inl (g 6, 1, .inr (.inl (vp_updL f 0 w.toInt64))))]] []) H := hP
  replace hD : va_D AA (catp [wXt g A A1 A2 aq r.2, [(o, .inl (g 6, 1, .inr (.inl (vp_updL f 0 w.toInt64))))]] []) := hD
  refine lv_goto (tgt := 15) F.1 F.2.1 dL_throwScraps_9 (by decide) ?_
  refine lv_iconst (v := 0) F.1 F.2.1 dL_throwScraps_15 (by decide) ?_
  have hof : oxI r.1 f = vp_updL f 0 w.toInt64 := by rw [hv]; rfl
  exact MZ_i ⟨fun _ => 0, fun _ _ => 0, fun _ _ => 0⟩ F hr hlocks (Nat.le_of_ble_eq_true rfl) (Nat.le_of_ble_eq_true rfl) (by show va_P (dC, dI) vwCl (catp [wXt g A A1 A2 aq r.2, [(o, .inl (g 6, 1, .inr (.inl (oxI r.1 f))))]] []) H; rw [hof]; exact hP) (by show va_D AA (catp [wXt g A A1 A2 aq r.2, [(o, .inl (g 6, 1, .inr (.inl (oxI r.1 f))))]] []); rw [hof]; exact hD) hS dL_throwScraps_16
theorem mbL_addOrder : MSH yL_addOrder cL_addOrder 6 (some .int) [(0, 12, 15, 13), (0, 12, 19, 15)] 5 := ⟨⟨q1054, q0, by decide +kernel⟩, q1053⟩
set_option maxHeartbeats 4000000 in
set_option maxRecDepth 100000 in
theorem tL_addOrder (l : Launch) (hl9 : l.stackTraces = false) (dC : Nat → ClassId) (dI : Nat → Nat → Nat) (g : Nat → ClassId) (A : Nat → Nat) (A1 A2 : Nat → Nat → Nat) (aq o : Nat) (f : Nat → Int64) (u : XT) (p1 : Int32) (p2 : Int32) (p3 : Int32) {r : (Except String Int32) × XT} (h : gX12_addOrder u p1 p2 p3 = some r) {k : Int32} (hk : kx ["java/lang/IllegalArgumentException", "java/lang/IllegalStateException"] r.1 = some k) : MZ l yL_addOrder cL_addOrder 6 [(0, 12, 15, 13), (0, 12, 19, 15)] 9 149 3 18 dC dI g [.ref (A 0), .int p1, .int p2, .int p3, .ref o] (catp [wXt g A A1 A2 aq u, [(o, .inl (g 6, 1, .inr (.inl f)))]] []) (fun β => catp [wXt g A A1 A2 aq r.2, [(o, .inl (g 6, 1, .inr (.inl (oxI r.1 f))))]] []) k := by
  refine MZ_of (by decide +kernel) (Nat.le_of_ble_eq_true rfl) ?_
  intro p e s m below meth c ls F hr hlocks hC hE hX hA hP hD hS hl
  generalize va_A (catp [wXt g A A1 A2 aq u, [(o, .inl (g 6, 1, .inr (.inl f)))]] []) s.heap.size = AA at hA hD hS hX ⊢
  replace F : CF p m c cL_addOrder 6 s _ RL := F
  replace hl : lv_has ls 6 [(0, .ref (A 0)), (1, .int p1), (2, .int p2), (3, .int p3), (4, .ref o)] := hl
  refine lv_aload F.1 F.2.1 dL_addOrder_0 (lv_at hl 4 rfl) ?_
  refine lv_iconst (v := 0) F.1 F.2.1 dL_addOrder_2 (by decide) ?_
  refine lv_aload_n F.1 F.2.1 dL_addOrder_3 rfl (lv_at hl 0 rfl) ?_
  refine lv_iload_n F.1 F.2.1 dL_addOrder_4 rfl (lv_at hl 1 rfl) ?_
  refine lv_iload_n F.1 F.2.1 dL_addOrder_5 rfl (lv_at hl 2 rfl) ?_
  refine lv_iload_n F.1 F.2.1 dL_addOrder_6 rfl (lv_at hl 3 rfl) ?_
  refine cXV1 (As := [.int p1, .int p2, .int p3]) (rest := [.int 0, .ref o]) (post := catp [[(o, .inl (g 6, 1, .inr (.inl f)))]] []) (ws' := catp [wXt g A A1 A2 aq r.2, [(o, .inl (g 6, 1, .inr (.inl f)))]] []) F hE hX (kX12_addOrder l hl9 dC dI g A A1 A2 aq u p1 p2 p3 h) mbX12_addOrder q1055 ⟨(Nat.le_of_ble_eq_true rfl), (Nat.le_of_ble_eq_true rfl)⟩ ⟨(Nat.le_of_ble_eq_true rfl), (Nat.le_of_ble_eq_true rfl)⟩ hP hD hS hA [] rfl (wXt_fst g A A1 A2 aq _ _) rfl 0 rfl rfl rfl hl.1 rfl (Nat.le_of_ble_eq_true rfl) dL_addOrder_7 (fun E ce q9 hx9 H locs hP hD hS h7 h8 h9 => ?_) (fun w hv H locs hP hD hS => ?_)
  · replace hP : va_P (dC, dI) vwCl (catp [wXt g A A1 A2 aq r.2, [(o, .inl (g 6, 1, .inr (.inl f)))]] []) H := hP
    replace hD : va_D AA (catp [wXt g A A1 A2 aq r.2, [(o, .inl (g 6, 1, .inr (.inl f)))]] []) := hD
    rw [hx9] at hk
    have hof : oxI r.1 f = f := by rw [hx9]; rfl
    by_cases k0 : E = "java/lang/IllegalArgumentException"
    · subst k0
      have hk9 : k = 1 := by simpa [kx] using hk.symm
      subst hk9
      refine vx_catch (own := RL) (name := "java/lang/IllegalArgumentException") F.2.2.2.1 [] ⟨0, 12, 15, 13⟩ [⟨0, 12, 19, 15⟩] hC (fun _ h9 => absurd h9 List.not_mem_nil) (by decide) (by decide) (F.2.2.2.2 _ q922) (va_Nw.use rfl (hE.2 _ q705)) h7 h8 h9 ?_
      refine lv_astore (lv' := [(5, .ref q9), (0, .ref (A 0)), (1, .int p1), (2, .int p2), (3, .int p3), (4, .ref o)]) F.1 F.2.1 dL_addOrder_15 hl (by decide) rfl (fun ls hl => ?_)
      refine lv_iconst (v := 1) F.1 F.2.1 dL_addOrder_17 (by decide) ?_
      exact MZ_i ⟨fun _ => 0, fun _ _ => 0, fun _ _ => 0⟩ F hr hlocks (Nat.le_of_ble_eq_true rfl) (Nat.le_of_ble_eq_true rfl) (by show va_P (dC, dI) vwCl (catp [wXt g A A1 A2 aq r.2, [(o, .inl (g 6, 1, .inr (.inl (oxI r.1 f))))]] []) H; rw [hof]; exact hP) (by show va_D AA (catp [wXt g A A1 A2 aq r.2, [(o, .inl (g 6, 1, .inr (.inl (oxI r.1 f))))]] []); rw [hof]; exact hD) hS dL_addOrder_18
    by_cases k1 : E = "java/lang/IllegalStateException"
    · subst k1
      have hk9 : k = 2 := by simpa [kx] using hk.symm
      subst hk9
      refine vx_catch (own := RL) (name := "java/lang/IllegalStateException") F.2.2.2.1 [⟨0, 12, 15, 13⟩] ⟨0, 12, 19, 15⟩ [] hC (List.forall_mem_cons.mpr ⟨Or.inr ⟨by decide, "java/lang/IllegalArgumentException", F.2.2.2.2 _ q922, hX.2.2.1 ("java/lang/IllegalStateException", "java/lang/IllegalArgumentException") (by decide +kernel)⟩, (fun _ h9 => absurd h9 List.not_mem_nil)⟩) (by decide) (by decide) (F.2.2.2.2 _ q923) (va_Nw.use rfl (hE.2 _ q952)) h7 h8 h9 ?_
      refine lv_astore (lv' := [(5, .ref q9), (0, .ref (A 0)), (1, .int p1), (2, .int p2), (3, .int p3), (4, .ref o)]) F.1 F.2.1 dL_addOrder_19 hl (by decide) rfl (fun ls hl => ?_)
      refine lv_iconst (v := 2) F.1 F.2.1 dL_addOrder_21 (by decide) ?_
      exact MZ_i ⟨fun _ => 0, fun _ _ => 0, fun _ _ => 0⟩ F hr hlocks (Nat.le_of_ble_eq_true rfl) (Nat.le_of_ble_eq_true rfl) (by show va_P (dC, dI) vwCl (catp [wXt g A A1 A2 aq r.2, [(o, .inl (g 6, 1, .inr (.inl (oxI r.1 f))))]] []) H; rw [hof]; exact hP) (by show va_D AA (catp [wXt g A A1 A2 aq r.2, [(o, .inl (g 6, 1, .inr (.inl (oxI r.1 f))))]] []); rw [hof]; exact hD) hS dL_addOrder_22
    exact absurd hk (by simp [kx, k0, k1])
  rw [hv] at hk
  have hk9 : k = 0 := by simpa [kx] using hk.symm
  subst hk9
  replace hP : va_P (dC, dI) vwCl (catp [wXt g A A1 A2 aq r.2, [(o, .inl (g 6, 1, .inr (.inl f)))]] []) H := hP
  replace hD : va_D AA (catp [wXt g A A1 A2 aq r.2, [(o, .inl (g 6, 1, .inr (.inl f)))]] []) := hD
  refine lv_i2l F.1 F.2.1 dL_addOrder_10 rfl ?_
  refine va_last F.1 F.2.1 hE.1 hP hD hS 387 6 rfl rfl (inR_in (by decide : inR 0 1 = true)) dL_addOrder_11 (fun H locs hP hD hS => ?_)
  replace hP : va_P (dC, dI) vwCl (catp [wXt g A A1 A2 aq r.2, [(o, .inl (g 6, 1, .inr (.inl (vp_updL f 0 w.toInt64))))]] []) H := hP
  replace hD : va_D AA (catp [wXt g A A1 A2 aq r.2, [(o, .inl (g 6, 1, .inr (.inl (vp_updL f 0 w.toInt64))))]] []) := hD
  refine lv_goto (tgt := 23) F.1 F.2.1 dL_addOrder_12 (by decide) ?_
  refine lv_iconst (v := 0) F.1 F.2.1 dL_addOrder_23 (by decide) ?_
  have hof : oxI r.1 f = vp_updL f 0 w.toInt64 := by rw [hv]; rfl
  exact MZ_i ⟨fun _ => 0, fun _ _ => 0, fun _ _ => 0⟩ F hr hlocks (Nat.le_of_ble_eq_true rfl) (Nat.le_of_ble_eq_true rfl) (by show va_P (dC, dI) vwCl (catp [wXt g A A1 A2 aq r.2, [(o, .inl (g 6, 1, .inr (.inl (oxI r.1 f))))]] []) H; rw [hof]; exact hP) (by show va_D AA (catp [wXt g A A1 A2 aq r.2, [(o, .inl (g 6, 1, .inr (.inl (oxI r.1 f))))]] []); rw [hof]; exact hD) hS dL_addOrder_24
theorem mbL_cancel : MSH yL_cancel cL_cancel 4 (some .int) [(0, 9, 12, 21)] 3 := ⟨⟨q1076, q0, by decide +kernel⟩, q1075⟩
set_option maxHeartbeats 4000000 in
set_option maxRecDepth 100000 in
theorem tL_cancel (l : Launch) (hl9 : l.stackTraces = false) (dC : Nat → ClassId) (dI : Nat → Nat → Nat) (g : Nat → ClassId) (A : Nat → Nat) (A1 A2 : Nat → Nat → Nat) (aq o : Nat) (f : Nat → Int64) (u : XT) (p1 : Int32) {r : (Except String Int32) × XT} (h : gX12_cancel u p1 = some r) {k : Int32} (hk : kx ["java/util/NoSuchElementException"] r.1 = some k) : MZ l yL_cancel cL_cancel 4 [(0, 9, 12, 21)] 9 148 1 6 dC dI g [.ref (A 0), .int p1, .ref o] (catp [wXt g A A1 A2 aq u, [(o, .inl (g 6, 1, .inr (.inl f)))]] []) (fun β => catp [wXt g A A1 A2 aq r.2, [(o, .inl (g 6, 1, .inr (.inl (oxI r.1 f))))]] []) k := by
  refine MZ_of (by decide +kernel) (Nat.le_of_ble_eq_true rfl) ?_
  intro p e s m below meth c ls F hr hlocks hC hE hX hA hP hD hS hl
  generalize va_A (catp [wXt g A A1 A2 aq u, [(o, .inl (g 6, 1, .inr (.inl f)))]] []) s.heap.size = AA at hA hD hS hX ⊢
  replace F : CF p m c cL_cancel 4 s _ RL := F
  replace hl : lv_has ls 4 [(0, .ref (A 0)), (1, .int p1), (2, .ref o)] := hl
  refine lv_aload_n F.1 F.2.1 dL_cancel_0 rfl (lv_at hl 2 rfl) ?_
  refine lv_iconst (v := 0) F.1 F.2.1 dL_cancel_1 (by decide) ?_
  refine lv_aload_n F.1 F.2.1 dL_cancel_2 rfl (lv_at hl 0 rfl) ?_
  refine lv_iload_n F.1 F.2.1 dL_cancel_3 rfl (lv_at hl 1 rfl) ?_
  refine cXV1 (As := [.int p1]) (rest := [.int 0, .ref o]) (post := catp [[(o, .inl (g 6, 1, .inr (.inl f)))]] []) (ws' := catp [wXt g A A1 A2 aq r.2, [(o, .inl (g 6, 1, .inr (.inl f)))]] []) F hE hX (kX12_cancel l hl9 dC dI g A A1 A2 aq u p1 h) mbX12_cancel q1077 ⟨(Nat.le_of_ble_eq_true rfl), (Nat.le_of_ble_eq_true rfl)⟩ ⟨(Nat.le_of_ble_eq_true rfl), (Nat.le_of_ble_eq_true rfl)⟩ hP hD hS hA [] rfl (wXt_fst g A A1 A2 aq _ _) rfl 0 rfl rfl rfl hl.1 rfl (Nat.le_of_ble_eq_true rfl) dL_cancel_4 (fun E ce q9 hx9 H locs hP hD hS h7 h8 h9 => ?_) (fun w hv H locs hP hD hS => ?_)
  · replace hP : va_P (dC, dI) vwCl (catp [wXt g A A1 A2 aq r.2, [(o, .inl (g 6, 1, .inr (.inl f)))]] []) H := hP
    replace hD : va_D AA (catp [wXt g A A1 A2 aq r.2, [(o, .inl (g 6, 1, .inr (.inl f)))]] []) := hD
    rw [hx9] at hk
    have hof : oxI r.1 f = f := by rw [hx9]; rfl
    by_cases k0 : E = "java/util/NoSuchElementException"
    · subst k0
      have hk9 : k = 1 := by simpa [kx] using hk.symm
      subst hk9
      refine vx_catch (own := RL) (name := "java/util/NoSuchElementException") F.2.2.2.1 [] ⟨0, 9, 12, 21⟩ [] hC (fun _ h9 => absurd h9 List.not_mem_nil) (by decide) (by decide) (F.2.2.2.2 _ q982) (va_Nw.use rfl (hE.2 _ q998)) h7 h8 h9 ?_
      refine lv_astore_n (lv' := [(3, .ref q9), (0, .ref (A 0)), (1, .int p1), (2, .ref o)]) F.1 F.2.1 dL_cancel_12 rfl hl (by decide) rfl (fun ls hl => ?_)
      refine lv_iconst (v := 1) F.1 F.2.1 dL_cancel_13 (by decide) ?_
      exact MZ_i ⟨fun _ => 0, fun _ _ => 0, fun _ _ => 0⟩ F hr hlocks (Nat.le_of_ble_eq_true rfl) (Nat.le_of_ble_eq_true rfl) (by show va_P (dC, dI) vwCl (catp [wXt g A A1 A2 aq r.2, [(o, .inl (g 6, 1, .inr (.inl (oxI r.1 f))))]] []) H; rw [hof]; exact hP) (by show va_D AA (catp [wXt g A A1 A2 aq r.2, [(o, .inl (g 6, 1, .inr (.inl (oxI r.1 f))))]] []); rw [hof]; exact hD) hS dL_cancel_14
    exact absurd hk (by simp [kx, k0])
  rw [hv] at hk
  have hk9 : k = 0 := by simpa [kx] using hk.symm
  subst hk9
  replace hP : va_P (dC, dI) vwCl (catp [wXt g A A1 A2 aq r.2, [(o, .inl (g 6, 1, .inr (.inl f)))]] []) H := hP
  replace hD : va_D AA (catp [wXt g A A1 A2 aq r.2, [(o, .inl (g 6, 1, .inr (.inl f)))]] []) := hD
  refine lv_i2l F.1 F.2.1 dL_cancel_7 rfl ?_
  refine va_last F.1 F.2.1 hE.1 hP hD hS 387 6 rfl rfl (inR_in (by decide : inR 0 1 = true)) dL_cancel_8 (fun H locs hP hD hS => ?_)
  replace hP : va_P (dC, dI) vwCl (catp [wXt g A A1 A2 aq r.2, [(o, .inl (g 6, 1, .inr (.inl (vp_updL f 0 w.toInt64))))]] []) H := hP
  replace hD : va_D AA (catp [wXt g A A1 A2 aq r.2, [(o, .inl (g 6, 1, .inr (.inl (vp_updL f 0 w.toInt64))))]] []) := hD
  refine lv_goto (tgt := 15) F.1 F.2.1 dL_cancel_9 (by decide) ?_
  refine lv_iconst (v := 0) F.1 F.2.1 dL_cancel_15 (by decide) ?_
  have hof : oxI r.1 f = vp_updL f 0 w.toInt64 := by rw [hv]; rfl
  exact MZ_i ⟨fun _ => 0, fun _ _ => 0, fun _ _ => 0⟩ F hr hlocks (Nat.le_of_ble_eq_true rfl) (Nat.le_of_ble_eq_true rfl) (by show va_P (dC, dI) vwCl (catp [wXt g A A1 A2 aq r.2, [(o, .inl (g 6, 1, .inr (.inl (oxI r.1 f))))]] []) H; rw [hof]; exact hP) (by show va_D AA (catp [wXt g A A1 A2 aq r.2, [(o, .inl (g 6, 1, .inr (.inl (oxI r.1 f))))]] []); rw [hof]; exact hD) hS dL_cancel_16
theorem mbL_fill : MSH yL_fill cL_fill 4 (some .int) [(0, 9, 12, 21), (0, 9, 15, 37)] 3 := ⟨⟨q1098, q0, by decide +kernel⟩, q1097⟩
set_option maxHeartbeats 4000000 in
set_option maxRecDepth 100000 in
theorem tL_fill (l : Launch) (hl9 : l.stackTraces = false) (dC : Nat → ClassId) (dI : Nat → Nat → Nat) (g : Nat → ClassId) (A : Nat → Nat) (A1 A2 : Nat → Nat → Nat) (aq o : Nat) (f : Nat → Int64) (u : XT) (p1 : Int32) {r : (Except String Int32) × XT} (h : gX12_fill u p1 = some r) {k : Int32} (hk : kx ["java/util/NoSuchElementException", "java/lang/UnsupportedOperationException"] r.1 = some k) : MZ l yL_fill cL_fill 4 [(0, 9, 12, 21), (0, 9, 15, 37)] 9 148 2 12 dC dI g [.ref (A 0), .int p1, .ref o] (catp [wXt g A A1 A2 aq u, [(o, .inl (g 6, 1, .inr (.inl f)))]] []) (fun β => catp [wXt g A A1 A2 aq r.2, [(o, .inl (g 6, 1, .inr (.inl (oxI r.1 f))))]] []) k := by
  refine MZ_of (by decide +kernel) (Nat.le_of_ble_eq_true rfl) ?_
  intro p e s m below meth c ls F hr hlocks hC hE hX hA hP hD hS hl
  generalize va_A (catp [wXt g A A1 A2 aq u, [(o, .inl (g 6, 1, .inr (.inl f)))]] []) s.heap.size = AA at hA hD hS hX ⊢
  replace F : CF p m c cL_fill 4 s _ RL := F
  replace hl : lv_has ls 4 [(0, .ref (A 0)), (1, .int p1), (2, .ref o)] := hl
  refine lv_aload_n F.1 F.2.1 dL_fill_0 rfl (lv_at hl 2 rfl) ?_
  refine lv_iconst (v := 0) F.1 F.2.1 dL_fill_1 (by decide) ?_
  refine lv_aload_n F.1 F.2.1 dL_fill_2 rfl (lv_at hl 0 rfl) ?_
  refine lv_iload_n F.1 F.2.1 dL_fill_3 rfl (lv_at hl 1 rfl) ?_
  refine cXV1 (As := [.int p1]) (rest := [.int 0, .ref o]) (post := catp [[(o, .inl (g 6, 1, .inr (.inl f)))]] []) (ws' := catp [wXt g A A1 A2 aq r.2, [(o, .inl (g 6, 1, .inr (.inl f)))]] []) F hE hX (kX12_fill l hl9 dC dI g A A1 A2 aq u p1 h) mbX12_fill q1100 ⟨(Nat.le_of_ble_eq_true rfl), (Nat.le_of_ble_eq_true rfl)⟩ ⟨(Nat.le_of_ble_eq_true rfl), (Nat.le_of_ble_eq_true rfl)⟩ hP hD hS hA [] rfl (wXt_fst g A A1 A2 aq _ _) rfl 0 rfl rfl rfl hl.1 rfl (Nat.le_of_ble_eq_true rfl) dL_fill_4 (fun E ce q9 hx9 H locs hP hD hS h7 h8 h9 => ?_) (fun w hv H locs hP hD hS => ?_)
  · replace hP : va_P (dC, dI) vwCl (catp [wXt g A A1 A2 aq r.2, [(o, .inl (g 6, 1, .inr (.inl f)))]] []) H := hP
    replace hD : va_D AA (catp [wXt g A A1 A2 aq r.2, [(o, .inl (g 6, 1, .inr (.inl f)))]] []) := hD
    rw [hx9] at hk
    have hof : oxI r.1 f = f := by rw [hx9]; rfl
    by_cases k0 : E = "java/util/NoSuchElementException"
    · subst k0
      have hk9 : k = 1 := by simpa [kx] using hk.symm
      subst hk9
      refine vx_catch (own := RL) (name := "java/util/NoSuchElementException") F.2.2.2.1 [] ⟨0, 9, 12, 21⟩ [⟨0, 9, 15, 37⟩] hC (fun _ h9 => absurd h9 List.not_mem_nil) (by decide) (by decide) (F.2.2.2.2 _ q982) (va_Nw.use rfl (hE.2 _ q998)) h7 h8 h9 ?_
      refine lv_astore_n (lv' := [(3, .ref q9), (0, .ref (A 0)), (1, .int p1), (2, .ref o)]) F.1 F.2.1 dL_fill_12 rfl hl (by decide) rfl (fun ls hl => ?_)
      refine lv_iconst (v := 1) F.1 F.2.1 dL_fill_13 (by decide) ?_
      exact MZ_i ⟨fun _ => 0, fun _ _ => 0, fun _ _ => 0⟩ F hr hlocks (Nat.le_of_ble_eq_true rfl) (Nat.le_of_ble_eq_true rfl) (by show va_P (dC, dI) vwCl (catp [wXt g A A1 A2 aq r.2, [(o, .inl (g 6, 1, .inr (.inl (oxI r.1 f))))]] []) H; rw [hof]; exact hP) (by show va_D AA (catp [wXt g A A1 A2 aq r.2, [(o, .inl (g 6, 1, .inr (.inl (oxI r.1 f))))]] []); rw [hof]; exact hD) hS dL_fill_14
    by_cases k1 : E = "java/lang/UnsupportedOperationException"
    · subst k1
      have hk9 : k = 2 := by simpa [kx] using hk.symm
      subst hk9
      refine vx_catch (own := RL) (name := "java/lang/UnsupportedOperationException") F.2.2.2.1 [⟨0, 9, 12, 21⟩] ⟨0, 9, 15, 37⟩ [] hC (List.forall_mem_cons.mpr ⟨Or.inr ⟨by decide, "java/util/NoSuchElementException", F.2.2.2.2 _ q982, hX.2.2.1 ("java/lang/UnsupportedOperationException", "java/util/NoSuchElementException") (by decide +kernel)⟩, (fun _ h9 => absurd h9 List.not_mem_nil)⟩) (by decide) (by decide) (F.2.2.2.2 _ q1099) (va_Nw.use rfl (hE.2 _ q1127)) h7 h8 h9 ?_
      refine lv_astore_n (lv' := [(3, .ref q9), (0, .ref (A 0)), (1, .int p1), (2, .ref o)]) F.1 F.2.1 dL_fill_15 rfl hl (by decide) rfl (fun ls hl => ?_)
      refine lv_iconst (v := 2) F.1 F.2.1 dL_fill_16 (by decide) ?_
      exact MZ_i ⟨fun _ => 0, fun _ _ => 0, fun _ _ => 0⟩ F hr hlocks (Nat.le_of_ble_eq_true rfl) (Nat.le_of_ble_eq_true rfl) (by show va_P (dC, dI) vwCl (catp [wXt g A A1 A2 aq r.2, [(o, .inl (g 6, 1, .inr (.inl (oxI r.1 f))))]] []) H; rw [hof]; exact hP) (by show va_D AA (catp [wXt g A A1 A2 aq r.2, [(o, .inl (g 6, 1, .inr (.inl (oxI r.1 f))))]] []); rw [hof]; exact hD) hS dL_fill_17
    exact absurd hk (by simp [kx, k0, k1])
  rw [hv] at hk
  have hk9 : k = 0 := by simpa [kx] using hk.symm
  subst hk9
  replace hP : va_P (dC, dI) vwCl (catp [wXt g A A1 A2 aq r.2, [(o, .inl (g 6, 1, .inr (.inl f)))]] []) H := hP
  replace hD : va_D AA (catp [wXt g A A1 A2 aq r.2, [(o, .inl (g 6, 1, .inr (.inl f)))]] []) := hD
  refine lv_i2l F.1 F.2.1 dL_fill_7 rfl ?_
  refine va_last F.1 F.2.1 hE.1 hP hD hS 387 6 rfl rfl (inR_in (by decide : inR 0 1 = true)) dL_fill_8 (fun H locs hP hD hS => ?_)
  replace hP : va_P (dC, dI) vwCl (catp [wXt g A A1 A2 aq r.2, [(o, .inl (g 6, 1, .inr (.inl (vp_updL f 0 w.toInt64))))]] []) H := hP
  replace hD : va_D AA (catp [wXt g A A1 A2 aq r.2, [(o, .inl (g 6, 1, .inr (.inl (vp_updL f 0 w.toInt64))))]] []) := hD
  refine lv_goto (tgt := 18) F.1 F.2.1 dL_fill_9 (by decide) ?_
  refine lv_iconst (v := 0) F.1 F.2.1 dL_fill_18 (by decide) ?_
  have hof : oxI r.1 f = vp_updL f 0 w.toInt64 := by rw [hv]; rfl
  exact MZ_i ⟨fun _ => 0, fun _ _ => 0, fun _ _ => 0⟩ F hr hlocks (Nat.le_of_ble_eq_true rfl) (Nat.le_of_ble_eq_true rfl) (by show va_P (dC, dI) vwCl (catp [wXt g A A1 A2 aq r.2, [(o, .inl (g 6, 1, .inr (.inl (oxI r.1 f))))]] []) H; rw [hof]; exact hP) (by show va_D AA (catp [wXt g A A1 A2 aq r.2, [(o, .inl (g 6, 1, .inr (.inl (oxI r.1 f))))]] []); rw [hof]; exact hD) hS dL_fill_19
theorem mbL_fillDue : MSH yL_fillDue cL_fillDue 4 (some .int) [(0, 9, 12, 13)] 3 := ⟨⟨q1177, q0, by decide +kernel⟩, q1176⟩
set_option maxHeartbeats 4000000 in
set_option maxRecDepth 100000 in
theorem tL_fillDue (l : Launch) (hl9 : l.stackTraces = false) (dC : Nat → ClassId) (dI : Nat → Nat → Nat) (g : Nat → ClassId) (A : Nat → Nat) (A1 A2 : Nat → Nat → Nat) (aq o : Nat) (f : Nat → Int64) (u : XT) (p1 : Int32) {r : (Except String Int32) × XT} (h : gX12_fillDue u p1 = some r) {k : Int32} (hk : kx ["java/lang/IllegalArgumentException"] r.1 = some k) : MZ l yL_fillDue cL_fillDue 4 [(0, 9, 12, 13)] 9 148 1 6 dC dI g [.ref (A 0), .int p1, .ref o] (catp [wXt g A A1 A2 aq u, [(o, .inl (g 6, 1, .inr (.inl f)))]] []) (fun β => catp [wXt g A A1 A2 aq r.2, [(o, .inl (g 6, 1, .inr (.inl (oxI r.1 f))))]] []) k := by
  refine MZ_of (by decide +kernel) (Nat.le_of_ble_eq_true rfl) ?_
  intro p e s m below meth c ls F hr hlocks hC hE hX hA hP hD hS hl
  generalize va_A (catp [wXt g A A1 A2 aq u, [(o, .inl (g 6, 1, .inr (.inl f)))]] []) s.heap.size = AA at hA hD hS hX ⊢
  replace F : CF p m c cL_fillDue 4 s _ RL := F
  replace hl : lv_has ls 4 [(0, .ref (A 0)), (1, .int p1), (2, .ref o)] := hl
  refine lv_aload_n F.1 F.2.1 dL_fillDue_0 rfl (lv_at hl 2 rfl) ?_
  refine lv_iconst (v := 0) F.1 F.2.1 dL_fillDue_1 (by decide) ?_
  refine lv_aload_n F.1 F.2.1 dL_fillDue_2 rfl (lv_at hl 0 rfl) ?_
  refine lv_iload_n F.1 F.2.1 dL_fillDue_3 rfl (lv_at hl 1 rfl) ?_
  refine cXV1 (As := [.int p1]) (rest := [.int 0, .ref o]) (post := catp [[(o, .inl (g 6, 1, .inr (.inl f)))]] []) (ws' := catp [wXt g A A1 A2 aq r.2, [(o, .inl (g 6, 1, .inr (.inl f)))]] []) F hE hX (kX12_fillDue l hl9 dC dI g A A1 A2 aq u p1 h) mbX12_fillDue q1178 ⟨(Nat.le_of_ble_eq_true rfl), (Nat.le_of_ble_eq_true rfl)⟩ ⟨(Nat.le_of_ble_eq_true rfl), (Nat.le_of_ble_eq_true rfl)⟩ hP hD hS hA [] rfl (wXt_fst g A A1 A2 aq _ _) rfl 0 rfl rfl rfl hl.1 rfl (Nat.le_of_ble_eq_true rfl) dL_fillDue_4 (fun E ce q9 hx9 H locs hP hD hS h7 h8 h9 => ?_) (fun w hv H locs hP hD hS => ?_)
  · replace hP : va_P (dC, dI) vwCl (catp [wXt g A A1 A2 aq r.2, [(o, .inl (g 6, 1, .inr (.inl f)))]] []) H := hP
    replace hD : va_D AA (catp [wXt g A A1 A2 aq r.2, [(o, .inl (g 6, 1, .inr (.inl f)))]] []) := hD
    rw [hx9] at hk
    have hof : oxI r.1 f = f := by rw [hx9]; rfl
    by_cases k0 : E = "java/lang/IllegalArgumentException"
    · subst k0
      have hk9 : k = 1 := by simpa [kx] using hk.symm
      subst hk9
      refine vx_catch (own := RL) (name := "java/lang/IllegalArgumentException") F.2.2.2.1 [] ⟨0, 9, 12, 13⟩ [] hC (fun _ h9 => absurd h9 List.not_mem_nil) (by decide) (by decide) (F.2.2.2.2 _ q922) (va_Nw.use rfl (hE.2 _ q705)) h7 h8 h9 ?_
      refine lv_astore_n (lv' := [(3, .ref q9), (0, .ref (A 0)), (1, .int p1), (2, .ref o)]) F.1 F.2.1 dL_fillDue_12 rfl hl (by decide) rfl (fun ls hl => ?_)
      refine lv_iconst (v := 1) F.1 F.2.1 dL_fillDue_13 (by decide) ?_
      exact MZ_i ⟨fun _ => 0, fun _ _ => 0, fun _ _ => 0⟩ F hr hlocks (Nat.le_of_ble_eq_true rfl) (Nat.le_of_ble_eq_true rfl) (by show va_P (dC, dI) vwCl (catp [wXt g A A1 A2 aq r.2, [(o, .inl (g 6, 1, .inr (.inl (oxI r.1 f))))]] []) H; rw [hof]; exact hP) (by show va_D AA (catp [wXt g A A1 A2 aq r.2, [(o, .inl (g 6, 1, .inr (.inl (oxI r.1 f))))]] []); rw [hof]; exact hD) hS dL_fillDue_14
    exact absurd hk (by simp [kx, k0])
  rw [hv] at hk
  have hk9 : k = 0 := by simpa [kx] using hk.symm
  subst hk9
  replace hP : va_P (dC, dI) vwCl (catp [wXt g A A1 A2 aq r.2, [(o, .inl (g 6, 1, .inr (.inl f)))]] []) H := hP
  replace hD : va_D AA (catp [wXt g A A1 A2 aq r.2, [(o, .inl (g 6, 1, .inr (.inl f)))]] []) := hD
  refine lv_i2l F.1 F.2.1 dL_fillDue_7 rfl ?_
  refine va_last F.1 F.2.1 hE.1 hP hD hS 387 6 rfl rfl (inR_in (by decide : inR 0 1 = true)) dL_fillDue_8 (fun H locs hP hD hS => ?_)
  replace hP : va_P (dC, dI) vwCl (catp [wXt g A A1 A2 aq r.2, [(o, .inl (g 6, 1, .inr (.inl (vp_updL f 0 w.toInt64))))]] []) H := hP
  replace hD : va_D AA (catp [wXt g A A1 A2 aq r.2, [(o, .inl (g 6, 1, .inr (.inl (vp_updL f 0 w.toInt64))))]] []) := hD
  refine lv_goto (tgt := 15) F.1 F.2.1 dL_fillDue_9 (by decide) ?_
  refine lv_iconst (v := 0) F.1 F.2.1 dL_fillDue_15 (by decide) ?_
  have hof : oxI r.1 f = vp_updL f 0 w.toInt64 := by rw [hv]; rfl
  exact MZ_i ⟨fun _ => 0, fun _ _ => 0, fun _ _ => 0⟩ F hr hlocks (Nat.le_of_ble_eq_true rfl) (Nat.le_of_ble_eq_true rfl) (by show va_P (dC, dI) vwCl (catp [wXt g A A1 A2 aq r.2, [(o, .inl (g 6, 1, .inr (.inl (oxI r.1 f))))]] []) H; rw [hof]; exact hP) (by show va_D AA (catp [wXt g A A1 A2 aq r.2, [(o, .inl (g 6, 1, .inr (.inl (oxI r.1 f))))]] []); rw [hof]; exact hD) hS dL_fillDue_16
