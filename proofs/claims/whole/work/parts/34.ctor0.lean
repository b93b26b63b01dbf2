abbrev wt0 : WT := (1, 5, 98, 0, 0, (fun _ => 0), 0, (fun _ => 0), 0, (fun _ => 0), 0, (fun _ => 0), 0, (fun _ => 0), 0, (fun _ => 0), 6, (fun _ => 0), 0, 0, (fun _ => 0), 0, (fun _ => 0), 0, (fun _ => 0), 0, (fun _ => 0), 0, 6, (fun _ => 0), 6, (fun _ => 0), 6, (fun _ => 0))
abbrev ct0 : CT := (none, 97, 0, 0, 0)
theorem inJ4 : ∀ w ∈ wsJ40, w ∈ lw_U := by decide +kernel
/-! WireCutter$Row.<init> -/
theorem mbX7_init : MB yX7_init cX7_init 2 none 1 := ⟨q61, q4, by decide +kernel⟩
set_option maxHeartbeats 4000000 in
set_option maxRecDepth 100000 in
theorem tX7_init (l : Launch) (dC : Nat → ClassId) (dI : Nat → Nat → Nat) (g : Nat → ClassId) (a0 : Nat) (p1 : Int32) (hcap : 0 ≤ p1 ∧ ¬ p1 < 0) (hcap3 : p1.toNatClampNeg * 4 ≤ 536870912) : MN l yX7_init cX7_init 2 none 1 20 1 (0 + p1.toNatClampNeg) dC dI g [.ref a0, .int p1] [(a0, .inr (10, [.null, .int 0]))] (fun β => wX7 g a0 (β.1 0) p1.toNatClampNeg 0 (fun _ => 0)) (fun _ => none) := by
  refine MN_of (by decide +kernel) (Nat.le_of_ble_eq_true rfl) ?_
  intro p e s m below meth c ls F hmn hr hlocks hE hX hA hP hD hS hl
  generalize va_A [(a0, .inr (10, [.null, .int 0]))] s.heap.size = A at hA hD hS hX ⊢
  replace F : CF p m c cX7_init 2 s _ RX7 := F
  replace hl : lv_has ls 2 [(0, .ref a0), (1, .int p1)] := hl
  replace hP : va_P (dC, dI) vwCl (catp [[(a0, .inr (10, [.null, .int 0]))]] []) s.heap := hP
  replace hD : va_D A (catp [[(a0, .inr (10, [.null, .int 0]))]] []) := hD
  have hcap2 := hcap.2
  have hcap4 : 0 + p1.toNatClampNeg ≤ 0 + p1.toNatClampNeg := Nat.add_le_add_right (Nat.zero_le _) _
  refine lv_aload_n F.1 F.2.1 dX7_init_0 rfl (lv_at hl 0 rfl) ?_
  refine oIn F q62 hl.1 ⟨(Nat.le_of_ble_eq_true rfl), (Nat.le_of_ble_eq_true rfl)⟩ (Nat.le_of_ble_eq_true rfl) dX7_init_1 ?_
  refine lv_aload_n F.1 F.2.1 dX7_init_4 rfl (lv_at hl 0 rfl) ?_
  refine lv_iload_n F.1 F.2.1 dX7_init_5 rfl (lv_at hl 1 rfl) ?_
  refine lv_if_ge (tgt := 13) F.1 F.2.1 dX7_init_6 (by decide) (fun _ => ?_) (fun k9 => absurd (hcap.1) k9)
  refine lv_iload_n F.1 F.2.1 dX7_init_13 rfl (lv_at hl 1 rfl) ?_
  refine nwA (atype := .int) (k0 := 0) F hE q70 rfl rfl (fun _ _ _ => ra_I) (fun _ _ => rfl) [[(a0, .inr (10, [.null, .int 0]))]] hP hD hS hA hcap2 rfl hcap3 (Nat.le_of_ble_eq_true rfl) hcap4 dX7_init_14 (fun qa1 H hP hD hS => ?_)
  replace hP : va_P (dC, dI) vwCl (catp [[(a0, .inr (10, [.null, .int 0]))], [(qa1, .inl (g 0, p1.toNatClampNeg, .inl (fun _ => 0)))]] []) H := hP
  replace hD : va_D A (catp [[(a0, .inr (10, [.null, .int 0]))], [(qa1, .inl (g 0, p1.toNatClampNeg, .inl (fun _ => 0)))]] []) := hD
  refine pFF (v := .ref qa1) F hE hP hD hS 0 rfl rfl inX7 tyX7 tyX7_ok nmX7 0 (by decide) q63 rfl hmn rfl rfl rfl (Nat.le_of_ble_eq_true rfl) dX7_init_16 (fun H locs hP hD hS => ?_)
  replace hP : va_P (dC, dI) vwCl (catp [[(a0, .inr (10, [.ref qa1, .int 0]))], [(qa1, .inl (g 0, p1.toNatClampNeg, .inl (fun _ => 0)))]] []) H := hP
  replace hD : va_D A (catp [[(a0, .inr (10, [.ref qa1, .int 0]))], [(qa1, .inl (g 0, p1.toNatClampNeg, .inl (fun _ => 0)))]] []) := hD
  refine lv_aload_n F.1 F.2.1 dX7_init_19 rfl (lv_at hl 0 rfl) ?_
  refine lv_iconst (v := 0) F.1 F.2.1 dX7_init_20 (by decide) ?_
  refine pF (v := .int 0) F hE hP hD hS 0 rfl rfl inX7 tyX7 tyX7_ok nmX7 1 (by decide) q64 rfl rfl rfl (Nat.le_of_ble_eq_true rfl) dX7_init_21 (fun H locs hP hD hS => ?_)
  replace hP : va_P (dC, dI) vwCl (catp [[(a0, .inr (10, [.ref qa1, .int 0]))], [(qa1, .inl (g 0, p1.toNatClampNeg, .inl (fun _ => 0)))]] []) H := hP
  replace hD : va_D A (catp [[(a0, .inr (10, [.ref qa1, .int 0]))], [(qa1, .inl (g 0, p1.toNatClampNeg, .inl (fun _ => 0)))]] []) := hD
  exact MN_v ⟨fun i => ([qa1] : List Nat).getD i 0, (fun _ _ => 0), (fun _ _ => 0)⟩ rfl F hr hlocks (by first | omega | (dsimp only; omega)) (by first | omega | (dsimp only; omega)) hP hD hS dX7_init_24
/-! WireCutter$Row.ofZeros -/
theorem mbX7_ofZeros : MS yX7_ofZeros cX7_ofZeros 2 (some (.object RX7)) 1 := ⟨⟨q97, q4, by decide +kernel⟩, q96⟩
set_option maxHeartbeats 4000000 in
set_option maxRecDepth 100000 in
theorem tX7_ofZeros (l : Launch) (dC : Nat → ClassId) (dI : Nat → Nat → Nat) (g : Nat → ClassId) (p0 : Int32) (hcap : 0 ≤ p0 ∧ ¬ p0 < 0) (hcap3 : p0.toNatClampNeg * 4 ≤ 536870912) : MN l yX7_ofZeros cX7_ofZeros 2 (some (.object RX7)) 2 41 2 (2 + p0.toNatClampNeg) dC dI g [.int p0] [] (fun β => wX7 g (β.1 0) (β.1 1) p0.toNatClampNeg (nI p0.toNatClampNeg) (fun _ => 0)) (fun β => some (.ref (β.1 0))) := by
  refine MN_of (by decide +kernel) (Nat.le_of_ble_eq_true rfl) ?_
  intro p e s m below meth c ls F hmn hr hlocks hE hX hA hP hD hS hl
  generalize va_A ([] : va_W) s.heap.size = A at hA hD hS hX ⊢
  replace F : CF p m c cX7_ofZeros 2 s _ RX7 := F
  replace hl : lv_has ls 2 [(0, .int p0)] := hl
  replace hP : va_P (dC, dI) vwCl (catp [] []) s.heap := hP
  replace hD : va_D A (catp [] []) := hD
  have hcap2 := hcap.2
  have hcap4 : 0 + p0.toNatClampNeg ≤ 2 + p0.toNatClampNeg := Nat.add_le_add_right (Nat.zero_le _) _
  refine nwO (ci := 10) F hE inX7 tyX7 tyX7_ok q98 q58 q4 [] hP hD hS hA rfl [.null, .int 0] (by decide) (by first | omega | (dsimp only; omega)) (by first | omega | (dsimp only; omega)) dX7_ofZeros_0 (fun qa1 H hP hD hS => ?_)
  replace hP : va_P (dC, dI) vwCl (catp [[(qa1, .inr (10, [.null, .int 0]))]] []) H := hP
  replace hD : va_D A (catp [[(qa1, .inr (10, [.null, .int 0]))]] []) := hD
  refine lv_dup F.1 F.2.1 dX7_ofZeros_3 rfl ?_
  refine lv_iload_n F.1 F.2.1 dX7_ofZeros_4 rfl (lv_at hl 0 rfl) ?_
  refine cNI (As := [.int p0]) (rest := [.ref qa1]) (post := catp [] []) F hE hX (tX7_init l dC dI g qa1 p0 hcap hcap3) mbX7_init q60 rfl q99 ⟨(Nat.le_of_ble_eq_true rfl), (Nat.le_of_ble_eq_true rfl)⟩ ⟨(Nat.le_of_ble_eq_true rfl), (by first | omega | (dsimp only; omega))⟩ hP hD hS hA [] rfl rfl hl.1 rfl (Nat.le_of_ble_eq_true rfl) dX7_ofZeros_5 (fun b2 H locs hP hD hS => ?_)
  replace hP : va_P (dC, dI) vwCl (catp [wX7 g qa1 (b2.1 0) p0.toNatClampNeg 0 (fun _ => 0)] []) H := hP
  replace hD : va_D A (catp [wX7 g qa1 (b2.1 0) p0.toNatClampNeg 0 (fun _ => 0)] []) := hD
  refine lv_astore_n (lv' := [(1, .ref qa1), (0, .int p0)]) F.1 F.2.1 dX7_ofZeros_8 rfl hl (by decide) rfl (fun ls hl => ?_)
  refine lv_aload_n F.1 F.2.1 dX7_ofZeros_9 rfl (lv_at hl 0 rfl) ?_
  refine lv_aload_n F.1 F.2.1 dX7_ofZeros_10 rfl (lv_at hl 0 rfl) ?_
  refine gF (v := .ref (b2.1 0)) F hE hP 0 rfl rfl inX7 0 (by decide) q63 rfl dX7_ofZeros_11 ?_
  refine va_alen (v := nI p0.toNatClampNeg) F.1 F.2.1 hE.1 hP 1 0 rfl rfl rfl dX7_ofZeros_14 ?_
  refine pF (v := .int (nI p0.toNatClampNeg)) F hE hP hD hS 0 rfl rfl inX7 tyX7 tyX7_ok nmX7 1 (by decide) q64 rfl rfl rfl (Nat.le_of_ble_eq_true rfl) dX7_ofZeros_15 (fun H locs hP hD hS => ?_)
  replace hP : va_P (dC, dI) vwCl (catp [wX7 g qa1 (b2.1 0) p0.toNatClampNeg (nI p0.toNatClampNeg) (fun _ => 0)] []) H := hP
  replace hD : va_D A (catp [wX7 g qa1 (b2.1 0) p0.toNatClampNeg (nI p0.toNatClampNeg) (fun _ => 0)] []) := hD
  refine lv_aload_n F.1 F.2.1 dX7_ofZeros_18 rfl (lv_at hl 0 rfl) ?_
  exact MN_a ⟨fun i => ([qa1, (b2.1 0)] : List Nat).getD i 0, (fun _ _ => 0), (fun _ _ => 0)⟩ rfl F hr hlocks (by first | omega | (dsimp only; omega)) (by first | omega | (dsimp only; omega)) hP hD hS dX7_ofZeros_19
/-! WireCutter$Accounts.<init> -/
theorem mbX1_init : MB yX1_init cX1_init 1 none 0 := ⟨q138, q7, by decide +kernel⟩
set_option maxHeartbeats 4000000 in
set_option maxRecDepth 100000 in
theorem tX1_init (l : Launch) (dC : Nat → ClassId) (dI : Nat → Nat → Nat) (g : Nat → ClassId) (a0 : Nat) : MN l yX1_init cX1_init 1 none 3 62 6 (24) dC dI g [.ref a0] [(a0, .inr (4, [.null, .null, .null, .int 0]))] (fun β => wX1 g a0 (β.1 0) (β.1 1) (β.1 2) (β.1 3) (β.1 4) (β.1 5) 0 6 (fun _ => 0) 6 (fun _ => 0) 6 (fun _ => 0)) (fun _ => none) := by
  refine MN_of (by decide +kernel) (Nat.le_of_ble_eq_true rfl) ?_
  intro p e s m below meth c ls F hmn hr hlocks hE hX hA hP hD hS hl
  generalize va_A [(a0, .inr (4, [.null, .null, .null, .int 0]))] s.heap.size = A at hA hD hS hX ⊢
  replace F : CF p m c cX1_init 1 s _ RX1 := F
  replace hl : lv_has ls 1 [(0, .ref a0)] := hl
  replace hP : va_P (dC, dI) vwCl (catp [[(a0, .inr (4, [.null, .null, .null, .int 0]))]] []) s.heap := hP
  replace hD : va_D A (catp [[(a0, .inr (4, [.null, .null, .null, .int 0]))]] []) := hD
  refine lv_aload_n F.1 F.2.1 dX1_init_0 rfl (lv_at hl 0 rfl) ?_
  refine oIn F q139 hl.1 ⟨(Nat.le_of_ble_eq_true rfl), (Nat.le_of_ble_eq_true rfl)⟩ (Nat.le_of_ble_eq_true rfl) dX1_init_1 ?_
  refine lv_aload_n F.1 F.2.1 dX1_init_4 rfl (lv_at hl 0 rfl) ?_
  refine lv_bipush (v := 6) F.1 F.2.1 dX1_init_5 (by decide) ?_
  refine cNS (As := [.int 6]) (rest := [.ref a0]) (post := []) F hE hX (tX7_ofZeros l dC dI g 6 ⟨by decide, by decide⟩ (by decide)) mbX7_ofZeros q140 ⟨(Nat.le_of_ble_eq_true rfl), (Nat.le_of_ble_eq_true rfl)⟩ ⟨(Nat.le_of_ble_eq_true rfl), (Nat.le_of_ble_eq_true rfl)⟩ hP hD hS hA [[(a0, .inr (4, [.null, .null, .null, .int 0]))]] rfl rfl hl.1 rfl (Nat.le_of_ble_eq_true rfl) dX1_init_7 (fun b1 H locs hP hD hS => ?_)
  replace hP : va_P (dC, dI) vwCl (catp [[(a0, .inr (4, [.null, .null, .null, .int 0]))], wX7 g (b1.1 0) (b1.1 1) 6 6 (fun _ => 0)] []) H := hP
  replace hD : va_D A (catp [[(a0, .inr (4, [.null, .null, .null, .int 0]))], wX7 g (b1.1 0) (b1.1 1) 6 6 (fun _ => 0)] []) := hD
  refine pFF (v := .ref (b1.1 0)) F hE hP hD hS 0 rfl rfl inX1 tyX1 tyX1_ok nmX1 0 (by decide) q141 rfl hmn rfl rfl rfl (Nat.le_of_ble_eq_true rfl) dX1_init_10 (fun H locs hP hD hS => ?_)
  replace hP : va_P (dC, dI) vwCl (catp [[(a0, .inr (4, [.ref (b1.1 0), .null, .null, .int 0]))], wX7 g (b1.1 0) (b1.1 1) 6 6 (fun _ => 0)] []) H := hP
  replace hD : va_D A (catp [[(a0, .inr (4, [.ref (b1.1 0), .null, .null, .int 0]))], wX7 g (b1.1 0) (b1.1 1) 6 6 (fun _ => 0)] []) := hD
  refine lv_aload_n F.1 F.2.1 dX1_init_13 rfl (lv_at hl 0 rfl) ?_
  refine lv_bipush (v := 6) F.1 F.2.1 dX1_init_14 (by decide) ?_
  refine cNS (As := [.int 6]) (rest := [.ref a0]) (post := []) F hE hX (tX7_ofZeros l dC dI g 6 ⟨by decide, by decide⟩ (by decide)) mbX7_ofZeros q140 ⟨(Nat.le_of_ble_eq_true rfl), (Nat.le_of_ble_eq_true rfl)⟩ ⟨(Nat.le_of_ble_eq_true rfl), (Nat.le_of_ble_eq_true rfl)⟩ hP hD hS hA [[(a0, .inr (4, [.ref (b1.1 0), .null, .null, .int 0]))], wX7 g (b1.1 0) (b1.1 1) 6 6 (fun _ => 0)] rfl rfl hl.1 rfl (Nat.le_of_ble_eq_true rfl) dX1_init_16 (fun b2 H locs hP hD hS => ?_)
  replace hP : va_P (dC, dI) vwCl (catp [[(a0, .inr (4, [.ref (b1.1 0), .null, .null, .int 0]))], wX7 g (b1.1 0) (b1.1 1) 6 6 (fun _ => 0), wX7 g (b2.1 0) (b2.1 1) 6 6 (fun _ => 0)] []) H := hP
  replace hD : va_D A (catp [[(a0, .inr (4, [.ref (b1.1 0), .null, .null, .int 0]))], wX7 g (b1.1 0) (b1.1 1) 6 6 (fun _ => 0), wX7 g (b2.1 0) (b2.1 1) 6 6 (fun _ => 0)] []) := hD
  refine pFF (v := .ref (b2.1 0)) F hE hP hD hS 0 rfl rfl inX1 tyX1 tyX1_ok nmX1 1 (by decide) q144 rfl hmn rfl rfl rfl (Nat.le_of_ble_eq_true rfl) dX1_init_19 (fun H locs hP hD hS => ?_)
  replace hP : va_P (dC, dI) vwCl (catp [[(a0, .inr (4, [.ref (b1.1 0), .ref (b2.1 0), .null, .int 0]))], wX7 g (b1.1 0) (b1.1 1) 6 6 (fun _ => 0), wX7 g (b2.1 0) (b2.1 1) 6 6 (fun _ => 0)] []) H := hP
  replace hD : va_D A (catp [[(a0, .inr (4, [.ref (b1.1 0), .ref (b2.1 0), .null, .int 0]))], wX7 g (b1.1 0) (b1.1 1) 6 6 (fun _ => 0), wX7 g (b2.1 0) (b2.1 1) 6 6 (fun _ => 0)] []) := hD
  refine lv_aload_n F.1 F.2.1 dX1_init_22 rfl (lv_at hl 0 rfl) ?_
  refine lv_bipush (v := 6) F.1 F.2.1 dX1_init_23 (by decide) ?_
  refine cNS (As := [.int 6]) (rest := [.ref a0]) (post := []) F hE hX (tX7_ofZeros l dC dI g 6 ⟨by decide, by decide⟩ (by decide)) mbX7_ofZeros q140 ⟨(Nat.le_of_ble_eq_true rfl), (Nat.le_of_ble_eq_true rfl)⟩ ⟨(Nat.le_of_ble_eq_true rfl), (Nat.le_of_ble_eq_true rfl)⟩ hP hD hS hA [[(a0, .inr (4, [.ref (b1.1 0), .ref (b2.1 0), .null, .int 0]))], wX7 g (b1.1 0) (b1.1 1) 6 6 (fun _ => 0), wX7 g (b2.1 0) (b2.1 1) 6 6 (fun _ => 0)] rfl rfl hl.1 rfl (Nat.le_of_ble_eq_true rfl) dX1_init_25 (fun b3 H locs hP hD hS => ?_)
  replace hP : va_P (dC, dI) vwCl (catp [[(a0, .inr (4, [.ref (b1.1 0), .ref (b2.1 0), .null, .int 0]))], wX7 g (b1.1 0) (b1.1 1) 6 6 (fun _ => 0), wX7 g (b2.1 0) (b2.1 1) 6 6 (fun _ => 0), wX7 g (b3.1 0) (b3.1 1) 6 6 (fun _ => 0)] []) H := hP
  replace hD : va_D A (catp [[(a0, .inr (4, [.ref (b1.1 0), .ref (b2.1 0), .null, .int 0]))], wX7 g (b1.1 0) (b1.1 1) 6 6 (fun _ => 0), wX7 g (b2.1 0) (b2.1 1) 6 6 (fun _ => 0), wX7 g (b3.1 0) (b3.1 1) 6 6 (fun _ => 0)] []) := hD
  refine pFF (v := .ref (b3.1 0)) F hE hP hD hS 0 rfl rfl inX1 tyX1 tyX1_ok nmX1 2 (by decide) q147 rfl hmn rfl rfl rfl (Nat.le_of_ble_eq_true rfl) dX1_init_28 (fun H locs hP hD hS => ?_)
  replace hP : va_P (dC, dI) vwCl (catp [[(a0, .inr (4, [.ref (b1.1 0), .ref (b2.1 0), .ref (b3.1 0), .int 0]))], wX7 g (b1.1 0) (b1.1 1) 6 6 (fun _ => 0), wX7 g (b2.1 0) (b2.1 1) 6 6 (fun _ => 0), wX7 g (b3.1 0) (b3.1 1) 6 6 (fun _ => 0)] []) H := hP
  replace hD : va_D A (catp [[(a0, .inr (4, [.ref (b1.1 0), .ref (b2.1 0), .ref (b3.1 0), .int 0]))], wX7 g (b1.1 0) (b1.1 1) 6 6 (fun _ => 0), wX7 g (b2.1 0) (b2.1 1) 6 6 (fun _ => 0), wX7 g (b3.1 0) (b3.1 1) 6 6 (fun _ => 0)] []) := hD
  refine lv_aload_n F.1 F.2.1 dX1_init_31 rfl (lv_at hl 0 rfl) ?_
  refine lv_iconst (v := 0) F.1 F.2.1 dX1_init_32 (by decide) ?_
  refine pF (v := .int 0) F hE hP hD hS 0 rfl rfl inX1 tyX1 tyX1_ok nmX1 3 (by decide) q150 rfl rfl rfl (Nat.le_of_ble_eq_true rfl) dX1_init_33 (fun H locs hP hD hS => ?_)
  replace hP : va_P (dC, dI) vwCl (catp [[(a0, .inr (4, [.ref (b1.1 0), .ref (b2.1 0), .ref (b3.1 0), .int 0]))], wX7 g (b1.1 0) (b1.1 1) 6 6 (fun _ => 0), wX7 g (b2.1 0) (b2.1 1) 6 6 (fun _ => 0), wX7 g (b3.1 0) (b3.1 1) 6 6 (fun _ => 0)] []) H := hP
  replace hD : va_D A (catp [[(a0, .inr (4, [.ref (b1.1 0), .ref (b2.1 0), .ref (b3.1 0), .int 0]))], wX7 g (b1.1 0) (b1.1 1) 6 6 (fun _ => 0), wX7 g (b2.1 0) (b2.1 1) 6 6 (fun _ => 0), wX7 g (b3.1 0) (b3.1 1) 6 6 (fun _ => 0)] []) := hD
  exact MN_v ⟨fun i => ([(b1.1 0), (b1.1 1), (b2.1 0), (b2.1 1), (b3.1 0), (b3.1 1)] : List Nat).getD i 0, (fun _ _ => 0), (fun _ _ => 0)⟩ rfl F hr hlocks (Nat.le_of_ble_eq_true rfl) (Nat.le_of_ble_eq_true rfl) hP hD hS dX1_init_36
/-! WireCutter$Command.<init> -/
theorem mbX2_init : MB yX2_init cX2_init 1 none 0 := ⟨q239, q11, by decide +kernel⟩
set_option maxHeartbeats 4000000 in
set_option maxRecDepth 100000 in
theorem tX2_init (l : Launch) (dC : Nat → ClassId) (dI : Nat → Nat → Nat) (g : Nat → ClassId) (a0 : Nat) : MN l yX2_init cX2_init 1 none 1 20 0 (0) dC dI g [.ref a0] [(a0, .inr (5, [.null, .int 0, .int 0, .int 0, .int 0]))] (fun β => wX2 g a0 none 97 0 0 0) (fun _ => none) := by
  refine MN_of (by decide +kernel) (Nat.le_of_ble_eq_true rfl) ?_
  intro p e s m below meth c ls F hmn hr hlocks hE hX hA hP hD hS hl
  generalize va_A [(a0, .inr (5, [.null, .int 0, .int 0, .int 0, .int 0]))] s.heap.size = A at hA hD hS hX ⊢
  replace F : CF p m c cX2_init 1 s _ RX2 := F
  replace hl : lv_has ls 1 [(0, .ref a0)] := hl
  replace hP : va_P (dC, dI) vwCl (catp [[(a0, .inr (5, [.null, .int 0, .int 0, .int 0, .int 0]))]] []) s.heap := hP
  replace hD : va_D A (catp [[(a0, .inr (5, [.null, .int 0, .int 0, .int 0, .int 0]))]] []) := hD
  refine lv_aload_n F.1 F.2.1 dX2_init_0 rfl (lv_at hl 0 rfl) ?_
  refine oIn F q240 hl.1 ⟨(Nat.le_of_ble_eq_true rfl), (Nat.le_of_ble_eq_true rfl)⟩ (Nat.le_of_ble_eq_true rfl) dX2_init_1 ?_
  refine lv_aload_n F.1 F.2.1 dX2_init_4 rfl (lv_at hl 0 rfl) ?_
  refine lv_null F.1 F.2.1 dX2_init_5 ?_
  refine pF (v := .null) F hE hP hD hS 0 rfl rfl inX2 tyX2 tyX2_ok nmX2 0 (by decide) q241 rfl rfl rfl (Nat.le_of_ble_eq_true rfl) dX2_init_6 (fun H locs hP hD hS => ?_)
  replace hP : va_P (dC, dI) vwCl (catp [[(a0, .inr (5, [.null, .int 0, .int 0, .int 0, .int 0]))]] []) H := hP
  replace hD : va_D A (catp [[(a0, .inr (5, [.null, .int 0, .int 0, .int 0, .int 0]))]] []) := hD
  refine lv_aload_n F.1 F.2.1 dX2_init_9 rfl (lv_at hl 0 rfl) ?_
  refine lv_bipush (v := 97) F.1 F.2.1 dX2_init_10 (by decide) ?_
  refine pF (v := .int 97) F hE hP hD hS 0 rfl rfl inX2 tyX2 tyX2_ok nmX2 1 (by decide) q244 rfl rfl rfl (Nat.le_of_ble_eq_true rfl) dX2_init_12 (fun H locs hP hD hS => ?_)
  replace hP : va_P (dC, dI) vwCl (catp [[(a0, .inr (5, [.null, .int 97, .int 0, .int 0, .int 0]))]] []) H := hP
  replace hD : va_D A (catp [[(a0, .inr (5, [.null, .int 97, .int 0, .int 0, .int 0]))]] []) := hD
  refine lv_aload_n F.1 F.2.1 dX2_init_15 rfl (lv_at hl 0 rfl) ?_
  refine lv_iconst (v := 0) F.1 F.2.1 dX2_init_16 (by decide) ?_
  refine pF (v := .int 0) F hE hP hD hS 0 rfl rfl inX2 tyX2 tyX2_ok nmX2 2 (by decide) q246 rfl rfl rfl (Nat.le_of_ble_eq_true rfl) dX2_init_17 (fun H locs hP hD hS => ?_)
  replace hP : va_P (dC, dI) vwCl (catp [[(a0, .inr (5, [.null, .int 97, .int 0, .int 0, .int 0]))]] []) H := hP
  replace hD : va_D A (catp [[(a0, .inr (5, [.null, .int 97, .int 0, .int 0, .int 0]))]] []) := hD
  refine lv_aload_n F.1 F.2.1 dX2_init_20 rfl (lv_at hl 0 rfl) ?_
  refine lv_iconst (v := 0) F.1 F.2.1 dX2_init_21 (by decide) ?_
  refine pF (v := .int 0) F hE hP hD hS 0 rfl rfl inX2 tyX2 tyX2_ok nmX2 3 (by decide) q248 rfl rfl rfl (Nat.le_of_ble_eq_true rfl) dX2_init_22 (fun H locs hP hD hS => ?_)
  replace hP : va_P (dC, dI) vwCl (catp [[(a0, .inr (5, [.null, .int 97, .int 0, .int 0, .int 0]))]] []) H := hP
  replace hD : va_D A (catp [[(a0, .inr (5, [.null, .int 97, .int 0, .int 0, .int 0]))]] []) := hD
  refine lv_aload_n F.1 F.2.1 dX2_init_25 rfl (lv_at hl 0 rfl) ?_
  refine lv_iconst (v := 0) F.1 F.2.1 dX2_init_26 (by decide) ?_
  refine pF (v := .int 0) F hE hP hD hS 0 rfl rfl inX2 tyX2 tyX2_ok nmX2 4 (by decide) q250 rfl rfl rfl (Nat.le_of_ble_eq_true rfl) dX2_init_27 (fun H locs hP hD hS => ?_)
  replace hP : va_P (dC, dI) vwCl (catp [[(a0, .inr (5, [.null, .int 97, .int 0, .int 0, .int 0]))]] []) H := hP
  replace hD : va_D A (catp [[(a0, .inr (5, [.null, .int 97, .int 0, .int 0, .int 0]))]] []) := hD
  exact MN_v ⟨fun i => ([] : List Nat).getD i 0, (fun _ _ => 0), (fun _ _ => 0)⟩ rfl F hr hlocks (Nat.le_of_ble_eq_true rfl) (Nat.le_of_ble_eq_true rfl) hP hD hS dX2_init_30
/-! WireCutter$Orders.<init> -/
theorem mbX5_init : MB yX5_init cX5_init 1 none 0 := ⟨q114, q6, by decide +kernel⟩
set_option maxHeartbeats 4000000 in
set_option maxRecDepth 100000 in
theorem tX5_init (l : Launch) (dC : Nat → ClassId) (dI : Nat → Nat → Nat) (g : Nat → ClassId) (a0 : Nat) : MN l yX5_init cX5_init 1 none 2 41 8 (56) dC dI g [.ref a0] [(a0, .inr (8, [.null, .null, .null, .null, .int 0]))] (fun β => wX5 g a0 (β.1 0) (β.1 1) (β.1 2) (β.1 3) (β.1 4) (β.1 5) (β.1 6) (β.1 7) 0 0 (fun _ => 0) 0 (fun _ => 0) 0 (fun _ => 0) 0 (fun _ => 0)) (fun _ => none) := by
  refine MN_of (by decide +kernel) (Nat.le_of_ble_eq_true rfl) ?_
  intro p e s m below meth c ls F hmn hr hlocks hE hX hA hP hD hS hl
  generalize va_A [(a0, .inr (8, [.null, .null, .null, .null, .int 0]))] s.heap.size = A at hA hD hS hX ⊢
  replace F : CF p m c cX5_init 1 s _ RX5 := F
  replace hl : lv_has ls 1 [(0, .ref a0)] := hl
  replace hP : va_P (dC, dI) vwCl (catp [[(a0, .inr (8, [.null, .null, .null, .null, .int 0]))]] []) s.heap := hP
  replace hD : va_D A (catp [[(a0, .inr (8, [.null, .null, .null, .null, .int 0]))]] []) := hD
  refine lv_aload_n F.1 F.2.1 dX5_init_0 rfl (lv_at hl 0 rfl) ?_
  refine oIn F q115 hl.1 ⟨(Nat.le_of_ble_eq_true rfl), (Nat.le_of_ble_eq_true rfl)⟩ (Nat.le_of_ble_eq_true rfl) dX5_init_1 ?_
  refine lv_aload_n F.1 F.2.1 dX5_init_4 rfl (lv_at hl 0 rfl) ?_
  refine nwO (ci := 10) F hE inX7 tyX7 tyX7_ok q116 q58 q4 [[(a0, .inr (8, [.null, .null, .null, .null, .int 0]))]] hP hD hS hA rfl [.null, .int 0] (by decide) (Nat.le_of_ble_eq_true rfl) (Nat.le_of_ble_eq_true rfl) dX5_init_5 (fun qa1 H hP hD hS => ?_)
  replace hP : va_P (dC, dI) vwCl (catp [[(a0, .inr (8, [.null, .null, .null, .null, .int 0]))], [(qa1, .inr (10, [.null, .int 0]))]] []) H := hP
  replace hD : va_D A (catp [[(a0, .inr (8, [.null, .null, .null, .null, .int 0]))], [(qa1, .inr (10, [.null, .int 0]))]] []) := hD
  refine lv_dup F.1 F.2.1 dX5_init_8 rfl ?_
  refine lv_bipush (v := 12) F.1 F.2.1 dX5_init_9 (by decide) ?_
  refine cNI (As := [.int 12]) (rest := [.ref qa1, .ref a0]) (post := catp [] []) F hE hX (tX7_init l dC dI g qa1 12 ⟨by decide, by decide⟩ (by decide)) mbX7_init q60 rfl q117 ⟨(Nat.le_of_ble_eq_true rfl), (Nat.le_of_ble_eq_true rfl)⟩ ⟨(Nat.le_of_ble_eq_true rfl), (Nat.le_of_ble_eq_true rfl)⟩ hP hD hS hA [[(a0, .inr (8, [.null, .null, .null, .null, .int 0]))]] rfl rfl hl.1 rfl (Nat.le_of_ble_eq_true rfl) dX5_init_11 (fun b2 H locs hP hD hS => ?_)
  replace hP : va_P (dC, dI) vwCl (catp [[(a0, .inr (8, [.null, .null, .null, .null, .int 0]))], wX7 g qa1 (b2.1 0) 12 0 (fun _ => 0)] []) H := hP
  replace hD : va_D A (catp [[(a0, .inr (8, [.null, .null, .null, .null, .int 0]))], wX7 g qa1 (b2.1 0) 12 0 (fun _ => 0)] []) := hD
  refine pFF (v := .ref qa1) F hE hP hD hS 0 rfl rfl inX5 tyX5 tyX5_ok nmX5 0 (by decide) q118 rfl hmn rfl rfl rfl (Nat.le_of_ble_eq_true rfl) dX5_init_14 (fun H locs hP hD hS => ?_)
  replace hP : va_P (dC, dI) vwCl (catp [[(a0, .inr (8, [.ref qa1, .null, .null, .null, .int 0]))], wX7 g qa1 (b2.1 0) 12 0 (fun _ => 0)] []) H := hP
  replace hD : va_D A (catp [[(a0, .inr (8, [.ref qa1, .null, .null, .null, .int 0]))], wX7 g qa1 (b2.1 0) 12 0 (fun _ => 0)] []) := hD
  refine lv_aload_n F.1 F.2.1 dX5_init_17 rfl (lv_at hl 0 rfl) ?_
  refine nwO (ci := 10) F hE inX7 tyX7 tyX7_ok q116 q58 q4 [[(a0, .inr (8, [.ref qa1, .null, .null, .null, .int 0]))], wX7 g qa1 (b2.1 0) 12 0 (fun _ => 0)] hP hD hS hA rfl [.null, .int 0] (by decide) (Nat.le_of_ble_eq_true rfl) (Nat.le_of_ble_eq_true rfl) dX5_init_18 (fun qa3 H hP hD hS => ?_)
  replace hP : va_P (dC, dI) vwCl (catp [[(a0, .inr (8, [.ref qa1, .null, .null, .null, .int 0]))], wX7 g qa1 (b2.1 0) 12 0 (fun _ => 0), [(qa3, .inr (10, [.null, .int 0]))]] []) H := hP
  replace hD : va_D A (catp [[(a0, .inr (8, [.ref qa1, .null, .null, .null, .int 0]))], wX7 g qa1 (b2.1 0) 12 0 (fun _ => 0), [(qa3, .inr (10, [.null, .int 0]))]] []) := hD
  refine lv_dup F.1 F.2.1 dX5_init_21 rfl ?_
  refine lv_bipush (v := 12) F.1 F.2.1 dX5_init_22 (by decide) ?_
  refine cNI (As := [.int 12]) (rest := [.ref qa3, .ref a0]) (post := catp [] []) F hE hX (tX7_init l dC dI g qa3 12 ⟨by decide, by decide⟩ (by decide)) mbX7_init q60 rfl q117 ⟨(Nat.le_of_ble_eq_true rfl), (Nat.le_of_ble_eq_true rfl)⟩ ⟨(Nat.le_of_ble_eq_true rfl), (Nat.le_of_ble_eq_true rfl)⟩ hP hD hS hA [[(a0, .inr (8, [.ref qa1, .null, .null, .null, .int 0]))], wX7 g qa1 (b2.1 0) 12 0 (fun _ => 0)] rfl rfl hl.1 rfl (Nat.le_of_ble_eq_true rfl) dX5_init_24 (fun b4 H locs hP hD hS => ?_)
  replace hP : va_P (dC, dI) vwCl (catp [[(a0, .inr (8, [.ref qa1, .null, .null, .null, .int 0]))], wX7 g qa1 (b2.1 0) 12 0 (fun _ => 0), wX7 g qa3 (b4.1 0) 12 0 (fun _ => 0)] []) H := hP
  replace hD : va_D A (catp [[(a0, .inr (8, [.ref qa1, .null, .null, .null, .int 0]))], wX7 g qa1 (b2.1 0) 12 0 (fun _ => 0), wX7 g qa3 (b4.1 0) 12 0 (fun _ => 0)] []) := hD
  refine pFF (v := .ref qa3) F hE hP hD hS 0 rfl rfl inX5 tyX5 tyX5_ok nmX5 1 (by decide) q119 rfl hmn rfl rfl rfl (Nat.le_of_ble_eq_true rfl) dX5_init_27 (fun H locs hP hD hS => ?_)
  replace hP : va_P (dC, dI) vwCl (catp [[(a0, .inr (8, [.ref qa1, .ref qa3, .null, .null, .int 0]))], wX7 g qa1 (b2.1 0) 12 0 (fun _ => 0), wX7 g qa3 (b4.1 0) 12 0 (fun _ => 0)] []) H := hP
  replace hD : va_D A (catp [[(a0, .inr (8, [.ref qa1, .ref qa3, .null, .null, .int 0]))], wX7 g qa1 (b2.1 0) 12 0 (fun _ => 0), wX7 g qa3 (b4.1 0) 12 0 (fun _ => 0)] []) := hD
  refine lv_aload_n F.1 F.2.1 dX5_init_30 rfl (lv_at hl 0 rfl) ?_
  refine nwO (ci := 10) F hE inX7 tyX7 tyX7_ok q116 q58 q4 [[(a0, .inr (8, [.ref qa1, .ref qa3, .null, .null, .int 0]))], wX7 g qa1 (b2.1 0) 12 0 (fun _ => 0), wX7 g qa3 (b4.1 0) 12 0 (fun _ => 0)] hP hD hS hA rfl [.null, .int 0] (by decide) (Nat.le_of_ble_eq_true rfl) (Nat.le_of_ble_eq_true rfl) dX5_init_31 (fun qa5 H hP hD hS => ?_)
  replace hP : va_P (dC, dI) vwCl (catp [[(a0, .inr (8, [.ref qa1, .ref qa3, .null, .null, .int 0]))], wX7 g qa1 (b2.1 0) 12 0 (fun _ => 0), wX7 g qa3 (b4.1 0) 12 0 (fun _ => 0), [(qa5, .inr (10, [.null, .int 0]))]] []) H := hP
  replace hD : va_D A (catp [[(a0, .inr (8, [.ref qa1, .ref qa3, .null, .null, .int 0]))], wX7 g qa1 (b2.1 0) 12 0 (fun _ => 0), wX7 g qa3 (b4.1 0) 12 0 (fun _ => 0), [(qa5, .inr (10, [.null, .int 0]))]] []) := hD
  refine lv_dup F.1 F.2.1 dX5_init_34 rfl ?_
  refine lv_bipush (v := 12) F.1 F.2.1 dX5_init_35 (by decide) ?_
  refine cNI (As := [.int 12]) (rest := [.ref qa5, .ref a0]) (post := catp [] []) F hE hX (tX7_init l dC dI g qa5 12 ⟨by decide, by decide⟩ (by decide)) mbX7_init q60 rfl q117 ⟨(Nat.le_of_ble_eq_true rfl), (Nat.le_of_ble_eq_true rfl)⟩ ⟨(Nat.le_of_ble_eq_true rfl), (Nat.le_of_ble_eq_true rfl)⟩ hP hD hS hA [[(a0, .inr (8, [.ref qa1, .ref qa3, .null, .null, .int 0]))], wX7 g qa1 (b2.1 0) 12 0 (fun _ => 0), wX7 g qa3 (b4.1 0) 12 0 (fun _ => 0)] rfl rfl hl.1 rfl (Nat.le_of_ble_eq_true rfl) dX5_init_37 (fun b6 H locs hP hD hS => ?_)
  replace hP : va_P (dC, dI) vwCl (catp [[(a0, .inr (8, [.ref qa1, .ref qa3, .null, .null, .int 0]))], wX7 g qa1 (b2.1 0) 12 0 (fun _ => 0), wX7 g qa3 (b4.1 0) 12 0 (fun _ => 0), wX7 g qa5 (b6.1 0) 12 0 (fun _ => 0)] []) H := hP
  replace hD : va_D A (catp [[(a0, .inr (8, [.ref qa1, .ref qa3, .null, .null, .int 0]))], wX7 g qa1 (b2.1 0) 12 0 (fun _ => 0), wX7 g qa3 (b4.1 0) 12 0 (fun _ => 0), wX7 g qa5 (b6.1 0) 12 0 (fun _ => 0)] []) := hD
  refine pFF (v := .ref qa5) F hE hP hD hS 0 rfl rfl inX5 tyX5 tyX5_ok nmX5 2 (by decide) q120 rfl hmn rfl rfl rfl (Nat.le_of_ble_eq_true rfl) dX5_init_40 (fun H locs hP hD hS => ?_)
  replace hP : va_P (dC, dI) vwCl (catp [[(a0, .inr (8, [.ref qa1, .ref qa3, .ref qa5, .null, .int 0]))], wX7 g qa1 (b2.1 0) 12 0 (fun _ => 0), wX7 g qa3 (b4.1 0) 12 0 (fun _ => 0), wX7 g qa5 (b6.1 0) 12 0 (fun _ => 0)] []) H := hP
  replace hD : va_D A (catp [[(a0, .inr (8, [.ref qa1, .ref qa3, .ref qa5, .null, .int 0]))], wX7 g qa1 (b2.1 0) 12 0 (fun _ => 0), wX7 g qa3 (b4.1 0) 12 0 (fun _ => 0), wX7 g qa5 (b6.1 0) 12 0 (fun _ => 0)] []) := hD
  refine lv_aload_n F.1 F.2.1 dX5_init_43 rfl (lv_at hl 0 rfl) ?_
  refine nwO (ci := 10) F hE inX7 tyX7 tyX7_ok q116 q58 q4 [[(a0, .inr (8, [.ref qa1, .ref qa3, .ref qa5, .null, .int 0]))], wX7 g qa1 (b2.1 0) 12 0 (fun _ => 0), wX7 g qa3 (b4.1 0) 12 0 (fun _ => 0), wX7 g qa5 (b6.1 0) 12 0 (fun _ => 0)] hP hD hS hA rfl [.null, .int 0] (by decide) (Nat.le_of_ble_eq_true rfl) (Nat.le_of_ble_eq_true rfl) dX5_init_44 (fun qa7 H hP hD hS => ?_)
  replace hP : va_P (dC, dI) vwCl (catp [[(a0, .inr (8, [.ref qa1, .ref qa3, .ref qa5, .null, .int 0]))], wX7 g qa1 (b2.1 0) 12 0 (fun _ => 0), wX7 g qa3 (b4.1 0) 12 0 (fun _ => 0), wX7 g qa5 (b6.1 0) 12 0 (fun _ => 0), [(qa7, .inr (10, [.null, .int 0]))]] []) H := hP
  replace hD : va_D A (catp [[(a0, .inr (8, [.ref qa1, .ref qa3, .ref qa5, .null, .int 0]))], wX7 g qa1 (b2.1 0) 12 0 (fun _ => 0), wX7 g qa3 (b4.1 0) 12 0 (fun _ => 0), wX7 g qa5 (b6.1 0) 12 0 (fun _ => 0), [(qa7, .inr (10, [.null, .int 0]))]] []) := hD
  refine lv_dup F.1 F.2.1 dX5_init_47 rfl ?_
  refine lv_bipush (v := 12) F.1 F.2.1 dX5_init_48 (by decide) ?_
  refine cNI (As := [.int 12]) (rest := [.ref qa7, .ref a0]) (post := catp [] []) F hE hX (tX7_init l dC dI g qa7 12 ⟨by decide, by decide⟩ (by decide)) mbX7_init q60 rfl q117 ⟨(Nat.le_of_ble_eq_true rfl), (Nat.le_of_ble_eq_true rfl)⟩ ⟨(Nat.le_of_ble_eq_true rfl), (Nat.le_of_ble_eq_true rfl)⟩ hP hD hS hA [[(a0, .inr (8, [.ref qa1, .ref qa3, .ref qa5, .null, .int 0]))], wX7 g qa1 (b2.1 0) 12 0 (fun _ => 0), wX7 g qa3 (b4.1 0) 12 0 (fun _ => 0), wX7 g qa5 (b6.1 0) 12 0 (fun _ => 0)] rfl rfl hl.1 rfl (Nat.le_of_ble_eq_true rfl) dX5_init_50 (fun b8 H locs hP hD hS => ?_)
  replace hP : va_P (dC, dI) vwCl (catp [[(a0, .inr (8, [.ref qa1, .ref qa3, .ref qa5, .null, .int 0]))], wX7 g qa1 (b2.1 0) 12 0 (fun _ => 0), wX7 g qa3 (b4.1 0) 12 0 (fun _ => 0), wX7 g qa5 (b6.1 0) 12 0 (fun _ => 0), wX7 g qa7 (b8.1 0) 12 0 (fun _ => 0)] []) H := hP
  replace hD : va_D A (catp [[(a0, .inr (8, [.ref qa1, .ref qa3, .ref qa5, .null, .int 0]))], wX7 g qa1 (b2.1 0) 12 0 (fun _ => 0), wX7 g qa3 (b4.1 0) 12 0 (fun _ => 0), wX7 g qa5 (b6.1 0) 12 0 (fun _ => 0), wX7 g qa7 (b8.1 0) 12 0 (fun _ => 0)] []) := hD
  refine pFF (v := .ref qa7) F hE hP hD hS 0 rfl rfl inX5 tyX5 tyX5_ok nmX5 3 (by decide) q121 rfl hmn rfl rfl rfl (Nat.le_of_ble_eq_true rfl) dX5_init_53 (fun H locs hP hD hS => ?_)
  replace hP : va_P (dC, dI) vwCl (catp [[(a0, .inr (8, [.ref qa1, .ref qa3, .ref qa5, .ref qa7, .int 0]))], wX7 g qa1 (b2.1 0) 12 0 (fun _ => 0), wX7 g qa3 (b4.1 0) 12 0 (fun _ => 0), wX7 g qa5 (b6.1 0) 12 0 (fun _ => 0), wX7 g qa7 (b8.1 0) 12 0 (fun _ => 0)] []) H := hP
  replace hD : va_D A (catp [[(a0, .inr (8, [.ref qa1, .ref qa3, .ref qa5, .ref qa7, .int 0]))], wX7 g qa1 (b2.1 0) 12 0 (fun _ => 0), wX7 g qa3 (b4.1 0) 12 0 (fun _ => 0), wX7 g qa5 (b6.1 0) 12 0 (fun _ => 0), wX7 g qa7 (b8.1 0) 12 0 (fun _ => 0)] []) := hD
  refine lv_aload_n F.1 F.2.1 dX5_init_56 rfl (lv_at hl 0 rfl) ?_
  refine lv_iconst (v := 0) F.1 F.2.1 dX5_init_57 (by decide) ?_
  refine pF (v := .int 0) F hE hP hD hS 0 rfl rfl inX5 tyX5 tyX5_ok nmX5 4 (by decide) q122 rfl rfl rfl (Nat.le_of_ble_eq_true rfl) dX5_init_58 (fun H locs hP hD hS => ?_)
  replace hP : va_P (dC, dI) vwCl (catp [[(a0, .inr (8, [.ref qa1, .ref qa3, .ref qa5, .ref qa7, .int 0]))], wX7 g qa1 (b2.1 0) 12 0 (fun _ => 0), wX7 g qa3 (b4.1 0) 12 0 (fun _ => 0), wX7 g qa5 (b6.1 0) 12 0 (fun _ => 0), wX7 g qa7 (b8.1 0) 12 0 (fun _ => 0)] []) H := hP
  replace hD : va_D A (catp [[(a0, .inr (8, [.ref qa1, .ref qa3, .ref qa5, .ref qa7, .int 0]))], wX7 g qa1 (b2.1 0) 12 0 (fun _ => 0), wX7 g qa3 (b4.1 0) 12 0 (fun _ => 0), wX7 g qa5 (b6.1 0) 12 0 (fun _ => 0), wX7 g qa7 (b8.1 0) 12 0 (fun _ => 0)] []) := hD
  exact MN_v ⟨fun i => ([qa1, (b2.1 0), qa3, (b4.1 0), qa5, (b6.1 0), qa7, (b8.1 0)] : List Nat).getD i 0, (fun _ _ => 0), (fun _ _ => 0)⟩ rfl F hr hlocks (Nat.le_of_ble_eq_true rfl) (Nat.le_of_ble_eq_true rfl) hP hD hS dX5_init_61
/-! WireCutter$Spools.<init> -/
theorem mbX9_init : MB yX9_init cX9_init 1 none 0 := ⟨q55, q3, by decide +kernel⟩
set_option maxHeartbeats 4000000 in
set_option maxRecDepth 100000 in
theorem tX9_init (l : Launch) (dC : Nat → ClassId) (dI : Nat → Nat → Nat) (g : Nat → ClassId) (a0 : Nat) : MN l yX9_init cX9_init 1 none 2 41 8 (48) dC dI g [.ref a0] [(a0, .inr (12, [.null, .null, .null, .null, .int 0]))] (fun β => wX9 g a0 (β.1 0) (β.1 1) (β.1 2) (β.1 3) (β.1 4) (β.1 5) (β.1 6) (β.1 7) 0 0 (fun _ => 0) 0 (fun _ => 0) 0 (fun _ => 0) 0 (fun _ => 0)) (fun _ => none) := by
  refine MN_of (by decide +kernel) (Nat.le_of_ble_eq_true rfl) ?_
  intro p e s m below meth c ls F hmn hr hlocks hE hX hA hP hD hS hl
  generalize va_A [(a0, .inr (12, [.null, .null, .null, .null, .int 0]))] s.heap.size = A at hA hD hS hX ⊢
  replace F : CF p m c cX9_init 1 s _ RX9 := F
  replace hl : lv_has ls 1 [(0, .ref a0)] := hl
  replace hP : va_P (dC, dI) vwCl (catp [[(a0, .inr (12, [.null, .null, .null, .null, .int 0]))]] []) s.heap := hP
  replace hD : va_D A (catp [[(a0, .inr (12, [.null, .null, .null, .null, .int 0]))]] []) := hD
  refine lv_aload_n F.1 F.2.1 dX9_init_0 rfl (lv_at hl 0 rfl) ?_
  refine oIn F q56 hl.1 ⟨(Nat.le_of_ble_eq_true rfl), (Nat.le_of_ble_eq_true rfl)⟩ (Nat.le_of_ble_eq_true rfl) dX9_init_1 ?_
  refine lv_aload_n F.1 F.2.1 dX9_init_4 rfl (lv_at hl 0 rfl) ?_
  refine nwO (ci := 10) F hE inX7 tyX7 tyX7_ok q57 q58 q4 [[(a0, .inr (12, [.null, .null, .null, .null, .int 0]))]] hP hD hS hA rfl [.null, .int 0] (by decide) (Nat.le_of_ble_eq_true rfl) (Nat.le_of_ble_eq_true rfl) dX9_init_5 (fun qa1 H hP hD hS => ?_)
  replace hP : va_P (dC, dI) vwCl (catp [[(a0, .inr (12, [.null, .null, .null, .null, .int 0]))], [(qa1, .inr (10, [.null, .int 0]))]] []) H := hP
  replace hD : va_D A (catp [[(a0, .inr (12, [.null, .null, .null, .null, .int 0]))], [(qa1, .inr (10, [.null, .int 0]))]] []) := hD
  refine lv_dup F.1 F.2.1 dX9_init_8 rfl ?_
  refine lv_bipush (v := 10) F.1 F.2.1 dX9_init_9 (by decide) ?_
  refine cNI (As := [.int 10]) (rest := [.ref qa1, .ref a0]) (post := catp [] []) F hE hX (tX7_init l dC dI g qa1 10 ⟨by decide, by decide⟩ (by decide)) mbX7_init q60 rfl q59 ⟨(Nat.le_of_ble_eq_true rfl), (Nat.le_of_ble_eq_true rfl)⟩ ⟨(Nat.le_of_ble_eq_true rfl), (Nat.le_of_ble_eq_true rfl)⟩ hP hD hS hA [[(a0, .inr (12, [.null, .null, .null, .null, .int 0]))]] rfl rfl hl.1 rfl (Nat.le_of_ble_eq_true rfl) dX9_init_11 (fun b2 H locs hP hD hS => ?_)
  replace hP : va_P (dC, dI) vwCl (catp [[(a0, .inr (12, [.null, .null, .null, .null, .int 0]))], wX7 g qa1 (b2.1 0) 10 0 (fun _ => 0)] []) H := hP
  replace hD : va_D A (catp [[(a0, .inr (12, [.null, .null, .null, .null, .int 0]))], wX7 g qa1 (b2.1 0) 10 0 (fun _ => 0)] []) := hD
  refine pFF (v := .ref qa1) F hE hP hD hS 0 rfl rfl inX9 tyX9 tyX9_ok nmX9 0 (by decide) q71 rfl hmn rfl rfl rfl (Nat.le_of_ble_eq_true rfl) dX9_init_14 (fun H locs hP hD hS => ?_)
  replace hP : va_P (dC, dI) vwCl (catp [[(a0, .inr (12, [.ref qa1, .null, .null, .null, .int 0]))], wX7 g qa1 (b2.1 0) 10 0 (fun _ => 0)] []) H := hP
  replace hD : va_D A (catp [[(a0, .inr (12, [.ref qa1, .null, .null, .null, .int 0]))], wX7 g qa1 (b2.1 0) 10 0 (fun _ => 0)] []) := hD
  refine lv_aload_n F.1 F.2.1 dX9_init_17 rfl (lv_at hl 0 rfl) ?_
  refine nwO (ci := 10) F hE inX7 tyX7 tyX7_ok q57 q58 q4 [[(a0, .inr (12, [.ref qa1, .null, .null, .null, .int 0]))], wX7 g qa1 (b2.1 0) 10 0 (fun _ => 0)] hP hD hS hA rfl [.null, .int 0] (by decide) (Nat.le_of_ble_eq_true rfl) (Nat.le_of_ble_eq_true rfl) dX9_init_18 (fun qa3 H hP hD hS => ?_)
  replace hP : va_P (dC, dI) vwCl (catp [[(a0, .inr (12, [.ref qa1, .null, .null, .null, .int 0]))], wX7 g qa1 (b2.1 0) 10 0 (fun _ => 0), [(qa3, .inr (10, [.null, .int 0]))]] []) H := hP
  replace hD : va_D A (catp [[(a0, .inr (12, [.ref qa1, .null, .null, .null, .int 0]))], wX7 g qa1 (b2.1 0) 10 0 (fun _ => 0), [(qa3, .inr (10, [.null, .int 0]))]] []) := hD
  refine lv_dup F.1 F.2.1 dX9_init_21 rfl ?_
  refine lv_bipush (v := 10) F.1 F.2.1 dX9_init_22 (by decide) ?_
  refine cNI (As := [.int 10]) (rest := [.ref qa3, .ref a0]) (post := catp [] []) F hE hX (tX7_init l dC dI g qa3 10 ⟨by decide, by decide⟩ (by decide)) mbX7_init q60 rfl q59 ⟨(Nat.le_of_ble_eq_true rfl), (Nat.le_of_ble_eq_true rfl)⟩ ⟨(Nat.le_of_ble_eq_true rfl), (Nat.le_of_ble_eq_true rfl)⟩ hP hD hS hA [[(a0, .inr (12, [.ref qa1, .null, .null, .null, .int 0]))], wX7 g qa1 (b2.1 0) 10 0 (fun _ => 0)] rfl rfl hl.1 rfl (Nat.le_of_ble_eq_true rfl) dX9_init_24 (fun b4 H locs hP hD hS => ?_)
  replace hP : va_P (dC, dI) vwCl (catp [[(a0, .inr (12, [.ref qa1, .null, .null, .null, .int 0]))], wX7 g qa1 (b2.1 0) 10 0 (fun _ => 0), wX7 g qa3 (b4.1 0) 10 0 (fun _ => 0)] []) H := hP
  replace hD : va_D A (catp [[(a0, .inr (12, [.ref qa1, .null, .null, .null, .int 0]))], wX7 g qa1 (b2.1 0) 10 0 (fun _ => 0), wX7 g qa3 (b4.1 0) 10 0 (fun _ => 0)] []) := hD
  refine pFF (v := .ref qa3) F hE hP hD hS 0 rfl rfl inX9 tyX9 tyX9_ok nmX9 1 (by decide) q72 rfl hmn rfl rfl rfl (Nat.le_of_ble_eq_true rfl) dX9_init_27 (fun H locs hP hD hS => ?_)
  replace hP : va_P (dC, dI) vwCl (catp [[(a0, .inr (12, [.ref qa1, .ref qa3, .null, .null, .int 0]))], wX7 g qa1 (b2.1 0) 10 0 (fun _ => 0), wX7 g qa3 (b4.1 0) 10 0 (fun _ => 0)] []) H := hP
  replace hD : va_D A (catp [[(a0, .inr (12, [.ref qa1, .ref qa3, .null, .null, .int 0]))], wX7 g qa1 (b2.1 0) 10 0 (fun _ => 0), wX7 g qa3 (b4.1 0) 10 0 (fun _ => 0)] []) := hD
  refine lv_aload_n F.1 F.2.1 dX9_init_30 rfl (lv_at hl 0 rfl) ?_
  refine nwO (ci := 10) F hE inX7 tyX7 tyX7_ok q57 q58 q4 [[(a0, .inr (12, [.ref qa1, .ref qa3, .null, .null, .int 0]))], wX7 g qa1 (b2.1 0) 10 0 (fun _ => 0), wX7 g qa3 (b4.1 0) 10 0 (fun _ => 0)] hP hD hS hA rfl [.null, .int 0] (by decide) (Nat.le_of_ble_eq_true rfl) (Nat.le_of_ble_eq_true rfl) dX9_init_31 (fun qa5 H hP hD hS => ?_)
  replace hP : va_P (dC, dI) vwCl (catp [[(a0, .inr (12, [.ref qa1, .ref qa3, .null, .null, .int 0]))], wX7 g qa1 (b2.1 0) 10 0 (fun _ => 0), wX7 g qa3 (b4.1 0) 10 0 (fun _ => 0), [(qa5, .inr (10, [.null, .int 0]))]] []) H := hP
  replace hD : va_D A (catp [[(a0, .inr (12, [.ref qa1, .ref qa3, .null, .null, .int 0]))], wX7 g qa1 (b2.1 0) 10 0 (fun _ => 0), wX7 g qa3 (b4.1 0) 10 0 (fun _ => 0), [(qa5, .inr (10, [.null, .int 0]))]] []) := hD
  refine lv_dup F.1 F.2.1 dX9_init_34 rfl ?_
  refine lv_bipush (v := 10) F.1 F.2.1 dX9_init_35 (by decide) ?_
  refine cNI (As := [.int 10]) (rest := [.ref qa5, .ref a0]) (post := catp [] []) F hE hX (tX7_init l dC dI g qa5 10 ⟨by decide, by decide⟩ (by decide)) mbX7_init q60 rfl q59 ⟨(Nat.le_of_ble_eq_true rfl), (Nat.le_of_ble_eq_true rfl)⟩ ⟨(Nat.le_of_ble_eq_true rfl), (Nat.le_of_ble_eq_true rfl)⟩ hP hD hS hA [[(a0, .inr (12, [.ref qa1, .ref qa3, .null, .null, .int 0]))], wX7 g qa1 (b2.1 0) 10 0 (fun _ => 0), wX7 g qa3 (b4.1 0) 10 0 (fun _ => 0)] rfl rfl hl.1 rfl (Nat.le_of_ble_eq_true rfl) dX9_init_37 (fun b6 H locs hP hD hS => ?_)
  replace hP : va_P (dC, dI) vwCl (catp [[(a0, .inr (12, [.ref qa1, .ref qa3, .null, .null, .int 0]))], wX7 g qa1 (b2.1 0) 10 0 (fun _ => 0), wX7 g qa3 (b4.1 0) 10 0 (fun _ => 0), wX7 g qa5 (b6.1 0) 10 0 (fun _ => 0)] []) H := hP
  replace hD : va_D A (catp [[(a0, .inr (12, [.ref qa1, .ref qa3, .null, .null, .int 0]))], wX7 g qa1 (b2.1 0) 10 0 (fun _ => 0), wX7 g qa3 (b4.1 0) 10 0 (fun _ => 0), wX7 g qa5 (b6.1 0) 10 0 (fun _ => 0)] []) := hD
  refine pFF (v := .ref qa5) F hE hP hD hS 0 rfl rfl inX9 tyX9 tyX9_ok nmX9 2 (by decide) q73 rfl hmn rfl rfl rfl (Nat.le_of_ble_eq_true rfl) dX9_init_40 (fun H locs hP hD hS => ?_)
  replace hP : va_P (dC, dI) vwCl (catp [[(a0, .inr (12, [.ref qa1, .ref qa3, .ref qa5, .null, .int 0]))], wX7 g qa1 (b2.1 0) 10 0 (fun _ => 0), wX7 g qa3 (b4.1 0) 10 0 (fun _ => 0), wX7 g qa5 (b6.1 0) 10 0 (fun _ => 0)] []) H := hP
  replace hD : va_D A (catp [[(a0, .inr (12, [.ref qa1, .ref qa3, .ref qa5, .null, .int 0]))], wX7 g qa1 (b2.1 0) 10 0 (fun _ => 0), wX7 g qa3 (b4.1 0) 10 0 (fun _ => 0), wX7 g qa5 (b6.1 0) 10 0 (fun _ => 0)] []) := hD
  refine lv_aload_n F.1 F.2.1 dX9_init_43 rfl (lv_at hl 0 rfl) ?_
  refine nwO (ci := 10) F hE inX7 tyX7 tyX7_ok q57 q58 q4 [[(a0, .inr (12, [.ref qa1, .ref qa3, .ref qa5, .null, .int 0]))], wX7 g qa1 (b2.1 0) 10 0 (fun _ => 0), wX7 g qa3 (b4.1 0) 10 0 (fun _ => 0), wX7 g qa5 (b6.1 0) 10 0 (fun _ => 0)] hP hD hS hA rfl [.null, .int 0] (by decide) (Nat.le_of_ble_eq_true rfl) (Nat.le_of_ble_eq_true rfl) dX9_init_44 (fun qa7 H hP hD hS => ?_)
  replace hP : va_P (dC, dI) vwCl (catp [[(a0, .inr (12, [.ref qa1, .ref qa3, .ref qa5, .null, .int 0]))], wX7 g qa1 (b2.1 0) 10 0 (fun _ => 0), wX7 g qa3 (b4.1 0) 10 0 (fun _ => 0), wX7 g qa5 (b6.1 0) 10 0 (fun _ => 0), [(qa7, .inr (10, [.null, .int 0]))]] []) H := hP
  replace hD : va_D A (catp [[(a0, .inr (12, [.ref qa1, .ref qa3, .ref qa5, .null, .int 0]))], wX7 g qa1 (b2.1 0) 10 0 (fun _ => 0), wX7 g qa3 (b4.1 0) 10 0 (fun _ => 0), wX7 g qa5 (b6.1 0) 10 0 (fun _ => 0), [(qa7, .inr (10, [.null, .int 0]))]] []) := hD
  refine lv_dup F.1 F.2.1 dX9_init_47 rfl ?_
  refine lv_bipush (v := 10) F.1 F.2.1 dX9_init_48 (by decide) ?_
  refine cNI (As := [.int 10]) (rest := [.ref qa7, .ref a0]) (post := catp [] []) F hE hX (tX7_init l dC dI g qa7 10 ⟨by decide, by decide⟩ (by decide)) mbX7_init q60 rfl q59 ⟨(Nat.le_of_ble_eq_true rfl), (Nat.le_of_ble_eq_true rfl)⟩ ⟨(Nat.le_of_ble_eq_true rfl), (Nat.le_of_ble_eq_true rfl)⟩ hP hD hS hA [[(a0, .inr (12, [.ref qa1, .ref qa3, .ref qa5, .null, .int 0]))], wX7 g qa1 (b2.1 0) 10 0 (fun _ => 0), wX7 g qa3 (b4.1 0) 10 0 (fun _ => 0), wX7 g qa5 (b6.1 0) 10 0 (fun _ => 0)] rfl rfl hl.1 rfl (Nat.le_of_ble_eq_true rfl) dX9_init_50 (fun b8 H locs hP hD hS => ?_)
  replace hP : va_P (dC, dI) vwCl (catp [[(a0, .inr (12, [.ref qa1, .ref qa3, .ref qa5, .null, .int 0]))], wX7 g qa1 (b2.1 0) 10 0 (fun _ => 0), wX7 g qa3 (b4.1 0) 10 0 (fun _ => 0), wX7 g qa5 (b6.1 0) 10 0 (fun _ => 0), wX7 g qa7 (b8.1 0) 10 0 (fun _ => 0)] []) H := hP
  replace hD : va_D A (catp [[(a0, .inr (12, [.ref qa1, .ref qa3, .ref qa5, .null, .int 0]))], wX7 g qa1 (b2.1 0) 10 0 (fun _ => 0), wX7 g qa3 (b4.1 0) 10 0 (fun _ => 0), wX7 g qa5 (b6.1 0) 10 0 (fun _ => 0), wX7 g qa7 (b8.1 0) 10 0 (fun _ => 0)] []) := hD
  refine pFF (v := .ref qa7) F hE hP hD hS 0 rfl rfl inX9 tyX9 tyX9_ok nmX9 3 (by decide) q74 rfl hmn rfl rfl rfl (Nat.le_of_ble_eq_true rfl) dX9_init_53 (fun H locs hP hD hS => ?_)
  replace hP : va_P (dC, dI) vwCl (catp [[(a0, .inr (12, [.ref qa1, .ref qa3, .ref qa5, .ref qa7, .int 0]))], wX7 g qa1 (b2.1 0) 10 0 (fun _ => 0), wX7 g qa3 (b4.1 0) 10 0 (fun _ => 0), wX7 g qa5 (b6.1 0) 10 0 (fun _ => 0), wX7 g qa7 (b8.1 0) 10 0 (fun _ => 0)] []) H := hP
  replace hD : va_D A (catp [[(a0, .inr (12, [.ref qa1, .ref qa3, .ref qa5, .ref qa7, .int 0]))], wX7 g qa1 (b2.1 0) 10 0 (fun _ => 0), wX7 g qa3 (b4.1 0) 10 0 (fun _ => 0), wX7 g qa5 (b6.1 0) 10 0 (fun _ => 0), wX7 g qa7 (b8.1 0) 10 0 (fun _ => 0)] []) := hD
  refine lv_aload_n F.1 F.2.1 dX9_init_56 rfl (lv_at hl 0 rfl) ?_
  refine lv_iconst (v := 0) F.1 F.2.1 dX9_init_57 (by decide) ?_
  refine pF (v := .int 0) F hE hP hD hS 0 rfl rfl inX9 tyX9 tyX9_ok nmX9 4 (by decide) q75 rfl rfl rfl (Nat.le_of_ble_eq_true rfl) dX9_init_58 (fun H locs hP hD hS => ?_)
  replace hP : va_P (dC, dI) vwCl (catp [[(a0, .inr (12, [.ref qa1, .ref qa3, .ref qa5, .ref qa7, .int 0]))], wX7 g qa1 (b2.1 0) 10 0 (fun _ => 0), wX7 g qa3 (b4.1 0) 10 0 (fun _ => 0), wX7 g qa5 (b6.1 0) 10 0 (fun _ => 0), wX7 g qa7 (b8.1 0) 10 0 (fun _ => 0)] []) H := hP
  replace hD : va_D A (catp [[(a0, .inr (12, [.ref qa1, .ref qa3, .ref qa5, .ref qa7, .int 0]))], wX7 g qa1 (b2.1 0) 10 0 (fun _ => 0), wX7 g qa3 (b4.1 0) 10 0 (fun _ => 0), wX7 g qa5 (b6.1 0) 10 0 (fun _ => 0), wX7 g qa7 (b8.1 0) 10 0 (fun _ => 0)] []) := hD
  exact MN_v ⟨fun i => ([qa1, (b2.1 0), qa3, (b4.1 0), qa5, (b6.1 0), qa7, (b8.1 0)] : List Nat).getD i 0, (fun _ _ => 0), (fun _ _ => 0)⟩ rfl F hr hlocks (Nat.le_of_ble_eq_true rfl) (Nat.le_of_ble_eq_true rfl) hP hD hS dX9_init_61
/-! WireCutter$Scraps.<init> -/
theorem mbX8_init : MB yX8_init cX8_init 1 none 0 := ⟨q91, q5, by decide +kernel⟩
set_option maxHeartbeats 4000000 in
set_option maxRecDepth 100000 in
theorem tX8_init (l : Launch) (dC : Nat → ClassId) (dI : Nat → Nat → Nat) (g : Nat → ClassId) (a0 : Nat) : MN l yX8_init cX8_init 1 none 3 62 6 (92) dC dI g [.ref a0] [(a0, .inr (11, [.null, .null, .null]))] (fun β => wX8 g a0 (β.1 0) (β.1 1) (β.1 2) (β.1 3) (β.1 4) (β.1 5) 0 (fun _ => 0) 0 (fun _ => 0) 6 (fun _ => 0)) (fun _ => none) := by
  refine MN_of (by decide +kernel) (Nat.le_of_ble_eq_true rfl) ?_
  intro p e s m below meth c ls F hmn hr hlocks hE hX hA hP hD hS hl
  generalize va_A [(a0, .inr (11, [.null, .null, .null]))] s.heap.size = A at hA hD hS hX ⊢
  replace F : CF p m c cX8_init 1 s _ RX8 := F
  replace hl : lv_has ls 1 [(0, .ref a0)] := hl
  replace hP : va_P (dC, dI) vwCl (catp [[(a0, .inr (11, [.null, .null, .null]))]] []) s.heap := hP
  replace hD : va_D A (catp [[(a0, .inr (11, [.null, .null, .null]))]] []) := hD
  refine lv_aload_n F.1 F.2.1 dX8_init_0 rfl (lv_at hl 0 rfl) ?_
  refine oIn F q92 hl.1 ⟨(Nat.le_of_ble_eq_true rfl), (Nat.le_of_ble_eq_true rfl)⟩ (Nat.le_of_ble_eq_true rfl) dX8_init_1 ?_
  refine lv_aload_n F.1 F.2.1 dX8_init_4 rfl (lv_at hl 0 rfl) ?_
  refine nwO (ci := 10) F hE inX7 tyX7 tyX7_ok q93 q58 q4 [[(a0, .inr (11, [.null, .null, .null]))]] hP hD hS hA rfl [.null, .int 0] (by decide) (Nat.le_of_ble_eq_true rfl) (Nat.le_of_ble_eq_true rfl) dX8_init_5 (fun qa1 H hP hD hS => ?_)
  replace hP : va_P (dC, dI) vwCl (catp [[(a0, .inr (11, [.null, .null, .null]))], [(qa1, .inr (10, [.null, .int 0]))]] []) H := hP
  replace hD : va_D A (catp [[(a0, .inr (11, [.null, .null, .null]))], [(qa1, .inr (10, [.null, .int 0]))]] []) := hD
  refine lv_dup F.1 F.2.1 dX8_init_8 rfl ?_
  refine lv_bipush (v := 40) F.1 F.2.1 dX8_init_9 (by decide) ?_
  refine cNI (As := [.int 40]) (rest := [.ref qa1, .ref a0]) (post := catp [] []) F hE hX (tX7_init l dC dI g qa1 40 ⟨by decide, by decide⟩ (by decide)) mbX7_init q60 rfl q94 ⟨(Nat.le_of_ble_eq_true rfl), (Nat.le_of_ble_eq_true rfl)⟩ ⟨(Nat.le_of_ble_eq_true rfl), (Nat.le_of_ble_eq_true rfl)⟩ hP hD hS hA [[(a0, .inr (11, [.null, .null, .null]))]] rfl rfl hl.1 rfl (Nat.le_of_ble_eq_true rfl) dX8_init_11 (fun b2 H locs hP hD hS => ?_)
  replace hP : va_P (dC, dI) vwCl (catp [[(a0, .inr (11, [.null, .null, .null]))], wX7 g qa1 (b2.1 0) 40 0 (fun _ => 0)] []) H := hP
  replace hD : va_D A (catp [[(a0, .inr (11, [.null, .null, .null]))], wX7 g qa1 (b2.1 0) 40 0 (fun _ => 0)] []) := hD
  refine pFF (v := .ref qa1) F hE hP hD hS 0 rfl rfl inX8 tyX8 tyX8_ok nmX8 0 (by decide) q100 rfl hmn rfl rfl rfl (Nat.le_of_ble_eq_true rfl) dX8_init_14 (fun H locs hP hD hS => ?_)
  replace hP : va_P (dC, dI) vwCl (catp [[(a0, .inr (11, [.ref qa1, .null, .null]))], wX7 g qa1 (b2.1 0) 40 0 (fun _ => 0)] []) H := hP
  replace hD : va_D A (catp [[(a0, .inr (11, [.ref qa1, .null, .null]))], wX7 g qa1 (b2.1 0) 40 0 (fun _ => 0)] []) := hD
  refine lv_aload_n F.1 F.2.1 dX8_init_17 rfl (lv_at hl 0 rfl) ?_
  refine nwO (ci := 10) F hE inX7 tyX7 tyX7_ok q93 q58 q4 [[(a0, .inr (11, [.ref qa1, .null, .null]))], wX7 g qa1 (b2.1 0) 40 0 (fun _ => 0)] hP hD hS hA rfl [.null, .int 0] (by decide) (Nat.le_of_ble_eq_true rfl) (Nat.le_of_ble_eq_true rfl) dX8_init_18 (fun qa3 H hP hD hS => ?_)
  replace hP : va_P (dC, dI) vwCl (catp [[(a0, .inr (11, [.ref qa1, .null, .null]))], wX7 g qa1 (b2.1 0) 40 0 (fun _ => 0), [(qa3, .inr (10, [.null, .int 0]))]] []) H := hP
  replace hD : va_D A (catp [[(a0, .inr (11, [.ref qa1, .null, .null]))], wX7 g qa1 (b2.1 0) 40 0 (fun _ => 0), [(qa3, .inr (10, [.null, .int 0]))]] []) := hD
  refine lv_dup F.1 F.2.1 dX8_init_21 rfl ?_
  refine lv_bipush (v := 40) F.1 F.2.1 dX8_init_22 (by decide) ?_
  refine cNI (As := [.int 40]) (rest := [.ref qa3, .ref a0]) (post := catp [] []) F hE hX (tX7_init l dC dI g qa3 40 ⟨by decide, by decide⟩ (by decide)) mbX7_init q60 rfl q94 ⟨(Nat.le_of_ble_eq_true rfl), (Nat.le_of_ble_eq_true rfl)⟩ ⟨(Nat.le_of_ble_eq_true rfl), (Nat.le_of_ble_eq_true rfl)⟩ hP hD hS hA [[(a0, .inr (11, [.ref qa1, .null, .null]))], wX7 g qa1 (b2.1 0) 40 0 (fun _ => 0)] rfl rfl hl.1 rfl (Nat.le_of_ble_eq_true rfl) dX8_init_24 (fun b4 H locs hP hD hS => ?_)
  replace hP : va_P (dC, dI) vwCl (catp [[(a0, .inr (11, [.ref qa1, .null, .null]))], wX7 g qa1 (b2.1 0) 40 0 (fun _ => 0), wX7 g qa3 (b4.1 0) 40 0 (fun _ => 0)] []) H := hP
  replace hD : va_D A (catp [[(a0, .inr (11, [.ref qa1, .null, .null]))], wX7 g qa1 (b2.1 0) 40 0 (fun _ => 0), wX7 g qa3 (b4.1 0) 40 0 (fun _ => 0)] []) := hD
  refine pFF (v := .ref qa3) F hE hP hD hS 0 rfl rfl inX8 tyX8 tyX8_ok nmX8 1 (by decide) q101 rfl hmn rfl rfl rfl (Nat.le_of_ble_eq_true rfl) dX8_init_27 (fun H locs hP hD hS => ?_)
  replace hP : va_P (dC, dI) vwCl (catp [[(a0, .inr (11, [.ref qa1, .ref qa3, .null]))], wX7 g qa1 (b2.1 0) 40 0 (fun _ => 0), wX7 g qa3 (b4.1 0) 40 0 (fun _ => 0)] []) H := hP
  replace hD : va_D A (catp [[(a0, .inr (11, [.ref qa1, .ref qa3, .null]))], wX7 g qa1 (b2.1 0) 40 0 (fun _ => 0), wX7 g qa3 (b4.1 0) 40 0 (fun _ => 0)] []) := hD
  refine lv_aload_n F.1 F.2.1 dX8_init_30 rfl (lv_at hl 0 rfl) ?_
  refine lv_bipush (v := 6) F.1 F.2.1 dX8_init_31 (by decide) ?_
  refine cNS (As := [.int 6]) (rest := [.ref a0]) (post := []) F hE hX (tX7_ofZeros l dC dI g 6 ⟨by decide, by decide⟩ (by decide)) mbX7_ofZeros q95 ⟨(Nat.le_of_ble_eq_true rfl), (Nat.le_of_ble_eq_true rfl)⟩ ⟨(Nat.le_of_ble_eq_true rfl), (Nat.le_of_ble_eq_true rfl)⟩ hP hD hS hA [[(a0, .inr (11, [.ref qa1, .ref qa3, .null]))], wX7 g qa1 (b2.1 0) 40 0 (fun _ => 0), wX7 g qa3 (b4.1 0) 40 0 (fun _ => 0)] rfl rfl hl.1 rfl (Nat.le_of_ble_eq_true rfl) dX8_init_33 (fun b5 H locs hP hD hS => ?_)
  replace hP : va_P (dC, dI) vwCl (catp [[(a0, .inr (11, [.ref qa1, .ref qa3, .null]))], wX7 g qa1 (b2.1 0) 40 0 (fun _ => 0), wX7 g qa3 (b4.1 0) 40 0 (fun _ => 0), wX7 g (b5.1 0) (b5.1 1) 6 6 (fun _ => 0)] []) H := hP
  replace hD : va_D A (catp [[(a0, .inr (11, [.ref qa1, .ref qa3, .null]))], wX7 g qa1 (b2.1 0) 40 0 (fun _ => 0), wX7 g qa3 (b4.1 0) 40 0 (fun _ => 0), wX7 g (b5.1 0) (b5.1 1) 6 6 (fun _ => 0)] []) := hD
  refine pFF (v := .ref (b5.1 0)) F hE hP hD hS 0 rfl rfl inX8 tyX8 tyX8_ok nmX8 2 (by decide) q102 rfl hmn rfl rfl rfl (Nat.le_of_ble_eq_true rfl) dX8_init_36 (fun H locs hP hD hS => ?_)
  replace hP : va_P (dC, dI) vwCl (catp [[(a0, .inr (11, [.ref qa1, .ref qa3, .ref (b5.1 0)]))], wX7 g qa1 (b2.1 0) 40 0 (fun _ => 0), wX7 g qa3 (b4.1 0) 40 0 (fun _ => 0), wX7 g (b5.1 0) (b5.1 1) 6 6 (fun _ => 0)] []) H := hP
  replace hD : va_D A (catp [[(a0, .inr (11, [.ref qa1, .ref qa3, .ref (b5.1 0)]))], wX7 g qa1 (b2.1 0) 40 0 (fun _ => 0), wX7 g qa3 (b4.1 0) 40 0 (fun _ => 0), wX7 g (b5.1 0) (b5.1 1) 6 6 (fun _ => 0)] []) := hD
  exact MN_v ⟨fun i => ([qa1, (b2.1 0), qa3, (b4.1 0), (b5.1 0), (b5.1 1)] : List Nat).getD i 0, (fun _ _ => 0), (fun _ _ => 0)⟩ rfl F hr hlocks (Nat.le_of_ble_eq_true rfl) (Nat.le_of_ble_eq_true rfl) hP hD hS dX8_init_39
/-! WireCutter$Workshop.<init> -/
theorem mbX11_init : MB yX11_init cX11_init 1 none 0 := ⟨q49, q2, by decide +kernel⟩
set_option maxHeartbeats 4000000 in
set_option maxRecDepth 100000 in
theorem tX11_init (l : Launch) (dC : Nat → ClassId) (dI : Nat → Nat → Nat) (g : Nat → ClassId) (a0 : Nat) : MN l yX11_init cX11_init 1 none 4 82 32 (237) dC dI g [.ref a0] [(a0, .inr (13, [.null, .null, .null, .null, .int 0, .int 0, .int 0]))] (fun β => wX11 g a0 (β.1 0) (β.1 1) (β.1 2) (β.1 3) (β.1 4) (β.1 5) (β.1 6) (β.1 7) (β.1 8) (β.1 9) (β.1 10) (β.1 11) (β.1 12) (β.1 13) (β.1 14) (β.1 15) (β.1 16) (β.1 17) (β.1 18) (β.1 19) (β.1 20) (β.1 21) (β.1 22) (β.1 23) (β.1 24) (β.1 25) (β.1 26) (β.1 27) (β.1 28) (β.1 29) (β.1 30) (β.1 31) 1 5 98 0 0 (fun _ => 0) 0 (fun _ => 0) 0 (fun _ => 0) 0 (fun _ => 0) 0 (fun _ => 0) 0 (fun _ => 0) 6 (fun _ => 0) 0 0 (fun _ => 0) 0 (fun _ => 0) 0 (fun _ => 0) 0 (fun _ => 0) 0 6 (fun _ => 0) 6 (fun _ => 0) 6 (fun _ => 0)) (fun _ => none) := by
  refine MN_of (by decide +kernel) (Nat.le_of_ble_eq_true rfl) ?_
  intro p e s m below meth c ls F hmn hr hlocks hE hX hA hP hD hS hl
  generalize va_A [(a0, .inr (13, [.null, .null, .null, .null, .int 0, .int 0, .int 0]))] s.heap.size = A at hA hD hS hX ⊢
  replace F : CF p m c cX11_init 1 s _ RX11 := F
  replace hl : lv_has ls 1 [(0, .ref a0)] := hl
  replace hP : va_P (dC, dI) vwCl (catp [[(a0, .inr (13, [.null, .null, .null, .null, .int 0, .int 0, .int 0]))]] []) s.heap := hP
  replace hD : va_D A (catp [[(a0, .inr (13, [.null, .null, .null, .null, .int 0, .int 0, .int 0]))]] []) := hD
  refine lv_aload_n F.1 F.2.1 dX11_init_0 rfl (lv_at hl 0 rfl) ?_
  refine oIn F q50 hl.1 ⟨(Nat.le_of_ble_eq_true rfl), (Nat.le_of_ble_eq_true rfl)⟩ (Nat.le_of_ble_eq_true rfl) dX11_init_1 ?_
  refine lv_aload_n F.1 F.2.1 dX11_init_4 rfl (lv_at hl 0 rfl) ?_
  refine nwO (ci := 12) F hE inX9 tyX9 tyX9_ok q51 q52 q3 [[(a0, .inr (13, [.null, .null, .null, .null, .int 0, .int 0, .int 0]))]] hP hD hS hA rfl [.null, .null, .null, .null, .int 0] (by decide) (Nat.le_of_ble_eq_true rfl) (Nat.le_of_ble_eq_true rfl) dX11_init_5 (fun qa1 H hP hD hS => ?_)
  replace hP : va_P (dC, dI) vwCl (catp [[(a0, .inr (13, [.null, .null, .null, .null, .int 0, .int 0, .int 0]))], [(qa1, .inr (12, [.null, .null, .null, .null, .int 0]))]] []) H := hP
  replace hD : va_D A (catp [[(a0, .inr (13, [.null, .null, .null, .null, .int 0, .int 0, .int 0]))], [(qa1, .inr (12, [.null, .null, .null, .null, .int 0]))]] []) := hD
  refine lv_dup F.1 F.2.1 dX11_init_8 rfl ?_
  refine cNIN (As := []) (rest := [.ref qa1, .ref a0]) (post := catp [] []) F hE hX (tX9_init l dC dI g qa1) mbX9_init q54 rfl q53 ⟨(Nat.le_of_ble_eq_true rfl), (Nat.le_of_ble_eq_true rfl)⟩ ⟨(Nat.le_of_ble_eq_true rfl), (Nat.le_of_ble_eq_true rfl)⟩ hP hD hS hA [[(a0, .inr (13, [.null, .null, .null, .null, .int 0, .int 0, .int 0]))]] rfl rfl hl.1 rfl (Nat.le_of_ble_eq_true rfl) dX11_init_9 (fun b2 H locs hP hD hS => ?_)
  replace hP : va_P (dC, dI) vwCl (catp [[(a0, .inr (13, [.null, .null, .null, .null, .int 0, .int 0, .int 0]))], wX9 g qa1 (b2.1 0) (b2.1 1) (b2.1 2) (b2.1 3) (b2.1 4) (b2.1 5) (b2.1 6) (b2.1 7) 0 0 (fun _ => 0) 0 (fun _ => 0) 0 (fun _ => 0) 0 (fun _ => 0)] []) H := hP
  replace hD : va_D A (catp [[(a0, .inr (13, [.null, .null, .null, .null, .int 0, .int 0, .int 0]))], wX9 g qa1 (b2.1 0) (b2.1 1) (b2.1 2) (b2.1 3) (b2.1 4) (b2.1 5) (b2.1 6) (b2.1 7) 0 0 (fun _ => 0) 0 (fun _ => 0) 0 (fun _ => 0) 0 (fun _ => 0)] []) := hD
  refine pFF (v := .ref qa1) F hE hP hD hS 0 rfl rfl inX11 tyX11 tyX11_ok nmX11 0 (by decide) q162 rfl hmn rfl rfl rfl (Nat.le_of_ble_eq_true rfl) dX11_init_12 (fun H locs hP hD hS => ?_)
  replace hP : va_P (dC, dI) vwCl (catp [[(a0, .inr (13, [.ref qa1, .null, .null, .null, .int 0, .int 0, .int 0]))], wX9 g qa1 (b2.1 0) (b2.1 1) (b2.1 2) (b2.1 3) (b2.1 4) (b2.1 5) (b2.1 6) (b2.1 7) 0 0 (fun _ => 0) 0 (fun _ => 0) 0 (fun _ => 0) 0 (fun _ => 0)] []) H := hP
  replace hD : va_D A (catp [[(a0, .inr (13, [.ref qa1, .null, .null, .null, .int 0, .int 0, .int 0]))], wX9 g qa1 (b2.1 0) (b2.1 1) (b2.1 2) (b2.1 3) (b2.1 4) (b2.1 5) (b2.1 6) (b2.1 7) 0 0 (fun _ => 0) 0 (fun _ => 0) 0 (fun _ => 0) 0 (fun _ => 0)] []) := hD
  refine lv_aload_n F.1 F.2.1 dX11_init_15 rfl (lv_at hl 0 rfl) ?_
  refine nwO (ci := 11) F hE inX8 tyX8 tyX8_ok q87 q88 q5 [[(a0, .inr (13, [.ref qa1, .null, .null, .null, .int 0, .int 0, .int 0]))], wX9 g qa1 (b2.1 0) (b2.1 1) (b2.1 2) (b2.1 3) (b2.1 4) (b2.1 5) (b2.1 6) (b2.1 7) 0 0 (fun _ => 0) 0 (fun _ => 0) 0 (fun _ => 0) 0 (fun _ => 0)] hP hD hS hA rfl [.null, .null, .null] (by decide) (Nat.le_of_ble_eq_true rfl) (Nat.le_of_ble_eq_true rfl) dX11_init_16 (fun qa3 H hP hD hS => ?_)
  replace hP : va_P (dC, dI) vwCl (catp [[(a0, .inr (13, [.ref qa1, .null, .null, .null, .int 0, .int 0, .int 0]))], wX9 g qa1 (b2.1 0) (b2.1 1) (b2.1 2) (b2.1 3) (b2.1 4) (b2.1 5) (b2.1 6) (b2.1 7) 0 0 (fun _ => 0) 0 (fun _ => 0) 0 (fun _ => 0) 0 (fun _ => 0), [(qa3, .inr (11, [.null, .null, .null]))]] []) H := hP
  replace hD : va_D A (catp [[(a0, .inr (13, [.ref qa1, .null, .null, .null, .int 0, .int 0, .int 0]))], wX9 g qa1 (b2.1 0) (b2.1 1) (b2.1 2) (b2.1 3) (b2.1 4) (b2.1 5) (b2.1 6) (b2.1 7) 0 0 (fun _ => 0) 0 (fun _ => 0) 0 (fun _ => 0) 0 (fun _ => 0), [(qa3, .inr (11, [.null, .null, .null]))]] []) := hD
  refine lv_dup F.1 F.2.1 dX11_init_19 rfl ?_
  refine cNIN (As := []) (rest := [.ref qa3, .ref a0]) (post := catp [] []) F hE hX (tX8_init l dC dI g qa3) mbX8_init q90 rfl q89 ⟨(Nat.le_of_ble_eq_true rfl), (Nat.le_of_ble_eq_true rfl)⟩ ⟨(Nat.le_of_ble_eq_true rfl), (Nat.le_of_ble_eq_true rfl)⟩ hP hD hS hA [[(a0, .inr (13, [.ref qa1, .null, .null, .null, .int 0, .int 0, .int 0]))], wX9 g qa1 (b2.1 0) (b2.1 1) (b2.1 2) (b2.1 3) (b2.1 4) (b2.1 5) (b2.1 6) (b2.1 7) 0 0 (fun _ => 0) 0 (fun _ => 0) 0 (fun _ => 0) 0 (fun _ => 0)] rfl rfl hl.1 rfl (Nat.le_of_ble_eq_true rfl) dX11_init_20 (fun b4 H locs hP hD hS => ?_)
  replace hP : va_P (dC, dI) vwCl (catp [[(a0, .inr (13, [.ref qa1, .null, .null, .null, .int 0, .int 0, .int 0]))], wX9 g qa1 (b2.1 0) (b2.1 1) (b2.1 2) (b2.1 3) (b2.1 4) (b2.1 5) (b2.1 6) (b2.1 7) 0 0 (fun _ => 0) 0 (fun _ => 0) 0 (fun _ => 0) 0 (fun _ => 0), wX8 g qa3 (b4.1 0) (b4.1 1) (b4.1 2) (b4.1 3) (b4.1 4) (b4.1 5) 0 (fun _ => 0) 0 (fun _ => 0) 6 (fun _ => 0)] []) H := hP
  replace hD : va_D A (catp [[(a0, .inr (13, [.ref qa1, .null, .null, .null, .int 0, .int 0, .int 0]))], wX9 g qa1 (b2.1 0) (b2.1 1) (b2.1 2) (b2.1 3) (b2.1 4) (b2.1 5) (b2.1 6) (b2.1 7) 0 0 (fun _ => 0) 0 (fun _ => 0) 0 (fun _ => 0) 0 (fun _ => 0), wX8 g qa3 (b4.1 0) (b4.1 1) (b4.1 2) (b4.1 3) (b4.1 4) (b4.1 5) 0 (fun _ => 0) 0 (fun _ => 0) 6 (fun _ => 0)] []) := hD
  refine pFF (v := .ref qa3) F hE hP hD hS 0 rfl rfl inX11 tyX11 tyX11_ok nmX11 1 (by decide) q165 rfl hmn rfl rfl rfl (Nat.le_of_ble_eq_true rfl) dX11_init_23 (fun H locs hP hD hS => ?_)
  replace hP : va_P (dC, dI) vwCl (catp [[(a0, .inr (13, [.ref qa1, .ref qa3, .null, .null, .int 0, .int 0, .int 0]))], wX9 g qa1 (b2.1 0) (b2.1 1) (b2.1 2) (b2.1 3) (b2.1 4) (b2.1 5) (b2.1 6) (b2.1 7) 0 0 (fun _ => 0) 0 (fun _ => 0) 0 (fun _ => 0) 0 (fun _ => 0), wX8 g qa3 (b4.1 0) (b4.1 1) (b4.1 2) (b4.1 3) (b4.1 4) (b4.1 5) 0 (fun _ => 0) 0 (fun _ => 0) 6 (fun _ => 0)] []) H := hP
  replace hD : va_D A (catp [[(a0, .inr (13, [.ref qa1, .ref qa3, .null, .null, .int 0, .int 0, .int 0]))], wX9 g qa1 (b2.1 0) (b2.1 1) (b2.1 2) (b2.1 3) (b2.1 4) (b2.1 5) (b2.1 6) (b2.1 7) 0 0 (fun _ => 0) 0 (fun _ => 0) 0 (fun _ => 0) 0 (fun _ => 0), wX8 g qa3 (b4.1 0) (b4.1 1) (b4.1 2) (b4.1 3) (b4.1 4) (b4.1 5) 0 (fun _ => 0) 0 (fun _ => 0) 6 (fun _ => 0)] []) := hD
  refine lv_aload_n F.1 F.2.1 dX11_init_26 rfl (lv_at hl 0 rfl) ?_
  refine nwO (ci := 8) F hE inX5 tyX5 tyX5_ok q110 q111 q6 [[(a0, .inr (13, [.ref qa1, .ref qa3, .null, .null, .int 0, .int 0, .int 0]))], wX9 g qa1 (b2.1 0) (b2.1 1) (b2.1 2) (b2.1 3) (b2.1 4) (b2.1 5) (b2.1 6) (b2.1 7) 0 0 (fun _ => 0) 0 (fun _ => 0) 0 (fun _ => 0) 0 (fun _ => 0), wX8 g qa3 (b4.1 0) (b4.1 1) (b4.1 2) (b4.1 3) (b4.1 4) (b4.1 5) 0 (fun _ => 0) 0 (fun _ => 0) 6 (fun _ => 0)] hP hD hS hA rfl [.null, .null, .null, .null, .int 0] (by decide) (Nat.le_of_ble_eq_true rfl) (Nat.le_of_ble_eq_true rfl) dX11_init_27 (fun qa5 H hP hD hS => ?_)
  replace hP : va_P (dC, dI) vwCl (catp [[(a0, .inr (13, [.ref qa1, .ref qa3, .null, .null, .int 0, .int 0, .int 0]))], wX9 g qa1 (b2.1 0) (b2.1 1) (b2.1 2) (b2.1 3) (b2.1 4) (b2.1 5) (b2.1 6) (b2.1 7) 0 0 (fun _ => 0) 0 (fun _ => 0) 0 (fun _ => 0) 0 (fun _ => 0), wX8 g qa3 (b4.1 0) (b4.1 1) (b4.1 2) (b4.1 3) (b4.1 4) (b4.1 5) 0 (fun _ => 0) 0 (fun _ => 0) 6 (fun _ => 0), [(qa5, .inr (8, [.null, .null, .null, .null, .int 0]))]] []) H := hP
  replace hD : va_D A (catp [[(a0, .inr (13, [.ref qa1, .ref qa3, .null, .null, .int 0, .int 0, .int 0]))], wX9 g qa1 (b2.1 0) (b2.1 1) (b2.1 2) (b2.1 3) (b2.1 4) (b2.1 5) (b2.1 6) (b2.1 7) 0 0 (fun _ => 0) 0 (fun _ => 0) 0 (fun _ => 0) 0 (fun _ => 0), wX8 g qa3 (b4.1 0) (b4.1 1) (b4.1 2) (b4.1 3) (b4.1 4) (b4.1 5) 0 (fun _ => 0) 0 (fun _ => 0) 6 (fun _ => 0), [(qa5, .inr (8, [.null, .null, .null, .null, .int 0]))]] []) := hD
  refine lv_dup F.1 F.2.1 dX11_init_30 rfl ?_
  refine cNIN (As := []) (rest := [.ref qa5, .ref a0]) (post := catp [] []) F hE hX (tX5_init l dC dI g qa5) mbX5_init q113 rfl q112 ⟨(Nat.le_of_ble_eq_true rfl), (Nat.le_of_ble_eq_true rfl)⟩ ⟨(Nat.le_of_ble_eq_true rfl), (Nat.le_of_ble_eq_true rfl)⟩ hP hD hS hA [[(a0, .inr (13, [.ref qa1, .ref qa3, .null, .null, .int 0, .int 0, .int 0]))], wX9 g qa1 (b2.1 0) (b2.1 1) (b2.1 2) (b2.1 3) (b2.1 4) (b2.1 5) (b2.1 6) (b2.1 7) 0 0 (fun _ => 0) 0 (fun _ => 0) 0 (fun _ => 0) 0 (fun _ => 0), wX8 g qa3 (b4.1 0) (b4.1 1) (b4.1 2) (b4.1 3) (b4.1 4) (b4.1 5) 0 (fun _ => 0) 0 (fun _ => 0) 6 (fun _ => 0)] rfl rfl hl.1 rfl (Nat.le_of_ble_eq_true rfl) dX11_init_31 (fun b6 H locs hP hD hS => ?_)
  replace hP : va_P (dC, dI) vwCl (catp [[(a0, .inr (13, [.ref qa1, .ref qa3, .null, .null, .int 0, .int 0, .int 0]))], wX9 g qa1 (b2.1 0) (b2.1 1) (b2.1 2) (b2.1 3) (b2.1 4) (b2.1 5) (b2.1 6) (b2.1 7) 0 0 (fun _ => 0) 0 (fun _ => 0) 0 (fun _ => 0) 0 (fun _ => 0), wX8 g qa3 (b4.1 0) (b4.1 1) (b4.1 2) (b4.1 3) (b4.1 4) (b4.1 5) 0 (fun _ => 0) 0 (fun _ => 0) 6 (fun _ => 0), wX5 g qa5 (b6.1 0) (b6.1 1) (b6.1 2) (b6.1 3) (b6.1 4) (b6.1 5) (b6.1 6) (b6.1 7) 0 0 (fun _ => 0) 0 (fun _ => 0) 0 (fun _ => 0) 0 (fun _ => 0)] []) H := hP
  replace hD : va_D A (catp [[(a0, .inr (13, [.ref qa1, .ref qa3, .null, .null, .int 0, .int 0, .int 0]))], wX9 g qa1 (b2.1 0) (b2.1 1) (b2.1 2) (b2.1 3) (b2.1 4) (b2.1 5) (b2.1 6) (b2.1 7) 0 0 (fun _ => 0) 0 (fun _ => 0) 0 (fun _ => 0) 0 (fun _ => 0), wX8 g qa3 (b4.1 0) (b4.1 1) (b4.1 2) (b4.1 3) (b4.1 4) (b4.1 5) 0 (fun _ => 0) 0 (fun _ => 0) 6 (fun _ => 0), wX5 g qa5 (b6.1 0) (b6.1 1) (b6.1 2) (b6.1 3) (b6.1 4) (b6.1 5) (b6.1 6) (b6.1 7) 0 0 (fun _ => 0) 0 (fun _ => 0) 0 (fun _ => 0) 0 (fun _ => 0)] []) := hD
  refine pFF (v := .ref qa5) F hE hP hD hS 0 rfl rfl inX11 tyX11 tyX11_ok nmX11 2 (by decide) q167 rfl hmn rfl rfl rfl (Nat.le_of_ble_eq_true rfl) dX11_init_34 (fun H locs hP hD hS => ?_)
  replace hP : va_P (dC, dI) vwCl (catp [[(a0, .inr (13, [.ref qa1, .ref qa3, .ref qa5, .null, .int 0, .int 0, .int 0]))], wX9 g qa1 (b2.1 0) (b2.1 1) (b2.1 2) (b2.1 3) (b2.1 4) (b2.1 5) (b2.1 6) (b2.1 7) 0 0 (fun _ => 0) 0 (fun _ => 0) 0 (fun _ => 0) 0 (fun _ => 0), wX8 g qa3 (b4.1 0) (b4.1 1) (b4.1 2) (b4.1 3) (b4.1 4) (b4.1 5) 0 (fun _ => 0) 0 (fun _ => 0) 6 (fun _ => 0), wX5 g qa5 (b6.1 0) (b6.1 1) (b6.1 2) (b6.1 3) (b6.1 4) (b6.1 5) (b6.1 6) (b6.1 7) 0 0 (fun _ => 0) 0 (fun _ => 0) 0 (fun _ => 0) 0 (fun _ => 0)] []) H := hP
  replace hD : va_D A (catp [[(a0, .inr (13, [.ref qa1, .ref qa3, .ref qa5, .null, .int 0, .int 0, .int 0]))], wX9 g qa1 (b2.1 0) (b2.1 1) (b2.1 2) (b2.1 3) (b2.1 4) (b2.1 5) (b2.1 6) (b2.1 7) 0 0 (fun _ => 0) 0 (fun _ => 0) 0 (fun _ => 0) 0 (fun _ => 0), wX8 g qa3 (b4.1 0) (b4.1 1) (b4.1 2) (b4.1 3) (b4.1 4) (b4.1 5) 0 (fun _ => 0) 0 (fun _ => 0) 6 (fun _ => 0), wX5 g qa5 (b6.1 0) (b6.1 1) (b6.1 2) (b6.1 3) (b6.1 4) (b6.1 5) (b6.1 6) (b6.1 7) 0 0 (fun _ => 0) 0 (fun _ => 0) 0 (fun _ => 0) 0 (fun _ => 0)] []) := hD
  refine lv_aload_n F.1 F.2.1 dX11_init_37 rfl (lv_at hl 0 rfl) ?_
  refine nwO (ci := 4) F hE inX1 tyX1 tyX1_ok q134 q135 q7 [[(a0, .inr (13, [.ref qa1, .ref qa3, .ref qa5, .null, .int 0, .int 0, .int 0]))], wX9 g qa1 (b2.1 0) (b2.1 1) (b2.1 2) (b2.1 3) (b2.1 4) (b2.1 5) (b2.1 6) (b2.1 7) 0 0 (fun _ => 0) 0 (fun _ => 0) 0 (fun _ => 0) 0 (fun _ => 0), wX8 g qa3 (b4.1 0) (b4.1 1) (b4.1 2) (b4.1 3) (b4.1 4) (b4.1 5) 0 (fun _ => 0) 0 (fun _ => 0) 6 (fun _ => 0), wX5 g qa5 (b6.1 0) (b6.1 1) (b6.1 2) (b6.1 3) (b6.1 4) (b6.1 5) (b6.1 6) (b6.1 7) 0 0 (fun _ => 0) 0 (fun _ => 0) 0 (fun _ => 0) 0 (fun _ => 0)] hP hD hS hA rfl [.null, .null, .null, .int 0] (by decide) (Nat.le_of_ble_eq_true rfl) (Nat.le_of_ble_eq_true rfl) dX11_init_38 (fun qa7 H hP hD hS => ?_)
  replace hP : va_P (dC, dI) vwCl (catp [[(a0, .inr (13, [.ref qa1, .ref qa3, .ref qa5, .null, .int 0, .int 0, .int 0]))], wX9 g qa1 (b2.1 0) (b2.1 1) (b2.1 2) (b2.1 3) (b2.1 4) (b2.1 5) (b2.1 6) (b2.1 7) 0 0 (fun _ => 0) 0 (fun _ => 0) 0 (fun _ => 0) 0 (fun _ => 0), wX8 g qa3 (b4.1 0) (b4.1 1) (b4.1 2) (b4.1 3) (b4.1 4) (b4.1 5) 0 (fun _ => 0) 0 (fun _ => 0) 6 (fun _ => 0), wX5 g qa5 (b6.1 0) (b6.1 1) (b6.1 2) (b6.1 3) (b6.1 4) (b6.1 5) (b6.1 6) (b6.1 7) 0 0 (fun _ => 0) 0 (fun _ => 0) 0 (fun _ => 0) 0 (fun _ => 0), [(qa7, .inr (4, [.null, .null, .null, .int 0]))]] []) H := hP
  replace hD : va_D A (catp [[(a0, .inr (13, [.ref qa1, .ref qa3, .ref qa5, .null, .int 0, .int 0, .int 0]))], wX9 g qa1 (b2.1 0) (b2.1 1) (b2.1 2) (b2.1 3) (b2.1 4) (b2.1 5) (b2.1 6) (b2.1 7) 0 0 (fun _ => 0) 0 (fun _ => 0) 0 (fun _ => 0) 0 (fun _ => 0), wX8 g qa3 (b4.1 0) (b4.1 1) (b4.1 2) (b4.1 3) (b4.1 4) (b4.1 5) 0 (fun _ => 0) 0 (fun _ => 0) 6 (fun _ => 0), wX5 g qa5 (b6.1 0) (b6.1 1) (b6.1 2) (b6.1 3) (b6.1 4) (b6.1 5) (b6.1 6) (b6.1 7) 0 0 (fun _ => 0) 0 (fun _ => 0) 0 (fun _ => 0) 0 (fun _ => 0), [(qa7, .inr (4, [.null, .null, .null, .int 0]))]] []) := hD
  refine lv_dup F.1 F.2.1 dX11_init_41 rfl ?_
  refine cNIN (As := []) (rest := [.ref qa7, .ref a0]) (post := catp [] []) F hE hX (tX1_init l dC dI g qa7) mbX1_init q137 rfl q136 ⟨(Nat.le_of_ble_eq_true rfl), (Nat.le_of_ble_eq_true rfl)⟩ ⟨(Nat.le_of_ble_eq_true rfl), (Nat.le_of_ble_eq_true rfl)⟩ hP hD hS hA [[(a0, .inr (13, [.ref qa1, .ref qa3, .ref qa5, .null, .int 0, .int 0, .int 0]))], wX9 g qa1 (b2.1 0) (b2.1 1) (b2.1 2) (b2.1 3) (b2.1 4) (b2.1 5) (b2.1 6) (b2.1 7) 0 0 (fun _ => 0) 0 (fun _ => 0) 0 (fun _ => 0) 0 (fun _ => 0), wX8 g qa3 (b4.1 0) (b4.1 1) (b4.1 2) (b4.1 3) (b4.1 4) (b4.1 5) 0 (fun _ => 0) 0 (fun _ => 0) 6 (fun _ => 0), wX5 g qa5 (b6.1 0) (b6.1 1) (b6.1 2) (b6.1 3) (b6.1 4) (b6.1 5) (b6.1 6) (b6.1 7) 0 0 (fun _ => 0) 0 (fun _ => 0) 0 (fun _ => 0) 0 (fun _ => 0)] rfl rfl hl.1 rfl (Nat.le_of_ble_eq_true rfl) dX11_init_42 (fun b8 H locs hP hD hS => ?_)
  replace hP : va_P (dC, dI) vwCl (catp [[(a0, .inr (13, [.ref qa1, .ref qa3, .ref qa5, .null, .int 0, .int 0, .int 0]))], wX9 g qa1 (b2.1 0) (b2.1 1) (b2.1 2) (b2.1 3) (b2.1 4) (b2.1 5) (b2.1 6) (b2.1 7) 0 0 (fun _ => 0) 0 (fun _ => 0) 0 (fun _ => 0) 0 (fun _ => 0), wX8 g qa3 (b4.1 0) (b4.1 1) (b4.1 2) (b4.1 3) (b4.1 4) (b4.1 5) 0 (fun _ => 0) 0 (fun _ => 0) 6 (fun _ => 0), wX5 g qa5 (b6.1 0) (b6.1 1) (b6.1 2) (b6.1 3) (b6.1 4) (b6.1 5) (b6.1 6) (b6.1 7) 0 0 (fun _ => 0) 0 (fun _ => 0) 0 (fun _ => 0) 0 (fun _ => 0), wX1 g qa7 (b8.1 0) (b8.1 1) (b8.1 2) (b8.1 3) (b8.1 4) (b8.1 5) 0 6 (fun _ => 0) 6 (fun _ => 0) 6 (fun _ => 0)] []) H := hP
  replace hD : va_D A (catp [[(a0, .inr (13, [.ref qa1, .ref qa3, .ref qa5, .null, .int 0, .int 0, .int 0]))], wX9 g qa1 (b2.1 0) (b2.1 1) (b2.1 2) (b2.1 3) (b2.1 4) (b2.1 5) (b2.1 6) (b2.1 7) 0 0 (fun _ => 0) 0 (fun _ => 0) 0 (fun _ => 0) 0 (fun _ => 0), wX8 g qa3 (b4.1 0) (b4.1 1) (b4.1 2) (b4.1 3) (b4.1 4) (b4.1 5) 0 (fun _ => 0) 0 (fun _ => 0) 6 (fun _ => 0), wX5 g qa5 (b6.1 0) (b6.1 1) (b6.1 2) (b6.1 3) (b6.1 4) (b6.1 5) (b6.1 6) (b6.1 7) 0 0 (fun _ => 0) 0 (fun _ => 0) 0 (fun _ => 0) 0 (fun _ => 0), wX1 g qa7 (b8.1 0) (b8.1 1) (b8.1 2) (b8.1 3) (b8.1 4) (b8.1 5) 0 6 (fun _ => 0) 6 (fun _ => 0) 6 (fun _ => 0)] []) := hD
  refine pFF (v := .ref qa7) F hE hP hD hS 0 rfl rfl inX11 tyX11 tyX11_ok nmX11 3 (by decide) q170 rfl hmn rfl rfl rfl (Nat.le_of_ble_eq_true rfl) dX11_init_45 (fun H locs hP hD hS => ?_)
  replace hP : va_P (dC, dI) vwCl (catp [[(a0, .inr (13, [.ref qa1, .ref qa3, .ref qa5, .ref qa7, .int 0, .int 0, .int 0]))], wX9 g qa1 (b2.1 0) (b2.1 1) (b2.1 2) (b2.1 3) (b2.1 4) (b2.1 5) (b2.1 6) (b2.1 7) 0 0 (fun _ => 0) 0 (fun _ => 0) 0 (fun _ => 0) 0 (fun _ => 0), wX8 g qa3 (b4.1 0) (b4.1 1) (b4.1 2) (b4.1 3) (b4.1 4) (b4.1 5) 0 (fun _ => 0) 0 (fun _ => 0) 6 (fun _ => 0), wX5 g qa5 (b6.1 0) (b6.1 1) (b6.1 2) (b6.1 3) (b6.1 4) (b6.1 5) (b6.1 6) (b6.1 7) 0 0 (fun _ => 0) 0 (fun _ => 0) 0 (fun _ => 0) 0 (fun _ => 0), wX1 g qa7 (b8.1 0) (b8.1 1) (b8.1 2) (b8.1 3) (b8.1 4) (b8.1 5) 0 6 (fun _ => 0) 6 (fun _ => 0) 6 (fun _ => 0)] []) H := hP
  replace hD : va_D A (catp [[(a0, .inr (13, [.ref qa1, .ref qa3, .ref qa5, .ref qa7, .int 0, .int 0, .int 0]))], wX9 g qa1 (b2.1 0) (b2.1 1) (b2.1 2) (b2.1 3) (b2.1 4) (b2.1 5) (b2.1 6) (b2.1 7) 0 0 (fun _ => 0) 0 (fun _ => 0) 0 (fun _ => 0) 0 (fun _ => 0), wX8 g qa3 (b4.1 0) (b4.1 1) (b4.1 2) (b4.1 3) (b4.1 4) (b4.1 5) 0 (fun _ => 0) 0 (fun _ => 0) 6 (fun _ => 0), wX5 g qa5 (b6.1 0) (b6.1 1) (b6.1 2) (b6.1 3) (b6.1 4) (b6.1 5) (b6.1 6) (b6.1 7) 0 0 (fun _ => 0) 0 (fun _ => 0) 0 (fun _ => 0) 0 (fun _ => 0), wX1 g qa7 (b8.1 0) (b8.1 1) (b8.1 2) (b8.1 3) (b8.1 4) (b8.1 5) 0 6 (fun _ => 0) 6 (fun _ => 0) 6 (fun _ => 0)] []) := hD
  refine lv_aload_n F.1 F.2.1 dX11_init_48 rfl (lv_at hl 0 rfl) ?_
  refine lv_iconst (v := 1) F.1 F.2.1 dX11_init_49 (by decide) ?_
  refine pF (v := .int 1) F hE hP hD hS 0 rfl rfl inX11 tyX11 tyX11_ok nmX11 4 (by decide) q172 rfl rfl rfl (Nat.le_of_ble_eq_true rfl) dX11_init_50 (fun H locs hP hD hS => ?_)
  replace hP : va_P (dC, dI) vwCl (catp [[(a0, .inr (13, [.ref qa1, .ref qa3, .ref qa5, .ref qa7, .int 1, .int 0, .int 0]))], wX9 g qa1 (b2.1 0) (b2.1 1) (b2.1 2) (b2.1 3) (b2.1 4) (b2.1 5) (b2.1 6) (b2.1 7) 0 0 (fun _ => 0) 0 (fun _ => 0) 0 (fun _ => 0) 0 (fun _ => 0), wX8 g qa3 (b4.1 0) (b4.1 1) (b4.1 2) (b4.1 3) (b4.1 4) (b4.1 5) 0 (fun _ => 0) 0 (fun _ => 0) 6 (fun _ => 0), wX5 g qa5 (b6.1 0) (b6.1 1) (b6.1 2) (b6.1 3) (b6.1 4) (b6.1 5) (b6.1 6) (b6.1 7) 0 0 (fun _ => 0) 0 (fun _ => 0) 0 (fun _ => 0) 0 (fun _ => 0), wX1 g qa7 (b8.1 0) (b8.1 1) (b8.1 2) (b8.1 3) (b8.1 4) (b8.1 5) 0 6 (fun _ => 0) 6 (fun _ => 0) 6 (fun _ => 0)] []) H := hP
  replace hD : va_D A (catp [[(a0, .inr (13, [.ref qa1, .ref qa3, .ref qa5, .ref qa7, .int 1, .int 0, .int 0]))], wX9 g qa1 (b2.1 0) (b2.1 1) (b2.1 2) (b2.1 3) (b2.1 4) (b2.1 5) (b2.1 6) (b2.1 7) 0 0 (fun _ => 0) 0 (fun _ => 0) 0 (fun _ => 0) 0 (fun _ => 0), wX8 g qa3 (b4.1 0) (b4.1 1) (b4.1 2) (b4.1 3) (b4.1 4) (b4.1 5) 0 (fun _ => 0) 0 (fun _ => 0) 6 (fun _ => 0), wX5 g qa5 (b6.1 0) (b6.1 1) (b6.1 2) (b6.1 3) (b6.1 4) (b6.1 5) (b6.1 6) (b6.1 7) 0 0 (fun _ => 0) 0 (fun _ => 0) 0 (fun _ => 0) 0 (fun _ => 0), wX1 g qa7 (b8.1 0) (b8.1 1) (b8.1 2) (b8.1 3) (b8.1 4) (b8.1 5) 0 6 (fun _ => 0) 6 (fun _ => 0) 6 (fun _ => 0)] []) := hD
  refine lv_aload_n F.1 F.2.1 dX11_init_53 rfl (lv_at hl 0 rfl) ?_
  refine lv_iconst (v := 5) F.1 F.2.1 dX11_init_54 (by decide) ?_
  refine pF (v := .int 5) F hE hP hD hS 0 rfl rfl inX11 tyX11 tyX11_ok nmX11 5 (by decide) q175 rfl rfl rfl (Nat.le_of_ble_eq_true rfl) dX11_init_55 (fun H locs hP hD hS => ?_)
  replace hP : va_P (dC, dI) vwCl (catp [[(a0, .inr (13, [.ref qa1, .ref qa3, .ref qa5, .ref qa7, .int 1, .int 5, .int 0]))], wX9 g qa1 (b2.1 0) (b2.1 1) (b2.1 2) (b2.1 3) (b2.1 4) (b2.1 5) (b2.1 6) (b2.1 7) 0 0 (fun _ => 0) 0 (fun _ => 0) 0 (fun _ => 0) 0 (fun _ => 0), wX8 g qa3 (b4.1 0) (b4.1 1) (b4.1 2) (b4.1 3) (b4.1 4) (b4.1 5) 0 (fun _ => 0) 0 (fun _ => 0) 6 (fun _ => 0), wX5 g qa5 (b6.1 0) (b6.1 1) (b6.1 2) (b6.1 3) (b6.1 4) (b6.1 5) (b6.1 6) (b6.1 7) 0 0 (fun _ => 0) 0 (fun _ => 0) 0 (fun _ => 0) 0 (fun _ => 0), wX1 g qa7 (b8.1 0) (b8.1 1) (b8.1 2) (b8.1 3) (b8.1 4) (b8.1 5) 0 6 (fun _ => 0) 6 (fun _ => 0) 6 (fun _ => 0)] []) H := hP
  replace hD : va_D A (catp [[(a0, .inr (13, [.ref qa1, .ref qa3, .ref qa5, .ref qa7, .int 1, .int 5, .int 0]))], wX9 g qa1 (b2.1 0) (b2.1 1) (b2.1 2) (b2.1 3) (b2.1 4) (b2.1 5) (b2.1 6) (b2.1 7) 0 0 (fun _ => 0) 0 (fun _ => 0) 0 (fun _ => 0) 0 (fun _ => 0), wX8 g qa3 (b4.1 0) (b4.1 1) (b4.1 2) (b4.1 3) (b4.1 4) (b4.1 5) 0 (fun _ => 0) 0 (fun _ => 0) 6 (fun _ => 0), wX5 g qa5 (b6.1 0) (b6.1 1) (b6.1 2) (b6.1 3) (b6.1 4) (b6.1 5) (b6.1 6) (b6.1 7) 0 0 (fun _ => 0) 0 (fun _ => 0) 0 (fun _ => 0) 0 (fun _ => 0), wX1 g qa7 (b8.1 0) (b8.1 1) (b8.1 2) (b8.1 3) (b8.1 4) (b8.1 5) 0 6 (fun _ => 0) 6 (fun _ => 0) 6 (fun _ => 0)] []) := hD
  refine lv_aload_n F.1 F.2.1 dX11_init_58 rfl (lv_at hl 0 rfl) ?_
  refine lv_bipush (v := 98) F.1 F.2.1 dX11_init_59 (by decide) ?_
  refine pF (v := .int 98) F hE hP hD hS 0 rfl rfl inX11 tyX11 tyX11_ok nmX11 6 (by decide) q177 rfl rfl rfl (Nat.le_of_ble_eq_true rfl) dX11_init_61 (fun H locs hP hD hS => ?_)
  replace hP : va_P (dC, dI) vwCl (catp [[(a0, .inr (13, [.ref qa1, .ref qa3, .ref qa5, .ref qa7, .int 1, .int 5, .int 98]))], wX9 g qa1 (b2.1 0) (b2.1 1) (b2.1 2) (b2.1 3) (b2.1 4) (b2.1 5) (b2.1 6) (b2.1 7) 0 0 (fun _ => 0) 0 (fun _ => 0) 0 (fun _ => 0) 0 (fun _ => 0), wX8 g qa3 (b4.1 0) (b4.1 1) (b4.1 2) (b4.1 3) (b4.1 4) (b4.1 5) 0 (fun _ => 0) 0 (fun _ => 0) 6 (fun _ => 0), wX5 g qa5 (b6.1 0) (b6.1 1) (b6.1 2) (b6.1 3) (b6.1 4) (b6.1 5) (b6.1 6) (b6.1 7) 0 0 (fun _ => 0) 0 (fun _ => 0) 0 (fun _ => 0) 0 (fun _ => 0), wX1 g qa7 (b8.1 0) (b8.1 1) (b8.1 2) (b8.1 3) (b8.1 4) (b8.1 5) 0 6 (fun _ => 0) 6 (fun _ => 0) 6 (fun _ => 0)] []) H := hP
  replace hD : va_D A (catp [[(a0, .inr (13, [.ref qa1, .ref qa3, .ref qa5, .ref qa7, .int 1, .int 5, .int 98]))], wX9 g qa1 (b2.1 0) (b2.1 1) (b2.1 2) (b2.1 3) (b2.1 4) (b2.1 5) (b2.1 6) (b2.1 7) 0 0 (fun _ => 0) 0 (fun _ => 0) 0 (fun _ => 0) 0 (fun _ => 0), wX8 g qa3 (b4.1 0) (b4.1 1) (b4.1 2) (b4.1 3) (b4.1 4) (b4.1 5) 0 (fun _ => 0) 0 (fun _ => 0) 6 (fun _ => 0), wX5 g qa5 (b6.1 0) (b6.1 1) (b6.1 2) (b6.1 3) (b6.1 4) (b6.1 5) (b6.1 6) (b6.1 7) 0 0 (fun _ => 0) 0 (fun _ => 0) 0 (fun _ => 0) 0 (fun _ => 0), wX1 g qa7 (b8.1 0) (b8.1 1) (b8.1 2) (b8.1 3) (b8.1 4) (b8.1 5) 0 6 (fun _ => 0) 6 (fun _ => 0) 6 (fun _ => 0)] []) := hD
  exact MN_v ⟨fun i => ([qa1, (b2.1 0), (b2.1 1), (b2.1 2), (b2.1 3), (b2.1 4), (b2.1 5), (b2.1 6), (b2.1 7), qa3, (b4.1 0), (b4.1 1), (b4.1 2), (b4.1 3), (b4.1 4), (b4.1 5), qa5, (b6.1 0), (b6.1 1), (b6.1 2), (b6.1 3), (b6.1 4), (b6.1 5), (b6.1 6), (b6.1 7), qa7, (b8.1 0), (b8.1 1), (b8.1 2), (b8.1 3), (b8.1 4), (b8.1 5)] : List Nat).getD i 0, (fun _ _ => 0), (fun _ _ => 0)⟩ rfl F hr hlocks (Nat.le_of_ble_eq_true rfl) (Nat.le_of_ble_eq_true rfl) hP hD hS dX11_init_64
/-! WireCutter$Loads.<init> -/
theorem mbX4_init : MB yX4_init cX4_init 1 none 0 := ⟨q217, q9, by decide +kernel⟩
set_option maxHeartbeats 4000000 in
set_option maxRecDepth 100000 in
theorem tX4_init (l : Launch) (dC : Nat → ClassId) (dI : Nat → Nat → Nat) (g : Nat → ClassId) (a0 : Nat) : MN l yX4_init cX4_init 1 none 2 41 3 (1019) dC dI g [.ref a0] [(a0, .inr (7, [.null, .null]))] (fun β => wX4 g a0 (β.1 0) (β.1 1) (β.1 2) (fun _ => 0) 0 (fun _ => 0)) (fun _ => none) := by
  refine MN_of (by decide +kernel) (Nat.le_of_ble_eq_true rfl) ?_
  intro p e s m below meth c ls F hmn hr hlocks hE hX hA hP hD hS hl
  generalize va_A [(a0, .inr (7, [.null, .null]))] s.heap.size = A at hA hD hS hX ⊢
  replace F : CF p m c cX4_init 1 s _ RX4 := F
  replace hl : lv_has ls 1 [(0, .ref a0)] := hl
  replace hP : va_P (dC, dI) vwCl (catp [[(a0, .inr (7, [.null, .null]))]] []) s.heap := hP
  replace hD : va_D A (catp [[(a0, .inr (7, [.null, .null]))]] []) := hD
  refine lv_aload_n F.1 F.2.1 dX4_init_0 rfl (lv_at hl 0 rfl) ?_
  refine oIn F q218 hl.1 ⟨(Nat.le_of_ble_eq_true rfl), (Nat.le_of_ble_eq_true rfl)⟩ (Nat.le_of_ble_eq_true rfl) dX4_init_1 ?_
  refine lv_aload_n F.1 F.2.1 dX4_init_4 rfl (lv_at hl 0 rfl) ?_
  refine lv_sipush (v := 1005) F.1 F.2.1 dX4_init_5 (by decide) ?_
  refine nwA (atype := .int) (k0 := 0) F hE q70 rfl rfl (fun _ _ _ => ra_I) (fun _ _ => rfl) [[(a0, .inr (7, [.null, .null]))]] hP hD hS hA (by decide) rfl (by decide) (Nat.le_of_ble_eq_true rfl) (Nat.le_of_ble_eq_true rfl) dX4_init_8 (fun qa1 H hP hD hS => ?_)
  replace hP : va_P (dC, dI) vwCl (catp [[(a0, .inr (7, [.null, .null]))], [(qa1, .inl (g 0, 1005, .inl (fun _ => 0)))]] []) H := hP
  replace hD : va_D A (catp [[(a0, .inr (7, [.null, .null]))], [(qa1, .inl (g 0, 1005, .inl (fun _ => 0)))]] []) := hD
  refine pFF (v := .ref qa1) F hE hP hD hS 0 rfl rfl inX4 tyX4 tyX4_ok nmX4 0 (by decide) q221 rfl hmn rfl rfl rfl (Nat.le_of_ble_eq_true rfl) dX4_init_10 (fun H locs hP hD hS => ?_)
  replace hP : va_P (dC, dI) vwCl (catp [[(a0, .inr (7, [.ref qa1, .null]))], [(qa1, .inl (g 0, 1005, .inl (fun _ => 0)))]] []) H := hP
  replace hD : va_D A (catp [[(a0, .inr (7, [.ref qa1, .null]))], [(qa1, .inl (g 0, 1005, .inl (fun _ => 0)))]] []) := hD
  refine lv_aload_n F.1 F.2.1 dX4_init_13 rfl (lv_at hl 0 rfl) ?_
  refine nwO (ci := 10) F hE inX7 tyX7 tyX7_ok q219 q58 q4 [[(a0, .inr (7, [.ref qa1, .null]))], [(qa1, .inl (g 0, 1005, .inl (fun _ => 0)))]] hP hD hS hA rfl [.null, .int 0] (by decide) (Nat.le_of_ble_eq_true rfl) (Nat.le_of_ble_eq_true rfl) dX4_init_14 (fun qa2 H hP hD hS => ?_)
  replace hP : va_P (dC, dI) vwCl (catp [[(a0, .inr (7, [.ref qa1, .null]))], [(qa1, .inl (g 0, 1005, .inl (fun _ => 0)))], [(qa2, .inr (10, [.null, .int 0]))]] []) H := hP
  replace hD : va_D A (catp [[(a0, .inr (7, [.ref qa1, .null]))], [(qa1, .inl (g 0, 1005, .inl (fun _ => 0)))], [(qa2, .inr (10, [.null, .int 0]))]] []) := hD
  refine lv_dup F.1 F.2.1 dX4_init_17 rfl ?_
  refine lv_bipush (v := 12) F.1 F.2.1 dX4_init_18 (by decide) ?_
  refine cNI (As := [.int 12]) (rest := [.ref qa2, .ref a0]) (post := catp [] []) F hE hX (tX7_init l dC dI g qa2 12 ⟨by decide, by decide⟩ (by decide)) mbX7_init q60 rfl q220 ⟨(Nat.le_of_ble_eq_true rfl), (Nat.le_of_ble_eq_true rfl)⟩ ⟨(Nat.le_of_ble_eq_true rfl), (Nat.le_of_ble_eq_true rfl)⟩ hP hD hS hA [[(a0, .inr (7, [.ref qa1, .null]))], [(qa1, .inl (g 0, 1005, .inl (fun _ => 0)))]] rfl rfl hl.1 rfl (Nat.le_of_ble_eq_true rfl) dX4_init_20 (fun b3 H locs hP hD hS => ?_)
  replace hP : va_P (dC, dI) vwCl (catp [[(a0, .inr (7, [.ref qa1, .null]))], [(qa1, .inl (g 0, 1005, .inl (fun _ => 0)))], wX7 g qa2 (b3.1 0) 12 0 (fun _ => 0)] []) H := hP
  replace hD : va_D A (catp [[(a0, .inr (7, [.ref qa1, .null]))], [(qa1, .inl (g 0, 1005, .inl (fun _ => 0)))], wX7 g qa2 (b3.1 0) 12 0 (fun _ => 0)] []) := hD
  refine pFF (v := .ref qa2) F hE hP hD hS 0 rfl rfl inX4 tyX4 tyX4_ok nmX4 1 (by decide) q222 rfl hmn rfl rfl rfl (Nat.le_of_ble_eq_true rfl) dX4_init_23 (fun H locs hP hD hS => ?_)
  replace hP : va_P (dC, dI) vwCl (catp [[(a0, .inr (7, [.ref qa1, .ref qa2]))], [(qa1, .inl (g 0, 1005, .inl (fun _ => 0)))], wX7 g qa2 (b3.1 0) 12 0 (fun _ => 0)] []) H := hP
  replace hD : va_D A (catp [[(a0, .inr (7, [.ref qa1, .ref qa2]))], [(qa1, .inl (g 0, 1005, .inl (fun _ => 0)))], wX7 g qa2 (b3.1 0) 12 0 (fun _ => 0)] []) := hD
  exact MN_v ⟨fun i => ([qa1, qa2, (b3.1 0)] : List Nat).getD i 0, (fun _ _ => 0), (fun _ _ => 0)⟩ rfl F hr hlocks (Nat.le_of_ble_eq_true rfl) (Nat.le_of_ble_eq_true rfl) hP hD hS dX4_init_26
/-! java/lang/AbstractStringBuilder.<init> -/
theorem mbJ5_init_d00df : MB yJ5_init_d00df cJ5_init_d00df 2 none 1 := ⟨q286, q12, by decide +kernel⟩
set_option maxHeartbeats 4000000 in
set_option maxRecDepth 100000 in
theorem tJ5_init_d00df (l : Launch) (dC : Nat → ClassId) (dI : Nat → Nat → Nat) (g : Nat → ClassId) (a0 : Nat) (p1 : Int32) (hcap : 0 ≤ p1 ∧ ¬ p1 < 0) (hcap3 : p1.toNatClampNeg * 1 ≤ 536870912) : MN l yJ5_init_d00df cJ5_init_d00df 2 none 1 20 1 (0 + p1.toNatClampNeg) dC dI g [.ref a0, .int p1] [(a0, .inr (1, [.null, .int 0, .int 0, .int 0]))] (fun β => wJ4 g a0 (β.1 0) 0 0 p1.toNatClampNeg (fun _ => 0)) (fun _ => none) := by
  refine MN_of (by decide +kernel) (Nat.le_of_ble_eq_true rfl) ?_
  intro p e s m below meth c ls F hmn hr hlocks hE hX hA hP hD hS hl
  generalize va_A [(a0, .inr (1, [.null, .int 0, .int 0, .int 0]))] s.heap.size = A at hA hD hS hX ⊢
  replace F : CF p m c cJ5_init_d00df 2 s _ RJ5 := F
  replace hl : lv_has ls 2 [(0, .ref a0), (1, .int p1)] := hl
  replace hP : va_P (dC, dI) vwCl (catp [[(a0, .inr (1, [.null, .int 0, .int 0, .int 0]))]] []) s.heap := hP
  replace hD : va_D A (catp [[(a0, .inr (1, [.null, .int 0, .int 0, .int 0]))]] []) := hD
  have hcap2 := hcap.2
  have hcap4 : 0 + p1.toNatClampNeg ≤ 0 + p1.toNatClampNeg := Nat.add_le_add_right (Nat.zero_le _) _
  refine lv_aload_n F.1 F.2.1 dJ5_init_d00df_0 rfl (lv_at hl 0 rfl) ?_
  refine oIn F q287 hl.1 ⟨(Nat.le_of_ble_eq_true rfl), (Nat.le_of_ble_eq_true rfl)⟩ (Nat.le_of_ble_eq_true rfl) dJ5_init_d00df_1 ?_
  refine va_gets F.1 F.2.1 hX.cs hS F.2.2.2.1 (F.2.2.2.2 _ q288) (fun _ h => h) dJ5_init_d00df_4 ?_
  refine lv_if_eq (tgt := 25) F.1 F.2.1 dJ5_init_d00df_7 (by decide) (fun k9 => absurd k9 (by decide)) (fun _ => ?_)
  refine lv_aload_n F.1 F.2.1 dJ5_init_d00df_10 rfl (lv_at hl 0 rfl) ?_
  refine lv_iload_n F.1 F.2.1 dJ5_init_d00df_11 rfl (lv_at hl 1 rfl) ?_
  refine nwA (atype := .byte) (k0 := 5) F hE q311 rfl rfl (fun _ _ _ => ra_B) (fun _ _ => rfl) [[(a0, .inr (1, [.null, .int 0, .int 0, .int 0]))]] hP hD hS hA hcap2 rfl hcap3 (Nat.le_of_ble_eq_true rfl) hcap4 dJ5_init_d00df_12 (fun qa1 H hP hD hS => ?_)
  replace hP : va_P (dC, dI) vwCl (catp [[(a0, .inr (1, [.null, .int 0, .int 0, .int 0]))], [(qa1, .inl (g 5, p1.toNatClampNeg, .inl (fun _ => 0)))]] []) H := hP
  replace hD : va_D A (catp [[(a0, .inr (1, [.null, .int 0, .int 0, .int 0]))], [(qa1, .inl (g 5, p1.toNatClampNeg, .inl (fun _ => 0)))]] []) := hD
  refine pF (v := .ref qa1) F hE hP hD hS 0 rfl rfl inJ4 tyJ4 tyJ4_ok nmJ4 0 (by decide) q297 rfl rfl rfl (Nat.le_of_ble_eq_true rfl) dJ5_init_d00df_14 (fun H locs hP hD hS => ?_)
  replace hP : va_P (dC, dI) vwCl (catp [[(a0, .inr (1, [.ref qa1, .int 0, .int 0, .int 0]))], [(qa1, .inl (g 5, p1.toNatClampNeg, .inl (fun _ => 0)))]] []) H := hP
  replace hD : va_D A (catp [[(a0, .inr (1, [.ref qa1, .int 0, .int 0, .int 0]))], [(qa1, .inl (g 5, p1.toNatClampNeg, .inl (fun _ => 0)))]] []) := hD
  refine lv_aload_n F.1 F.2.1 dJ5_init_d00df_17 rfl (lv_at hl 0 rfl) ?_
  refine lv_iconst (v := 0) F.1 F.2.1 dJ5_init_d00df_18 (by decide) ?_
  refine pF (v := .int 0) F hE hP hD hS 0 rfl rfl inJ4 tyJ4 tyJ4_ok nmJ4 1 (by decide) q298 rfl rfl rfl (Nat.le_of_ble_eq_true rfl) dJ5_init_d00df_19 (fun H locs hP hD hS => ?_)
  replace hP : va_P (dC, dI) vwCl (catp [[(a0, .inr (1, [.ref qa1, .int 0, .int 0, .int 0]))], [(qa1, .inl (g 5, p1.toNatClampNeg, .inl (fun _ => 0)))]] []) H := hP
  replace hD : va_D A (catp [[(a0, .inr (1, [.ref qa1, .int 0, .int 0, .int 0]))], [(qa1, .inl (g 5, p1.toNatClampNeg, .inl (fun _ => 0)))]] []) := hD
  refine lv_goto (tgt := 38) F.1 F.2.1 dJ5_init_d00df_22 (by decide) ?_
  exact MN_v ⟨fun i => ([qa1] : List Nat).getD i 0, (fun _ _ => 0), (fun _ _ => 0)⟩ rfl F hr hlocks (by first | omega | (dsimp only; omega)) (by first | omega | (dsimp only; omega)) hP hD hS dJ5_init_d00df_38
/-! java/lang/StringBuilder.<init> -/
theorem mbJ4_init_da8c8 : MB yJ4_init_da8c8 cJ4_init_da8c8 1 none 0 := ⟨q283, q13, by decide +kernel⟩
set_option maxHeartbeats 4000000 in
set_option maxRecDepth 100000 in
theorem tJ4_init_da8c8 (l : Launch) (dC : Nat → ClassId) (dI : Nat → Nat → Nat) (g : Nat → ClassId) (a0 : Nat) : MN l yJ4_init_da8c8 cJ4_init_da8c8 1 none 2 41 1 (16) dC dI g [.ref a0] [(a0, .inr (1, [.null, .int 0, .int 0, .int 0]))] (fun β => wJ4 g a0 (β.1 0) 0 0 16 (fun _ => 0)) (fun _ => none) := by
  refine MN_of (by decide +kernel) (Nat.le_of_ble_eq_true rfl) ?_
  intro p e s m below meth c ls F hmn hr hlocks hE hX hA hP hD hS hl
  generalize va_A [(a0, .inr (1, [.null, .int 0, .int 0, .int 0]))] s.heap.size = A at hA hD hS hX ⊢
  replace F : CF p m c cJ4_init_da8c8 1 s _ RJ4 := F
  replace hl : lv_has ls 1 [(0, .ref a0)] := hl
  replace hP : va_P (dC, dI) vwCl (catp [[(a0, .inr (1, [.null, .int 0, .int 0, .int 0]))]] []) s.heap := hP
  replace hD : va_D A (catp [[(a0, .inr (1, [.null, .int 0, .int 0, .int 0]))]] []) := hD
  refine lv_aload_n F.1 F.2.1 dJ4_init_da8c8_0 rfl (lv_at hl 0 rfl) ?_
  refine lv_bipush (v := 16) F.1 F.2.1 dJ4_init_da8c8_1 (by decide) ?_
  refine cNI (As := [.int 16]) (rest := []) (post := catp [] []) F hE hX (tJ5_init_d00df l dC dI g a0 16 ⟨by decide, by decide⟩ (by decide)) mbJ5_init_d00df q285 rfl q284 ⟨(Nat.le_of_ble_eq_true rfl), (Nat.le_of_ble_eq_true rfl)⟩ ⟨(Nat.le_of_ble_eq_true rfl), (Nat.le_of_ble_eq_true rfl)⟩ hP hD hS hA [] rfl rfl hl.1 rfl (Nat.le_of_ble_eq_true rfl) dJ4_init_da8c8_3 (fun b1 H locs hP hD hS => ?_)
  replace hP : va_P (dC, dI) vwCl (catp [wJ4 g a0 (b1.1 0) 0 0 16 (fun _ => 0)] []) H := hP
  replace hD : va_D A (catp [wJ4 g a0 (b1.1 0) 0 0 16 (fun _ => 0)] []) := hD
  exact MN_v ⟨fun i => ([(b1.1 0)] : List Nat).getD i 0, (fun _ _ => 0), (fun _ _ => 0)⟩ rfl F hr hlocks (Nat.le_of_ble_eq_true rfl) (Nat.le_of_ble_eq_true rfl) hP hD hS dJ4_init_da8c8_6
