/-! WireCutter$Workshop.lose -/
def fX11_lose (uk : Int32) (uaLn : Int32) (uaLf : Nat → Int32) (p1 : Int32) (p2 : Int32) : Option (Int32 × (Nat → Int32)) :=
  if uk ≤ p2 then
    (fX12_placeOf p1).bind fun z2 =>
    (fX7_increase 6 uaLn uaLf z2 uk).bind fun z4 =>
    some (p2 - uk, z4)
  else
    (fX12_placeOf p1).bind fun z6 =>
    (fX7_increase 6 uaLn uaLf z6 p2).bind fun z8 =>
    some (p2 - p2, z8)
theorem mbX11_lose : MV yX11_lose cX11_lose 4 (some .int) 2 := ⟨⟨q1156, q2, by decide +kernel⟩, q1155, qs7⟩
set_option maxHeartbeats 4000000 in
set_option maxRecDepth 100000 in
theorem tX11_lose (l : Launch) (dC : Nat → ClassId) (dI : Nat → Nat → Nat) (g : Nat → ClassId) (a0 a1 a2 a3 a4 a5 a6 a7 a8 a9 a10 a11 a12 a13 a14 a15 a16 a17 a18 a19 a20 a21 a22 a23 a24 a25 a26 a27 a28 a29 a30 a31 a32 : Nat) (uk : Int32) (ul : Int32) (ur : Int32) (usx : Int32) (usNn : Int32) (usNf : Nat → Int32) (usMn : Int32) (usMf : Nat → Int32) (usLn : Int32) (usLf : Nat → Int32) (usKn : Int32) (usKf : Nat → Int32) (ucMn : Int32) (ucMf : Nat → Int32) (ucLn : Int32) (ucLf : Nat → Int32) (ucTn : Int32) (ucTf : Nat → Int32) (uox : Int32) (uoNn : Int32) (uoNf : Nat → Int32) (uoMn : Int32) (uoMf : Nat → Int32) (uoLn : Int32) (uoLf : Nat → Int32) (uoDn : Int32) (uoDf : Nat → Int32) (uac : Int32) (uaWn : Int32) (uaWf : Nat → Int32) (uaDn : Int32) (uaDf : Nat → Int32) (uaLn : Int32) (uaLf : Nat → Int32) (p1 : Int32) (p2 : Int32) {r : Int32 × (Nat → Int32)} (h : fX11_lose uk uaLn uaLf p1 p2 = some r) : MU l yX11_lose cX11_lose 4 (some .int) 1 22 0 0 dC dI g [.ref a0, .int p1, .int p2] (wX11 g a0 a1 a2 a3 a4 a5 a6 a7 a8 a9 a10 a11 a12 a13 a14 a15 a16 a17 a18 a19 a20 a21 a22 a23 a24 a25 a26 a27 a28 a29 a30 a31 a32 uk ul ur usx usNn usNf usMn usMf usLn usLf usKn usKf ucMn ucMf ucLn ucLf ucTn ucTf uox uoNn uoNf uoMn uoMf uoLn uoLf uoDn uoDf uac uaWn uaWf uaDn uaDf uaLn uaLf) (wX11 g a0 a1 a2 a3 a4 a5 a6 a7 a8 a9 a10 a11 a12 a13 a14 a15 a16 a17 a18 a19 a20 a21 a22 a23 a24 a25 a26 a27 a28 a29 a30 a31 a32 uk ul ur usx usNn usNf usMn usMf usLn usLf usKn usKf ucMn ucMf ucLn ucLf ucTn ucTf uox uoNn uoNf uoMn uoMf uoLn uoLf uoDn uoDf uac uaWn uaWf uaDn uaDf uaLn r.2) (some (.int r.1)) := by
  refine MU_of (by decide) (Nat.le_of_ble_eq_true rfl) ?_
  intro p e s m below meth c ls F hr hlocks hE hX hA hP hD hS hl
  generalize va_A (wX11 g a0 a1 a2 a3 a4 a5 a6 a7 a8 a9 a10 a11 a12 a13 a14 a15 a16 a17 a18 a19 a20 a21 a22 a23 a24 a25 a26 a27 a28 a29 a30 a31 a32 uk ul ur usx usNn usNf usMn usMf usLn usLf usKn usKf ucMn ucMf ucLn ucLf ucTn ucTf uox uoNn uoNf uoMn uoMf uoLn uoLf uoDn uoDf uac uaWn uaWf uaDn uaDf uaLn uaLf) s.heap.size = A at hA hD hS hX ⊢
  replace F : CF p m c cX11_lose 4 s _ RX11 := F
  replace hl : lv_has ls 4 [(0, .ref a0), (1, .int p1), (2, .int p2)] := hl
  rw [fX11_lose] at h
  replace hP : va_P (dC, dI) vwCl (catp [[(a0, .inr (13, [.ref a1, .ref a10, .ref a17, .ref a26, .int uk, .int ul, .int ur]))], wX9 g a1 a2 a3 a4 a5 a6 a7 a8 a9 usx usNn usNf usMn usMf usLn usLf usKn usKf, wX8 g a10 a11 a12 a13 a14 a15 a16 ucMn ucMf ucLn ucLf ucTn ucTf, wX5 g a17 a18 a19 a20 a21 a22 a23 a24 a25 uox uoNn uoNf uoMn uoMf uoLn uoLf uoDn uoDf, [(a26, .inr (4, [.ref a27, .ref a29, .ref a31, .int uac]))], wX7 g a27 a28 6 uaWn uaWf, wX7 g a29 a30 6 uaDn uaDf, wX7 g a31 a32 6 uaLn uaLf] []) s.heap := hP
  replace hD : va_D A (catp [[(a0, .inr (13, [.ref a1, .ref a10, .ref a17, .ref a26, .int uk, .int ul, .int ur]))], wX9 g a1 a2 a3 a4 a5 a6 a7 a8 a9 usx usNn usNf usMn usMf usLn usLf usKn usKf, wX8 g a10 a11 a12 a13 a14 a15 a16 ucMn ucMf ucLn ucLf ucTn ucTf, wX5 g a17 a18 a19 a20 a21 a22 a23 a24 a25 uox uoNn uoNf uoMn uoMf uoLn uoLf uoDn uoDf, [(a26, .inr (4, [.ref a27, .ref a29, .ref a31, .int uac]))], wX7 g a27 a28 6 uaWn uaWf, wX7 g a29 a30 6 uaDn uaDf, wX7 g a31 a32 6 uaLn uaLf] []) := hD
  refine lv_iload_n F.1 F.2.1 dX11_lose_0 rfl (lv_at hl 2 rfl) ?_
  refine lv_aload_n F.1 F.2.1 dX11_lose_1 rfl (lv_at hl 0 rfl) ?_
  refine gF (v := .int uk) F hE hP 0 rfl rfl inX11 4 (by decide) q172 rfl dX11_lose_2 ?_
  refine lv_icmp_ge (tgt := 12) F.1 F.2.1 dX11_lose_5 (by decide) (fun k1 => ?_) (fun k1 => ?_)
  · replace h := it_t k1 h
    refine lv_aload_n F.1 F.2.1 dX11_lose_12 rfl (lv_at hl 0 rfl) ?_
    refine gF (v := .int uk) F hE hP 0 rfl rfl inX11 4 (by decide) q172 rfl dX11_lose_13 ?_
    refine lv_istore_n (lv' := [(3, .int uk), (0, .ref a0), (1, .int p1), (2, .int p2)]) F.1 F.2.1 dX11_lose_16 rfl hl (by decide) rfl (fun ls hl => ?_)
    refine lv_aload_n F.1 F.2.1 dX11_lose_17 rfl (lv_at hl 1 rfl) ?_
    refine gF (v := .ref a26) F hE hP 0 rfl rfl inX11 3 (by decide) q170 rfl dX11_lose_18 ?_
    refine gFN (v := .ref a31) F hE hP 26 rfl rfl inX1 2 (by decide) q148 rfl dX11_lose_21 ?_
    refine lv_iload_n F.1 F.2.1 dX11_lose_24 rfl (lv_at hl 2 rfl) ?_
    obtain ⟨z2, k3, h⟩ := bd_ok h
    refine cRSN0 (As := [.int p1]) (rest := [.ref a31]) F hE hX hS (tX12_placeOf l dC dI g p1 k3) mbX12_placeOf q478 ⟨(Nat.le_of_ble_eq_true rfl), (Nat.le_of_ble_eq_true rfl)⟩ ⟨Nat.zero_le _, Nat.zero_le _⟩ hP rfl hl.1 rfl (Nat.le_of_ble_eq_true rfl) dX11_lose_25 ?_
    refine lv_iload_n F.1 F.2.1 dX11_lose_28 rfl (lv_at hl 0 rfl) ?_
    obtain ⟨z4, k5, h⟩ := bd_ok h
    refine cMV1 (As := [.int z2, .int uk]) (rest := []) (post := catp [] []) (ws' := catp [[(a0, .inr (13, [.ref a1, .ref a10, .ref a17, .ref a26, .int uk, .int ul, .int ur]))], wX9 g a1 a2 a3 a4 a5 a6 a7 a8 a9 usx usNn usNf usMn usMf usLn usLf usKn usKf, wX8 g a10 a11 a12 a13 a14 a15 a16 ucMn ucMf ucLn ucLf ucTn ucTf, wX5 g a17 a18 a19 a20 a21 a22 a23 a24 a25 uox uoNn uoNf uoMn uoMf uoLn uoLf uoDn uoDf, [(a26, .inr (4, [.ref a27, .ref a29, .ref a31, .int uac]))], wX7 g a27 a28 6 uaWn uaWf, wX7 g a29 a30 6 uaDn uaDf, wX7 g a31 a32 6 uaLn z4] []) F hE hX (tX7_increase l dC dI g a31 a32 6 uaLn uaLf z2 uk k5) mbX7_increase q966 ⟨(Nat.le_of_ble_eq_true rfl), (Nat.le_of_ble_eq_true rfl)⟩ ⟨(Nat.le_of_ble_eq_true rfl), (Nat.le_of_ble_eq_true rfl)⟩ hP hD hS hA [[(a0, .inr (13, [.ref a1, .ref a10, .ref a17, .ref a26, .int uk, .int ul, .int ur]))], wX9 g a1 a2 a3 a4 a5 a6 a7 a8 a9 usx usNn usNf usMn usMf usLn usLf usKn usKf, wX8 g a10 a11 a12 a13 a14 a15 a16 ucMn ucMf ucLn ucLf ucTn ucTf, wX5 g a17 a18 a19 a20 a21 a22 a23 a24 a25 uox uoNn uoNf uoMn uoMf uoLn uoLf uoDn uoDf, [(a26, .inr (4, [.ref a27, .ref a29, .ref a31, .int uac]))], wX7 g a27 a28 6 uaWn uaWf, wX7 g a29 a30 6 uaDn uaDf] rfl rfl rfl 0 rfl rfl rfl hl.1 rfl (Nat.le_of_ble_eq_true rfl) dX11_lose_29 (fun H locs hP hD hS => ?_)
    refine lv_iload_n F.1 F.2.1 dX11_lose_32 rfl (lv_at hl 3 rfl) ?_
    refine lv_iload_n F.1 F.2.1 dX11_lose_33 rfl (lv_at hl 0 rfl) ?_
    refine lv_isub F.1 F.2.1 dX11_lose_34 ?_
    cases h
    exact MU_i F hr hlocks (Nat.le_refl _) (Nat.le_refl _) hP hS dX11_lose_35
  · replace h := it_f k1 h
    refine lv_iload_n F.1 F.2.1 dX11_lose_8 rfl (lv_at hl 2 rfl) ?_
    refine lv_goto (tgt := 16) F.1 F.2.1 dX11_lose_9 (by decide) ?_
    refine lv_istore_n (lv' := [(3, .int p2), (0, .ref a0), (1, .int p1), (2, .int p2)]) F.1 F.2.1 dX11_lose_16 rfl hl (by decide) rfl (fun ls hl => ?_)
    refine lv_aload_n F.1 F.2.1 dX11_lose_17 rfl (lv_at hl 1 rfl) ?_
    refine gF (v := .ref a26) F hE hP 0 rfl rfl inX11 3 (by decide) q170 rfl dX11_lose_18 ?_
    refine gFN (v := .ref a31) F hE hP 26 rfl rfl inX1 2 (by decide) q148 rfl dX11_lose_21 ?_
    refine lv_iload_n F.1 F.2.1 dX11_lose_24 rfl (lv_at hl 2 rfl) ?_
    obtain ⟨z6, k7, h⟩ := bd_ok h
    refine cRSN0 (As := [.int p1]) (rest := [.ref a31]) F hE hX hS (tX12_placeOf l dC dI g p1 k7) mbX12_placeOf q478 ⟨(Nat.le_of_ble_eq_true rfl), (Nat.le_of_ble_eq_true rfl)⟩ ⟨Nat.zero_le _, Nat.zero_le _⟩ hP rfl hl.1 rfl (Nat.le_of_ble_eq_true rfl) dX11_lose_25 ?_
    refine lv_iload_n F.1 F.2.1 dX11_lose_28 rfl (lv_at hl 0 rfl) ?_
    obtain ⟨z8, k9, h⟩ := bd_ok h
    refine cMV1 (As := [.int z6, .int p2]) (rest := []) (post := catp [] []) (ws' := catp [[(a0, .inr (13, [.ref a1, .ref a10, .ref a17, .ref a26, .int uk, .int ul, .int ur]))], wX9 g a1 a2 a3 a4 a5 a6 a7 a8 a9 usx usNn usNf usMn usMf usLn usLf usKn usKf, wX8 g a10 a11 a12 a13 a14 a15 a16 ucMn ucMf ucLn ucLf ucTn ucTf, wX5 g a17 a18 a19 a20 a21 a22 a23 a24 a25 uox uoNn uoNf uoMn uoMf uoLn uoLf uoDn uoDf, [(a26, .inr (4, [.ref a27, .ref a29, .ref a31, .int uac]))], wX7 g a27 a28 6 uaWn uaWf, wX7 g a29 a30 6 uaDn uaDf, wX7 g a31 a32 6 uaLn z8] []) F hE hX (tX7_increase l dC dI g a31 a32 6 uaLn uaLf z6 p2 k9) mbX7_increase q966 ⟨(Nat.le_of_ble_eq_true rfl), (Nat.le_of_ble_eq_true rfl)⟩ ⟨(Nat.le_of_ble_eq_true rfl), (Nat.le_of_ble_eq_true rfl)⟩ hP hD hS hA [[(a0, .inr (13, [.ref a1, .ref a10, .ref a17, .ref a26, .int uk, .int ul, .int ur]))], wX9 g a1 a2 a3 a4 a5 a6 a7 a8 a9 usx usNn usNf usMn usMf usLn usLf usKn usKf, wX8 g a10 a11 a12 a13 a14 a15 a16 ucMn ucMf ucLn ucLf ucTn ucTf, wX5 g a17 a18 a19 a20 a21 a22 a23 a24 a25 uox uoNn uoNf uoMn uoMf uoLn uoLf uoDn uoDf, [(a26, .inr (4, [.ref a27, .ref a29, .ref a31, .int uac]))], wX7 g a27 a28 6 uaWn uaWf, wX7 g a29 a30 6 uaDn uaDf] rfl rfl rfl 0 rfl rfl rfl hl.1 rfl (Nat.le_of_ble_eq_true rfl) dX11_lose_29 (fun H locs hP hD hS => ?_)
    refine lv_iload_n F.1 F.2.1 dX11_lose_32 rfl (lv_at hl 3 rfl) ?_
    refine lv_iload_n F.1 F.2.1 dX11_lose_33 rfl (lv_at hl 0 rfl) ?_
    refine lv_isub F.1 F.2.1 dX11_lose_34 ?_
    cases h
    exact MU_i F hr hlocks (Nat.le_refl _) (Nat.le_refl _) hP hS dX11_lose_35
/-! WireCutter$Workshop.cutSpool -/
def fX11_cutSpool (uk : Int32) (ul : Int32) (usNn : Int32) (usNf : Nat → Int32) (usMn : Int32) (usMf : Nat → Int32) (usLn : Int32) (usLf : Nat → Int32) (usKn : Int32) (usKf : Nat → Int32) (ucMn : Int32) (ucMf : Nat → Int32) (ucLn : Int32) (ucLf : Nat → Int32) (ucTn : Int32) (ucTf : Nat → Int32) (uaLn : Int32) (uaLf : Nat → Int32) (p1 : Int32) (p2 : Int32) (p3 : Int32) : Option (Int32 × (Nat → Int32) × Int32 × (Nat → Int32) × Int32 × (Nat → Int32) × Int32 × (Nat → Int32) × Int32 × (Nat → Int32) × Int32 × (Nat → Int32) × (Nat → Int32) × (Nat → Int32)) :=
  (fX9_lengthAt usLn usLf p1).bind fun z1 =>
  (fX11_lose uk uaLn uaLf p2 (z1 - p3)).bind fun z3 =>
  if z3.1 < ul then
    (fX9_removeAt usNn usNf usMn usMf usLn usLf usKn usKf p1).bind fun z6 =>
    if z3.1 ≤ 0 then
      some (z6.1, z6.2.1, z6.2.2.1, z6.2.2.2.1, z6.2.2.2.2.1, z6.2.2.2.2.2.1, z6.2.2.2.2.2.2.1, z6.2.2.2.2.2.2.2, ucMn, ucMf, ucLn, ucLf, ucTf, z3.2)
    else
      (fX8_keepOrThrow ucMn ucMf ucLn ucLf ucTn ucTf p2 z3.1).bind fun z9 =>
      some (z6.1, z6.2.1, z6.2.2.1, z6.2.2.2.1, z6.2.2.2.2.1, z6.2.2.2.2.2.1, z6.2.2.2.2.2.2.1, z6.2.2.2.2.2.2.2, z9.1, z9.2.1, z9.2.2.1, z9.2.2.2.1, z9.2.2.2.2, z3.2)
  else
    (fX9_shorten usLn usLf usKn usKf p1 z3.1).bind fun z11 =>
    some (usNn, usNf, usMn, usMf, usLn, z11.1, usKn, z11.2, ucMn, ucMf, ucLn, ucLf, ucTf, z3.2)
theorem mbX11_cutSpool : MV yX11_cutSpool cX11_cutSpool 5 none 3 := ⟨⟨q1165, q2, by decide +kernel⟩, q1164, qs8⟩
set_option maxHeartbeats 4000000 in
set_option maxRecDepth 100000 in
theorem tX11_cutSpool (l : Launch) (dC : Nat → ClassId) (dI : Nat → Nat → Nat) (g : Nat → ClassId) (a0 a1 a2 a3 a4 a5 a6 a7 a8 a9 a10 a11 a12 a13 a14 a15 a16 a17 a18 a19 a20 a21 a22 a23 a24 a25 a26 a27 a28 a29 a30 a31 a32 : Nat) (uk : Int32) (ul : Int32) (ur : Int32) (usx : Int32) (usNn : Int32) (usNf : Nat → Int32) (usMn : Int32) (usMf : Nat → Int32) (usLn : Int32) (usLf : Nat → Int32) (usKn : Int32) (usKf : Nat → Int32) (ucMn : Int32) (ucMf : Nat → Int32) (ucLn : Int32) (ucLf : Nat → Int32) (ucTn : Int32) (ucTf : Nat → Int32) (uox : Int32) (uoNn : Int32) (uoNf : Nat → Int32) (uoMn : Int32) (uoMf : Nat → Int32) (uoLn : Int32) (uoLf : Nat → Int32) (uoDn : Int32) (uoDf : Nat → Int32) (uac : Int32) (uaWn : Int32) (uaWf : Nat → Int32) (uaDn : Int32) (uaDf : Nat → Int32) (uaLn : Int32) (uaLf : Nat → Int32) (p1 : Int32) (p2 : Int32) (p3 : Int32) {r : Int32 × (Nat → Int32) × Int32 × (Nat → Int32) × Int32 × (Nat → Int32) × Int32 × (Nat → Int32) × Int32 × (Nat → Int32) × Int32 × (Nat → Int32) × (Nat → Int32) × (Nat → Int32)} (h : fX11_cutSpool uk ul usNn usNf usMn usMf usLn usLf usKn usKf ucMn ucMf ucLn ucLf ucTn ucTf uaLn uaLf p1 p2 p3 = some r) : MU l yX11_cutSpool cX11_cutSpool 5 none 2 46 0 0 dC dI g [.ref a0, .int p1, .int p2, .int p3] (wX11 g a0 a1 a2 a3 a4 a5 a6 a7 a8 a9 a10 a11 a12 a13 a14 a15 a16 a17 a18 a19 a20 a21 a22 a23 a24 a25 a26 a27 a28 a29 a30 a31 a32 uk ul ur usx usNn usNf usMn usMf usLn usLf usKn usKf ucMn ucMf ucLn ucLf ucTn ucTf uox uoNn uoNf uoMn uoMf uoLn uoLf uoDn uoDf uac uaWn uaWf uaDn uaDf uaLn uaLf) (wX11 g a0 a1 a2 a3 a4 a5 a6 a7 a8 a9 a10 a11 a12 a13 a14 a15 a16 a17 a18 a19 a20 a21 a22 a23 a24 a25 a26 a27 a28 a29 a30 a31 a32 uk ul ur usx r.1 r.2.1 r.2.2.1 r.2.2.2.1 r.2.2.2.2.1 r.2.2.2.2.2.1 r.2.2.2.2.2.2.1 r.2.2.2.2.2.2.2.1 r.2.2.2.2.2.2.2.2.1 r.2.2.2.2.2.2.2.2.2.1 r.2.2.2.2.2.2.2.2.2.2.1 r.2.2.2.2.2.2.2.2.2.2.2.1 ucTn r.2.2.2.2.2.2.2.2.2.2.2.2.1 uox uoNn uoNf uoMn uoMf uoLn uoLf uoDn uoDf uac uaWn uaWf uaDn uaDf uaLn r.2.2.2.2.2.2.2.2.2.2.2.2.2) none := by
  refine MU_of (by decide) (Nat.le_of_ble_eq_true rfl) ?_
  intro p e s m below meth c ls F hr hlocks hE hX hA hP hD hS hl
  generalize va_A (wX11 g a0 a1 a2 a3 a4 a5 a6 a7 a8 a9 a10 a11 a12 a13 a14 a15 a16 a17 a18 a19 a20 a21 a22 a23 a24 a25 a26 a27 a28 a29 a30 a31 a32 uk ul ur usx usNn usNf usMn usMf usLn usLf usKn usKf ucMn ucMf ucLn ucLf ucTn ucTf uox uoNn uoNf uoMn uoMf uoLn uoLf uoDn uoDf uac uaWn uaWf uaDn uaDf uaLn uaLf) s.heap.size = A at hA hD hS hX ⊢
  replace F : CF p m c cX11_cutSpool 5 s _ RX11 := F
  replace hl : lv_has ls 5 [(0, .ref a0), (1, .int p1), (2, .int p2), (3, .int p3)] := hl
  rw [fX11_cutSpool] at h
  replace hP : va_P (dC, dI) vwCl (catp [[(a0, .inr (13, [.ref a1, .ref a10, .ref a17, .ref a26, .int uk, .int ul, .int ur]))], wX9 g a1 a2 a3 a4 a5 a6 a7 a8 a9 usx usNn usNf usMn usMf usLn usLf usKn usKf, wX8 g a10 a11 a12 a13 a14 a15 a16 ucMn ucMf ucLn ucLf ucTn ucTf, wX5 g a17 a18 a19 a20 a21 a22 a23 a24 a25 uox uoNn uoNf uoMn uoMf uoLn uoLf uoDn uoDf, wX1 g a26 a27 a28 a29 a30 a31 a32 uac uaWn uaWf uaDn uaDf uaLn uaLf] []) s.heap := hP
  replace hD : va_D A (catp [[(a0, .inr (13, [.ref a1, .ref a10, .ref a17, .ref a26, .int uk, .int ul, .int ur]))], wX9 g a1 a2 a3 a4 a5 a6 a7 a8 a9 usx usNn usNf usMn usMf usLn usLf usKn usKf, wX8 g a10 a11 a12 a13 a14 a15 a16 ucMn ucMf ucLn ucLf ucTn ucTf, wX5 g a17 a18 a19 a20 a21 a22 a23 a24 a25 uox uoNn uoNf uoMn uoMf uoLn uoLf uoDn uoDf, wX1 g a26 a27 a28 a29 a30 a31 a32 uac uaWn uaWf uaDn uaDf uaLn uaLf] []) := hD
  refine lv_aload_n F.1 F.2.1 dX11_cutSpool_0 rfl (lv_at hl 0 rfl) ?_
  refine lv_iload_n F.1 F.2.1 dX11_cutSpool_1 rfl (lv_at hl 2 rfl) ?_
  refine lv_aload_n F.1 F.2.1 dX11_cutSpool_2 rfl (lv_at hl 0 rfl) ?_
  refine gF (v := .ref a1) F hE hP 0 rfl rfl inX11 0 (by decide) q162 rfl dX11_cutSpool_3 ?_
  refine lv_iload_n F.1 F.2.1 dX11_cutSpool_6 rfl (lv_at hl 1 rfl) ?_
  obtain ⟨z1, k2, h⟩ := bd_ok h
  refine cRV1 (As := [.int p1]) (rest := [.int p2, .ref a0]) (post := catp [wX8 g a10 a11 a12 a13 a14 a15 a16 ucMn ucMf ucLn ucLf ucTn ucTf, wX5 g a17 a18 a19 a20 a21 a22 a23 a24 a25 uox uoNn uoNf uoMn uoMf uoLn uoLf uoDn uoDf, wX1 g a26 a27 a28 a29 a30 a31 a32 uac uaWn uaWf uaDn uaDf uaLn uaLf] []) F hE hX hS (tX9_lengthAt l dC dI g a1 a2 a3 a4 a5 a6 a7 a8 a9 usx usNn usNf usMn usMf usLn usLf usKn usKf p1 k2) mbX9_lengthAt q1012 ⟨(Nat.le_of_ble_eq_true rfl), (Nat.le_of_ble_eq_true rfl)⟩ ⟨Nat.zero_le _, Nat.zero_le _⟩ hP [[(a0, .inr (13, [.ref a1, .ref a10, .ref a17, .ref a26, .int uk, .int ul, .int ur]))]] rfl 0 rfl rfl rfl hl.1 rfl (Nat.le_of_ble_eq_true rfl) dX11_cutSpool_7 ?_
  refine lv_iload_n F.1 F.2.1 dX11_cutSpool_10 rfl (lv_at hl 3 rfl) ?_
  refine lv_isub F.1 F.2.1 dX11_cutSpool_11 ?_
  obtain ⟨z3, k4, h⟩ := bd_ok h
  refine cMVA (As := [.int p2, .int (z1 - p3)]) (rest := []) (ws' := catp [[(a0, .inr (13, [.ref a1, .ref a10, .ref a17, .ref a26, .int uk, .int ul, .int ur]))], wX9 g a1 a2 a3 a4 a5 a6 a7 a8 a9 usx usNn usNf usMn usMf usLn usLf usKn usKf, wX8 g a10 a11 a12 a13 a14 a15 a16 ucMn ucMf ucLn ucLf ucTn ucTf, wX5 g a17 a18 a19 a20 a21 a22 a23 a24 a25 uox uoNn uoNf uoMn uoMf uoLn uoLf uoDn uoDf, wX1 g a26 a27 a28 a29 a30 a31 a32 uac uaWn uaWf uaDn uaDf uaLn z3.2] []) F hE hX (tX11_lose l dC dI g a0 a1 a2 a3 a4 a5 a6 a7 a8 a9 a10 a11 a12 a13 a14 a15 a16 a17 a18 a19 a20 a21 a22 a23 a24 a25 a26 a27 a28 a29 a30 a31 a32 uk ul ur usx usNn usNf usMn usMf usLn usLf usKn usKf ucMn ucMf ucLn ucLf ucTn ucTf uox uoNn uoNf uoMn uoMf uoLn uoLf uoDn uoDf uac uaWn uaWf uaDn uaDf uaLn uaLf p2 (z1 - p3) k4) mbX11_lose q1153 ⟨(Nat.le_of_ble_eq_true rfl), (Nat.le_of_ble_eq_true rfl)⟩ ⟨(Nat.le_of_ble_eq_true rfl), (Nat.le_of_ble_eq_true rfl)⟩ hP hD hS hA rfl rfl rfl 0 rfl rfl rfl hl.1 rfl (Nat.le_of_ble_eq_true rfl) dX11_cutSpool_12 (fun H locs hP hD hS => ?_)
  refine lv_istore (lv' := [(4, .int z3.1), (0, .ref a0), (1, .int p1), (2, .int p2), (3, .int p3)]) F.1 F.2.1 dX11_cutSpool_15 hl (by decide) rfl (fun ls hl => ?_)
  refine lv_iload F.1 F.2.1 dX11_cutSpool_17 (lv_at hl 0 rfl) ?_
  refine lv_aload_n F.1 F.2.1 dX11_cutSpool_19 rfl (lv_at hl 1 rfl) ?_
  refine gF (v := .int ul) F hE hP 0 rfl rfl inX11 5 (by decide) q175 rfl dX11_cutSpool_20 ?_
  refine lv_icmp_lt (tgt := 37) F.1 F.2.1 dX11_cutSpool_23 (by decide) (fun k5 => ?_) (fun k5 => ?_)
  · replace h := it_t k5 h
    refine lv_aload_n F.1 F.2.1 dX11_cutSpool_37 rfl (lv_at hl 1 rfl) ?_
    refine gF (v := .ref a1) F hE hP 0 rfl rfl inX11 0 (by decide) q162 rfl dX11_cutSpool_38 ?_
    refine lv_iload_n F.1 F.2.1 dX11_cutSpool_41 rfl (lv_at hl 2 rfl) ?_
    obtain ⟨z6, k7, h⟩ := bd_ok h
    refine cMV1 (As := [.int p1]) (rest := []) (post := catp [wX8 g a10 a11 a12 a13 a14 a15 a16 ucMn ucMf ucLn ucLf ucTn ucTf, wX5 g a17 a18 a19 a20 a21 a22 a23 a24 a25 uox uoNn uoNf uoMn uoMf uoLn uoLf uoDn uoDf, wX1 g a26 a27 a28 a29 a30 a31 a32 uac uaWn uaWf uaDn uaDf uaLn z3.2] []) (ws' := catp [[(a0, .inr (13, [.ref a1, .ref a10, .ref a17, .ref a26, .int uk, .int ul, .int ur]))], wX9 g a1 a2 a3 a4 a5 a6 a7 a8 a9 usx z6.1 z6.2.1 z6.2.2.1 z6.2.2.2.1 z6.2.2.2.2.1 z6.2.2.2.2.2.1 z6.2.2.2.2.2.2.1 z6.2.2.2.2.2.2.2, wX8 g a10 a11 a12 a13 a14 a15 a16 ucMn ucMf ucLn ucLf ucTn ucTf, wX5 g a17 a18 a19 a20 a21 a22 a23 a24 a25 uox uoNn uoNf uoMn uoMf uoLn uoLf uoDn uoDf, wX1 g a26 a27 a28 a29 a30 a31 a32 uac uaWn uaWf uaDn uaDf uaLn z3.2] []) F hE hX (tX9_removeAt l dC dI g a1 a2 a3 a4 a5 a6 a7 a8 a9 usx usNn usNf usMn usMf usLn usLf usKn usKf p1 k7) mbX9_removeAt q1023 ⟨(Nat.le_of_ble_eq_true rfl), (Nat.le_of_ble_eq_true rfl)⟩ ⟨(Nat.le_of_ble_eq_true rfl), (Nat.le_of_ble_eq_true rfl)⟩ hP hD hS hA [[(a0, .inr (13, [.ref a1, .ref a10, .ref a17, .ref a26, .int uk, .int ul, .int ur]))]] rfl rfl rfl 0 rfl rfl rfl hl.1 rfl (Nat.le_of_ble_eq_true rfl) dX11_cutSpool_42 (fun H locs hP hD hS => ?_)
    refine lv_iload F.1 F.2.1 dX11_cutSpool_45 (lv_at hl 0 rfl) ?_
    refine lv_if_le (tgt := 60) F.1 F.2.1 dX11_cutSpool_47 (by decide) (fun k8 => ?_) (fun k8 => ?_)
    · replace h := it_t k8 h
      cases h
      exact MU_v F hr hlocks (Nat.le_refl _) (Nat.le_refl _) hP hS dX11_cutSpool_60
    · replace h := it_f k8 h
      refine lv_aload_n F.1 F.2.1 dX11_cutSpool_50 rfl (lv_at hl 1 rfl) ?_
      refine gF (v := .ref a10) F hE hP 0 rfl rfl inX11 1 (by decide) q165 rfl dX11_cutSpool_51 ?_
      refine lv_iload_n F.1 F.2.1 dX11_cutSpool_54 rfl (lv_at hl 3 rfl) ?_
      refine lv_iload F.1 F.2.1 dX11_cutSpool_55 (lv_at hl 0 rfl) ?_
      obtain ⟨z9, k10, h⟩ := bd_ok h
      refine cMV1 (As := [.int p2, .int z3.1]) (rest := []) (post := catp [wX5 g a17 a18 a19 a20 a21 a22 a23 a24 a25 uox uoNn uoNf uoMn uoMf uoLn uoLf uoDn uoDf, wX1 g a26 a27 a28 a29 a30 a31 a32 uac uaWn uaWf uaDn uaDf uaLn z3.2] []) (ws' := catp [[(a0, .inr (13, [.ref a1, .ref a10, .ref a17, .ref a26, .int uk, .int ul, .int ur]))], wX9 g a1 a2 a3 a4 a5 a6 a7 a8 a9 usx z6.1 z6.2.1 z6.2.2.1 z6.2.2.2.1 z6.2.2.2.2.1 z6.2.2.2.2.2.1 z6.2.2.2.2.2.2.1 z6.2.2.2.2.2.2.2, wX8 g a10 a11 a12 a13 a14 a15 a16 z9.1 z9.2.1 z9.2.2.1 z9.2.2.2.1 ucTn z9.2.2.2.2, wX5 g a17 a18 a19 a20 a21 a22 a23 a24 a25 uox uoNn uoNf uoMn uoMf uoLn uoLf uoDn uoDf, wX1 g a26 a27 a28 a29 a30 a31 a32 uac uaWn uaWf uaDn uaDf uaLn z3.2] []) F hE hX (tX8_keepOrThrow l dC dI g a10 a11 a12 a13 a14 a15 a16 ucMn ucMf ucLn ucLf ucTn ucTf p2 z3.1 k10) mbX8_keepOrThrow q1014 ⟨(Nat.le_of_ble_eq_true rfl), (Nat.le_of_ble_eq_true rfl)⟩ ⟨(Nat.le_of_ble_eq_true rfl), (Nat.le_of_ble_eq_true rfl)⟩ hP hD hS hA [[(a0, .inr (13, [.ref a1, .ref a10, .ref a17, .ref a26, .int uk, .int ul, .int ur]))], wX9 g a1 a2 a3 a4 a5 a6 a7 a8 a9 usx z6.1 z6.2.1 z6.2.2.1 z6.2.2.2.1 z6.2.2.2.2.1 z6.2.2.2.2.2.1 z6.2.2.2.2.2.2.1 z6.2.2.2.2.2.2.2] rfl rfl rfl 0 rfl rfl rfl hl.1 rfl (Nat.le_of_ble_eq_true rfl) dX11_cutSpool_57 (fun H locs hP hD hS => ?_)
      cases h
      exact MU_v F hr hlocks (Nat.le_refl _) (Nat.le_refl _) hP hS dX11_cutSpool_60
  · replace h := it_f k5 h
    refine lv_aload_n F.1 F.2.1 dX11_cutSpool_26 rfl (lv_at hl 1 rfl) ?_
    refine gF (v := .ref a1) F hE hP 0 rfl rfl inX11 0 (by decide) q162 rfl dX11_cutSpool_27 ?_
    refine lv_iload_n F.1 F.2.1 dX11_cutSpool_30 rfl (lv_at hl 2 rfl) ?_
    refine lv_iload F.1 F.2.1 dX11_cutSpool_31 (lv_at hl 0 rfl) ?_
    obtain ⟨z11, k12, h⟩ := bd_ok h
    refine cMV1 (As := [.int p1, .int z3.1]) (rest := []) (post := catp [wX8 g a10 a11 a12 a13 a14 a15 a16 ucMn ucMf ucLn ucLf ucTn ucTf, wX5 g a17 a18 a19 a20 a21 a22 a23 a24 a25 uox uoNn uoNf uoMn uoMf uoLn uoLf uoDn uoDf, wX1 g a26 a27 a28 a29 a30 a31 a32 uac uaWn uaWf uaDn uaDf uaLn z3.2] []) (ws' := catp [[(a0, .inr (13, [.ref a1, .ref a10, .ref a17, .ref a26, .int uk, .int ul, .int ur]))], wX9 g a1 a2 a3 a4 a5 a6 a7 a8 a9 usx usNn usNf usMn usMf usLn z11.1 usKn z11.2, wX8 g a10 a11 a12 a13 a14 a15 a16 ucMn ucMf ucLn ucLf ucTn ucTf, wX5 g a17 a18 a19 a20 a21 a22 a23 a24 a25 uox uoNn uoNf uoMn uoMf uoLn uoLf uoDn uoDf, wX1 g a26 a27 a28 a29 a30 a31 a32 uac uaWn uaWf uaDn uaDf uaLn z3.2] []) F hE hX (tX9_shorten l dC dI g a1 a2 a3 a4 a5 a6 a7 a8 a9 usx usNn usNf usMn usMf usLn usLf usKn usKf p1 z3.1 k12) mbX9_shorten q1166 ⟨(Nat.le_of_ble_eq_true rfl), (Nat.le_of_ble_eq_true rfl)⟩ ⟨(Nat.le_of_ble_eq_true rfl), (Nat.le_of_ble_eq_true rfl)⟩ hP hD hS hA [[(a0, .inr (13, [.ref a1, .ref a10, .ref a17, .ref a26, .int uk, .int ul, .int ur]))]] rfl rfl rfl 0 rfl rfl rfl hl.1 rfl (Nat.le_of_ble_eq_true rfl) dX11_cutSpool_33 (fun H locs hP hD hS => ?_)
    cases h
    exact MU_v F hr hlocks (Nat.le_refl _) (Nat.le_refl _) hP hS dX11_cutSpool_36
/-! WireCutter$Workshop.cutScrap -/
def fX11_cutScrap (uk : Int32) (ucMn : Int32) (ucMf : Nat → Int32) (ucLn : Int32) (ucLf : Nat → Int32) (ucTn : Int32) (ucTf : Nat → Int32) (uaLn : Int32) (uaLf : Nat → Int32) (p1 : Int32) (p2 : Int32) (p3 : Int32) : Option (Int32 × (Nat → Int32) × Int32 × (Nat → Int32) × (Nat → Int32) × (Nat → Int32)) :=
  (fX8_lengthAt ucLn ucLf p1).bind fun z1 =>
  (fX11_lose uk uaLn uaLf p2 (z1 - p3)).bind fun z3 =>
  (fX8_removeAt ucMn ucMf ucLn ucLf p1).bind fun z5 =>
  if z3.1 ≤ 0 then
    some (z5.1, z5.2.1, z5.2.2.1, z5.2.2.2, ucTf, z3.2)
  else
    (fX8_keepOrThrow z5.1 z5.2.1 z5.2.2.1 z5.2.2.2 ucTn ucTf p2 z3.1).bind fun z8 =>
    some (z8.1, z8.2.1, z8.2.2.1, z8.2.2.2.1, z8.2.2.2.2, z3.2)
theorem mbX11_cutScrap : MV yX11_cutScrap cX11_cutScrap 5 none 3 := ⟨⟨q1148, q2, by decide +kernel⟩, q1147, qs6⟩
set_option maxHeartbeats 4000000 in
set_option maxRecDepth 100000 in
theorem tX11_cutScrap (l : Launch) (dC : Nat → ClassId) (dI : Nat → Nat → Nat) (g : Nat → ClassId) (a0 a1 a2 a3 a4 a5 a6 a7 a8 a9 a10 a11 a12 a13 a14 a15 a16 a17 a18 a19 a20 a21 a22 a23 a24 a25 a26 a27 a28 a29 a30 a31 a32 : Nat) (uk : Int32) (ul : Int32) (ur : Int32) (usx : Int32) (usNn : Int32) (usNf : Nat → Int32) (usMn : Int32) (usMf : Nat → Int32) (usLn : Int32) (usLf : Nat → Int32) (usKn : Int32) (usKf : Nat → Int32) (ucMn : Int32) (ucMf : Nat → Int32) (ucLn : Int32) (ucLf : Nat → Int32) (ucTn : Int32) (ucTf : Nat → Int32) (uox : Int32) (uoNn : Int32) (uoNf : Nat → Int32) (uoMn : Int32) (uoMf : Nat → Int32) (uoLn : Int32) (uoLf : Nat → Int32) (uoDn : Int32) (uoDf : Nat → Int32) (uac : Int32) (uaWn : Int32) (uaWf : Nat → Int32) (uaDn : Int32) (uaDf : Nat → Int32) (uaLn : Int32) (uaLf : Nat → Int32) (p1 : Int32) (p2 : Int32) (p3 : Int32) {r : Int32 × (Nat → Int32) × Int32 × (Nat → Int32) × (Nat → Int32) × (Nat → Int32)} (h : fX11_cutScrap uk ucMn ucMf ucLn ucLf ucTn ucTf uaLn uaLf p1 p2 p3 = some r) : MU l yX11_cutScrap cX11_cutScrap 5 none 2 46 0 0 dC dI g [.ref a0, .int p1, .int p2, .int p3] (wX11 g a0 a1 a2 a3 a4 a5 a6 a7 a8 a9 a10 a11 a12 a13 a14 a15 a16 a17 a18 a19 a20 a21 a22 a23 a24 a25 a26 a27 a28 a29 a30 a31 a32 uk ul ur usx usNn usNf usMn usMf usLn usLf usKn usKf ucMn ucMf ucLn ucLf ucTn ucTf uox uoNn uoNf uoMn uoMf uoLn uoLf uoDn uoDf uac uaWn uaWf uaDn uaDf uaLn uaLf) (wX11 g a0 a1 a2 a3 a4 a5 a6 a7 a8 a9 a10 a11 a12 a13 a14 a15 a16 a17 a18 a19 a20 a21 a22 a23 a24 a25 a26 a27 a28 a29 a30 a31 a32 uk ul ur usx usNn usNf usMn usMf usLn usLf usKn usKf r.1 r.2.1 r.2.2.1 r.2.2.2.1 ucTn r.2.2.2.2.1 uox uoNn uoNf uoMn uoMf uoLn uoLf uoDn uoDf uac uaWn uaWf uaDn uaDf uaLn r.2.2.2.2.2) none := by
  refine MU_of (by decide) (Nat.le_of_ble_eq_true rfl) ?_
  intro p e s m below meth c ls F hr hlocks hE hX hA hP hD hS hl
  generalize va_A (wX11 g a0 a1 a2 a3 a4 a5 a6 a7 a8 a9 a10 a11 a12 a13 a14 a15 a16 a17 a18 a19 a20 a21 a22 a23 a24 a25 a26 a27 a28 a29 a30 a31 a32 uk ul ur usx usNn usNf usMn usMf usLn usLf usKn usKf ucMn ucMf ucLn ucLf ucTn ucTf uox uoNn uoNf uoMn uoMf uoLn uoLf uoDn uoDf uac uaWn uaWf uaDn uaDf uaLn uaLf) s.heap.size = A at hA hD hS hX ⊢
  replace F : CF p m c cX11_cutScrap 5 s _ RX11 := F
  replace hl : lv_has ls 5 [(0, .ref a0), (1, .int p1), (2, .int p2), (3, .int p3)] := hl
  rw [fX11_cutScrap] at h
  replace hP : va_P (dC, dI) vwCl (catp [[(a0, .inr (13, [.ref a1, .ref a10, .ref a17, .ref a26, .int uk, .int ul, .int ur]))], wX9 g a1 a2 a3 a4 a5 a6 a7 a8 a9 usx usNn usNf usMn usMf usLn usLf usKn usKf, wX8 g a10 a11 a12 a13 a14 a15 a16 ucMn ucMf ucLn ucLf ucTn ucTf, wX5 g a17 a18 a19 a20 a21 a22 a23 a24 a25 uox uoNn uoNf uoMn uoMf uoLn uoLf uoDn uoDf, wX1 g a26 a27 a28 a29 a30 a31 a32 uac uaWn uaWf uaDn uaDf uaLn uaLf] []) s.heap := hP
  replace hD : va_D A (catp [[(a0, .inr (13, [.ref a1, .ref a10, .ref a17, .ref a26, .int uk, .int ul, .int ur]))], wX9 g a1 a2 a3 a4 a5 a6 a7 a8 a9 usx usNn usNf usMn usMf usLn usLf usKn usKf, wX8 g a10 a11 a12 a13 a14 a15 a16 ucMn ucMf ucLn ucLf ucTn ucTf, wX5 g a17 a18 a19 a20 a21 a22 a23 a24 a25 uox uoNn uoNf uoMn uoMf uoLn uoLf uoDn uoDf, wX1 g a26 a27 a28 a29 a30 a31 a32 uac uaWn uaWf uaDn uaDf uaLn uaLf] []) := hD
  refine lv_aload_n F.1 F.2.1 dX11_cutScrap_0 rfl (lv_at hl 0 rfl) ?_
  refine lv_iload_n F.1 F.2.1 dX11_cutScrap_1 rfl (lv_at hl 2 rfl) ?_
  refine lv_aload_n F.1 F.2.1 dX11_cutScrap_2 rfl (lv_at hl 0 rfl) ?_
  refine gF (v := .ref a10) F hE hP 0 rfl rfl inX11 1 (by decide) q165 rfl dX11_cutScrap_3 ?_
  refine lv_iload_n F.1 F.2.1 dX11_cutScrap_6 rfl (lv_at hl 1 rfl) ?_
  obtain ⟨z1, k2, h⟩ := bd_ok h
  refine cRV1 (As := [.int p1]) (rest := [.int p2, .ref a0]) (post := catp [wX5 g a17 a18 a19 a20 a21 a22 a23 a24 a25 uox uoNn uoNf uoMn uoMf uoLn uoLf uoDn uoDf, wX1 g a26 a27 a28 a29 a30 a31 a32 uac uaWn uaWf uaDn uaDf uaLn uaLf] []) F hE hX hS (tX8_lengthAt l dC dI g a10 a11 a12 a13 a14 a15 a16 ucMn ucMf ucLn ucLf ucTn ucTf p1 k2) mbX8_lengthAt q1149 ⟨(Nat.le_of_ble_eq_true rfl), (Nat.le_of_ble_eq_true rfl)⟩ ⟨Nat.zero_le _, Nat.zero_le _⟩ hP [[(a0, .inr (13, [.ref a1, .ref a10, .ref a17, .ref a26, .int uk, .int ul, .int ur]))], wX9 g a1 a2 a3 a4 a5 a6 a7 a8 a9 usx usNn usNf usMn usMf usLn usLf usKn usKf] rfl 0 rfl rfl rfl hl.1 rfl (Nat.le_of_ble_eq_true rfl) dX11_cutScrap_7 ?_
  refine lv_iload_n F.1 F.2.1 dX11_cutScrap_10 rfl (lv_at hl 3 rfl) ?_
  refine lv_isub F.1 F.2.1 dX11_cutScrap_11 ?_
  obtain ⟨z3, k4, h⟩ := bd_ok h
  refine cMVA (As := [.int p2, .int (z1 - p3)]) (rest := []) (ws' := catp [[(a0, .inr (13, [.ref a1, .ref a10, .ref a17, .ref a26, .int uk, .int ul, .int ur]))], wX9 g a1 a2 a3 a4 a5 a6 a7 a8 a9 usx usNn usNf usMn usMf usLn usLf usKn usKf, wX8 g a10 a11 a12 a13 a14 a15 a16 ucMn ucMf ucLn ucLf ucTn ucTf, wX5 g a17 a18 a19 a20 a21 a22 a23 a24 a25 uox uoNn uoNf uoMn uoMf uoLn uoLf uoDn uoDf, wX1 g a26 a27 a28 a29 a30 a31 a32 uac uaWn uaWf uaDn uaDf uaLn z3.2] []) F hE hX (tX11_lose l dC dI g a0 a1 a2 a3 a4 a5 a6 a7 a8 a9 a10 a11 a12 a13 a14 a15 a16 a17 a18 a19 a20 a21 a22 a23 a24 a25 a26 a27 a28 a29 a30 a31 a32 uk ul ur usx usNn usNf usMn usMf usLn usLf usKn usKf ucMn ucMf ucLn ucLf ucTn ucTf uox uoNn uoNf uoMn uoMf uoLn uoLf uoDn uoDf uac uaWn uaWf uaDn uaDf uaLn uaLf p2 (z1 - p3) k4) mbX11_lose q1153 ⟨(Nat.le_of_ble_eq_true rfl), (Nat.le_of_ble_eq_true rfl)⟩ ⟨(Nat.le_of_ble_eq_true rfl), (Nat.le_of_ble_eq_true rfl)⟩ hP hD hS hA rfl rfl rfl 0 rfl rfl rfl hl.1 rfl (Nat.le_of_ble_eq_true rfl) dX11_cutScrap_12 (fun H locs hP hD hS => ?_)
  refine lv_istore (lv' := [(4, .int z3.1), (0, .ref a0), (1, .int p1), (2, .int p2), (3, .int p3)]) F.1 F.2.1 dX11_cutScrap_15 hl (by decide) rfl (fun ls hl => ?_)
  refine lv_aload_n F.1 F.2.1 dX11_cutScrap_17 rfl (lv_at hl 1 rfl) ?_
  refine gF (v := .ref a10) F hE hP 0 rfl rfl inX11 1 (by decide) q165 rfl dX11_cutScrap_18 ?_
  refine lv_iload_n F.1 F.2.1 dX11_cutScrap_21 rfl (lv_at hl 2 rfl) ?_
  obtain ⟨z5, k6, h⟩ := bd_ok h
  refine cMV1 (As := [.int p1]) (rest := []) (post := catp [wX5 g a17 a18 a19 a20 a21 a22 a23 a24 a25 uox uoNn uoNf uoMn uoMf uoLn uoLf uoDn uoDf, wX1 g a26 a27 a28 a29 a30 a31 a32 uac uaWn uaWf uaDn uaDf uaLn z3.2] []) (ws' := catp [[(a0, .inr (13, [.ref a1, .ref a10, .ref a17, .ref a26, .int uk, .int ul, .int ur]))], wX9 g a1 a2 a3 a4 a5 a6 a7 a8 a9 usx usNn usNf usMn usMf usLn usLf usKn usKf, wX8 g a10 a11 a12 a13 a14 a15 a16 z5.1 z5.2.1 z5.2.2.1 z5.2.2.2 ucTn ucTf, wX5 g a17 a18 a19 a20 a21 a22 a23 a24 a25 uox uoNn uoNf uoMn uoMf uoLn uoLf uoDn uoDf, wX1 g a26 a27 a28 a29 a30 a31 a32 uac uaWn uaWf uaDn uaDf uaLn z3.2] []) F hE hX (tX8_removeAt l dC dI g a10 a11 a12 a13 a14 a15 a16 ucMn ucMf ucLn ucLf ucTn ucTf p1 k6) mbX8_removeAt q1157 ⟨(Nat.le_of_ble_eq_true rfl), (Nat.le_of_ble_eq_true rfl)⟩ ⟨(Nat.le_of_ble_eq_true rfl), (Nat.le_of_ble_eq_true rfl)⟩ hP hD hS hA [[(a0, .inr (13, [.ref a1, .ref a10, .ref a17, .ref a26, .int uk, .int ul, .int ur]))], wX9 g a1 a2 a3 a4 a5 a6 a7 a8 a9 usx usNn usNf usMn usMf usLn usLf usKn usKf] rfl rfl rfl 0 rfl rfl rfl hl.1 rfl (Nat.le_of_ble_eq_true rfl) dX11_cutScrap_22 (fun H locs hP hD hS => ?_)
  refine lv_iload F.1 F.2.1 dX11_cutScrap_25 (lv_at hl 0 rfl) ?_
  refine lv_if_le (tgt := 40) F.1 F.2.1 dX11_cutScrap_27 (by decide) (fun k7 => ?_) (fun k7 => ?_)
  · replace h := it_t k7 h
    cases h
    exact MU_v F hr hlocks (Nat.le_refl _) (Nat.le_refl _) hP hS dX11_cutScrap_40
  · replace h := it_f k7 h
    refine lv_aload_n F.1 F.2.1 dX11_cutScrap_30 rfl (lv_at hl 1 rfl) ?_
    refine gF (v := .ref a10) F hE hP 0 rfl rfl inX11 1 (by decide) q165 rfl dX11_cutScrap_31 ?_
    refine lv_iload_n F.1 F.2.1 dX11_cutScrap_34 rfl (lv_at hl 3 rfl) ?_
    refine lv_iload F.1 F.2.1 dX11_cutScrap_35 (lv_at hl 0 rfl) ?_
    obtain ⟨z8, k9, h⟩ := bd_ok h
    refine cMV1 (As := [.int p2, .int z3.1]) (rest := []) (post := catp [wX5 g a17 a18 a19 a20 a21 a22 a23 a24 a25 uox uoNn uoNf uoMn uoMf uoLn uoLf uoDn uoDf, wX1 g a26 a27 a28 a29 a30 a31 a32 uac uaWn uaWf uaDn uaDf uaLn z3.2] []) (ws' := catp [[(a0, .inr (13, [.ref a1, .ref a10, .ref a17, .ref a26, .int uk, .int ul, .int ur]))], wX9 g a1 a2 a3 a4 a5 a6 a7 a8 a9 usx usNn usNf usMn usMf usLn usLf usKn usKf, wX8 g a10 a11 a12 a13 a14 a15 a16 z8.1 z8.2.1 z8.2.2.1 z8.2.2.2.1 ucTn z8.2.2.2.2, wX5 g a17 a18 a19 a20 a21 a22 a23 a24 a25 uox uoNn uoNf uoMn uoMf uoLn uoLf uoDn uoDf, wX1 g a26 a27 a28 a29 a30 a31 a32 uac uaWn uaWf uaDn uaDf uaLn z3.2] []) F hE hX (tX8_keepOrThrow l dC dI g a10 a11 a12 a13 a14 a15 a16 z5.1 z5.2.1 z5.2.2.1 z5.2.2.2 ucTn ucTf p2 z3.1 k9) mbX8_keepOrThrow q1014 ⟨(Nat.le_of_ble_eq_true rfl), (Nat.le_of_ble_eq_true rfl)⟩ ⟨(Nat.le_of_ble_eq_true rfl), (Nat.le_of_ble_eq_true rfl)⟩ hP hD hS hA [[(a0, .inr (13, [.ref a1, .ref a10, .ref a17, .ref a26, .int uk, .int ul, .int ur]))], wX9 g a1 a2 a3 a4 a5 a6 a7 a8 a9 usx usNn usNf usMn usMf usLn usLf usKn usKf] rfl rfl rfl 0 rfl rfl rfl hl.1 rfl (Nat.le_of_ble_eq_true rfl) dX11_cutScrap_37 (fun H locs hP hD hS => ?_)
    cases h
    exact MU_v F hr hlocks (Nat.le_refl _) (Nat.le_refl _) hP hS dX11_cutScrap_40
/-! WireCutter$Workshop.fillAt -/
def fX11_fillAt (uk : Int32) (ul : Int32) (ur : Int32) (usNn : Int32) (usNf : Nat → Int32) (usMn : Int32) (usMf : Nat → Int32) (usLn : Int32) (usLf : Nat → Int32) (usKn : Int32) (usKf : Nat → Int32) (ucMn : Int32) (ucMf : Nat → Int32) (ucLn : Int32) (ucLf : Nat → Int32) (ucTn : Int32) (ucTf : Nat → Int32) (uoNn : Int32) (uoNf : Nat → Int32) (uoMn : Int32) (uoMf : Nat → Int32) (uoLn : Int32) (uoLf : Nat → Int32) (uoDn : Int32) (uoDf : Nat → Int32) (uac : Int32) (uaDn : Int32) (uaDf : Nat → Int32) (uaLn : Int32) (uaLf : Nat → Int32) (p1 : Int32) : Option (Int32 × Int32 × (Nat → Int32) × Int32 × (Nat → Int32) × Int32 × (Nat → Int32) × Int32 × (Nat → Int32) × Int32 × (Nat → Int32) × Int32 × (Nat → Int32) × (Nat → Int32) × Int32 × (Nat → Int32) × Int32 × (Nat → Int32) × Int32 × (Nat → Int32) × Int32 × (Nat → Int32) × Int32 × (Nat → Int32) × (Nat → Int32)) :=
  (fX5_materialAt uoMn uoMf p1).bind fun z1 =>
  (fX5_lengthAt uoLn uoLf p1).bind fun z3 =>
  (fX8_shortestFor ucMn ucMf ucLn ucLf z1 z3).bind fun z5 =>
  if z5 = (-1) then
    (fX9_choose usMn usMf usLn usLf z1 z3 ur).bind fun z8 =>
    (fX9_numberAt usNn usNf z8).bind fun z10 =>
    (fX11_cutSpool uk ul usNn usNf usMn usMf usLn usLf usKn usKf ucMn ucMf ucLn ucLf ucTn ucTf uaLn uaLf z8 z1 z3).bind fun z12 =>
    (fX12_placeOf z1).bind fun z14 =>
    (fX7_increase 6 uaDn uaDf z14 z3).bind fun z16 =>
    (fX5_removeAt uoNn uoNf uoMn uoMf uoLn uoLf uoDn uoDf p1).bind fun z18 =>
    some (z10, z12.1, z12.2.1, z12.2.2.1, z12.2.2.2.1, z12.2.2.2.2.1, z12.2.2.2.2.2.1, z12.2.2.2.2.2.2.1, z12.2.2.2.2.2.2.2.1, z12.2.2.2.2.2.2.2.2.1, z12.2.2.2.2.2.2.2.2.2.1, z12.2.2.2.2.2.2.2.2.2.2.1, z12.2.2.2.2.2.2.2.2.2.2.2.1, z12.2.2.2.2.2.2.2.2.2.2.2.2.1, z18.1, z18.2.1, z18.2.2.1, z18.2.2.2.1, z18.2.2.2.2.1, z18.2.2.2.2.2.1, z18.2.2.2.2.2.2.1, z18.2.2.2.2.2.2.2, uac + 1, z16, z12.2.2.2.2.2.2.2.2.2.2.2.2.2)
  else
    (fX11_cutScrap uk ucMn ucMf ucLn ucLf ucTn ucTf uaLn uaLf z5 z1 z3).bind fun z20 =>
    (fX12_placeOf z1).bind fun z22 =>
    (fX7_increase 6 uaDn uaDf z22 z3).bind fun z24 =>
    (fX5_removeAt uoNn uoNf uoMn uoMf uoLn uoLf uoDn uoDf p1).bind fun z26 =>
    some ((-1), usNn, usNf, usMn, usMf, usLn, usLf, usKn, usKf, z20.1, z20.2.1, z20.2.2.1, z20.2.2.2.1, z20.2.2.2.2.1, z26.1, z26.2.1, z26.2.2.1, z26.2.2.2.1, z26.2.2.2.2.1, z26.2.2.2.2.2.1, z26.2.2.2.2.2.2.1, z26.2.2.2.2.2.2.2, uac + 1, z24, z20.2.2.2.2.2)
theorem mbX11_fillAt : MV yX11_fillAt cX11_fillAt 7 (some .int) 1 := ⟨⟨q1144, q2, by decide +kernel⟩, q1143, qs5⟩
set_option maxHeartbeats 4000000 in
set_option maxRecDepth 100000 in
theorem tX11_fillAt (l : Launch) (dC : Nat → ClassId) (dI : Nat → Nat → Nat) (g : Nat → ClassId) (a0 a1 a2 a3 a4 a5 a6 a7 a8 a9 a10 a11 a12 a13 a14 a15 a16 a17 a18 a19 a20 a21 a22 a23 a24 a25 a26 a27 a28 a29 a30 a31 a32 : Nat) (uk : Int32) (ul : Int32) (ur : Int32) (usx : Int32) (usNn : Int32) (usNf : Nat → Int32) (usMn : Int32) (usMf : Nat → Int32) (usLn : Int32) (usLf : Nat → Int32) (usKn : Int32) (usKf : Nat → Int32) (ucMn : Int32) (ucMf : Nat → Int32) (ucLn : Int32) (ucLf : Nat → Int32) (ucTn : Int32) (ucTf : Nat → Int32) (uox : Int32) (uoNn : Int32) (uoNf : Nat → Int32) (uoMn : Int32) (uoMf : Nat → Int32) (uoLn : Int32) (uoLf : Nat → Int32) (uoDn : Int32) (uoDf : Nat → Int32) (uac : Int32) (uaWn : Int32) (uaWf : Nat → Int32) (uaDn : Int32) (uaDf : Nat → Int32) (uaLn : Int32) (uaLf : Nat → Int32) (p1 : Int32) {r : Int32 × Int32 × (Nat → Int32) × Int32 × (Nat → Int32) × Int32 × (Nat → Int32) × Int32 × (Nat → Int32) × Int32 × (Nat → Int32) × Int32 × (Nat → Int32) × (Nat → Int32) × Int32 × (Nat → Int32) × Int32 × (Nat → Int32) × Int32 × (Nat → Int32) × Int32 × (Nat → Int32) × Int32 × (Nat → Int32) × (Nat → Int32)} (h : fX11_fillAt uk ul ur usNn usNf usMn usMf usLn usLf usKn usKf ucMn ucMf ucLn ucLf ucTn ucTf uoNn uoNf uoMn uoMf uoLn uoLf uoDn uoDf uac uaDn uaDf uaLn uaLf p1 = some r) : MU l yX11_fillAt cX11_fillAt 7 (some .int) 3 70 0 0 dC dI g [.ref a0, .int p1] (wX11 g a0 a1 a2 a3 a4 a5 a6 a7 a8 a9 a10 a11 a12 a13 a14 a15 a16 a17 a18 a19 a20 a21 a22 a23 a24 a25 a26 a27 a28 a29 a30 a31 a32 uk ul ur usx usNn usNf usMn usMf usLn usLf usKn usKf ucMn ucMf ucLn ucLf ucTn ucTf uox uoNn uoNf uoMn uoMf uoLn uoLf uoDn uoDf uac uaWn uaWf uaDn uaDf uaLn uaLf) (wX11 g a0 a1 a2 a3 a4 a5 a6 a7 a8 a9 a10 a11 a12 a13 a14 a15 a16 a17 a18 a19 a20 a21 a22 a23 a24 a25 a26 a27 a28 a29 a30 a31 a32 uk ul ur usx r.2.1 r.2.2.1 r.2.2.2.1 r.2.2.2.2.1 r.2.2.2.2.2.1 r.2.2.2.2.2.2.1 r.2.2.2.2.2.2.2.1 r.2.2.2.2.2.2.2.2.1 r.2.2.2.2.2.2.2.2.2.1 r.2.2.2.2.2.2.2.2.2.2.1 r.2.2.2.2.2.2.2.2.2.2.2.1 r.2.2.2.2.2.2.2.2.2.2.2.2.1 ucTn r.2.2.2.2.2.2.2.2.2.2.2.2.2.1 uox r.2.2.2.2.2.2.2.2.2.2.2.2.2.2.1 r.2.2.2.2.2.2.2.2.2.2.2.2.2.2.2.1 r.2.2.2.2.2.2.2.2.2.2.2.2.2.2.2.2.1 r.2.2.2.2.2.2.2.2.2.2.2.2.2.2.2.2.2.1 r.2.2.2.2.2.2.2.2.2.2.2.2.2.2.2.2.2.2.1 r.2.2.2.2.2.2.2.2.2.2.2.2.2.2.2.2.2.2.2.1 r.2.2.2.2.2.2.2.2.2.2.2.2.2.2.2.2.2.2.2.2.1 r.2.2.2.2.2.2.2.2.2.2.2.2.2.2.2.2.2.2.2.2.2.1 r.2.2.2.2.2.2.2.2.2.2.2.2.2.2.2.2.2.2.2.2.2.2.1 uaWn uaWf uaDn r.2.2.2.2.2.2.2.2.2.2.2.2.2.2.2.2.2.2.2.2.2.2.2.1 uaLn r.2.2.2.2.2.2.2.2.2.2.2.2.2.2.2.2.2.2.2.2.2.2.2.2) (some (.int r.1)) := by
  refine MU_of (by decide) (Nat.le_of_ble_eq_true rfl) ?_
  intro p e s m below meth c ls F hr hlocks hE hX hA hP hD hS hl
  generalize va_A (wX11 g a0 a1 a2 a3 a4 a5 a6 a7 a8 a9 a10 a11 a12 a13 a14 a15 a16 a17 a18 a19 a20 a21 a22 a23 a24 a25 a26 a27 a28 a29 a30 a31 a32 uk ul ur usx usNn usNf usMn usMf usLn usLf usKn usKf ucMn ucMf ucLn ucLf ucTn ucTf uox uoNn uoNf uoMn uoMf uoLn uoLf uoDn uoDf uac uaWn uaWf uaDn uaDf uaLn uaLf) s.heap.size = A at hA hD hS hX ⊢
  replace F : CF p m c cX11_fillAt 7 s _ RX11 := F
  replace hl : lv_has ls 7 [(0, .ref a0), (1, .int p1)] := hl
  rw [fX11_fillAt] at h
  replace hP : va_P (dC, dI) vwCl (catp [[(a0, .inr (13, [.ref a1, .ref a10, .ref a17, .ref a26, .int uk, .int ul, .int ur]))], wX9 g a1 a2 a3 a4 a5 a6 a7 a8 a9 usx usNn usNf usMn usMf usLn usLf usKn usKf, wX8 g a10 a11 a12 a13 a14 a15 a16 ucMn ucMf ucLn ucLf ucTn ucTf, wX5 g a17 a18 a19 a20 a21 a22 a23 a24 a25 uox uoNn uoNf uoMn uoMf uoLn uoLf uoDn uoDf, [(a26, .inr (4, [.ref a27, .ref a29, .ref a31, .int uac]))], wX7 g a27 a28 6 uaWn uaWf, wX7 g a29 a30 6 uaDn uaDf, wX7 g a31 a32 6 uaLn uaLf] []) s.heap := hP
  replace hD : va_D A (catp [[(a0, .inr (13, [.ref a1, .ref a10, .ref a17, .ref a26, .int uk, .int ul, .int ur]))], wX9 g a1 a2 a3 a4 a5 a6 a7 a8 a9 usx usNn usNf usMn usMf usLn usLf usKn usKf, wX8 g a10 a11 a12 a13 a14 a15 a16 ucMn ucMf ucLn ucLf ucTn ucTf, wX5 g a17 a18 a19 a20 a21 a22 a23 a24 a25 uox uoNn uoNf uoMn uoMf uoLn uoLf uoDn uoDf, [(a26, .inr (4, [.ref a27, .ref a29, .ref a31, .int uac]))], wX7 g a27 a28 6 uaWn uaWf, wX7 g a29 a30 6 uaDn uaDf, wX7 g a31 a32 6 uaLn uaLf] []) := hD
  refine lv_aload_n F.1 F.2.1 dX11_fillAt_0 rfl (lv_at hl 0 rfl) ?_
  refine gF (v := .ref a17) F hE hP 0 rfl rfl inX11 2 (by decide) q167 rfl dX11_fillAt_1 ?_
  refine lv_iload_n F.1 F.2.1 dX11_fillAt_4 rfl (lv_at hl 1 rfl) ?_
  obtain ⟨z1, k2, h⟩ := bd_ok h
  refine cRV1 (As := [.int p1]) (rest := []) (post := catp [[(a26, .inr (4, [.ref a27, .ref a29, .ref a31, .int uac]))], wX7 g a27 a28 6 uaWn uaWf, wX7 g a29 a30 6 uaDn uaDf, wX7 g a31 a32 6 uaLn uaLf] []) F hE hX hS (tX5_materialAt l dC dI g a17 a18 a19 a20 a21 a22 a23 a24 a25 uox uoNn uoNf uoMn uoMf uoLn uoLf uoDn uoDf p1 k2) mbX5_materialAt q1112 ⟨(Nat.le_of_ble_eq_true rfl), (Nat.le_of_ble_eq_true rfl)⟩ ⟨Nat.zero_le _, Nat.zero_le _⟩ hP [[(a0, .inr (13, [.ref a1, .ref a10, .ref a17, .ref a26, .int uk, .int ul, .int ur]))], wX9 g a1 a2 a3 a4 a5 a6 a7 a8 a9 usx usNn usNf usMn usMf usLn usLf usKn usKf, wX8 g a10 a11 a12 a13 a14 a15 a16 ucMn ucMf ucLn ucLf ucTn ucTf] rfl 0 rfl rfl rfl hl.1 rfl (Nat.le_of_ble_eq_true rfl) dX11_fillAt_5 ?_
  refine lv_istore_n (lv' := [(2, .int z1), (0, .ref a0), (1, .int p1)]) F.1 F.2.1 dX11_fillAt_8 rfl hl (by decide) rfl (fun ls hl => ?_)
  refine lv_aload_n F.1 F.2.1 dX11_fillAt_9 rfl (lv_at hl 1 rfl) ?_
  refine gF (v := .ref a17) F hE hP 0 rfl rfl inX11 2 (by decide) q167 rfl dX11_fillAt_10 ?_
  refine lv_iload_n F.1 F.2.1 dX11_fillAt_13 rfl (lv_at hl 2 rfl) ?_
  obtain ⟨z3, k4, h⟩ := bd_ok h
  refine cRV1 (As := [.int p1]) (rest := []) (post := catp [[(a26, .inr (4, [.ref a27, .ref a29, .ref a31, .int uac]))], wX7 g a27 a28 6 uaWn uaWf, wX7 g a29 a30 6 uaDn uaDf, wX7 g a31 a32 6 uaLn uaLf] []) F hE hX hS (tX5_lengthAt l dC dI g a17 a18 a19 a20 a21 a22 a23 a24 a25 uox uoNn uoNf uoMn uoMf uoLn uoLf uoDn uoDf p1 k4) mbX5_lengthAt q1113 ⟨(Nat.le_of_ble_eq_true rfl), (Nat.le_of_ble_eq_true rfl)⟩ ⟨Nat.zero_le _, Nat.zero_le _⟩ hP [[(a0, .inr (13, [.ref a1, .ref a10, .ref a17, .ref a26, .int uk, .int ul, .int ur]))], wX9 g a1 a2 a3 a4 a5 a6 a7 a8 a9 usx usNn usNf usMn usMf usLn usLf usKn usKf, wX8 g a10 a11 a12 a13 a14 a15 a16 ucMn ucMf ucLn ucLf ucTn ucTf] rfl 0 rfl rfl rfl hl.1 rfl (Nat.le_of_ble_eq_true rfl) dX11_fillAt_14 ?_
  refine lv_istore_n (lv' := [(3, .int z3), (2, .int z1), (0, .ref a0), (1, .int p1)]) F.1 F.2.1 dX11_fillAt_17 rfl hl (by decide) rfl (fun ls hl => ?_)
  refine lv_aload_n F.1 F.2.1 dX11_fillAt_18 rfl (lv_at hl 2 rfl) ?_
  refine gF (v := .ref a10) F hE hP 0 rfl rfl inX11 1 (by decide) q165 rfl dX11_fillAt_19 ?_
  refine lv_iload_n F.1 F.2.1 dX11_fillAt_22 rfl (lv_at hl 1 rfl) ?_
  refine lv_iload_n F.1 F.2.1 dX11_fillAt_23 rfl (lv_at hl 0 rfl) ?_
  obtain ⟨z5, k6, h⟩ := bd_ok h
  refine cRV1 (As := [.int z1, .int z3]) (rest := []) (post := catp [wX5 g a17 a18 a19 a20 a21 a22 a23 a24 a25 uox uoNn uoNf uoMn uoMf uoLn uoLf uoDn uoDf, [(a26, .inr (4, [.ref a27, .ref a29, .ref a31, .int uac]))], wX7 g a27 a28 6 uaWn uaWf, wX7 g a29 a30 6 uaDn uaDf, wX7 g a31 a32 6 uaLn uaLf] []) F hE hX hS (tX8_shortestFor l dC dI g a10 a11 a12 a13 a14 a15 a16 ucMn ucMf ucLn ucLf ucTn ucTf z1 z3 k6) mbX8_shortestFor q1114 ⟨(Nat.le_of_ble_eq_true rfl), (Nat.le_of_ble_eq_true rfl)⟩ ⟨Nat.zero_le _, Nat.zero_le _⟩ hP [[(a0, .inr (13, [.ref a1, .ref a10, .ref a17, .ref a26, .int uk, .int ul, .int ur]))], wX9 g a1 a2 a3 a4 a5 a6 a7 a8 a9 usx usNn usNf usMn usMf usLn usLf usKn usKf] rfl 0 rfl rfl rfl hl.1 rfl (Nat.le_of_ble_eq_true rfl) dX11_fillAt_24 ?_
  refine lv_istore (lv' := [(4, .int z5), (3, .int z3), (2, .int z1), (0, .ref a0), (1, .int p1)]) F.1 F.2.1 dX11_fillAt_27 hl (by decide) rfl (fun ls hl => ?_)
  refine lv_iconst (v := (-1)) F.1 F.2.1 dX11_fillAt_29 (by decide) ?_
  refine lv_istore (lv' := [(5, .int (-1)), (4, .int z5), (3, .int z3), (2, .int z1), (0, .ref a0), (1, .int p1)]) F.1 F.2.1 dX11_fillAt_30 hl (by decide) rfl (fun ls hl => ?_)
  refine lv_iload F.1 F.2.1 dX11_fillAt_32 (lv_at hl 1 rfl) ?_
  refine lv_iconst (v := (-1)) F.1 F.2.1 dX11_fillAt_34 (by decide) ?_
  refine lv_icmp_eq (tgt := 49) F.1 F.2.1 dX11_fillAt_35 (by decide) (fun k7 => ?_) (fun k7 => ?_)
  · replace h := it_t k7 h
    refine lv_aload_n F.1 F.2.1 dX11_fillAt_49 rfl (lv_at hl 4 rfl) ?_
    refine gF (v := .ref a1) F hE hP 0 rfl rfl inX11 0 (by decide) q162 rfl dX11_fillAt_50 ?_
    refine lv_iload_n F.1 F.2.1 dX11_fillAt_53 rfl (lv_at hl 3 rfl) ?_
    refine lv_iload_n F.1 F.2.1 dX11_fillAt_54 rfl (lv_at hl 2 rfl) ?_
    refine lv_aload_n F.1 F.2.1 dX11_fillAt_55 rfl (lv_at hl 4 rfl) ?_
    refine gF (v := .int ur) F hE hP 0 rfl rfl inX11 6 (by decide) q177 rfl dX11_fillAt_56 ?_
    obtain ⟨z8, k9, h⟩ := bd_ok h
    refine cRV1 (As := [.int z1, .int z3, .int ur]) (rest := []) (post := catp [wX8 g a10 a11 a12 a13 a14 a15 a16 ucMn ucMf ucLn ucLf ucTn ucTf, wX5 g a17 a18 a19 a20 a21 a22 a23 a24 a25 uox uoNn uoNf uoMn uoMf uoLn uoLf uoDn uoDf, [(a26, .inr (4, [.ref a27, .ref a29, .ref a31, .int uac]))], wX7 g a27 a28 6 uaWn uaWf, wX7 g a29 a30 6 uaDn uaDf, wX7 g a31 a32 6 uaLn uaLf] []) F hE hX hS (tX9_choose l dC dI g a1 a2 a3 a4 a5 a6 a7 a8 a9 usx usNn usNf usMn usMf usLn usLf usKn usKf z1 z3 ur k9) mbX9_choose q1118 ⟨(Nat.le_of_ble_eq_true rfl), (Nat.le_of_ble_eq_true rfl)⟩ ⟨Nat.zero_le _, Nat.zero_le _⟩ hP [[(a0, .inr (13, [.ref a1, .ref a10, .ref a17, .ref a26, .int uk, .int ul, .int ur]))]] rfl 0 rfl rfl rfl hl.1 rfl (Nat.le_of_ble_eq_true rfl) dX11_fillAt_59 ?_
    refine lv_istore (lv' := [(6, .int z8), (5, .int (-1)), (4, .int z5), (3, .int z3), (2, .int z1), (0, .ref a0), (1, .int p1)]) F.1 F.2.1 dX11_fillAt_62 hl (by decide) rfl (fun ls hl => ?_)
    refine lv_aload_n F.1 F.2.1 dX11_fillAt_64 rfl (lv_at hl 5 rfl) ?_
    refine gF (v := .ref a1) F hE hP 0 rfl rfl inX11 0 (by decide) q162 rfl dX11_fillAt_65 ?_
    refine lv_iload F.1 F.2.1 dX11_fillAt_68 (lv_at hl 0 rfl) ?_
    obtain ⟨z10, k11, h⟩ := bd_ok h
    refine cRV1 (As := [.int z8]) (rest := []) (post := catp [wX8 g a10 a11 a12 a13 a14 a15 a16 ucMn ucMf ucLn ucLf ucTn ucTf, wX5 g a17 a18 a19 a20 a21 a22 a23 a24 a25 uox uoNn uoNf uoMn uoMf uoLn uoLf uoDn uoDf, [(a26, .inr (4, [.ref a27, .ref a29, .ref a31, .int uac]))], wX7 g a27 a28 6 uaWn uaWf, wX7 g a29 a30 6 uaDn uaDf, wX7 g a31 a32 6 uaLn uaLf] []) F hE hX hS (tX9_numberAt l dC dI g a1 a2 a3 a4 a5 a6 a7 a8 a9 usx usNn usNf usMn usMf usLn usLf usKn usKf z8 k11) mbX9_numberAt q1158 ⟨(Nat.le_of_ble_eq_true rfl), (Nat.le_of_ble_eq_true rfl)⟩ ⟨Nat.zero_le _, Nat.zero_le _⟩ hP [[(a0, .inr (13, [.ref a1, .ref a10, .ref a17, .ref a26, .int uk, .int ul, .int ur]))]] rfl 0 rfl rfl rfl hl.1 rfl (Nat.le_of_ble_eq_true rfl) dX11_fillAt_70 ?_
    refine lv_istore (lv' := [(5, .int z10), (6, .int z8), (4, .int z5), (3, .int z3), (2, .int z1), (0, .ref a0), (1, .int p1)]) F.1 F.2.1 dX11_fillAt_73 hl (by decide) rfl (fun ls hl => ?_)
    refine lv_aload_n F.1 F.2.1 dX11_fillAt_75 rfl (lv_at hl 5 rfl) ?_
    refine lv_iload F.1 F.2.1 dX11_fillAt_76 (lv_at hl 1 rfl) ?_
    refine lv_iload_n F.1 F.2.1 dX11_fillAt_78 rfl (lv_at hl 4 rfl) ?_
    refine lv_iload_n F.1 F.2.1 dX11_fillAt_79 rfl (lv_at hl 3 rfl) ?_
    obtain ⟨z12, k13, h⟩ := bd_ok h
    refine cMVA (As := [.int z8, .int z1, .int z3]) (rest := []) (ws' := catp [[(a0, .inr (13, [.ref a1, .ref a10, .ref a17, .ref a26, .int uk, .int ul, .int ur]))], wX9 g a1 a2 a3 a4 a5 a6 a7 a8 a9 usx z12.1 z12.2.1 z12.2.2.1 z12.2.2.2.1 z12.2.2.2.2.1 z12.2.2.2.2.2.1 z12.2.2.2.2.2.2.1 z12.2.2.2.2.2.2.2.1, wX8 g a10 a11 a12 a13 a14 a15 a16 z12.2.2.2.2.2.2.2.2.1 z12.2.2.2.2.2.2.2.2.2.1 z12.2.2.2.2.2.2.2.2.2.2.1 z12.2.2.2.2.2.2.2.2.2.2.2.1 ucTn z12.2.2.2.2.2.2.2.2.2.2.2.2.1, wX5 g a17 a18 a19 a20 a21 a22 a23 a24 a25 uox uoNn uoNf uoMn uoMf uoLn uoLf uoDn uoDf, [(a26, .inr (4, [.ref a27, .ref a29, .ref a31, .int uac]))], wX7 g a27 a28 6 uaWn uaWf, wX7 g a29 a30 6 uaDn uaDf, wX7 g a31 a32 6 uaLn z12.2.2.2.2.2.2.2.2.2.2.2.2.2] []) F hE hX (tX11_cutSpool l dC dI g a0 a1 a2 a3 a4 a5 a6 a7 a8 a9 a10 a11 a12 a13 a14 a15 a16 a17 a18 a19 a20 a21 a22 a23 a24 a25 a26 a27 a28 a29 a30 a31 a32 uk ul ur usx usNn usNf usMn usMf usLn usLf usKn usKf ucMn ucMf ucLn ucLf ucTn ucTf uox uoNn uoNf uoMn uoMf uoLn uoLf uoDn uoDf uac uaWn uaWf uaDn uaDf uaLn uaLf z8 z1 z3 k13) mbX11_cutSpool q1162 ⟨(Nat.le_of_ble_eq_true rfl), (Nat.le_of_ble_eq_true rfl)⟩ ⟨(Nat.le_of_ble_eq_true rfl), (Nat.le_of_ble_eq_true rfl)⟩ hP hD hS hA rfl rfl rfl 0 rfl rfl rfl hl.1 rfl (Nat.le_of_ble_eq_true rfl) dX11_fillAt_80 (fun H locs hP hD hS => ?_)
    refine lv_aload_n F.1 F.2.1 dX11_fillAt_83 rfl (lv_at hl 5 rfl) ?_
    refine gF (v := .ref a26) F hE hP 0 rfl rfl inX11 3 (by decide) q170 rfl dX11_fillAt_84 ?_
    refine gFN (v := .ref a29) F hE hP 26 rfl rfl inX1 1 (by decide) q145 rfl dX11_fillAt_87 ?_
    refine lv_iload_n F.1 F.2.1 dX11_fillAt_90 rfl (lv_at hl 4 rfl) ?_
    obtain ⟨z14, k15, h⟩ := bd_ok h
    refine cRSN0 (As := [.int z1]) (rest := [.ref a29]) F hE hX hS (tX12_placeOf l dC dI g z1 k15) mbX12_placeOf q478 ⟨(Nat.le_of_ble_eq_true rfl), (Nat.le_of_ble_eq_true rfl)⟩ ⟨Nat.zero_le _, Nat.zero_le _⟩ hP rfl hl.1 rfl (Nat.le_of_ble_eq_true rfl) dX11_fillAt_91 ?_
    refine lv_iload_n F.1 F.2.1 dX11_fillAt_94 rfl (lv_at hl 3 rfl) ?_
    obtain ⟨z16, k17, h⟩ := bd_ok h
    refine cMV1 (As := [.int z14, .int z3]) (rest := []) (post := catp [wX7 g a31 a32 6 uaLn z12.2.2.2.2.2.2.2.2.2.2.2.2.2] []) (ws' := catp [[(a0, .inr (13, [.ref a1, .ref a10, .ref a17, .ref a26, .int uk, .int ul, .int ur]))], wX9 g a1 a2 a3 a4 a5 a6 a7 a8 a9 usx z12.1 z12.2.1 z12.2.2.1 z12.2.2.2.1 z12.2.2.2.2.1 z12.2.2.2.2.2.1 z12.2.2.2.2.2.2.1 z12.2.2.2.2.2.2.2.1, wX8 g a10 a11 a12 a13 a14 a15 a16 z12.2.2.2.2.2.2.2.2.1 z12.2.2.2.2.2.2.2.2.2.1 z12.2.2.2.2.2.2.2.2.2.2.1 z12.2.2.2.2.2.2.2.2.2.2.2.1 ucTn z12.2.2.2.2.2.2.2.2.2.2.2.2.1, wX5 g a17 a18 a19 a20 a21 a22 a23 a24 a25 uox uoNn uoNf uoMn uoMf uoLn uoLf uoDn uoDf, [(a26, .inr (4, [.ref a27, .ref a29, .ref a31, .int uac]))], wX7 g a27 a28 6 uaWn uaWf, wX7 g a29 a30 6 uaDn z16, wX7 g a31 a32 6 uaLn z12.2.2.2.2.2.2.2.2.2.2.2.2.2] []) F hE hX (tX7_increase l dC dI g a29 a30 6 uaDn uaDf z14 z3 k17) mbX7_increase q966 ⟨(Nat.le_of_ble_eq_true rfl), (Nat.le_of_ble_eq_true rfl)⟩ ⟨(Nat.le_of_ble_eq_true rfl), (Nat.le_of_ble_eq_true rfl)⟩ hP hD hS hA [[(a0, .inr (13, [.ref a1, .ref a10, .ref a17, .ref a26, .int uk, .int ul, .int ur]))], wX9 g a1 a2 a3 a4 a5 a6 a7 a8 a9 usx z12.1 z12.2.1 z12.2.2.1 z12.2.2.2.1 z12.2.2.2.2.1 z12.2.2.2.2.2.1 z12.2.2.2.2.2.2.1 z12.2.2.2.2.2.2.2.1, wX8 g a10 a11 a12 a13 a14 a15 a16 z12.2.2.2.2.2.2.2.2.1 z12.2.2.2.2.2.2.2.2.2.1 z12.2.2.2.2.2.2.2.2.2.2.1 z12.2.2.2.2.2.2.2.2.2.2.2.1 ucTn z12.2.2.2.2.2.2.2.2.2.2.2.2.1, wX5 g a17 a18 a19 a20 a21 a22 a23 a24 a25 uox uoNn uoNf uoMn uoMf uoLn uoLf uoDn uoDf, [(a26, .inr (4, [.ref a27, .ref a29, .ref a31, .int uac]))], wX7 g a27 a28 6 uaWn uaWf] rfl rfl rfl 0 rfl rfl rfl hl.1 rfl (Nat.le_of_ble_eq_true rfl) dX11_fillAt_95 (fun H locs hP hD hS => ?_)
    refine lv_aload_n F.1 F.2.1 dX11_fillAt_98 rfl (lv_at hl 5 rfl) ?_
    refine gF (v := .ref a26) F hE hP 0 rfl rfl inX11 3 (by decide) q170 rfl dX11_fillAt_99 ?_
    refine lv_dup F.1 F.2.1 dX11_fillAt_102 rfl ?_
    refine gFN (v := .int uac) F hE hP 26 rfl rfl inX1 3 (by decide) q151 rfl dX11_fillAt_103 ?_
    refine lv_iconst (v := 1) F.1 F.2.1 dX11_fillAt_106 (by decide) ?_
    refine lv_iadd F.1 F.2.1 dX11_fillAt_107 ?_
    refine pFN (v := .int (uac + 1)) F hE hP hD hS 26 rfl rfl inX1 tyX1 tyX1_ok nmX1 3 (by decide) q151 rfl rfl rfl (Nat.le_of_ble_eq_true rfl) dX11_fillAt_108 (fun H locs hP hD hS => ?_)
    replace hP : va_P (dC, dI) vwCl (catp [[(a0, .inr (13, [.ref a1, .ref a10, .ref a17, .ref a26, .int uk, .int ul, .int ur]))], wX9 g a1 a2 a3 a4 a5 a6 a7 a8 a9 usx z12.1 z12.2.1 z12.2.2.1 z12.2.2.2.1 z12.2.2.2.2.1 z12.2.2.2.2.2.1 z12.2.2.2.2.2.2.1 z12.2.2.2.2.2.2.2.1, wX8 g a10 a11 a12 a13 a14 a15 a16 z12.2.2.2.2.2.2.2.2.1 z12.2.2.2.2.2.2.2.2.2.1 z12.2.2.2.2.2.2.2.2.2.2.1 z12.2.2.2.2.2.2.2.2.2.2.2.1 ucTn z12.2.2.2.2.2.2.2.2.2.2.2.2.1, wX5 g a17 a18 a19 a20 a21 a22 a23 a24 a25 uox uoNn uoNf uoMn uoMf uoLn uoLf uoDn uoDf, [(a26, .inr (4, [.ref a27, .ref a29, .ref a31, .int (uac + 1)]))], wX7 g a27 a28 6 uaWn uaWf, wX7 g a29 a30 6 uaDn z16, wX7 g a31 a32 6 uaLn z12.2.2.2.2.2.2.2.2.2.2.2.2.2] []) H := hP
    replace hD : va_D A (catp [[(a0, .inr (13, [.ref a1, .ref a10, .ref a17, .ref a26, .int uk, .int ul, .int ur]))], wX9 g a1 a2 a3 a4 a5 a6 a7 a8 a9 usx z12.1 z12.2.1 z12.2.2.1 z12.2.2.2.1 z12.2.2.2.2.1 z12.2.2.2.2.2.1 z12.2.2.2.2.2.2.1 z12.2.2.2.2.2.2.2.1, wX8 g a10 a11 a12 a13 a14 a15 a16 z12.2.2.2.2.2.2.2.2.1 z12.2.2.2.2.2.2.2.2.2.1 z12.2.2.2.2.2.2.2.2.2.2.1 z12.2.2.2.2.2.2.2.2.2.2.2.1 ucTn z12.2.2.2.2.2.2.2.2.2.2.2.2.1, wX5 g a17 a18 a19 a20 a21 a22 a23 a24 a25 uox uoNn uoNf uoMn uoMf uoLn uoLf uoDn uoDf, [(a26, .inr (4, [.ref a27, .ref a29, .ref a31, .int (uac + 1)]))], wX7 g a27 a28 6 uaWn uaWf, wX7 g a29 a30 6 uaDn z16, wX7 g a31 a32 6 uaLn z12.2.2.2.2.2.2.2.2.2.2.2.2.2] []) := hD
    refine lv_aload_n F.1 F.2.1 dX11_fillAt_111 rfl (lv_at hl 5 rfl) ?_
    refine gF (v := .ref a17) F hE hP 0 rfl rfl inX11 2 (by decide) q167 rfl dX11_fillAt_112 ?_
    refine lv_iload_n F.1 F.2.1 dX11_fillAt_115 rfl (lv_at hl 6 rfl) ?_
    obtain ⟨z18, k19, h⟩ := bd_ok h
    refine cMV1 (As := [.int p1]) (rest := []) (post := catp [[(a26, .inr (4, [.ref a27, .ref a29, .ref a31, .int (uac + 1)]))], wX7 g a27 a28 6 uaWn uaWf, wX7 g a29 a30 6 uaDn z16, wX7 g a31 a32 6 uaLn z12.2.2.2.2.2.2.2.2.2.2.2.2.2] []) (ws' := catp [[(a0, .inr (13, [.ref a1, .ref a10, .ref a17, .ref a26, .int uk, .int ul, .int ur]))], wX9 g a1 a2 a3 a4 a5 a6 a7 a8 a9 usx z12.1 z12.2.1 z12.2.2.1 z12.2.2.2.1 z12.2.2.2.2.1 z12.2.2.2.2.2.1 z12.2.2.2.2.2.2.1 z12.2.2.2.2.2.2.2.1, wX8 g a10 a11 a12 a13 a14 a15 a16 z12.2.2.2.2.2.2.2.2.1 z12.2.2.2.2.2.2.2.2.2.1 z12.2.2.2.2.2.2.2.2.2.2.1 z12.2.2.2.2.2.2.2.2.2.2.2.1 ucTn z12.2.2.2.2.2.2.2.2.2.2.2.2.1, wX5 g a17 a18 a19 a20 a21 a22 a23 a24 a25 uox z18.1 z18.2.1 z18.2.2.1 z18.2.2.2.1 z18.2.2.2.2.1 z18.2.2.2.2.2.1 z18.2.2.2.2.2.2.1 z18.2.2.2.2.2.2.2, [(a26, .inr (4, [.ref a27, .ref a29, .ref a31, .int (uac + 1)]))], wX7 g a27 a28 6 uaWn uaWf, wX7 g a29 a30 6 uaDn z16, wX7 g a31 a32 6 uaLn z12.2.2.2.2.2.2.2.2.2.2.2.2.2] []) F hE hX (tX5_removeAt l dC dI g a17 a18 a19 a20 a21 a22 a23 a24 a25 uox uoNn uoNf uoMn uoMf uoLn uoLf uoDn uoDf p1 k19) mbX5_removeAt q1091 ⟨(Nat.le_of_ble_eq_true rfl), (Nat.le_of_ble_eq_true rfl)⟩ ⟨(Nat.le_of_ble_eq_true rfl), (Nat.le_of_ble_eq_true rfl)⟩ hP hD hS hA [[(a0, .inr (13, [.ref a1, .ref a10, .ref a17, .ref a26, .int uk, .int ul, .int ur]))], wX9 g a1 a2 a3 a4 a5 a6 a7 a8 a9 usx z12.1 z12.2.1 z12.2.2.1 z12.2.2.2.1 z12.2.2.2.2.1 z12.2.2.2.2.2.1 z12.2.2.2.2.2.2.1 z12.2.2.2.2.2.2.2.1, wX8 g a10 a11 a12 a13 a14 a15 a16 z12.2.2.2.2.2.2.2.2.1 z12.2.2.2.2.2.2.2.2.2.1 z12.2.2.2.2.2.2.2.2.2.2.1 z12.2.2.2.2.2.2.2.2.2.2.2.1 ucTn z12.2.2.2.2.2.2.2.2.2.2.2.2.1] rfl rfl rfl 0 rfl rfl rfl hl.1 rfl (Nat.le_of_ble_eq_true rfl) dX11_fillAt_116 (fun H locs hP hD hS => ?_)
    refine lv_iload F.1 F.2.1 dX11_fillAt_119 (lv_at hl 0 rfl) ?_
    cases h
    exact MU_i F hr hlocks (Nat.le_refl _) (Nat.le_refl _) hP hS dX11_fillAt_121
  · replace h := it_f k7 h
    refine lv_aload_n F.1 F.2.1 dX11_fillAt_38 rfl (lv_at hl 4 rfl) ?_
    refine lv_iload F.1 F.2.1 dX11_fillAt_39 (lv_at hl 1 rfl) ?_
    refine lv_iload_n F.1 F.2.1 dX11_fillAt_41 rfl (lv_at hl 3 rfl) ?_
    refine lv_iload_n F.1 F.2.1 dX11_fillAt_42 rfl (lv_at hl 2 rfl) ?_
    obtain ⟨z20, k21, h⟩ := bd_ok h
    refine cMVA (As := [.int z5, .int z1, .int z3]) (rest := []) (ws' := catp [[(a0, .inr (13, [.ref a1, .ref a10, .ref a17, .ref a26, .int uk, .int ul, .int ur]))], wX9 g a1 a2 a3 a4 a5 a6 a7 a8 a9 usx usNn usNf usMn usMf usLn usLf usKn usKf, wX8 g a10 a11 a12 a13 a14 a15 a16 z20.1 z20.2.1 z20.2.2.1 z20.2.2.2.1 ucTn z20.2.2.2.2.1, wX5 g a17 a18 a19 a20 a21 a22 a23 a24 a25 uox uoNn uoNf uoMn uoMf uoLn uoLf uoDn uoDf, [(a26, .inr (4, [.ref a27, .ref a29, .ref a31, .int uac]))], wX7 g a27 a28 6 uaWn uaWf, wX7 g a29 a30 6 uaDn uaDf, wX7 g a31 a32 6 uaLn z20.2.2.2.2.2] []) F hE hX (tX11_cutScrap l dC dI g a0 a1 a2 a3 a4 a5 a6 a7 a8 a9 a10 a11 a12 a13 a14 a15 a16 a17 a18 a19 a20 a21 a22 a23 a24 a25 a26 a27 a28 a29 a30 a31 a32 uk ul ur usx usNn usNf usMn usMf usLn usLf usKn usKf ucMn ucMf ucLn ucLf ucTn ucTf uox uoNn uoNf uoMn uoMf uoLn uoLf uoDn uoDf uac uaWn uaWf uaDn uaDf uaLn uaLf z5 z1 z3 k21) mbX11_cutScrap q1145 ⟨(Nat.le_of_ble_eq_true rfl), (Nat.le_of_ble_eq_true rfl)⟩ ⟨(Nat.le_of_ble_eq_true rfl), (Nat.le_of_ble_eq_true rfl)⟩ hP hD hS hA rfl rfl rfl 0 rfl rfl rfl hl.1 rfl (Nat.le_of_ble_eq_true rfl) dX11_fillAt_43 (fun H locs hP hD hS => ?_)
    refine lv_goto (tgt := 83) F.1 F.2.1 dX11_fillAt_46 (by decide) ?_
    refine lv_aload_n F.1 F.2.1 dX11_fillAt_83 rfl (lv_at hl 4 rfl) ?_
    refine gF (v := .ref a26) F hE hP 0 rfl rfl inX11 3 (by decide) q170 rfl dX11_fillAt_84 ?_
    refine gFN (v := .ref a29) F hE hP 26 rfl rfl inX1 1 (by decide) q145 rfl dX11_fillAt_87 ?_
    refine lv_iload_n F.1 F.2.1 dX11_fillAt_90 rfl (lv_at hl 3 rfl) ?_
    obtain ⟨z22, k23, h⟩ := bd_ok h
    refine cRSN0 (As := [.int z1]) (rest := [.ref a29]) F hE hX hS (tX12_placeOf l dC dI g z1 k23) mbX12_placeOf q478 ⟨(Nat.le_of_ble_eq_true rfl), (Nat.le_of_ble_eq_true rfl)⟩ ⟨Nat.zero_le _, Nat.zero_le _⟩ hP rfl hl.1 rfl (Nat.le_of_ble_eq_true rfl) dX11_fillAt_91 ?_
    refine lv_iload_n F.1 F.2.1 dX11_fillAt_94 rfl (lv_at hl 2 rfl) ?_
    obtain ⟨z24, k25, h⟩ := bd_ok h
    refine cMV1 (As := [.int z22, .int z3]) (rest := []) (post := catp [wX7 g a31 a32 6 uaLn z20.2.2.2.2.2] []) (ws' := catp [[(a0, .inr (13, [.ref a1, .ref a10, .ref a17, .ref a26, .int uk, .int ul, .int ur]))], wX9 g a1 a2 a3 a4 a5 a6 a7 a8 a9 usx usNn usNf usMn usMf usLn usLf usKn usKf, wX8 g a10 a11 a12 a13 a14 a15 a16 z20.1 z20.2.1 z20.2.2.1 z20.2.2.2.1 ucTn z20.2.2.2.2.1, wX5 g a17 a18 a19 a20 a21 a22 a23 a24 a25 uox uoNn uoNf uoMn uoMf uoLn uoLf uoDn uoDf, [(a26, .inr (4, [.ref a27, .ref a29, .ref a31, .int uac]))], wX7 g a27 a28 6 uaWn uaWf, wX7 g a29 a30 6 uaDn z24, wX7 g a31 a32 6 uaLn z20.2.2.2.2.2] []) F hE hX (tX7_increase l dC dI g a29 a30 6 uaDn uaDf z22 z3 k25) mbX7_increase q966 ⟨(Nat.le_of_ble_eq_true rfl), (Nat.le_of_ble_eq_true rfl)⟩ ⟨(Nat.le_of_ble_eq_true rfl), (Nat.le_of_ble_eq_true rfl)⟩ hP hD hS hA [[(a0, .inr (13, [.ref a1, .ref a10, .ref a17, .ref a26, .int uk, .int ul, .int ur]))], wX9 g a1 a2 a3 a4 a5 a6 a7 a8 a9 usx usNn usNf usMn usMf usLn usLf usKn usKf, wX8 g a10 a11 a12 a13 a14 a15 a16 z20.1 z20.2.1 z20.2.2.1 z20.2.2.2.1 ucTn z20.2.2.2.2.1, wX5 g a17 a18 a19 a20 a21 a22 a23 a24 a25 uox uoNn uoNf uoMn uoMf uoLn uoLf uoDn uoDf, [(a26, .inr (4, [.ref a27, .ref a29, .ref a31, .int uac]))], wX7 g a27 a28 6 uaWn uaWf] rfl rfl rfl 0 rfl rfl rfl hl.1 rfl (Nat.le_of_ble_eq_true rfl) dX11_fillAt_95 (fun H locs hP hD hS => ?_)
    refine lv_aload_n F.1 F.2.1 dX11_fillAt_98 rfl (lv_at hl 4 rfl) ?_
    refine gF (v := .ref a26) F hE hP 0 rfl rfl inX11 3 (by decide) q170 rfl dX11_fillAt_99 ?_
    refine lv_dup F.1 F.2.1 dX11_fillAt_102 rfl ?_
    refine gFN (v := .int uac) F hE hP 26 rfl rfl inX1 3 (by decide) q151 rfl dX11_fillAt_103 ?_
    refine lv_iconst (v := 1) F.1 F.2.1 dX11_fillAt_106 (by decide) ?_
    refine lv_iadd F.1 F.2.1 dX11_fillAt_107 ?_
    refine pFN (v := .int (uac + 1)) F hE hP hD hS 26 rfl rfl inX1 tyX1 tyX1_ok nmX1 3 (by decide) q151 rfl rfl rfl (Nat.le_of_ble_eq_true rfl) dX11_fillAt_108 (fun H locs hP hD hS => ?_)
    replace hP : va_P (dC, dI) vwCl (catp [[(a0, .inr (13, [.ref a1, .ref a10, .ref a17, .ref a26, .int uk, .int ul, .int ur]))], wX9 g a1 a2 a3 a4 a5 a6 a7 a8 a9 usx usNn usNf usMn usMf usLn usLf usKn usKf, wX8 g a10 a11 a12 a13 a14 a15 a16 z20.1 z20.2.1 z20.2.2.1 z20.2.2.2.1 ucTn z20.2.2.2.2.1, wX5 g a17 a18 a19 a20 a21 a22 a23 a24 a25 uox uoNn uoNf uoMn uoMf uoLn uoLf uoDn uoDf, [(a26, .inr (4, [.ref a27, .ref a29, .ref a31, .int (uac + 1)]))], wX7 g a27 a28 6 uaWn uaWf, wX7 g a29 a30 6 uaDn z24, wX7 g a31 a32 6 uaLn z20.2.2.2.2.2] []) H := hP
    replace hD : va_D A (catp [[(a0, .inr (13, [.ref a1, .ref a10, .ref a17, .ref a26, .int uk, .int ul, .int ur]))], wX9 g a1 a2 a3 a4 a5 a6 a7 a8 a9 usx usNn usNf usMn usMf usLn usLf usKn usKf, wX8 g a10 a11 a12 a13 a14 a15 a16 z20.1 z20.2.1 z20.2.2.1 z20.2.2.2.1 ucTn z20.2.2.2.2.1, wX5 g a17 a18 a19 a20 a21 a22 a23 a24 a25 uox uoNn uoNf uoMn uoMf uoLn uoLf uoDn uoDf, [(a26, .inr (4, [.ref a27, .ref a29, .ref a31, .int (uac + 1)]))], wX7 g a27 a28 6 uaWn uaWf, wX7 g a29 a30 6 uaDn z24, wX7 g a31 a32 6 uaLn z20.2.2.2.2.2] []) := hD
    refine lv_aload_n F.1 F.2.1 dX11_fillAt_111 rfl (lv_at hl 4 rfl) ?_
    refine gF (v := .ref a17) F hE hP 0 rfl rfl inX11 2 (by decide) q167 rfl dX11_fillAt_112 ?_
    refine lv_iload_n F.1 F.2.1 dX11_fillAt_115 rfl (lv_at hl 5 rfl) ?_
    obtain ⟨z26, k27, h⟩ := bd_ok h
    refine cMV1 (As := [.int p1]) (rest := []) (post := catp [[(a26, .inr (4, [.ref a27, .ref a29, .ref a31, .int (uac + 1)]))], wX7 g a27 a28 6 uaWn uaWf, wX7 g a29 a30 6 uaDn z24, wX7 g a31 a32 6 uaLn z20.2.2.2.2.2] []) (ws' := catp [[(a0, .inr (13, [.ref a1, .ref a10, .ref a17, .ref a26, .int uk, .int ul, .int ur]))], wX9 g a1 a2 a3 a4 a5 a6 a7 a8 a9 usx usNn usNf usMn usMf usLn usLf usKn usKf, wX8 g a10 a11 a12 a13 a14 a15 a16 z20.1 z20.2.1 z20.2.2.1 z20.2.2.2.1 ucTn z20.2.2.2.2.1, wX5 g a17 a18 a19 a20 a21 a22 a23 a24 a25 uox z26.1 z26.2.1 z26.2.2.1 z26.2.2.2.1 z26.2.2.2.2.1 z26.2.2.2.2.2.1 z26.2.2.2.2.2.2.1 z26.2.2.2.2.2.2.2, [(a26, .inr (4, [.ref a27, .ref a29, .ref a31, .int (uac + 1)]))], wX7 g a27 a28 6 uaWn uaWf, wX7 g a29 a30 6 uaDn z24, wX7 g a31 a32 6 uaLn z20.2.2.2.2.2] []) F hE hX (tX5_removeAt l dC dI g a17 a18 a19 a20 a21 a22 a23 a24 a25 uox uoNn uoNf uoMn uoMf uoLn uoLf uoDn uoDf p1 k27) mbX5_removeAt q1091 ⟨(Nat.le_of_ble_eq_true rfl), (Nat.le_of_ble_eq_true rfl)⟩ ⟨(Nat.le_of_ble_eq_true rfl), (Nat.le_of_ble_eq_true rfl)⟩ hP hD hS hA [[(a0, .inr (13, [.ref a1, .ref a10, .ref a17, .ref a26, .int uk, .int ul, .int ur]))], wX9 g a1 a2 a3 a4 a5 a6 a7 a8 a9 usx usNn usNf usMn usMf usLn usLf usKn usKf, wX8 g a10 a11 a12 a13 a14 a15 a16 z20.1 z20.2.1 z20.2.2.1 z20.2.2.2.1 ucTn z20.2.2.2.2.1] rfl rfl rfl 0 rfl rfl rfl hl.1 rfl (Nat.le_of_ble_eq_true rfl) dX11_fillAt_116 (fun H locs hP hD hS => ?_)
    refine lv_iload F.1 F.2.1 dX11_fillAt_119 (lv_at hl 0 rfl) ?_
    cases h
    exact MU_i F hr hlocks (Nat.le_refl _) (Nat.le_refl _) hP hS dX11_fillAt_121
