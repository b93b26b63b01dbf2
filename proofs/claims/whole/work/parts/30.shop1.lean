/-! WireCutter$Workshop.retireSpool -/
def fX11_retireSpool (usNn : Int32) (usNf : Nat → Int32) (usMn : Int32) (usMf : Nat → Int32) (usLn : Int32) (usLf : Nat → Int32) (usKn : Int32) (usKf : Nat → Int32) (ucMn : Int32) (ucMf : Nat → Int32) (ucLn : Int32) (ucLf : Nat → Int32) (ucTn : Int32) (ucTf : Nat → Int32) (p1 : Int32) : Option ((Except String Int32) × Int32 × (Nat → Int32) × Int32 × (Nat → Int32) × Int32 × (Nat → Int32) × Int32 × (Nat → Int32) × Int32 × (Nat → Int32) × Int32 × (Nat → Int32) × (Nat → Int32)) :=
  (fX11_existingSpool usNn usNf p1).bind fun z1 =>
  exC z1 (fun e5 => some (.error e5, usNn, usNf, usMn, usMf, usLn, usLf, usKn, usKf, ucMn, ucMf, ucLn, ucLf, ucTf)) fun v3 =>
  (fX9_lengthAt usLn usLf v3).bind fun z6 =>
  (fX9_materialAt usMn usMf v3).bind fun z8 =>
  (fX8_keepOrThrow ucMn ucMf ucLn ucLf ucTn ucTf z8 z6).bind fun z10 =>
  (fX9_removeAt usNn usNf usMn usMf usLn usLf usKn usKf v3).bind fun z12 =>
  some (.ok z6, z12.1, z12.2.1, z12.2.2.1, z12.2.2.2.1, z12.2.2.2.2.1, z12.2.2.2.2.2.1, z12.2.2.2.2.2.2.1, z12.2.2.2.2.2.2.2, z10.1, z10.2.1, z10.2.2.1, z10.2.2.2.1, z10.2.2.2.2)
theorem mbX11_retireSpool : MV yX11_retireSpool cX11_retireSpool 4 (some .int) 1 := ⟨⟨q990, q2, by decide +kernel⟩, q988, q989⟩
set_option maxHeartbeats 4000000 in
set_option maxRecDepth 100000 in
theorem tX11_retireSpool (l : Launch) (hl9 : l.stackTraces = false) (dC : Nat → ClassId) (dI : Nat → Nat → Nat) (g : Nat → ClassId) (a0 a1 a2 a3 a4 a5 a6 a7 a8 a9 a10 a11 a12 a13 a14 a15 a16 a17 a18 a19 a20 a21 a22 a23 a24 a25 a26 a27 a28 a29 a30 a31 a32 : Nat) (uk : Int32) (ul : Int32) (ur : Int32) (usx : Int32) (usNn : Int32) (usNf : Nat → Int32) (usMn : Int32) (usMf : Nat → Int32) (usLn : Int32) (usLf : Nat → Int32) (usKn : Int32) (usKf : Nat → Int32) (ucMn : Int32) (ucMf : Nat → Int32) (ucLn : Int32) (ucLf : Nat → Int32) (ucTn : Int32) (ucTf : Nat → Int32) (uox : Int32) (uoNn : Int32) (uoNf : Nat → Int32) (uoMn : Int32) (uoMf : Nat → Int32) (uoLn : Int32) (uoLf : Nat → Int32) (uoDn : Int32) (uoDf : Nat → Int32) (uac : Int32) (uaWn : Int32) (uaWf : Nat → Int32) (uaDn : Int32) (uaDf : Nat → Int32) (uaLn : Int32) (uaLf : Nat → Int32) (p1 : Int32) {r : (Except String Int32) × Int32 × (Nat → Int32) × Int32 × (Nat → Int32) × Int32 × (Nat → Int32) × Int32 × (Nat → Int32) × Int32 × (Nat → Int32) × Int32 × (Nat → Int32) × (Nat → Int32)} (h : fX11_retireSpool usNn usNf usMn usMf usLn usLf usKn usKf ucMn ucMf ucLn ucLf ucTn ucTf p1 = some r) : MX vI l yX11_retireSpool cX11_retireSpool 4 (some .int) 7 104 1 6 dC dI g [.ref a0, .int p1] (wX11 g a0 a1 a2 a3 a4 a5 a6 a7 a8 a9 a10 a11 a12 a13 a14 a15 a16 a17 a18 a19 a20 a21 a22 a23 a24 a25 a26 a27 a28 a29 a30 a31 a32 uk ul ur usx usNn usNf usMn usMf usLn usLf usKn usKf ucMn ucMf ucLn ucLf ucTn ucTf uox uoNn uoNf uoMn uoMf uoLn uoLf uoDn uoDf uac uaWn uaWf uaDn uaDf uaLn uaLf) (wX11 g a0 a1 a2 a3 a4 a5 a6 a7 a8 a9 a10 a11 a12 a13 a14 a15 a16 a17 a18 a19 a20 a21 a22 a23 a24 a25 a26 a27 a28 a29 a30 a31 a32 uk ul ur usx r.2.1 r.2.2.1 r.2.2.2.1 r.2.2.2.2.1 r.2.2.2.2.2.1 r.2.2.2.2.2.2.1 r.2.2.2.2.2.2.2.1 r.2.2.2.2.2.2.2.2.1 r.2.2.2.2.2.2.2.2.2.1 r.2.2.2.2.2.2.2.2.2.2.1 r.2.2.2.2.2.2.2.2.2.2.2.1 r.2.2.2.2.2.2.2.2.2.2.2.2.1 ucTn r.2.2.2.2.2.2.2.2.2.2.2.2.2 uox uoNn uoNf uoMn uoMf uoLn uoLf uoDn uoDf uac uaWn uaWf uaDn uaDf uaLn uaLf) r.1 := by
  refine MX_of (by decide) (Nat.le_of_ble_eq_true rfl) ?_
  intro p e s m below meth c ls F hr hlocks ht hE hX hA hP hD hS hl
  generalize va_A (wX11 g a0 a1 a2 a3 a4 a5 a6 a7 a8 a9 a10 a11 a12 a13 a14 a15 a16 a17 a18 a19 a20 a21 a22 a23 a24 a25 a26 a27 a28 a29 a30 a31 a32 uk ul ur usx usNn usNf usMn usMf usLn usLf usKn usKf ucMn ucMf ucLn ucLf ucTn ucTf uox uoNn uoNf uoMn uoMf uoLn uoLf uoDn uoDf uac uaWn uaWf uaDn uaDf uaLn uaLf) s.heap.size = A at hA hD hS hX ⊢
  replace F : CF p m c cX11_retireSpool 4 s _ RX11 := F
  replace hl : lv_has ls 4 [(0, .ref a0), (1, .int p1)] := hl
  rw [fX11_retireSpool] at h
  replace hP : va_P (dC, dI) vwCl (catp [[(a0, .inr (13, [.ref a1, .ref a10, .ref a17, .ref a26, .int uk, .int ul, .int ur]))], wX9 g a1 a2 a3 a4 a5 a6 a7 a8 a9 usx usNn usNf usMn usMf usLn usLf usKn usKf, wX8 g a10 a11 a12 a13 a14 a15 a16 ucMn ucMf ucLn ucLf ucTn ucTf, wX5 g a17 a18 a19 a20 a21 a22 a23 a24 a25 uox uoNn uoNf uoMn uoMf uoLn uoLf uoDn uoDf, wX1 g a26 a27 a28 a29 a30 a31 a32 uac uaWn uaWf uaDn uaDf uaLn uaLf] []) s.heap := hP
  replace hD : va_D A (catp [[(a0, .inr (13, [.ref a1, .ref a10, .ref a17, .ref a26, .int uk, .int ul, .int ur]))], wX9 g a1 a2 a3 a4 a5 a6 a7 a8 a9 usx usNn usNf usMn usMf usLn usLf usKn usKf, wX8 g a10 a11 a12 a13 a14 a15 a16 ucMn ucMf ucLn ucLf ucTn ucTf, wX5 g a17 a18 a19 a20 a21 a22 a23 a24 a25 uox uoNn uoNf uoMn uoMf uoLn uoLf uoDn uoDf, wX1 g a26 a27 a28 a29 a30 a31 a32 uac uaWn uaWf uaDn uaDf uaLn uaLf] []) := hD
  refine lv_aload_n F.1 F.2.1 dX11_retireSpool_0 rfl (lv_at hl 0 rfl) ?_
  refine lv_iload_n F.1 F.2.1 dX11_retireSpool_1 rfl (lv_at hl 1 rfl) ?_
  obtain ⟨z1, k2, h⟩ := bd_ok h
  refine cXVA (As := [.int p1]) (rest := []) (ws' := catp [[(a0, .inr (13, [.ref a1, .ref a10, .ref a17, .ref a26, .int uk, .int ul, .int ur]))], wX9 g a1 a2 a3 a4 a5 a6 a7 a8 a9 usx usNn usNf usMn usMf usLn usLf usKn usKf, wX8 g a10 a11 a12 a13 a14 a15 a16 ucMn ucMf ucLn ucLf ucTn ucTf, wX5 g a17 a18 a19 a20 a21 a22 a23 a24 a25 uox uoNn uoNf uoMn uoMf uoLn uoLf uoDn uoDf, wX1 g a26 a27 a28 a29 a30 a31 a32 uac uaWn uaWf uaDn uaDf uaLn uaLf] []) F hE hX (tX11_existingSpool l hl9 dC dI g a0 a1 a2 a3 a4 a5 a6 a7 a8 a9 a10 a11 a12 a13 a14 a15 a16 a17 a18 a19 a20 a21 a22 a23 a24 a25 a26 a27 a28 a29 a30 a31 a32 uk ul ur usx usNn usNf usMn usMf usLn usLf usKn usKf ucMn ucMf ucLn ucLf ucTn ucTf uox uoNn uoNf uoMn uoMf uoLn uoLf uoDn uoDf uac uaWn uaWf uaDn uaDf uaLn uaLf p1 k2) mbX11_existingSpool q991 ⟨(Nat.le_of_ble_eq_true rfl), (Nat.le_of_ble_eq_true rfl)⟩ ⟨(Nat.le_of_ble_eq_true rfl), (Nat.le_of_ble_eq_true rfl)⟩ hP hD hS hA rfl rfl rfl 0 rfl rfl rfl hl.1 rfl (Nat.le_of_ble_eq_true rfl) dX11_retireSpool_2 (fun E ce q9 hx9 H locs hP hD hS h7 h8 h9 => ?_) (fun v3 k4 H locs hP hD hS => ?_)
  · replace h := ex_er hx9 h
    cases h
    exact MX_o rfl ht hlocks hP hS h7 h8 h9 (Nat.le_of_ble_eq_true rfl) (Nat.le_of_ble_eq_true rfl)
  replace h := ex_ok k4 h
  refine lv_istore_n (lv' := [(2, .int v3), (0, .ref a0), (1, .int p1)]) F.1 F.2.1 dX11_retireSpool_5 rfl hl (by decide) rfl (fun ls hl => ?_)
  refine lv_aload_n F.1 F.2.1 dX11_retireSpool_6 rfl (lv_at hl 1 rfl) ?_
  refine gF (v := .ref a1) F hE hP 0 rfl rfl inX11 0 (by decide) q162 rfl dX11_retireSpool_7 ?_
  refine lv_iload_n F.1 F.2.1 dX11_retireSpool_10 rfl (lv_at hl 0 rfl) ?_
  obtain ⟨z6, k7, h⟩ := bd_ok h
  refine cRV1 (As := [.int v3]) (rest := []) (post := catp [wX8 g a10 a11 a12 a13 a14 a15 a16 ucMn ucMf ucLn ucLf ucTn ucTf, wX5 g a17 a18 a19 a20 a21 a22 a23 a24 a25 uox uoNn uoNf uoMn uoMf uoLn uoLf uoDn uoDf, wX1 g a26 a27 a28 a29 a30 a31 a32 uac uaWn uaWf uaDn uaDf uaLn uaLf] []) F hE hX hS (tX9_lengthAt l dC dI g a1 a2 a3 a4 a5 a6 a7 a8 a9 usx usNn usNf usMn usMf usLn usLf usKn usKf v3 k7) mbX9_lengthAt q1012 ⟨(Nat.le_of_ble_eq_true rfl), (Nat.le_of_ble_eq_true rfl)⟩ ⟨(Nat.le_of_ble_eq_true rfl), (Nat.le_of_ble_eq_true rfl)⟩ hP [[(a0, .inr (13, [.ref a1, .ref a10, .ref a17, .ref a26, .int uk, .int ul, .int ur]))]] rfl 0 rfl rfl rfl hl.1 rfl (Nat.le_of_ble_eq_true rfl) dX11_retireSpool_11 ?_
  refine lv_istore_n (lv' := [(3, .int z6), (2, .int v3), (0, .ref a0), (1, .int p1)]) F.1 F.2.1 dX11_retireSpool_14 rfl hl (by decide) rfl (fun ls hl => ?_)
  refine lv_aload_n F.1 F.2.1 dX11_retireSpool_15 rfl (lv_at hl 2 rfl) ?_
  refine gF (v := .ref a10) F hE hP 0 rfl rfl inX11 1 (by decide) q165 rfl dX11_retireSpool_16 ?_
  refine lv_aload_n F.1 F.2.1 dX11_retireSpool_19 rfl (lv_at hl 2 rfl) ?_
  refine gF (v := .ref a1) F hE hP 0 rfl rfl inX11 0 (by decide) q162 rfl dX11_retireSpool_20 ?_
  refine lv_iload_n F.1 F.2.1 dX11_retireSpool_23 rfl (lv_at hl 1 rfl) ?_
  obtain ⟨z8, k9, h⟩ := bd_ok h
  refine cRV1 (As := [.int v3]) (rest := [.ref a10]) (post := catp [wX8 g a10 a11 a12 a13 a14 a15 a16 ucMn ucMf ucLn ucLf ucTn ucTf, wX5 g a17 a18 a19 a20 a21 a22 a23 a24 a25 uox uoNn uoNf uoMn uoMf uoLn uoLf uoDn uoDf, wX1 g a26 a27 a28 a29 a30 a31 a32 uac uaWn uaWf uaDn uaDf uaLn uaLf] []) F hE hX hS (tX9_materialAt l dC dI g a1 a2 a3 a4 a5 a6 a7 a8 a9 usx usNn usNf usMn usMf usLn usLf usKn usKf v3 k9) mbX9_materialAt q1013 ⟨(Nat.le_of_ble_eq_true rfl), (Nat.le_of_ble_eq_true rfl)⟩ ⟨(Nat.le_of_ble_eq_true rfl), (Nat.le_of_ble_eq_true rfl)⟩ hP [[(a0, .inr (13, [.ref a1, .ref a10, .ref a17, .ref a26, .int uk, .int ul, .int ur]))]] rfl 0 rfl rfl rfl hl.1 rfl (Nat.le_of_ble_eq_true rfl) dX11_retireSpool_24 ?_
  refine lv_iload_n F.1 F.2.1 dX11_retireSpool_27 rfl (lv_at hl 0 rfl) ?_
  obtain ⟨z10, k11, h⟩ := bd_ok h
  refine cMV1 (As := [.int z8, .int z6]) (rest := []) (post := catp [wX5 g a17 a18 a19 a20 a21 a22 a23 a24 a25 uox uoNn uoNf uoMn uoMf uoLn uoLf uoDn uoDf, wX1 g a26 a27 a28 a29 a30 a31 a32 uac uaWn uaWf uaDn uaDf uaLn uaLf] []) (ws' := catp [[(a0, .inr (13, [.ref a1, .ref a10, .ref a17, .ref a26, .int uk, .int ul, .int ur]))], wX9 g a1 a2 a3 a4 a5 a6 a7 a8 a9 usx usNn usNf usMn usMf usLn usLf usKn usKf, wX8 g a10 a11 a12 a13 a14 a15 a16 z10.1 z10.2.1 z10.2.2.1 z10.2.2.2.1 ucTn z10.2.2.2.2, wX5 g a17 a18 a19 a20 a21 a22 a23 a24 a25 uox uoNn uoNf uoMn uoMf uoLn uoLf uoDn uoDf, wX1 g a26 a27 a28 a29 a30 a31 a32 uac uaWn uaWf uaDn uaDf uaLn uaLf] []) F hE hX (tX8_keepOrThrow l dC dI g a10 a11 a12 a13 a14 a15 a16 ucMn ucMf ucLn ucLf ucTn ucTf z8 z6 k11) mbX8_keepOrThrow q1014 ⟨(Nat.le_of_ble_eq_true rfl), (Nat.le_of_ble_eq_true rfl)⟩ ⟨(Nat.le_of_ble_eq_true rfl), (Nat.le_of_ble_eq_true rfl)⟩ hP hD hS hA [[(a0, .inr (13, [.ref a1, .ref a10, .ref a17, .ref a26, .int uk, .int ul, .int ur]))], wX9 g a1 a2 a3 a4 a5 a6 a7 a8 a9 usx usNn usNf usMn usMf usLn usLf usKn usKf] rfl rfl rfl 0 rfl rfl rfl hl.1 rfl (Nat.le_of_ble_eq_true rfl) dX11_retireSpool_28 (fun H locs hP hD hS => ?_)
  refine lv_aload_n F.1 F.2.1 dX11_retireSpool_31 rfl (lv_at hl 2 rfl) ?_
  refine gF (v := .ref a1) F hE hP 0 rfl rfl inX11 0 (by decide) q162 rfl dX11_retireSpool_32 ?_
  refine lv_iload_n F.1 F.2.1 dX11_retireSpool_35 rfl (lv_at hl 1 rfl) ?_
  obtain ⟨z12, k13, h⟩ := bd_ok h
  refine cMV1 (As := [.int v3]) (rest := []) (post := catp [wX8 g a10 a11 a12 a13 a14 a15 a16 z10.1 z10.2.1 z10.2.2.1 z10.2.2.2.1 ucTn z10.2.2.2.2, wX5 g a17 a18 a19 a20 a21 a22 a23 a24 a25 uox uoNn uoNf uoMn uoMf uoLn uoLf uoDn uoDf, wX1 g a26 a27 a28 a29 a30 a31 a32 uac uaWn uaWf uaDn uaDf uaLn uaLf] []) (ws' := catp [[(a0, .inr (13, [.ref a1, .ref a10, .ref a17, .ref a26, .int uk, .int ul, .int ur]))], wX9 g a1 a2 a3 a4 a5 a6 a7 a8 a9 usx z12.1 z12.2.1 z12.2.2.1 z12.2.2.2.1 z12.2.2.2.2.1 z12.2.2.2.2.2.1 z12.2.2.2.2.2.2.1 z12.2.2.2.2.2.2.2, wX8 g a10 a11 a12 a13 a14 a15 a16 z10.1 z10.2.1 z10.2.2.1 z10.2.2.2.1 ucTn z10.2.2.2.2, wX5 g a17 a18 a19 a20 a21 a22 a23 a24 a25 uox uoNn uoNf uoMn uoMf uoLn uoLf uoDn uoDf, wX1 g a26 a27 a28 a29 a30 a31 a32 uac uaWn uaWf uaDn uaDf uaLn uaLf] []) F hE hX (tX9_removeAt l dC dI g a1 a2 a3 a4 a5 a6 a7 a8 a9 usx usNn usNf usMn usMf usLn usLf usKn usKf v3 k13) mbX9_removeAt q1023 ⟨(Nat.le_of_ble_eq_true rfl), (Nat.le_of_ble_eq_true rfl)⟩ ⟨(Nat.le_of_ble_eq_true rfl), (Nat.le_of_ble_eq_true rfl)⟩ hP hD hS hA [[(a0, .inr (13, [.ref a1, .ref a10, .ref a17, .ref a26, .int uk, .int ul, .int ur]))]] rfl rfl rfl 0 rfl rfl rfl hl.1 rfl (Nat.le_of_ble_eq_true rfl) dX11_retireSpool_36 (fun H locs hP hD hS => ?_)
  refine lv_iload_n F.1 F.2.1 dX11_retireSpool_39 rfl (lv_at hl 0 rfl) ?_
  cases h
  exact MX_i rfl F hr hlocks (Nat.le_of_ble_eq_true rfl) (Nat.le_of_ble_eq_true rfl) hP hS dX11_retireSpool_40
/-! WireCutter$Workshop.clearScraps -/
def fX11_clearScraps (ucMn : Int32) (ucMf : Nat → Int32) (ucLn : Int32) (ucLf : Nat → Int32) (ucTn : Int32) (ucTf : Nat → Int32) (p1 : Int32) : Option ((Except String Int32) × Int32 × (Nat → Int32) × Int32 × (Nat → Int32) × (Nat → Int32)) :=
  (fX12_requireMaterial p1).bind fun z1 =>
  exC z1 (fun e5 => some (.error e5, ucMn, ucMf, ucLn, ucLf, ucTf)) fun v3 =>
  (fX8_throwAll ucMn ucMf ucLn ucLf ucTn ucTf p1).bind fun z6 =>
  some (.ok z6.1, z6.2.1, z6.2.2.1, z6.2.2.2.1, z6.2.2.2.2.1, z6.2.2.2.2.2)
theorem mbX11_clearScraps : MV yX11_clearScraps cX11_clearScraps 2 (some .int) 1 := ⟨⟨q1041, q2, by decide +kernel⟩, q1039, q1040⟩
set_option maxHeartbeats 4000000 in
set_option maxRecDepth 100000 in
theorem tX11_clearScraps (l : Launch) (hl9 : l.stackTraces = false) (dC : Nat → ClassId) (dI : Nat → Nat → Nat) (g : Nat → ClassId) (a0 a1 a2 a3 a4 a5 a6 a7 a8 a9 a10 a11 a12 a13 a14 a15 a16 a17 a18 a19 a20 a21 a22 a23 a24 a25 a26 a27 a28 a29 a30 a31 a32 : Nat) (uk : Int32) (ul : Int32) (ur : Int32) (usx : Int32) (usNn : Int32) (usNf : Nat → Int32) (usMn : Int32) (usMf : Nat → Int32) (usLn : Int32) (usLf : Nat → Int32) (usKn : Int32) (usKf : Nat → Int32) (ucMn : Int32) (ucMf : Nat → Int32) (ucLn : Int32) (ucLf : Nat → Int32) (ucTn : Int32) (ucTf : Nat → Int32) (uox : Int32) (uoNn : Int32) (uoNf : Nat → Int32) (uoMn : Int32) (uoMf : Nat → Int32) (uoLn : Int32) (uoLf : Nat → Int32) (uoDn : Int32) (uoDf : Nat → Int32) (uac : Int32) (uaWn : Int32) (uaWf : Nat → Int32) (uaDn : Int32) (uaDf : Nat → Int32) (uaLn : Int32) (uaLf : Nat → Int32) (p1 : Int32) {r : (Except String Int32) × Int32 × (Nat → Int32) × Int32 × (Nat → Int32) × (Nat → Int32)} (h : fX11_clearScraps ucMn ucMf ucLn ucLf ucTn ucTf p1 = some r) : MX vI l yX11_clearScraps cX11_clearScraps 2 (some .int) 7 102 1 6 dC dI g [.ref a0, .int p1] (wX11 g a0 a1 a2 a3 a4 a5 a6 a7 a8 a9 a10 a11 a12 a13 a14 a15 a16 a17 a18 a19 a20 a21 a22 a23 a24 a25 a26 a27 a28 a29 a30 a31 a32 uk ul ur usx usNn usNf usMn usMf usLn usLf usKn usKf ucMn ucMf ucLn ucLf ucTn ucTf uox uoNn uoNf uoMn uoMf uoLn uoLf uoDn uoDf uac uaWn uaWf uaDn uaDf uaLn uaLf) (wX11 g a0 a1 a2 a3 a4 a5 a6 a7 a8 a9 a10 a11 a12 a13 a14 a15 a16 a17 a18 a19 a20 a21 a22 a23 a24 a25 a26 a27 a28 a29 a30 a31 a32 uk ul ur usx usNn usNf usMn usMf usLn usLf usKn usKf r.2.1 r.2.2.1 r.2.2.2.1 r.2.2.2.2.1 ucTn r.2.2.2.2.2 uox uoNn uoNf uoMn uoMf uoLn uoLf uoDn uoDf uac uaWn uaWf uaDn uaDf uaLn uaLf) r.1 := by
  refine MX_of (by decide) (Nat.le_of_ble_eq_true rfl) ?_
  intro p e s m below meth c ls F hr hlocks ht hE hX hA hP hD hS hl
  generalize va_A (wX11 g a0 a1 a2 a3 a4 a5 a6 a7 a8 a9 a10 a11 a12 a13 a14 a15 a16 a17 a18 a19 a20 a21 a22 a23 a24 a25 a26 a27 a28 a29 a30 a31 a32 uk ul ur usx usNn usNf usMn usMf usLn usLf usKn usKf ucMn ucMf ucLn ucLf ucTn ucTf uox uoNn uoNf uoMn uoMf uoLn uoLf uoDn uoDf uac uaWn uaWf uaDn uaDf uaLn uaLf) s.heap.size = A at hA hD hS hX ⊢
  replace F : CF p m c cX11_clearScraps 2 s _ RX11 := F
  replace hl : lv_has ls 2 [(0, .ref a0), (1, .int p1)] := hl
  rw [fX11_clearScraps] at h
  replace hP : va_P (dC, dI) vwCl (catp [[(a0, .inr (13, [.ref a1, .ref a10, .ref a17, .ref a26, .int uk, .int ul, .int ur]))], wX9 g a1 a2 a3 a4 a5 a6 a7 a8 a9 usx usNn usNf usMn usMf usLn usLf usKn usKf, wX8 g a10 a11 a12 a13 a14 a15 a16 ucMn ucMf ucLn ucLf ucTn ucTf, wX5 g a17 a18 a19 a20 a21 a22 a23 a24 a25 uox uoNn uoNf uoMn uoMf uoLn uoLf uoDn uoDf, wX1 g a26 a27 a28 a29 a30 a31 a32 uac uaWn uaWf uaDn uaDf uaLn uaLf] []) s.heap := hP
  replace hD : va_D A (catp [[(a0, .inr (13, [.ref a1, .ref a10, .ref a17, .ref a26, .int uk, .int ul, .int ur]))], wX9 g a1 a2 a3 a4 a5 a6 a7 a8 a9 usx usNn usNf usMn usMf usLn usLf usKn usKf, wX8 g a10 a11 a12 a13 a14 a15 a16 ucMn ucMf ucLn ucLf ucTn ucTf, wX5 g a17 a18 a19 a20 a21 a22 a23 a24 a25 uox uoNn uoNf uoMn uoMf uoLn uoLf uoDn uoDf, wX1 g a26 a27 a28 a29 a30 a31 a32 uac uaWn uaWf uaDn uaDf uaLn uaLf] []) := hD
  refine lv_iload_n F.1 F.2.1 dX11_clearScraps_0 rfl (lv_at hl 1 rfl) ?_
  obtain ⟨z1, k2, h⟩ := bd_ok h
  refine cXSN0 (As := [.int p1]) (rest := []) F hE hX (tX12_requireMaterial l hl9 dC dI g p1 k2) mbX12_requireMaterial q937 ⟨(Nat.le_of_ble_eq_true rfl), (Nat.le_of_ble_eq_true rfl)⟩ ⟨(Nat.le_of_ble_eq_true rfl), (Nat.le_of_ble_eq_true rfl)⟩ hP hD hS hA rfl hl.1 rfl (Nat.le_of_ble_eq_true rfl) dX11_clearScraps_1 (fun E ce q9 hx9 H locs hP hD hS h7 h8 h9 => ?_) (fun v3 k4 H locs hP hD hS => ?_)
  · replace h := ex_er hx9 h
    cases h
    exact MX_o rfl ht hlocks hP hS h7 h8 h9 (Nat.le_of_ble_eq_true rfl) (Nat.le_of_ble_eq_true rfl)
  replace h := ex_ok k4 h
  refine lv_aload_n F.1 F.2.1 dX11_clearScraps_4 rfl (lv_at hl 0 rfl) ?_
  refine gF (v := .ref a10) F hE hP 0 rfl rfl inX11 1 (by decide) q165 rfl dX11_clearScraps_5 ?_
  refine lv_iload_n F.1 F.2.1 dX11_clearScraps_8 rfl (lv_at hl 1 rfl) ?_
  obtain ⟨z6, k7, h⟩ := bd_ok h
  refine cMV1 (As := [.int p1]) (rest := []) (post := catp [wX5 g a17 a18 a19 a20 a21 a22 a23 a24 a25 uox uoNn uoNf uoMn uoMf uoLn uoLf uoDn uoDf, wX1 g a26 a27 a28 a29 a30 a31 a32 uac uaWn uaWf uaDn uaDf uaLn uaLf] []) (ws' := catp [[(a0, .inr (13, [.ref a1, .ref a10, .ref a17, .ref a26, .int uk, .int ul, .int ur]))], wX9 g a1 a2 a3 a4 a5 a6 a7 a8 a9 usx usNn usNf usMn usMf usLn usLf usKn usKf, wX8 g a10 a11 a12 a13 a14 a15 a16 z6.2.1 z6.2.2.1 z6.2.2.2.1 z6.2.2.2.2.1 ucTn z6.2.2.2.2.2, wX5 g a17 a18 a19 a20 a21 a22 a23 a24 a25 uox uoNn uoNf uoMn uoMf uoLn uoLf uoDn uoDf, wX1 g a26 a27 a28 a29 a30 a31 a32 uac uaWn uaWf uaDn uaDf uaLn uaLf] []) F hE hX (tX8_throwAll l dC dI g a10 a11 a12 a13 a14 a15 a16 ucMn ucMf ucLn ucLf ucTn ucTf p1 k7) mbX8_throwAll q1042 ⟨(Nat.le_of_ble_eq_true rfl), (Nat.le_of_ble_eq_true rfl)⟩ ⟨(Nat.le_of_ble_eq_true rfl), (Nat.le_of_ble_eq_true rfl)⟩ hP hD hS hA [[(a0, .inr (13, [.ref a1, .ref a10, .ref a17, .ref a26, .int uk, .int ul, .int ur]))], wX9 g a1 a2 a3 a4 a5 a6 a7 a8 a9 usx usNn usNf usMn usMf usLn usLf usKn usKf] rfl rfl rfl 0 rfl rfl rfl hl.1 rfl (Nat.le_of_ble_eq_true rfl) dX11_clearScraps_9 (fun H locs hP hD hS => ?_)
  cases h
  exact MX_i rfl F hr hlocks (Nat.le_of_ble_eq_true rfl) (Nat.le_of_ble_eq_true rfl) hP hS dX11_clearScraps_12
/-! WireCutter$Workshop.requireDay -/
def fX11_requireDay (p0 : Int32) : Option (Except String Unit) :=
  if p0 < 1 then
    some (.error "java/lang/IllegalArgumentException")
  else
    if p0 ≤ 99 then
      some (.ok ())
    else
      some (.error "java/lang/IllegalArgumentException")
theorem mbX11_requireDay : MS yX11_requireDay cX11_requireDay 1 none 1 := ⟨⟨q1065, q2, by decide +kernel⟩, q1064⟩
set_option maxHeartbeats 4000000 in
set_option maxRecDepth 100000 in
theorem tX11_requireDay (l : Launch) (hl9 : l.stackTraces = false) (dC : Nat → ClassId) (dI : Nat → Nat → Nat) (g : Nat → ClassId) (p0 : Int32) {r : Except String Unit} (h : fX11_requireDay p0 = some r) : MX vN l yX11_requireDay cX11_requireDay 1 none 6 82 1 6 dC dI g [.int p0] (([] : va_W)) (([] : va_W)) r := by
  refine MX_of (by decide) (Nat.le_of_ble_eq_true rfl) ?_
  intro p e s m below meth c ls F hr hlocks ht hE hX hA hP hD hS hl
  generalize va_A (([] : va_W)) s.heap.size = A at hA hD hS hX ⊢
  replace F : CF p m c cX11_requireDay 1 s _ RX11 := F
  replace hl : lv_has ls 1 [(0, .int p0)] := hl
  rw [fX11_requireDay] at h
  refine lv_iload_n F.1 F.2.1 dX11_requireDay_0 rfl (lv_at hl 0 rfl) ?_
  refine lv_iconst (v := 1) F.1 F.2.1 dX11_requireDay_1 (by decide) ?_
  refine lv_icmp_lt (tgt := 11) F.1 F.2.1 dX11_requireDay_2 (by decide) (fun k1 => ?_) (fun k1 => ?_)
  · replace h := it_t k1 h
    cases h
    exact MX_tW (rest := []) rfl F hE hX hl9 ht hlocks hP hS (by decide +kernel) q946 q20 sq24 at6 gt6 hl.1 dX11_requireDay_11 dX11_requireDay_14 dX11_requireDay_15 dX11_requireDay_18 dX11_requireDay_21 (Nat.le_of_ble_eq_true rfl) (Nat.le_of_ble_eq_true rfl) (Nat.le_of_ble_eq_true rfl) (Nat.le_of_ble_eq_true rfl) (Nat.le_of_ble_eq_true rfl) (Nat.le_of_ble_eq_true rfl)
  · replace h := it_f k1 h
    refine lv_iload_n F.1 F.2.1 dX11_requireDay_5 rfl (lv_at hl 0 rfl) ?_
    refine lv_bipush (v := 99) F.1 F.2.1 dX11_requireDay_6 (by decide) ?_
    refine lv_icmp_le (tgt := 22) F.1 F.2.1 dX11_requireDay_8 (by decide) (fun k2 => ?_) (fun k2 => ?_)
    · replace h := it_t k2 h
      cases h
      exact MX_v rfl F hr hlocks (Nat.le_of_ble_eq_true rfl) (Nat.le_of_ble_eq_true rfl) hP hS dX11_requireDay_22
    · replace h := it_f k2 h
      cases h
      exact MX_tW (rest := []) rfl F hE hX hl9 ht hlocks hP hS (by decide +kernel) q946 q20 sq24 at6 gt6 hl.1 dX11_requireDay_11 dX11_requireDay_14 dX11_requireDay_15 dX11_requireDay_18 dX11_requireDay_21 (Nat.le_of_ble_eq_true rfl) (Nat.le_of_ble_eq_true rfl) (Nat.le_of_ble_eq_true rfl) (Nat.le_of_ble_eq_true rfl) (Nat.le_of_ble_eq_true rfl) (Nat.le_of_ble_eq_true rfl)
/-! WireCutter$Workshop.takeOrder -/
def fX11_takeOrder (uox : Int32) (uoNn : Int32) (uoNf : Nat → Int32) (uoMn : Int32) (uoMf : Nat → Int32) (uoLn : Int32) (uoLf : Nat → Int32) (uoDn : Int32) (uoDf : Nat → Int32) (p1 : Int32) (p2 : Int32) (p3 : Int32) : Option ((Except String Int32) × Int32 × Int32 × (Nat → Int32) × Int32 × (Nat → Int32) × Int32 × (Nat → Int32) × Int32 × (Nat → Int32)) :=
  (fX12_requireMaterial p1).bind fun z1 =>
  exC z1 (fun e5 => some (.error e5, uox, uoNn, uoNf, uoMn, uoMf, uoLn, uoLf, uoDn, uoDf)) fun v3 =>
  if p2 < 1 then
    some (.error "java/lang/IllegalArgumentException", uox, uoNn, uoNf, uoMn, uoMf, uoLn, uoLf, uoDn, uoDf)
  else
    if p2 ≤ 200 then
      (fX11_requireDay p3).bind fun z8 =>
      exC z8 (fun e12 => some (.error e12, uox, uoNn, uoNf, uoMn, uoMf, uoLn, uoLf, uoDn, uoDf)) fun v10 =>
      (fX5_count uoNn).bind fun z13 =>
      if z13 < 12 then
        (fX5_add uox uoNn uoNf uoMn uoMf uoLn uoLf uoDn uoDf p1 p2 p3).bind fun z16 =>
        some (.ok z16.1, z16.2.1, z16.2.2.1, z16.2.2.2.1, z16.2.2.2.2.1, z16.2.2.2.2.2.1, z16.2.2.2.2.2.2.1, z16.2.2.2.2.2.2.2.1, z16.2.2.2.2.2.2.2.2.1, z16.2.2.2.2.2.2.2.2.2)
      else
        some (.error "java/lang/IllegalStateException", uox, uoNn, uoNf, uoMn, uoMf, uoLn, uoLf, uoDn, uoDf)
    else
      some (.error "java/lang/IllegalArgumentException", uox, uoNn, uoNf, uoMn, uoMf, uoLn, uoLf, uoDn, uoDf)
theorem mbX11_takeOrder : MV yX11_takeOrder cX11_takeOrder 4 (some .int) 3 := ⟨⟨q1062, q2, by decide +kernel⟩, q1060, q1061⟩
set_option maxHeartbeats 4000000 in
set_option maxRecDepth 100000 in
theorem tX11_takeOrder (l : Launch) (hl9 : l.stackTraces = false) (dC : Nat → ClassId) (dI : Nat → Nat → Nat) (g : Nat → ClassId) (a0 a1 a2 a3 a4 a5 a6 a7 a8 a9 a10 a11 a12 a13 a14 a15 a16 a17 a18 a19 a20 a21 a22 a23 a24 a25 a26 a27 a28 a29 a30 a31 a32 : Nat) (uk : Int32) (ul : Int32) (ur : Int32) (usx : Int32) (usNn : Int32) (usNf : Nat → Int32) (usMn : Int32) (usMf : Nat → Int32) (usLn : Int32) (usLf : Nat → Int32) (usKn : Int32) (usKf : Nat → Int32) (ucMn : Int32) (ucMf : Nat → Int32) (ucLn : Int32) (ucLf : Nat → Int32) (ucTn : Int32) (ucTf : Nat → Int32) (uox : Int32) (uoNn : Int32) (uoNf : Nat → Int32) (uoMn : Int32) (uoMf : Nat → Int32) (uoLn : Int32) (uoLf : Nat → Int32) (uoDn : Int32) (uoDf : Nat → Int32) (uac : Int32) (uaWn : Int32) (uaWf : Nat → Int32) (uaDn : Int32) (uaDf : Nat → Int32) (uaLn : Int32) (uaLf : Nat → Int32) (p1 : Int32) (p2 : Int32) (p3 : Int32) {r : (Except String Int32) × Int32 × Int32 × (Nat → Int32) × Int32 × (Nat → Int32) × Int32 × (Nat → Int32) × Int32 × (Nat → Int32)} (h : fX11_takeOrder uox uoNn uoNf uoMn uoMf uoLn uoLf uoDn uoDf p1 p2 p3 = some r) : MX vI l yX11_takeOrder cX11_takeOrder 4 (some .int) 7 102 3 18 dC dI g [.ref a0, .int p1, .int p2, .int p3] (wX11 g a0 a1 a2 a3 a4 a5 a6 a7 a8 a9 a10 a11 a12 a13 a14 a15 a16 a17 a18 a19 a20 a21 a22 a23 a24 a25 a26 a27 a28 a29 a30 a31 a32 uk ul ur usx usNn usNf usMn usMf usLn usLf usKn usKf ucMn ucMf ucLn ucLf ucTn ucTf uox uoNn uoNf uoMn uoMf uoLn uoLf uoDn uoDf uac uaWn uaWf uaDn uaDf uaLn uaLf) (wX11 g a0 a1 a2 a3 a4 a5 a6 a7 a8 a9 a10 a11 a12 a13 a14 a15 a16 a17 a18 a19 a20 a21 a22 a23 a24 a25 a26 a27 a28 a29 a30 a31 a32 uk ul ur usx usNn usNf usMn usMf usLn usLf usKn usKf ucMn ucMf ucLn ucLf ucTn ucTf r.2.1 r.2.2.1 r.2.2.2.1 r.2.2.2.2.1 r.2.2.2.2.2.1 r.2.2.2.2.2.2.1 r.2.2.2.2.2.2.2.1 r.2.2.2.2.2.2.2.2.1 r.2.2.2.2.2.2.2.2.2 uac uaWn uaWf uaDn uaDf uaLn uaLf) r.1 := by
  refine MX_of (by decide) (Nat.le_of_ble_eq_true rfl) ?_
  intro p e s m below meth c ls F hr hlocks ht hE hX hA hP hD hS hl
  generalize va_A (wX11 g a0 a1 a2 a3 a4 a5 a6 a7 a8 a9 a10 a11 a12 a13 a14 a15 a16 a17 a18 a19 a20 a21 a22 a23 a24 a25 a26 a27 a28 a29 a30 a31 a32 uk ul ur usx usNn usNf usMn usMf usLn usLf usKn usKf ucMn ucMf ucLn ucLf ucTn ucTf uox uoNn uoNf uoMn uoMf uoLn uoLf uoDn uoDf uac uaWn uaWf uaDn uaDf uaLn uaLf) s.heap.size = A at hA hD hS hX ⊢
  replace F : CF p m c cX11_takeOrder 4 s _ RX11 := F
  replace hl : lv_has ls 4 [(0, .ref a0), (1, .int p1), (2, .int p2), (3, .int p3)] := hl
  rw [fX11_takeOrder] at h
  replace hP : va_P (dC, dI) vwCl (catp [[(a0, .inr (13, [.ref a1, .ref a10, .ref a17, .ref a26, .int uk, .int ul, .int ur]))], wX9 g a1 a2 a3 a4 a5 a6 a7 a8 a9 usx usNn usNf usMn usMf usLn usLf usKn usKf, wX8 g a10 a11 a12 a13 a14 a15 a16 ucMn ucMf ucLn ucLf ucTn ucTf, wX5 g a17 a18 a19 a20 a21 a22 a23 a24 a25 uox uoNn uoNf uoMn uoMf uoLn uoLf uoDn uoDf, wX1 g a26 a27 a28 a29 a30 a31 a32 uac uaWn uaWf uaDn uaDf uaLn uaLf] []) s.heap := hP
  replace hD : va_D A (catp [[(a0, .inr (13, [.ref a1, .ref a10, .ref a17, .ref a26, .int uk, .int ul, .int ur]))], wX9 g a1 a2 a3 a4 a5 a6 a7 a8 a9 usx usNn usNf usMn usMf usLn usLf usKn usKf, wX8 g a10 a11 a12 a13 a14 a15 a16 ucMn ucMf ucLn ucLf ucTn ucTf, wX5 g a17 a18 a19 a20 a21 a22 a23 a24 a25 uox uoNn uoNf uoMn uoMf uoLn uoLf uoDn uoDf, wX1 g a26 a27 a28 a29 a30 a31 a32 uac uaWn uaWf uaDn uaDf uaLn uaLf] []) := hD
  refine lv_iload_n F.1 F.2.1 dX11_takeOrder_0 rfl (lv_at hl 1 rfl) ?_
  obtain ⟨z1, k2, h⟩ := bd_ok h
  refine cXSN0 (As := [.int p1]) (rest := []) F hE hX (tX12_requireMaterial l hl9 dC dI g p1 k2) mbX12_requireMaterial q937 ⟨(Nat.le_of_ble_eq_true rfl), (Nat.le_of_ble_eq_true rfl)⟩ ⟨(Nat.le_of_ble_eq_true rfl), (Nat.le_of_ble_eq_true rfl)⟩ hP hD hS hA rfl hl.1 rfl (Nat.le_of_ble_eq_true rfl) dX11_takeOrder_1 (fun E ce q9 hx9 H locs hP hD hS h7 h8 h9 => ?_) (fun v3 k4 H locs hP hD hS => ?_)
  · replace h := ex_er hx9 h
    cases h
    exact MX_o rfl ht hlocks hP hS h7 h8 h9 (Nat.le_of_ble_eq_true rfl) (Nat.le_of_ble_eq_true rfl)
  replace h := ex_ok k4 h
  refine lv_iload_n F.1 F.2.1 dX11_takeOrder_4 rfl (lv_at hl 2 rfl) ?_
  refine lv_iconst (v := 1) F.1 F.2.1 dX11_takeOrder_5 (by decide) ?_
  refine lv_icmp_lt (tgt := 16) F.1 F.2.1 dX11_takeOrder_6 (by decide) (fun k6 => ?_) (fun k6 => ?_)
  · replace h := it_t k6 h
    cases h
    exact MX_t (rest := []) rfl F hE hX hl9 ht hlocks hP hS (by decide +kernel) q946 q20 sq17 at6 gt6 hl.1 dX11_takeOrder_16 dX11_takeOrder_19 dX11_takeOrder_20 dX11_takeOrder_22 dX11_takeOrder_25 (Nat.le_of_ble_eq_true rfl) (Nat.le_of_ble_eq_true rfl) (Nat.le_of_ble_eq_true rfl) (Nat.le_of_ble_eq_true rfl) (Nat.le_of_ble_eq_true rfl) (Nat.le_of_ble_eq_true rfl)
  · replace h := it_f k6 h
    refine lv_iload_n F.1 F.2.1 dX11_takeOrder_9 rfl (lv_at hl 2 rfl) ?_
    refine lv_sipush (v := 200) F.1 F.2.1 dX11_takeOrder_10 (by decide) ?_
    refine lv_icmp_le (tgt := 26) F.1 F.2.1 dX11_takeOrder_13 (by decide) (fun k7 => ?_) (fun k7 => ?_)
    · replace h := it_t k7 h
      refine lv_iload_n F.1 F.2.1 dX11_takeOrder_26 rfl (lv_at hl 3 rfl) ?_
      obtain ⟨z8, k9, h⟩ := bd_ok h
      refine cXS0 (As := [.int p3]) (rest := []) F hE hX (tX11_requireDay l hl9 dC dI g p3 k9) mbX11_requireDay q1063 ⟨(Nat.le_of_ble_eq_true rfl), (Nat.le_of_ble_eq_true rfl)⟩ ⟨(Nat.le_of_ble_eq_true rfl), (Nat.le_of_ble_eq_true rfl)⟩ hP hD hS hA rfl hl.1 rfl (Nat.le_of_ble_eq_true rfl) dX11_takeOrder_27 (fun E ce q9 hx9 H locs hP hD hS h7 h8 h9 => ?_) (fun v10 k11 H locs hP hD hS => ?_)
      · replace h := ex_er hx9 h
        cases h
        exact MX_o rfl ht hlocks hP hS h7 h8 h9 (Nat.le_of_ble_eq_true rfl) (Nat.le_of_ble_eq_true rfl)
      replace h := ex_ok k11 h
      refine lv_aload_n F.1 F.2.1 dX11_takeOrder_30 rfl (lv_at hl 0 rfl) ?_
      refine gF (v := .ref a17) F hE hP 0 rfl rfl inX11 2 (by decide) q167 rfl dX11_takeOrder_31 ?_
      obtain ⟨z13, k14, h⟩ := bd_ok h
      refine cRV1 (As := []) (rest := []) (post := catp [wX1 g a26 a27 a28 a29 a30 a31 a32 uac uaWn uaWf uaDn uaDf uaLn uaLf] []) F hE hX hS (tX5_count l dC dI g a17 a18 a19 a20 a21 a22 a23 a24 a25 uox uoNn uoNf uoMn uoMf uoLn uoLf uoDn uoDf k14) mbX5_count q1067 ⟨(Nat.le_of_ble_eq_true rfl), (Nat.le_of_ble_eq_true rfl)⟩ ⟨(Nat.le_of_ble_eq_true rfl), (Nat.le_of_ble_eq_true rfl)⟩ hP [[(a0, .inr (13, [.ref a1, .ref a10, .ref a17, .ref a26, .int uk, .int ul, .int ur]))], wX9 g a1 a2 a3 a4 a5 a6 a7 a8 a9 usx usNn usNf usMn usMf usLn usLf usKn usKf, wX8 g a10 a11 a12 a13 a14 a15 a16 ucMn ucMf ucLn ucLf ucTn ucTf] rfl 0 rfl rfl rfl hl.1 rfl (Nat.le_of_ble_eq_true rfl) dX11_takeOrder_34 ?_
      refine lv_bipush (v := 12) F.1 F.2.1 dX11_takeOrder_37 (by decide) ?_
      refine lv_icmp_lt (tgt := 52) F.1 F.2.1 dX11_takeOrder_39 (by decide) (fun k15 => ?_) (fun k15 => ?_)
      · replace h := it_t k15 h
        refine lv_aload_n F.1 F.2.1 dX11_takeOrder_52 rfl (lv_at hl 0 rfl) ?_
        refine gF (v := .ref a17) F hE hP 0 rfl rfl inX11 2 (by decide) q167 rfl dX11_takeOrder_53 ?_
        refine lv_iload_n F.1 F.2.1 dX11_takeOrder_56 rfl (lv_at hl 1 rfl) ?_
        refine lv_iload_n F.1 F.2.1 dX11_takeOrder_57 rfl (lv_at hl 2 rfl) ?_
        refine lv_iload_n F.1 F.2.1 dX11_takeOrder_58 rfl (lv_at hl 3 rfl) ?_
        obtain ⟨z16, k17, h⟩ := bd_ok h
        refine cMV1 (As := [.int p1, .int p2, .int p3]) (rest := []) (post := catp [wX1 g a26 a27 a28 a29 a30 a31 a32 uac uaWn uaWf uaDn uaDf uaLn uaLf] []) (ws' := catp [[(a0, .inr (13, [.ref a1, .ref a10, .ref a17, .ref a26, .int uk, .int ul, .int ur]))], wX9 g a1 a2 a3 a4 a5 a6 a7 a8 a9 usx usNn usNf usMn usMf usLn usLf usKn usKf, wX8 g a10 a11 a12 a13 a14 a15 a16 ucMn ucMf ucLn ucLf ucTn ucTf, wX5 g a17 a18 a19 a20 a21 a22 a23 a24 a25 z16.2.1 z16.2.2.1 z16.2.2.2.1 z16.2.2.2.2.1 z16.2.2.2.2.2.1 z16.2.2.2.2.2.2.1 z16.2.2.2.2.2.2.2.1 z16.2.2.2.2.2.2.2.2.1 z16.2.2.2.2.2.2.2.2.2, wX1 g a26 a27 a28 a29 a30 a31 a32 uac uaWn uaWf uaDn uaDf uaLn uaLf] []) F hE hX (tX5_add l dC dI g a17 a18 a19 a20 a21 a22 a23 a24 a25 uox uoNn uoNf uoMn uoMf uoLn uoLf uoDn uoDf p1 p2 p3 k17) mbX5_add q1069 ⟨(Nat.le_of_ble_eq_true rfl), (Nat.le_of_ble_eq_true rfl)⟩ ⟨(Nat.le_of_ble_eq_true rfl), (Nat.le_of_ble_eq_true rfl)⟩ hP hD hS hA [[(a0, .inr (13, [.ref a1, .ref a10, .ref a17, .ref a26, .int uk, .int ul, .int ur]))], wX9 g a1 a2 a3 a4 a5 a6 a7 a8 a9 usx usNn usNf usMn usMf usLn usLf usKn usKf, wX8 g a10 a11 a12 a13 a14 a15 a16 ucMn ucMf ucLn ucLf ucTn ucTf] rfl rfl rfl 0 rfl rfl rfl hl.1 rfl (Nat.le_of_ble_eq_true rfl) dX11_takeOrder_59 (fun H locs hP hD hS => ?_)
        cases h
        exact MX_i rfl F hr hlocks (Nat.le_of_ble_eq_true rfl) (Nat.le_of_ble_eq_true rfl) hP hS dX11_takeOrder_62
      · replace h := it_f k15 h
        cases h
        exact MX_t (rest := []) rfl F hE hX hl9 ht hlocks hP hS (by decide +kernel) q950 q21 sq19 at7 gt7 hl.1 dX11_takeOrder_42 dX11_takeOrder_45 dX11_takeOrder_46 dX11_takeOrder_48 dX11_takeOrder_51 (Nat.le_of_ble_eq_true rfl) (Nat.le_of_ble_eq_true rfl) (Nat.le_of_ble_eq_true rfl) (Nat.le_of_ble_eq_true rfl) (Nat.le_of_ble_eq_true rfl) (Nat.le_of_ble_eq_true rfl)
    · replace h := it_f k7 h
      cases h
      exact MX_t (rest := []) rfl F hE hX hl9 ht hlocks hP hS (by decide +kernel) q946 q20 sq17 at6 gt6 hl.1 dX11_takeOrder_16 dX11_takeOrder_19 dX11_takeOrder_20 dX11_takeOrder_22 dX11_takeOrder_25 (Nat.le_of_ble_eq_true rfl) (Nat.le_of_ble_eq_true rfl) (Nat.le_of_ble_eq_true rfl) (Nat.le_of_ble_eq_true rfl) (Nat.le_of_ble_eq_true rfl) (Nat.le_of_ble_eq_true rfl)
/-! WireCutter$Workshop.cancelOrder -/
def fX11_cancelOrder (uoNn : Int32) (uoNf : Nat → Int32) (uoMn : Int32) (uoMf : Nat → Int32) (uoLn : Int32) (uoLf : Nat → Int32) (uoDn : Int32) (uoDf : Nat → Int32) (p1 : Int32) : Option ((Except String Int32) × Int32 × (Nat → Int32) × Int32 × (Nat → Int32) × Int32 × (Nat → Int32) × Int32 × (Nat → Int32)) :=
  (fX11_openOrder uoNn uoNf p1).bind fun z1 =>
  exC z1 (fun e5 => some (.error e5, uoNn, uoNf, uoMn, uoMf, uoLn, uoLf, uoDn, uoDf)) fun v3 =>
  (fX5_removeAt uoNn uoNf uoMn uoMf uoLn uoLf uoDn uoDf v3).bind fun z6 =>
  some (.ok v3, z6.1, z6.2.1, z6.2.2.1, z6.2.2.2.1, z6.2.2.2.2.1, z6.2.2.2.2.2.1, z6.2.2.2.2.2.2.1, z6.2.2.2.2.2.2.2)
theorem mbX11_cancelOrder : MV yX11_cancelOrder cX11_cancelOrder 3 (some .int) 1 := ⟨⟨q1084, q2, by decide +kernel⟩, q1082, q1083⟩
set_option maxHeartbeats 4000000 in
set_option maxRecDepth 100000 in
theorem tX11_cancelOrder (l : Launch) (hl9 : l.stackTraces = false) (dC : Nat → ClassId) (dI : Nat → Nat → Nat) (g : Nat → ClassId) (a0 a1 a2 a3 a4 a5 a6 a7 a8 a9 a10 a11 a12 a13 a14 a15 a16 a17 a18 a19 a20 a21 a22 a23 a24 a25 a26 a27 a28 a29 a30 a31 a32 : Nat) (uk : Int32) (ul : Int32) (ur : Int32) (usx : Int32) (usNn : Int32) (usNf : Nat → Int32) (usMn : Int32) (usMf : Nat → Int32) (usLn : Int32) (usLf : Nat → Int32) (usKn : Int32) (usKf : Nat → Int32) (ucMn : Int32) (ucMf : Nat → Int32) (ucLn : Int32) (ucLf : Nat → Int32) (ucTn : Int32) (ucTf : Nat → Int32) (uox : Int32) (uoNn : Int32) (uoNf : Nat → Int32) (uoMn : Int32) (uoMf : Nat → Int32) (uoLn : Int32) (uoLf : Nat → Int32) (uoDn : Int32) (uoDf : Nat → Int32) (uac : Int32) (uaWn : Int32) (uaWf : Nat → Int32) (uaDn : Int32) (uaDf : Nat → Int32) (uaLn : Int32) (uaLf : Nat → Int32) (p1 : Int32) {r : (Except String Int32) × Int32 × (Nat → Int32) × Int32 × (Nat → Int32) × Int32 × (Nat → Int32) × Int32 × (Nat → Int32)} (h : fX11_cancelOrder uoNn uoNf uoMn uoMf uoLn uoLf uoDn uoDf p1 = some r) : MX vI l yX11_cancelOrder cX11_cancelOrder 3 (some .int) 7 104 1 6 dC dI g [.ref a0, .int p1] (wX11 g a0 a1 a2 a3 a4 a5 a6 a7 a8 a9 a10 a11 a12 a13 a14 a15 a16 a17 a18 a19 a20 a21 a22 a23 a24 a25 a26 a27 a28 a29 a30 a31 a32 uk ul ur usx usNn usNf usMn usMf usLn usLf usKn usKf ucMn ucMf ucLn ucLf ucTn ucTf uox uoNn uoNf uoMn uoMf uoLn uoLf uoDn uoDf uac uaWn uaWf uaDn uaDf uaLn uaLf) (wX11 g a0 a1 a2 a3 a4 a5 a6 a7 a8 a9 a10 a11 a12 a13 a14 a15 a16 a17 a18 a19 a20 a21 a22 a23 a24 a25 a26 a27 a28 a29 a30 a31 a32 uk ul ur usx usNn usNf usMn usMf usLn usLf usKn usKf ucMn ucMf ucLn ucLf ucTn ucTf uox r.2.1 r.2.2.1 r.2.2.2.1 r.2.2.2.2.1 r.2.2.2.2.2.1 r.2.2.2.2.2.2.1 r.2.2.2.2.2.2.2.1 r.2.2.2.2.2.2.2.2 uac uaWn uaWf uaDn uaDf uaLn uaLf) r.1 := by
  refine MX_of (by decide) (Nat.le_of_ble_eq_true rfl) ?_
  intro p e s m below meth c ls F hr hlocks ht hE hX hA hP hD hS hl
  generalize va_A (wX11 g a0 a1 a2 a3 a4 a5 a6 a7 a8 a9 a10 a11 a12 a13 a14 a15 a16 a17 a18 a19 a20 a21 a22 a23 a24 a25 a26 a27 a28 a29 a30 a31 a32 uk ul ur usx usNn usNf usMn usMf usLn usLf usKn usKf ucMn ucMf ucLn ucLf ucTn ucTf uox uoNn uoNf uoMn uoMf uoLn uoLf uoDn uoDf uac uaWn uaWf uaDn uaDf uaLn uaLf) s.heap.size = A at hA hD hS hX ⊢
  replace F : CF p m c cX11_cancelOrder 3 s _ RX11 := F
  replace hl : lv_has ls 3 [(0, .ref a0), (1, .int p1)] := hl
  rw [fX11_cancelOrder] at h
  replace hP : va_P (dC, dI) vwCl (catp [[(a0, .inr (13, [.ref a1, .ref a10, .ref a17, .ref a26, .int uk, .int ul, .int ur]))], wX9 g a1 a2 a3 a4 a5 a6 a7 a8 a9 usx usNn usNf usMn usMf usLn usLf usKn usKf, wX8 g a10 a11 a12 a13 a14 a15 a16 ucMn ucMf ucLn ucLf ucTn ucTf, wX5 g a17 a18 a19 a20 a21 a22 a23 a24 a25 uox uoNn uoNf uoMn uoMf uoLn uoLf uoDn uoDf, wX1 g a26 a27 a28 a29 a30 a31 a32 uac uaWn uaWf uaDn uaDf uaLn uaLf] []) s.heap := hP
  replace hD : va_D A (catp [[(a0, .inr (13, [.ref a1, .ref a10, .ref a17, .ref a26, .int uk, .int ul, .int ur]))], wX9 g a1 a2 a3 a4 a5 a6 a7 a8 a9 usx usNn usNf usMn usMf usLn usLf usKn usKf, wX8 g a10 a11 a12 a13 a14 a15 a16 ucMn ucMf ucLn ucLf ucTn ucTf, wX5 g a17 a18 a19 a20 a21 a22 a23 a24 a25 uox uoNn uoNf uoMn uoMf uoLn uoLf uoDn uoDf, wX1 g a26 a27 a28 a29 a30 a31 a32 uac uaWn uaWf uaDn uaDf uaLn uaLf] []) := hD
  refine lv_aload_n F.1 F.2.1 dX11_cancelOrder_0 rfl (lv_at hl 0 rfl) ?_
  refine lv_iload_n F.1 F.2.1 dX11_cancelOrder_1 rfl (lv_at hl 1 rfl) ?_
  obtain ⟨z1, k2, h⟩ := bd_ok h
  refine cXVA (As := [.int p1]) (rest := []) (ws' := catp [[(a0, .inr (13, [.ref a1, .ref a10, .ref a17, .ref a26, .int uk, .int ul, .int ur]))], wX9 g a1 a2 a3 a4 a5 a6 a7 a8 a9 usx usNn usNf usMn usMf usLn usLf usKn usKf, wX8 g a10 a11 a12 a13 a14 a15 a16 ucMn ucMf ucLn ucLf ucTn ucTf, wX5 g a17 a18 a19 a20 a21 a22 a23 a24 a25 uox uoNn uoNf uoMn uoMf uoLn uoLf uoDn uoDf, wX1 g a26 a27 a28 a29 a30 a31 a32 uac uaWn uaWf uaDn uaDf uaLn uaLf] []) F hE hX (tX11_openOrder l hl9 dC dI g a0 a1 a2 a3 a4 a5 a6 a7 a8 a9 a10 a11 a12 a13 a14 a15 a16 a17 a18 a19 a20 a21 a22 a23 a24 a25 a26 a27 a28 a29 a30 a31 a32 uk ul ur usx usNn usNf usMn usMf usLn usLf usKn usKf ucMn ucMf ucLn ucLf ucTn ucTf uox uoNn uoNf uoMn uoMf uoLn uoLf uoDn uoDf uac uaWn uaWf uaDn uaDf uaLn uaLf p1 k2) mbX11_openOrder q1085 ⟨(Nat.le_of_ble_eq_true rfl), (Nat.le_of_ble_eq_true rfl)⟩ ⟨(Nat.le_of_ble_eq_true rfl), (Nat.le_of_ble_eq_true rfl)⟩ hP hD hS hA rfl rfl rfl 0 rfl rfl rfl hl.1 rfl (Nat.le_of_ble_eq_true rfl) dX11_cancelOrder_2 (fun E ce q9 hx9 H locs hP hD hS h7 h8 h9 => ?_) (fun v3 k4 H locs hP hD hS => ?_)
  · replace h := ex_er hx9 h
    cases h
    exact MX_o rfl ht hlocks hP hS h7 h8 h9 (Nat.le_of_ble_eq_true rfl) (Nat.le_of_ble_eq_true rfl)
  replace h := ex_ok k4 h
  refine lv_istore_n (lv' := [(2, .int v3), (0, .ref a0), (1, .int p1)]) F.1 F.2.1 dX11_cancelOrder_5 rfl hl (by decide) rfl (fun ls hl => ?_)
  refine lv_aload_n F.1 F.2.1 dX11_cancelOrder_6 rfl (lv_at hl 1 rfl) ?_
  refine gF (v := .ref a17) F hE hP 0 rfl rfl inX11 2 (by decide) q167 rfl dX11_cancelOrder_7 ?_
  refine lv_iload_n F.1 F.2.1 dX11_cancelOrder_10 rfl (lv_at hl 0 rfl) ?_
  obtain ⟨z6, k7, h⟩ := bd_ok h
  refine cMV1 (As := [.int v3]) (rest := []) (post := catp [wX1 g a26 a27 a28 a29 a30 a31 a32 uac uaWn uaWf uaDn uaDf uaLn uaLf] []) (ws' := catp [[(a0, .inr (13, [.ref a1, .ref a10, .ref a17, .ref a26, .int uk, .int ul, .int ur]))], wX9 g a1 a2 a3 a4 a5 a6 a7 a8 a9 usx usNn usNf usMn usMf usLn usLf usKn usKf, wX8 g a10 a11 a12 a13 a14 a15 a16 ucMn ucMf ucLn ucLf ucTn ucTf, wX5 g a17 a18 a19 a20 a21 a22 a23 a24 a25 uox z6.1 z6.2.1 z6.2.2.1 z6.2.2.2.1 z6.2.2.2.2.1 z6.2.2.2.2.2.1 z6.2.2.2.2.2.2.1 z6.2.2.2.2.2.2.2, wX1 g a26 a27 a28 a29 a30 a31 a32 uac uaWn uaWf uaDn uaDf uaLn uaLf] []) F hE hX (tX5_removeAt l dC dI g a17 a18 a19 a20 a21 a22 a23 a24 a25 uox uoNn uoNf uoMn uoMf uoLn uoLf uoDn uoDf v3 k7) mbX5_removeAt q1091 ⟨(Nat.le_of_ble_eq_true rfl), (Nat.le_of_ble_eq_true rfl)⟩ ⟨(Nat.le_of_ble_eq_true rfl), (Nat.le_of_ble_eq_true rfl)⟩ hP hD hS hA [[(a0, .inr (13, [.ref a1, .ref a10, .ref a17, .ref a26, .int uk, .int ul, .int ur]))], wX9 g a1 a2 a3 a4 a5 a6 a7 a8 a9 usx usNn usNf usMn usMf usLn usLf usKn usKf, wX8 g a10 a11 a12 a13 a14 a15 a16 ucMn ucMf ucLn ucLf ucTn ucTf] rfl rfl rfl 0 rfl rfl rfl hl.1 rfl (Nat.le_of_ble_eq_true rfl) dX11_cancelOrder_11 (fun H locs hP hD hS => ?_)
  refine lv_iload_n F.1 F.2.1 dX11_cancelOrder_14 rfl (lv_at hl 0 rfl) ?_
  cases h
  exact MX_i rfl F hr hlocks (Nat.le_of_ble_eq_true rfl) (Nat.le_of_ble_eq_true rfl) hP hS dX11_cancelOrder_15
/-! WireCutter$Workshop.isFillable -/
def fX11_isFillable (ur : Int32) (usMn : Int32) (usMf : Nat → Int32) (usLn : Int32) (usLf : Nat → Int32) (ucMn : Int32) (ucMf : Nat → Int32) (ucLn : Int32) (ucLf : Nat → Int32) (uoMn : Int32) (uoMf : Nat → Int32) (uoLn : Int32) (uoLf : Nat → Int32) (p1 : Int32) : Option (Int32) :=
  (fX5_materialAt uoMn uoMf p1).bind fun z1 =>
  (fX5_lengthAt uoLn uoLf p1).bind fun z3 =>
  (fX8_shortestFor ucMn ucMf ucLn ucLf z1 z3).bind fun z5 =>
  if z5 = (-1) then
    (fX9_choose usMn usMf usLn usLf z1 z3 ur).bind fun z8 =>
    if z8 = (-1) then
      some (0)
    else
      some (1)
  else
    some (1)
theorem mbX11_isFillable : MV yX11_isFillable cX11_isFillable 4 (some .boolean) 1 := ⟨⟨q1111, q2, by decide +kernel⟩, q1109, q1110⟩
set_option maxHeartbeats 4000000 in
set_option maxRecDepth 100000 in
theorem tX11_isFillable (l : Launch) (dC : Nat → ClassId) (dI : Nat → Nat → Nat) (g : Nat → ClassId) (a0 a1 a2 a3 a4 a5 a6 a7 a8 a9 a10 a11 a12 a13 a14 a15 a16 a17 a18 a19 a20 a21 a22 a23 a24 a25 a26 a27 a28 a29 a30 a31 a32 : Nat) (uk : Int32) (ul : Int32) (ur : Int32) (usx : Int32) (usNn : Int32) (usNf : Nat → Int32) (usMn : Int32) (usMf : Nat → Int32) (usLn : Int32) (usLf : Nat → Int32) (usKn : Int32) (usKf : Nat → Int32) (ucMn : Int32) (ucMf : Nat → Int32) (ucLn : Int32) (ucLf : Nat → Int32) (ucTn : Int32) (ucTf : Nat → Int32) (uox : Int32) (uoNn : Int32) (uoNf : Nat → Int32) (uoMn : Int32) (uoMf : Nat → Int32) (uoLn : Int32) (uoLf : Nat → Int32) (uoDn : Int32) (uoDf : Nat → Int32) (uac : Int32) (uaWn : Int32) (uaWf : Nat → Int32) (uaDn : Int32) (uaDf : Nat → Int32) (uaLn : Int32) (uaLf : Nat → Int32) (p1 : Int32) {r : Int32} (h : fX11_isFillable ur usMn usMf usLn usLf ucMn ucMf ucLn ucLf uoMn uoMf uoLn uoLf p1 = some r) : RO l yX11_isFillable cX11_isFillable 4 (some .boolean) 2 48 dC dI g [.ref a0, .int p1] (wX11 g a0 a1 a2 a3 a4 a5 a6 a7 a8 a9 a10 a11 a12 a13 a14 a15 a16 a17 a18 a19 a20 a21 a22 a23 a24 a25 a26 a27 a28 a29 a30 a31 a32 uk ul ur usx usNn usNf usMn usMf usLn usLf usKn usKf ucMn ucMf ucLn ucLf ucTn ucTf uox uoNn uoNf uoMn uoMf uoLn uoLf uoDn uoDf uac uaWn uaWf uaDn uaDf uaLn uaLf) (some (.int r)) := by
  refine RO_of (by decide) (Nat.le_of_ble_eq_true rfl) ?_
  intro p e s m below meth c ls F hr hlocks hE hX hP hl
  replace F : CF p m c cX11_isFillable 4 s _ RX11 := F
  replace hl : lv_has ls 4 [(0, .ref a0), (1, .int p1)] := hl
  rw [fX11_isFillable] at h
  replace hP : va_P (dC, dI) vwCl (catp [[(a0, .inr (13, [.ref a1, .ref a10, .ref a17, .ref a26, .int uk, .int ul, .int ur]))], wX9 g a1 a2 a3 a4 a5 a6 a7 a8 a9 usx usNn usNf usMn usMf usLn usLf usKn usKf, wX8 g a10 a11 a12 a13 a14 a15 a16 ucMn ucMf ucLn ucLf ucTn ucTf, wX5 g a17 a18 a19 a20 a21 a22 a23 a24 a25 uox uoNn uoNf uoMn uoMf uoLn uoLf uoDn uoDf, wX1 g a26 a27 a28 a29 a30 a31 a32 uac uaWn uaWf uaDn uaDf uaLn uaLf] []) s.heap := hP
  refine lv_aload_n F.1 F.2.1 dX11_isFillable_0 rfl (lv_at hl 0 rfl) ?_
  refine gF (v := .ref a17) F hE hP 0 rfl rfl inX11 2 (by decide) q167 rfl dX11_isFillable_1 ?_
  refine lv_iload_n F.1 F.2.1 dX11_isFillable_4 rfl (lv_at hl 1 rfl) ?_
  obtain ⟨z1, k2, h⟩ := bd_ok h
  refine cRV1 (As := [.int p1]) (rest := []) (post := catp [wX1 g a26 a27 a28 a29 a30 a31 a32 uac uaWn uaWf uaDn uaDf uaLn uaLf] []) F hE hX va_S.rf (tX5_materialAt l dC dI g a17 a18 a19 a20 a21 a22 a23 a24 a25 uox uoNn uoNf uoMn uoMf uoLn uoLf uoDn uoDf p1 k2) mbX5_materialAt q1112 ⟨(Nat.le_of_ble_eq_true rfl), (Nat.le_of_ble_eq_true rfl)⟩ ⟨Nat.zero_le _, Nat.zero_le _⟩ hP [[(a0, .inr (13, [.ref a1, .ref a10, .ref a17, .ref a26, .int uk, .int ul, .int ur]))], wX9 g a1 a2 a3 a4 a5 a6 a7 a8 a9 usx usNn usNf usMn usMf usLn usLf usKn usKf, wX8 g a10 a11 a12 a13 a14 a15 a16 ucMn ucMf ucLn ucLf ucTn ucTf] rfl 0 rfl rfl rfl hl.1 rfl (Nat.le_of_ble_eq_true rfl) dX11_isFillable_5 ?_
  refine lv_istore_n (lv' := [(2, .int z1), (0, .ref a0), (1, .int p1)]) F.1 F.2.1 dX11_isFillable_8 rfl hl (by decide) rfl (fun ls hl => ?_)
  refine lv_aload_n F.1 F.2.1 dX11_isFillable_9 rfl (lv_at hl 1 rfl) ?_
  refine gF (v := .ref a17) F hE hP 0 rfl rfl inX11 2 (by decide) q167 rfl dX11_isFillable_10 ?_
  refine lv_iload_n F.1 F.2.1 dX11_isFillable_13 rfl (lv_at hl 2 rfl) ?_
  obtain ⟨z3, k4, h⟩ := bd_ok h
  refine cRV1 (As := [.int p1]) (rest := []) (post := catp [wX1 g a26 a27 a28 a29 a30 a31 a32 uac uaWn uaWf uaDn uaDf uaLn uaLf] []) F hE hX va_S.rf (tX5_lengthAt l dC dI g a17 a18 a19 a20 a21 a22 a23 a24 a25 uox uoNn uoNf uoMn uoMf uoLn uoLf uoDn uoDf p1 k4) mbX5_lengthAt q1113 ⟨(Nat.le_of_ble_eq_true rfl), (Nat.le_of_ble_eq_true rfl)⟩ ⟨Nat.zero_le _, Nat.zero_le _⟩ hP [[(a0, .inr (13, [.ref a1, .ref a10, .ref a17, .ref a26, .int uk, .int ul, .int ur]))], wX9 g a1 a2 a3 a4 a5 a6 a7 a8 a9 usx usNn usNf usMn usMf usLn usLf usKn usKf, wX8 g a10 a11 a12 a13 a14 a15 a16 ucMn ucMf ucLn ucLf ucTn ucTf] rfl 0 rfl rfl rfl hl.1 rfl (Nat.le_of_ble_eq_true rfl) dX11_isFillable_14 ?_
  refine lv_istore_n (lv' := [(3, .int z3), (2, .int z1), (0, .ref a0), (1, .int p1)]) F.1 F.2.1 dX11_isFillable_17 rfl hl (by decide) rfl (fun ls hl => ?_)
  refine lv_aload_n F.1 F.2.1 dX11_isFillable_18 rfl (lv_at hl 2 rfl) ?_
  refine gF (v := .ref a10) F hE hP 0 rfl rfl inX11 1 (by decide) q165 rfl dX11_isFillable_19 ?_
  refine lv_iload_n F.1 F.2.1 dX11_isFillable_22 rfl (lv_at hl 1 rfl) ?_
  refine lv_iload_n F.1 F.2.1 dX11_isFillable_23 rfl (lv_at hl 0 rfl) ?_
  obtain ⟨z5, k6, h⟩ := bd_ok h
  refine cRV1 (As := [.int z1, .int z3]) (rest := []) (post := catp [wX5 g a17 a18 a19 a20 a21 a22 a23 a24 a25 uox uoNn uoNf uoMn uoMf uoLn uoLf uoDn uoDf, wX1 g a26 a27 a28 a29 a30 a31 a32 uac uaWn uaWf uaDn uaDf uaLn uaLf] []) F hE hX va_S.rf (tX8_shortestFor l dC dI g a10 a11 a12 a13 a14 a15 a16 ucMn ucMf ucLn ucLf ucTn ucTf z1 z3 k6) mbX8_shortestFor q1114 ⟨(Nat.le_of_ble_eq_true rfl), (Nat.le_of_ble_eq_true rfl)⟩ ⟨Nat.zero_le _, Nat.zero_le _⟩ hP [[(a0, .inr (13, [.ref a1, .ref a10, .ref a17, .ref a26, .int uk, .int ul, .int ur]))], wX9 g a1 a2 a3 a4 a5 a6 a7 a8 a9 usx usNn usNf usMn usMf usLn usLf usKn usKf] rfl 0 rfl rfl rfl hl.1 rfl (Nat.le_of_ble_eq_true rfl) dX11_isFillable_24 ?_
  refine lv_iconst (v := (-1)) F.1 F.2.1 dX11_isFillable_27 (by decide) ?_
  refine lv_icmp_ne (tgt := 48) F.1 F.2.1 dX11_isFillable_28 (by decide) (fun k7 => ?_) (fun k7 => ?_)
  · replace h := it_f k7 h
    refine lv_iconst (v := 1) F.1 F.2.1 dX11_isFillable_48 (by decide) ?_
    refine lv_goto (tgt := 53) F.1 F.2.1 dX11_isFillable_49 (by decide) ?_
    cases h
    exact RO_z F hr hlocks rfl dX11_isFillable_53
  · replace h := it_t k7 h
    refine lv_aload_n F.1 F.2.1 dX11_isFillable_31 rfl (lv_at hl 2 rfl) ?_
    refine gF (v := .ref a1) F hE hP 0 rfl rfl inX11 0 (by decide) q162 rfl dX11_isFillable_32 ?_
    refine lv_iload_n F.1 F.2.1 dX11_isFillable_35 rfl (lv_at hl 1 rfl) ?_
    refine lv_iload_n F.1 F.2.1 dX11_isFillable_36 rfl (lv_at hl 0 rfl) ?_
    refine lv_aload_n F.1 F.2.1 dX11_isFillable_37 rfl (lv_at hl 2 rfl) ?_
    refine gF (v := .int ur) F hE hP 0 rfl rfl inX11 6 (by decide) q177 rfl dX11_isFillable_38 ?_
    obtain ⟨z8, k9, h⟩ := bd_ok h
    refine cRV1 (As := [.int z1, .int z3, .int ur]) (rest := []) (post := catp [wX8 g a10 a11 a12 a13 a14 a15 a16 ucMn ucMf ucLn ucLf ucTn ucTf, wX5 g a17 a18 a19 a20 a21 a22 a23 a24 a25 uox uoNn uoNf uoMn uoMf uoLn uoLf uoDn uoDf, wX1 g a26 a27 a28 a29 a30 a31 a32 uac uaWn uaWf uaDn uaDf uaLn uaLf] []) F hE hX va_S.rf (tX9_choose l dC dI g a1 a2 a3 a4 a5 a6 a7 a8 a9 usx usNn usNf usMn usMf usLn usLf usKn usKf z1 z3 ur k9) mbX9_choose q1118 ⟨(Nat.le_of_ble_eq_true rfl), (Nat.le_of_ble_eq_true rfl)⟩ ⟨Nat.zero_le _, Nat.zero_le _⟩ hP [[(a0, .inr (13, [.ref a1, .ref a10, .ref a17, .ref a26, .int uk, .int ul, .int ur]))]] rfl 0 rfl rfl rfl hl.1 rfl (Nat.le_of_ble_eq_true rfl) dX11_isFillable_41 ?_
    refine lv_iconst (v := (-1)) F.1 F.2.1 dX11_isFillable_44 (by decide) ?_
    refine lv_icmp_eq (tgt := 52) F.1 F.2.1 dX11_isFillable_45 (by decide) (fun k10 => ?_) (fun k10 => ?_)
    · replace h := it_t k10 h
      refine lv_iconst (v := 0) F.1 F.2.1 dX11_isFillable_52 (by decide) ?_
      cases h
      exact RO_z F hr hlocks rfl dX11_isFillable_53
    · replace h := it_f k10 h
      refine lv_iconst (v := 1) F.1 F.2.1 dX11_isFillable_48 (by decide) ?_
      refine lv_goto (tgt := 53) F.1 F.2.1 dX11_isFillable_49 (by decide) ?_
      cases h
      exact RO_z F hr hlocks rfl dX11_isFillable_53
