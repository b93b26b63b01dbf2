/-! WireCutter$Workshop.fillOrder -/
def fX11_fillOrder (uk : Int32) (ul : Int32) (ur : Int32) (usNn : Int32) (usNf : Nat → Int32) (usMn : Int32) (usMf : Nat → Int32) (usLn : Int32) (usLf : Nat → Int32) (usKn : Int32) (usKf : Nat → Int32) (ucMn : Int32) (ucMf : Nat → Int32) (ucLn : Int32) (ucLf : Nat → Int32) (ucTn : Int32) (ucTf : Nat → Int32) (uoNn : Int32) (uoNf : Nat → Int32) (uoMn : Int32) (uoMf : Nat → Int32) (uoLn : Int32) (uoLf : Nat → Int32) (uoDn : Int32) (uoDf : Nat → Int32) (uac : Int32) (uaDn : Int32) (uaDf : Nat → Int32) (uaLn : Int32) (uaLf : Nat → Int32) (p1 : Int32) : Option ((Except String Int32) × Int32 × (Nat → Int32) × Int32 × (Nat → Int32) × Int32 × (Nat → Int32) × Int32 × (Nat → Int32) × Int32 × (Nat → Int32) × Int32 × (Nat → Int32) × (Nat → Int32) × Int32 × (Nat → Int32) × Int32 × (Nat → Int32) × Int32 × (Nat → Int32) × Int32 × (Nat → Int32) × Int32 × (Nat → Int32) × (Nat → Int32)) :=
  (fX11_openOrder uoNn uoNf p1).bind fun z1 =>
  exC z1 (fun e5 => some (.error e5, usNn, usNf, usMn, usMf, usLn, usLf, usKn, usKf, ucMn, ucMf, ucLn, ucLf, ucTf, uoNn, uoNf, uoMn, uoMf, uoLn, uoLf, uoDn, uoDf, uac, uaDf, uaLf)) fun v3 =>
  (fX11_isFillable ur usMn usMf usLn usLf ucMn ucMf ucLn ucLf uoMn uoMf uoLn uoLf v3).bind fun z6 =>
  if z6 = 0 then
    some (.error "java/lang/UnsupportedOperationException", usNn, usNf, usMn, usMf, usLn, usLf, usKn, usKf, ucMn, ucMf, ucLn, ucLf, ucTf, uoNn, uoNf, uoMn, uoMf, uoLn, uoLf, uoDn, uoDf, uac, uaDf, uaLf)
  else
    (fX11_fillAt uk ul ur usNn usNf usMn usMf usLn usLf usKn usKf ucMn ucMf ucLn ucLf ucTn ucTf uoNn uoNf uoMn uoMf uoLn uoLf uoDn uoDf uac uaDn uaDf uaLn uaLf v3).bind fun z9 =>
    some (.ok z9.1, z9.2.1, z9.2.2.1, z9.2.2.2.1, z9.2.2.2.2.1, z9.2.2.2.2.2.1, z9.2.2.2.2.2.2.1, z9.2.2.2.2.2.2.2.1, z9.2.2.2.2.2.2.2.2.1, z9.2.2.2.2.2.2.2.2.2.1, z9.2.2.2.2.2.2.2.2.2.2.1, z9.2.2.2.2.2.2.2.2.2.2.2.1, z9.2.2.2.2.2.2.2.2.2.2.2.2.1, z9.2.2.2.2.2.2.2.2.2.2.2.2.2.1, z9.2.2.2.2.2.2.2.2.2.2.2.2.2.2.1, z9.2.2.2.2.2.2.2.2.2.2.2.2.2.2.2.1, z9.2.2.2.2.2.2.2.2.2.2.2.2.2.2.2.2.1, z9.2.2.2.2.2.2.2.2.2.2.2.2.2.2.2.2.2.1, z9.2.2.2.2.2.2.2.2.2.2.2.2.2.2.2.2.2.2.1, z9.2.2.2.2.2.2.2.2.2.2.2.2.2.2.2.2.2.2.2.1, z9.2.2.2.2.2.2.2.2.2.2.2.2.2.2.2.2.2.2.2.2.1, z9.2.2.2.2.2.2.2.2.2.2.2.2.2.2.2.2.2.2.2.2.2.1, z9.2.2.2.2.2.2.2.2.2.2.2.2.2.2.2.2.2.2.2.2.2.2.1, z9.2.2.2.2.2.2.2.2.2.2.2.2.2.2.2.2.2.2.2.2.2.2.2.1, z9.2.2.2.2.2.2.2.2.2.2.2.2.2.2.2.2.2.2.2.2.2.2.2.2)
theorem mbX11_fillOrder : MV yX11_fillOrder cX11_fillOrder 3 (some .int) 1 := ⟨⟨q1107, q2, by decide +kernel⟩, q1105, q1106⟩
set_option maxHeartbeats 4000000 in
set_option maxRecDepth 100000 in
theorem tX11_fillOrder (l : Launch) (hl9 : l.stackTraces = false) (dC : Nat → ClassId) (dI : Nat → Nat → Nat) (g : Nat → ClassId) (a0 a1 a2 a3 a4 a5 a6 a7 a8 a9 a10 a11 a12 a13 a14 a15 a16 a17 a18 a19 a20 a21 a22 a23 a24 a25 a26 a27 a28 a29 a30 a31 a32 : Nat) (uk : Int32) (ul : Int32) (ur : Int32) (usx : Int32) (usNn : Int32) (usNf : Nat → Int32) (usMn : Int32) (usMf : Nat → Int32) (usLn : Int32) (usLf : Nat → Int32) (usKn : Int32) (usKf : Nat → Int32) (ucMn : Int32) (ucMf : Nat → Int32) (ucLn : Int32) (ucLf : Nat → Int32) (ucTn : Int32) (ucTf : Nat → Int32) (uox : Int32) (uoNn : Int32) (uoNf : Nat → Int32) (uoMn : Int32) (uoMf : Nat → Int32) (uoLn : Int32) (uoLf : Nat → Int32) (uoDn : Int32) (uoDf : Nat → Int32) (uac : Int32) (uaWn : Int32) (uaWf : Nat → Int32) (uaDn : Int32) (uaDf : Nat → Int32) (uaLn : Int32) (uaLf : Nat → Int32) (p1 : Int32) {r : (Except String Int32) × Int32 × (Nat → Int32) × Int32 × (Nat → Int32) × Int32 × (Nat → Int32) × Int32 × (Nat → Int32) × Int32 × (Nat → Int32) × Int32 × (Nat → Int32) × (Nat → Int32) × Int32 × (Nat → Int32) × Int32 × (Nat → Int32) × Int32 × (Nat → Int32) × Int32 × (Nat → Int32) × Int32 × (Nat → Int32) × (Nat → Int32)} (h : fX11_fillOrder uk ul ur usNn usNf usMn usMf usLn usLf usKn usKf ucMn ucMf ucLn ucLf ucTn ucTf uoNn uoNf uoMn uoMf uoLn uoLf uoDn uoDf uac uaDn uaDf uaLn uaLf p1 = some r) : MX vI l yX11_fillOrder cX11_fillOrder 3 (some .int) 7 104 2 12 dC dI g [.ref a0, .int p1] (wX11 g a0 a1 a2 a3 a4 a5 a6 a7 a8 a9 a10 a11 a12 a13 a14 a15 a16 a17 a18 a19 a20 a21 a22 a23 a24 a25 a26 a27 a28 a29 a30 a31 a32 uk ul ur usx usNn usNf usMn usMf usLn usLf usKn usKf ucMn ucMf ucLn ucLf ucTn ucTf uox uoNn uoNf uoMn uoMf uoLn uoLf uoDn uoDf uac uaWn uaWf uaDn uaDf uaLn uaLf) (wX11 g a0 a1 a2 a3 a4 a5 a6 a7 a8 a9 a10 a11 a12 a13 a14 a15 a16 a17 a18 a19 a20 a21 a22 a23 a24 a25 a26 a27 a28 a29 a30 a31 a32 uk ul ur usx r.2.1 r.2.2.1 r.2.2.2.1 r.2.2.2.2.1 r.2.2.2.2.2.1 r.2.2.2.2.2.2.1 r.2.2.2.2.2.2.2.1 r.2.2.2.2.2.2.2.2.1 r.2.2.2.2.2.2.2.2.2.1 r.2.2.2.2.2.2.2.2.2.2.1 r.2.2.2.2.2.2.2.2.2.2.2.1 r.2.2.2.2.2.2.2.2.2.2.2.2.1 ucTn r.2.2.2.2.2.2.2.2.2.2.2.2.2.1 uox r.2.2.2.2.2.2.2.2.2.2.2.2.2.2.1 r.2.2.2.2.2.2.2.2.2.2.2.2.2.2.2.1 r.2.2.2.2.2.2.2.2.2.2.2.2.2.2.2.2.1 r.2.2.2.2.2.2.2.2.2.2.2.2.2.2.2.2.2.1 r.2.2.2.2.2.2.2.2.2.2.2.2.2.2.2.2.2.2.1 r.2.2.2.2.2.2.2.2.2.2.2.2.2.2.2.2.2.2.2.1 r.2.2.2.2.2.2.2.2.2.2.2.2.2.2.2.2.2.2.2.2.1 r.2.2.2.2.2.2.2.2.2.2.2.2.2.2.2.2.2.2.2.2.2.1 r.2.2.2.2.2.2.2.2.2.2.2.2.2.2.2.2.2.2.2.2.2.2.1 uaWn uaWf uaDn r.2.2.2.2.2.2.2.2.2.2.2.2.2.2.2.2.2.2.2.2.2.2.2.1 uaLn r.2.2.2.2.2.2.2.2.2.2.2.2.2.2.2.2.2.2.2.2.2.2.2.2) r.1 := by
  refine MX_of (by decide) (Nat.le_of_ble_eq_true rfl) ?_
  intro p e s m below meth c ls F hr hlocks ht hE hX hA hP hD hS hl
  generalize va_A (wX11 g a0 a1 a2 a3 a4 a5 a6 a7 a8 a9 a10 a11 a12 a13 a14 a15 a16 a17 a18 a19 a20 a21 a22 a23 a24 a25 a26 a27 a28 a29 a30 a31 a32 uk ul ur usx usNn usNf usMn usMf usLn usLf usKn usKf ucMn ucMf ucLn ucLf ucTn ucTf uox uoNn uoNf uoMn uoMf uoLn uoLf uoDn uoDf uac uaWn uaWf uaDn uaDf uaLn uaLf) s.heap.size = A at hA hD hS hX ⊢
  replace F : CF p m c cX11_fillOrder 3 s _ RX11 := F
  replace hl : lv_has ls 3 [(0, .ref a0), (1, .int p1)] := hl
  rw [fX11_fillOrder] at h
  replace hP : va_P (dC, dI) vwCl (catp [wX11 g a0 a1 a2 a3 a4 a5 a6 a7 a8 a9 a10 a11 a12 a13 a14 a15 a16 a17 a18 a19 a20 a21 a22 a23 a24 a25 a26 a27 a28 a29 a30 a31 a32 uk ul ur usx usNn usNf usMn usMf usLn usLf usKn usKf ucMn ucMf ucLn ucLf ucTn ucTf uox uoNn uoNf uoMn uoMf uoLn uoLf uoDn uoDf uac uaWn uaWf uaDn uaDf uaLn uaLf] []) s.heap := hP
  replace hD : va_D A (catp [wX11 g a0 a1 a2 a3 a4 a5 a6 a7 a8 a9 a10 a11 a12 a13 a14 a15 a16 a17 a18 a19 a20 a21 a22 a23 a24 a25 a26 a27 a28 a29 a30 a31 a32 uk ul ur usx usNn usNf usMn usMf usLn usLf usKn usKf ucMn ucMf ucLn ucLf ucTn ucTf uox uoNn uoNf uoMn uoMf uoLn uoLf uoDn uoDf uac uaWn uaWf uaDn uaDf uaLn uaLf] []) := hD
  refine lv_aload_n F.1 F.2.1 dX11_fillOrder_0 rfl (lv_at hl 0 rfl) ?_
  refine lv_iload_n F.1 F.2.1 dX11_fillOrder_1 rfl (lv_at hl 1 rfl) ?_
  obtain ⟨z1, k2, h⟩ := bd_ok h
  refine cXVA (As := [.int p1]) (rest := []) (ws' := catp [wX11 g a0 a1 a2 a3 a4 a5 a6 a7 a8 a9 a10 a11 a12 a13 a14 a15 a16 a17 a18 a19 a20 a21 a22 a23 a24 a25 a26 a27 a28 a29 a30 a31 a32 uk ul ur usx usNn usNf usMn usMf usLn usLf usKn usKf ucMn ucMf ucLn ucLf ucTn ucTf uox uoNn uoNf uoMn uoMf uoLn uoLf uoDn uoDf uac uaWn uaWf uaDn uaDf uaLn uaLf] []) F hE hX (tX11_openOrder l hl9 dC dI g a0 a1 a2 a3 a4 a5 a6 a7 a8 a9 a10 a11 a12 a13 a14 a15 a16 a17 a18 a19 a20 a21 a22 a23 a24 a25 a26 a27 a28 a29 a30 a31 a32 uk ul ur usx usNn usNf usMn usMf usLn usLf usKn usKf ucMn ucMf ucLn ucLf ucTn ucTf uox uoNn uoNf uoMn uoMf uoLn uoLf uoDn uoDf uac uaWn uaWf uaDn uaDf uaLn uaLf p1 k2) mbX11_openOrder q1085 ⟨(Nat.le_of_ble_eq_true rfl), (Nat.le_of_ble_eq_true rfl)⟩ ⟨(Nat.le_of_ble_eq_true rfl), (Nat.le_of_ble_eq_true rfl)⟩ hP hD hS hA rfl rfl rfl 0 rfl rfl rfl hl.1 rfl (Nat.le_of_ble_eq_true rfl) dX11_fillOrder_2 (fun E ce q9 hx9 H locs hP hD hS h7 h8 h9 => ?_) (fun v3 k4 H locs hP hD hS => ?_)
  · replace h := ex_er hx9 h
    cases h
    exact MX_o rfl ht hlocks hP hS h7 h8 h9 (Nat.le_of_ble_eq_true rfl) (Nat.le_of_ble_eq_true rfl)
  replace h := ex_ok k4 h
  refine lv_istore_n (lv' := [(2, .int v3), (0, .ref a0), (1, .int p1)]) F.1 F.2.1 dX11_fillOrder_5 rfl hl (by decide) rfl (fun ls hl => ?_)
  refine lv_aload_n F.1 F.2.1 dX11_fillOrder_6 rfl (lv_at hl 1 rfl) ?_
  refine lv_iload_n F.1 F.2.1 dX11_fillOrder_7 rfl (lv_at hl 0 rfl) ?_
  obtain ⟨z6, k7, h⟩ := bd_ok h
  refine cRVA (As := [.int v3]) (rest := []) F hE hX hS (tX11_isFillable l dC dI g a0 a1 a2 a3 a4 a5 a6 a7 a8 a9 a10 a11 a12 a13 a14 a15 a16 a17 a18 a19 a20 a21 a22 a23 a24 a25 a26 a27 a28 a29 a30 a31 a32 uk ul ur usx usNn usNf usMn usMf usLn usLf usKn usKf ucMn ucMf ucLn ucLf ucTn ucTf uox uoNn uoNf uoMn uoMf uoLn uoLf uoDn uoDf uac uaWn uaWf uaDn uaDf uaLn uaLf v3 k7) mbX11_isFillable q1108 ⟨(Nat.le_of_ble_eq_true rfl), (Nat.le_of_ble_eq_true rfl)⟩ ⟨(Nat.le_of_ble_eq_true rfl), (Nat.le_of_ble_eq_true rfl)⟩ hP rfl 0 rfl rfl rfl hl.1 rfl (Nat.le_of_ble_eq_true rfl) dX11_fillOrder_8 ?_
  refine lv_if_ne (tgt := 24) F.1 F.2.1 dX11_fillOrder_11 (by decide) (fun k8 => ?_) (fun k8 => ?_)
  · replace h := it_f k8 h
    refine lv_aload_n F.1 F.2.1 dX11_fillOrder_24 rfl (lv_at hl 1 rfl) ?_
    refine lv_iload_n F.1 F.2.1 dX11_fillOrder_25 rfl (lv_at hl 0 rfl) ?_
    obtain ⟨z9, k10, h⟩ := bd_ok h
    refine cMVA (As := [.int v3]) (rest := []) (ws' := catp [wX11 g a0 a1 a2 a3 a4 a5 a6 a7 a8 a9 a10 a11 a12 a13 a14 a15 a16 a17 a18 a19 a20 a21 a22 a23 a24 a25 a26 a27 a28 a29 a30 a31 a32 uk ul ur usx z9.2.1 z9.2.2.1 z9.2.2.2.1 z9.2.2.2.2.1 z9.2.2.2.2.2.1 z9.2.2.2.2.2.2.1 z9.2.2.2.2.2.2.2.1 z9.2.2.2.2.2.2.2.2.1 z9.2.2.2.2.2.2.2.2.2.1 z9.2.2.2.2.2.2.2.2.2.2.1 z9.2.2.2.2.2.2.2.2.2.2.2.1 z9.2.2.2.2.2.2.2.2.2.2.2.2.1 ucTn z9.2.2.2.2.2.2.2.2.2.2.2.2.2.1 uox z9.2.2.2.2.2.2.2.2.2.2.2.2.2.2.1 z9.2.2.2.2.2.2.2.2.2.2.2.2.2.2.2.1 z9.2.2.2.2.2.2.2.2.2.2.2.2.2.2.2.2.1 z9.2.2.2.2.2.2.2.2.2.2.2.2.2.2.2.2.2.1 z9.2.2.2.2.2.2.2.2.2.2.2.2.2.2.2.2.2.2.1 z9.2.2.2.2.2.2.2.2.2.2.2.2.2.2.2.2.2.2.2.1 z9.2.2.2.2.2.2.2.2.2.2.2.2.2.2.2.2.2.2.2.2.1 z9.2.2.2.2.2.2.2.2.2.2.2.2.2.2.2.2.2.2.2.2.2.1 z9.2.2.2.2.2.2.2.2.2.2.2.2.2.2.2.2.2.2.2.2.2.2.1 uaWn uaWf uaDn z9.2.2.2.2.2.2.2.2.2.2.2.2.2.2.2.2.2.2.2.2.2.2.2.1 uaLn z9.2.2.2.2.2.2.2.2.2.2.2.2.2.2.2.2.2.2.2.2.2.2.2.2] []) F hE hX (tX11_fillAt l dC dI g a0 a1 a2 a3 a4 a5 a6 a7 a8 a9 a10 a11 a12 a13 a14 a15 a16 a17 a18 a19 a20 a21 a22 a23 a24 a25 a26 a27 a28 a29 a30 a31 a32 uk ul ur usx usNn usNf usMn usMf usLn usLf usKn usKf ucMn ucMf ucLn ucLf ucTn ucTf uox uoNn uoNf uoMn uoMf uoLn uoLf uoDn uoDf uac uaWn uaWf uaDn uaDf uaLn uaLf v3 k10) mbX11_fillAt q1141 ⟨(Nat.le_of_ble_eq_true rfl), (Nat.le_of_ble_eq_true rfl)⟩ ⟨(Nat.le_of_ble_eq_true rfl), (Nat.le_of_ble_eq_true rfl)⟩ hP hD hS hA rfl rfl rfl 0 rfl rfl rfl hl.1 rfl (Nat.le_of_ble_eq_true rfl) dX11_fillOrder_26 (fun H locs hP hD hS => ?_)
    cases h
    exact MX_i rfl F hr hlocks (Nat.le_of_ble_eq_true rfl) (Nat.le_of_ble_eq_true rfl) hP hS dX11_fillOrder_29
  · replace h := it_t k8 h
    cases h
    exact MX_t (rest := []) rfl F hE hX hl9 ht hlocks hP hS (by decide +kernel) q1125 q23 sq20 at8 gt8 hl.1 dX11_fillOrder_14 dX11_fillOrder_17 dX11_fillOrder_18 dX11_fillOrder_20 dX11_fillOrder_23 (Nat.le_of_ble_eq_true rfl) (Nat.le_of_ble_eq_true rfl) (Nat.le_of_ble_eq_true rfl) (Nat.le_of_ble_eq_true rfl) (Nat.le_of_ble_eq_true rfl) (Nat.le_of_ble_eq_true rfl)
/-! WireCutter$Workshop.fillUntil -/
def fX11_fillUntil_L17 (x1 : Int32) (x2 : Int32) (uk : Int32) (ul : Int32) (ur : Int32) (ucTn : Int32) (uaDn : Int32) (uaLn : Int32) : Nat → Int32 → Int32 → Int32 → (Nat → Int32) → Int32 → (Nat → Int32) → Int32 → (Nat → Int32) → Int32 → (Nat → Int32) → Int32 → (Nat → Int32) → Int32 → (Nat → Int32) → (Nat → Int32) → Int32 → (Nat → Int32) → Int32 → (Nat → Int32) → Int32 → (Nat → Int32) → Int32 → (Nat → Int32) → Int32 → (Nat → Int32) → (Nat → Int32) → Option ((Except String Int32) × Int32 × (Nat → Int32) × Int32 × (Nat → Int32) × Int32 × (Nat → Int32) × Int32 × (Nat → Int32) × Int32 × (Nat → Int32) × Int32 × (Nat → Int32) × (Nat → Int32) × Int32 × (Nat → Int32) × Int32 × (Nat → Int32) × Int32 × (Nat → Int32) × Int32 × (Nat → Int32) × Int32 × (Nat → Int32) × (Nat → Int32))
  | 0, _, _, _, _, _, _, _, _, _, _, _, _, _, _, _, _, _, _, _, _, _, _, _, _, _, _ => none
  | k + 1, x3, x4, usNn, usNf, usMn, usMf, usLn, usLf, usKn, usKf, ucMn, ucMf, ucLn, ucLf, ucTf, uoNn, uoNf, uoMn, uoMf, uoLn, uoLf, uoDn, uoDf, uac, uaDf, uaLf =>
    if x2 ≤ x4 then
      (fX5_count uoNn).bind fun z9 =>
      some (.ok (x2 - z9), usNn, usNf, usMn, usMf, usLn, usLf, usKn, usKf, ucMn, ucMf, ucLn, ucLf, ucTf, uoNn, uoNf, uoMn, uoMf, uoLn, uoLf, uoDn, uoDf, uac, uaDf, uaLf)
    else
      (fX5_dueAt uoDn uoDf x3).bind fun z11 =>
      if x1 < z11 then
        fX11_fillUntil_L17 x1 x2 uk ul ur ucTn uaDn uaLn k (x3 + 1) (x4 + 1) usNn usNf usMn usMf usLn usLf usKn usKf ucMn ucMf ucLn ucLf ucTf uoNn uoNf uoMn uoMf uoLn uoLf uoDn uoDf uac uaDf uaLf
      else
        (fX11_isFillable ur usMn usMf usLn usLf ucMn ucMf ucLn ucLf uoMn uoMf uoLn uoLf x3).bind fun z14 =>
        if z14 = 0 then
          fX11_fillUntil_L17 x1 x2 uk ul ur ucTn uaDn uaLn k (x3 + 1) (x4 + 1) usNn usNf usMn usMf usLn usLf usKn usKf ucMn ucMf ucLn ucLf ucTf uoNn uoNf uoMn uoMf uoLn uoLf uoDn uoDf uac uaDf uaLf
        else
          (fX11_fillAt uk ul ur usNn usNf usMn usMf usLn usLf usKn usKf ucMn ucMf ucLn ucLf ucTn ucTf uoNn uoNf uoMn uoMf uoLn uoLf uoDn uoDf uac uaDn uaDf uaLn uaLf x3).bind fun z17 =>
          fX11_fillUntil_L17 x1 x2 uk ul ur ucTn uaDn uaLn k x3 (x4 + 1) z17.2.1 z17.2.2.1 z17.2.2.2.1 z17.2.2.2.2.1 z17.2.2.2.2.2.1 z17.2.2.2.2.2.2.1 z17.2.2.2.2.2.2.2.1 z17.2.2.2.2.2.2.2.2.1 z17.2.2.2.2.2.2.2.2.2.1 z17.2.2.2.2.2.2.2.2.2.2.1 z17.2.2.2.2.2.2.2.2.2.2.2.1 z17.2.2.2.2.2.2.2.2.2.2.2.2.1 z17.2.2.2.2.2.2.2.2.2.2.2.2.2.1 z17.2.2.2.2.2.2.2.2.2.2.2.2.2.2.1 z17.2.2.2.2.2.2.2.2.2.2.2.2.2.2.2.1 z17.2.2.2.2.2.2.2.2.2.2.2.2.2.2.2.2.1 z17.2.2.2.2.2.2.2.2.2.2.2.2.2.2.2.2.2.1 z17.2.2.2.2.2.2.2.2.2.2.2.2.2.2.2.2.2.2.1 z17.2.2.2.2.2.2.2.2.2.2.2.2.2.2.2.2.2.2.2.1 z17.2.2.2.2.2.2.2.2.2.2.2.2.2.2.2.2.2.2.2.2.1 z17.2.2.2.2.2.2.2.2.2.2.2.2.2.2.2.2.2.2.2.2.2.1 z17.2.2.2.2.2.2.2.2.2.2.2.2.2.2.2.2.2.2.2.2.2.2.1 z17.2.2.2.2.2.2.2.2.2.2.2.2.2.2.2.2.2.2.2.2.2.2.2.1 z17.2.2.2.2.2.2.2.2.2.2.2.2.2.2.2.2.2.2.2.2.2.2.2.2
def fX11_fillUntil (uk : Int32) (ul : Int32) (ur : Int32) (usNn : Int32) (usNf : Nat → Int32) (usMn : Int32) (usMf : Nat → Int32) (usLn : Int32) (usLf : Nat → Int32) (usKn : Int32) (usKf : Nat → Int32) (ucMn : Int32) (ucMf : Nat → Int32) (ucLn : Int32) (ucLf : Nat → Int32) (ucTn : Int32) (ucTf : Nat → Int32) (uoNn : Int32) (uoNf : Nat → Int32) (uoMn : Int32) (uoMf : Nat → Int32) (uoLn : Int32) (uoLf : Nat → Int32) (uoDn : Int32) (uoDf : Nat → Int32) (uac : Int32) (uaDn : Int32) (uaDf : Nat → Int32) (uaLn : Int32) (uaLf : Nat → Int32) (p1 : Int32) : Option ((Except String Int32) × Int32 × (Nat → Int32) × Int32 × (Nat → Int32) × Int32 × (Nat → Int32) × Int32 × (Nat → Int32) × Int32 × (Nat → Int32) × Int32 × (Nat → Int32) × (Nat → Int32) × Int32 × (Nat → Int32) × Int32 × (Nat → Int32) × Int32 × (Nat → Int32) × Int32 × (Nat → Int32) × Int32 × (Nat → Int32) × (Nat → Int32)) :=
  (fX11_requireDay p1).bind fun z1 =>
  exC z1 (fun e5 => some (.error e5, usNn, usNf, usMn, usMf, usLn, usLf, usKn, usKf, ucMn, ucMf, ucLn, ucLf, ucTf, uoNn, uoNf, uoMn, uoMf, uoLn, uoLf, uoDn, uoDf, uac, uaDf, uaLf)) fun v3 =>
  (fX5_count uoNn).bind fun z6 =>
  fX11_fillUntil_L17 p1 z6 uk ul ur ucTn uaDn uaLn FU 0 0 usNn usNf usMn usMf usLn usLf usKn usKf ucMn ucMf ucLn ucLf ucTf uoNn uoNf uoMn uoMf uoLn uoLf uoDn uoDf uac uaDf uaLf
theorem mbX11_fillUntil : MV yX11_fillUntil cX11_fillUntil 5 (some .int) 1 := ⟨⟨q1185, q2, by decide +kernel⟩, q1183, q1184⟩
set_option maxHeartbeats 4000000 in
set_option maxRecDepth 100000 in
theorem tX11_fillUntil_L17 {p : Program} {l : Launch} {e : Env} {s : State} {m : MethodId} {args : Array Value} {below : List Frame} {meth : Method} {c : Code} {dC : Nat → ClassId} {dI : Nat → Nat → Nat} {g : Nat → ClassId} {a0 a1 a2 a3 a4 a5 a6 a7 a8 a9 a10 a11 a12 a13 a14 a15 a16 a17 a18 a19 a20 a21 a22 a23 a24 a25 a26 a27 a28 a29 a30 a31 a32 : Nat} {r : (Except String Int32) × Int32 × (Nat → Int32) × Int32 × (Nat → Int32) × Int32 × (Nat → Int32) × Int32 × (Nat → Int32) × Int32 × (Nat → Int32) × Int32 × (Nat → Int32) × (Nat → Int32) × Int32 × (Nat → Int32) × Int32 × (Nat → Int32) × Int32 × (Nat → Int32) × Int32 × (Nat → Int32) × Int32 × (Nat → Int32) × (Nat → Int32)} {A : Nat → Prop} (F : CF p m c cX11_fillUntil 5 s args RX11) (hr : meth.sig.returnType = (some .int)) (hlocks : meth.locks = false) (hE : EK dC dI g s) (hX : EX g A s s.heap) (hA : ∀ q : Nat, s.heap.size ≤ q → A q) (hl9 : l.stackTraces = false) (ht : ∀ z ∈ c.exceptionTable.toList, False) (x1 : Int32) (x2 : Int32) (uk : Int32) (ul : Int32) (ur : Int32) (usx : Int32) (ucTn : Int32) (uox : Int32) (uaWn : Int32) (uaWf : Nat → Int32) (uaDn : Int32) (uaLn : Int32) : ∀ (k : Nat) (x3 : Int32) (x4 : Int32) (usNn : Int32) (usNf : Nat → Int32) (usMn : Int32) (usMf : Nat → Int32) (usLn : Int32) (usLf : Nat → Int32) (usKn : Int32) (usKf : Nat → Int32) (ucMn : Int32) (ucMf : Nat → Int32) (ucLn : Int32) (ucLf : Nat → Int32) (ucTf : Nat → Int32) (uoNn : Int32) (uoNf : Nat → Int32) (uoMn : Int32) (uoMf : Nat → Int32) (uoLn : Int32) (uoLf : Nat → Int32) (uoDn : Int32) (uoDf : Nat → Int32) (uac : Int32) (uaDf : Nat → Int32) (uaLf : Nat → Int32), fX11_fillUntil_L17 x1 x2 uk ul ur ucTn uaDn uaLn k x3 x4 usNn usNf usMn usMf usLn usLf usKn usKf ucMn ucMf ucLn ucLf ucTf uoNn uoNf uoMn uoMf uoLn uoLf uoDn uoDf uac uaDf uaLf = some r → ∀ (H : Heap) (locs : List Loc), va_P (dC, dI) vwCl (catp [[(a0, .inr (13, [.ref a1, .ref a10, .ref a17, .ref a26, .int uk, .int ul, .int ur]))], wX9 g a1 a2 a3 a4 a5 a6 a7 a8 a9 usx usNn usNf usMn usMf usLn usLf usKn usKf, wX8 g a10 a11 a12 a13 a14 a15 a16 ucMn ucMf ucLn ucLf ucTn ucTf, wX5 g a17 a18 a19 a20 a21 a22 a23 a24 a25 uox uoNn uoNf uoMn uoMf uoLn uoLf uoDn uoDf, wX1 g a26 a27 a28 a29 a30 a31 a32 uac uaWn uaWf uaDn uaDf uaLn uaLf] []) H → va_D A (catp [[(a0, .inr (13, [.ref a1, .ref a10, .ref a17, .ref a26, .int uk, .int ul, .int ur]))], wX9 g a1 a2 a3 a4 a5 a6 a7 a8 a9 usx usNn usNf usMn usMf usLn usLf usKn usKf, wX8 g a10 a11 a12 a13 a14 a15 a16 ucMn ucMf ucLn ucLf ucTn ucTf, wX5 g a17 a18 a19 a20 a21 a22 a23 a24 a25 uox uoNn uoNf uoMn uoMf uoLn uoLf uoDn uoDf, wX1 g a26 a27 a28 a29 a30 a31 a32 uac uaWn uaWf uaDn uaDf uaLn uaLf] []) → va_S A s.heap H locs → ∀ (ls : Array Slot), lv_has ls 5 [(0, .ref a0), (1, .int x1), (2, .int x2), (3, .int x3), (4, .int x4)] → W p l e { frames := 7, cells := 1, slots := 6, locals := 102 } s m args below meth c H locs 1 6 (vx_MQ below (MXQ vI (r.1) dC dI (wX11 g a0 a1 a2 a3 a4 a5 a6 a7 a8 a9 a10 a11 a12 a13 a14 a15 a16 a17 a18 a19 a20 a21 a22 a23 a24 a25 a26 a27 a28 a29 a30 a31 a32 uk ul ur usx r.2.1 r.2.2.1 r.2.2.2.1 r.2.2.2.2.1 r.2.2.2.2.2.1 r.2.2.2.2.2.2.1 r.2.2.2.2.2.2.2.1 r.2.2.2.2.2.2.2.2.1 r.2.2.2.2.2.2.2.2.2.1 r.2.2.2.2.2.2.2.2.2.2.1 r.2.2.2.2.2.2.2.2.2.2.2.1 r.2.2.2.2.2.2.2.2.2.2.2.2.1 ucTn r.2.2.2.2.2.2.2.2.2.2.2.2.2.1 uox r.2.2.2.2.2.2.2.2.2.2.2.2.2.2.1 r.2.2.2.2.2.2.2.2.2.2.2.2.2.2.2.1 r.2.2.2.2.2.2.2.2.2.2.2.2.2.2.2.2.1 r.2.2.2.2.2.2.2.2.2.2.2.2.2.2.2.2.2.1 r.2.2.2.2.2.2.2.2.2.2.2.2.2.2.2.2.2.2.1 r.2.2.2.2.2.2.2.2.2.2.2.2.2.2.2.2.2.2.2.1 r.2.2.2.2.2.2.2.2.2.2.2.2.2.2.2.2.2.2.2.2.1 r.2.2.2.2.2.2.2.2.2.2.2.2.2.2.2.2.2.2.2.2.2.1 r.2.2.2.2.2.2.2.2.2.2.2.2.2.2.2.2.2.2.2.2.2.2.1 uaWn uaWf uaDn r.2.2.2.2.2.2.2.2.2.2.2.2.2.2.2.2.2.2.2.2.2.2.2.1 uaLn r.2.2.2.2.2.2.2.2.2.2.2.2.2.2.2.2.2.2.2.2.2.2.2.2) A) (MXX (r.1) dC dI (wX11 g a0 a1 a2 a3 a4 a5 a6 a7 a8 a9 a10 a11 a12 a13 a14 a15 a16 a17 a18 a19 a20 a21 a22 a23 a24 a25 a26 a27 a28 a29 a30 a31 a32 uk ul ur usx r.2.1 r.2.2.1 r.2.2.2.1 r.2.2.2.2.1 r.2.2.2.2.2.1 r.2.2.2.2.2.2.1 r.2.2.2.2.2.2.2.1 r.2.2.2.2.2.2.2.2.1 r.2.2.2.2.2.2.2.2.2.1 r.2.2.2.2.2.2.2.2.2.2.1 r.2.2.2.2.2.2.2.2.2.2.2.1 r.2.2.2.2.2.2.2.2.2.2.2.2.1 ucTn r.2.2.2.2.2.2.2.2.2.2.2.2.2.1 uox r.2.2.2.2.2.2.2.2.2.2.2.2.2.2.1 r.2.2.2.2.2.2.2.2.2.2.2.2.2.2.2.1 r.2.2.2.2.2.2.2.2.2.2.2.2.2.2.2.2.1 r.2.2.2.2.2.2.2.2.2.2.2.2.2.2.2.2.2.1 r.2.2.2.2.2.2.2.2.2.2.2.2.2.2.2.2.2.2.1 r.2.2.2.2.2.2.2.2.2.2.2.2.2.2.2.2.2.2.2.1 r.2.2.2.2.2.2.2.2.2.2.2.2.2.2.2.2.2.2.2.2.1 r.2.2.2.2.2.2.2.2.2.2.2.2.2.2.2.2.2.2.2.2.2.1 r.2.2.2.2.2.2.2.2.2.2.2.2.2.2.2.2.2.2.2.2.2.2.1 uaWn uaWf uaDn r.2.2.2.2.2.2.2.2.2.2.2.2.2.2.2.2.2.2.2.2.2.2.2.1 uaLn r.2.2.2.2.2.2.2.2.2.2.2.2.2.2.2.2.2.2.2.2.2.2.2.2) A) args s 1 6 A) (F0 m 17 ls []) := by
  intro k
  induction k with
  | zero =>
    intro x3 x4 usNn usNf usMn usMf usLn usLf usKn usKf ucMn ucMf ucLn ucLf ucTf uoNn uoNf uoMn uoMf uoLn uoLf uoDn uoDf uac uaDf uaLf h
    exact absurd h (by simp [fX11_fillUntil_L17])
  | succ k ih =>
    intro x3 x4 usNn usNf usMn usMf usLn usLf usKn usKf ucMn ucMf ucLn ucLf ucTf uoNn uoNf uoMn uoMf uoLn uoLf uoDn uoDf uac uaDf uaLf h H locs hP hD hS ls hl
    rw [fX11_fillUntil_L17] at h
    refine lv_iload F.1 F.2.1 dX11_fillUntil_17 (lv_at hl 4 rfl) ?_
    refine lv_iload_n F.1 F.2.1 dX11_fillUntil_19 rfl (lv_at hl 2 rfl) ?_
    refine lv_icmp_ge (tgt := 61) F.1 F.2.1 dX11_fillUntil_20 (by decide) (fun k8 => ?_) (fun k8 => ?_)
    · replace h := it_t k8 h
      refine lv_iload_n F.1 F.2.1 dX11_fillUntil_61 rfl (lv_at hl 2 rfl) ?_
      refine lv_aload_n F.1 F.2.1 dX11_fillUntil_62 rfl (lv_at hl 0 rfl) ?_
      refine gF (v := .ref a17) F hE hP 0 rfl rfl inX11 2 (by decide) q167 rfl dX11_fillUntil_63 ?_
      obtain ⟨z9, k10, h⟩ := bd_ok h
      refine cRV1 (As := []) (rest := [.int x2]) (post := catp [wX1 g a26 a27 a28 a29 a30 a31 a32 uac uaWn uaWf uaDn uaDf uaLn uaLf] []) F hE hX hS (tX5_count l dC dI g a17 a18 a19 a20 a21 a22 a23 a24 a25 uox uoNn uoNf uoMn uoMf uoLn uoLf uoDn uoDf k10) mbX5_count q1067 ⟨(Nat.le_of_ble_eq_true rfl), (Nat.le_of_ble_eq_true rfl)⟩ ⟨(Nat.le_of_ble_eq_true rfl), (Nat.le_of_ble_eq_true rfl)⟩ hP [[(a0, .inr (13, [.ref a1, .ref a10, .ref a17, .ref a26, .int uk, .int ul, .int ur]))], wX9 g a1 a2 a3 a4 a5 a6 a7 a8 a9 usx usNn usNf usMn usMf usLn usLf usKn usKf, wX8 g a10 a11 a12 a13 a14 a15 a16 ucMn ucMf ucLn ucLf ucTn ucTf] rfl 0 rfl rfl rfl hl.1 rfl (Nat.le_of_ble_eq_true rfl) dX11_fillUntil_66 ?_
      refine lv_isub F.1 F.2.1 dX11_fillUntil_69 ?_
      cases h
      exact MX_i rfl F hr hlocks (Nat.le_of_ble_eq_true rfl) (Nat.le_of_ble_eq_true rfl) hP hS dX11_fillUntil_70
    · replace h := it_f k8 h
      refine lv_aload_n F.1 F.2.1 dX11_fillUntil_23 rfl (lv_at hl 0 rfl) ?_
      refine gF (v := .ref a17) F hE hP 0 rfl rfl inX11 2 (by decide) q167 rfl dX11_fillUntil_24 ?_
      refine lv_iload_n F.1 F.2.1 dX11_fillUntil_27 rfl (lv_at hl 3 rfl) ?_
      obtain ⟨z11, k12, h⟩ := bd_ok h
      refine cRV1 (As := [.int x3]) (rest := []) (post := catp [wX1 g a26 a27 a28 a29 a30 a31 a32 uac uaWn uaWf uaDn uaDf uaLn uaLf] []) F hE hX hS (tX5_dueAt l dC dI g a17 a18 a19 a20 a21 a22 a23 a24 a25 uox uoNn uoNf uoMn uoMf uoLn uoLf uoDn uoDf x3 k12) mbX5_dueAt q1186 ⟨(Nat.le_of_ble_eq_true rfl), (Nat.le_of_ble_eq_true rfl)⟩ ⟨(Nat.le_of_ble_eq_true rfl), (Nat.le_of_ble_eq_true rfl)⟩ hP [[(a0, .inr (13, [.ref a1, .ref a10, .ref a17, .ref a26, .int uk, .int ul, .int ur]))], wX9 g a1 a2 a3 a4 a5 a6 a7 a8 a9 usx usNn usNf usMn usMf usLn usLf usKn usKf, wX8 g a10 a11 a12 a13 a14 a15 a16 ucMn ucMf ucLn ucLf ucTn ucTf] rfl 0 rfl rfl rfl hl.1 rfl (Nat.le_of_ble_eq_true rfl) dX11_fillUntil_28 ?_
      refine lv_iload_n F.1 F.2.1 dX11_fillUntil_31 rfl (lv_at hl 1 rfl) ?_
      refine lv_icmp_gt (tgt := 52) F.1 F.2.1 dX11_fillUntil_32 (by decide) (fun k13 => ?_) (fun k13 => ?_)
      · replace h := it_t k13 h
        refine lv_iinc (v := x3 + 1) (lv' := [(3, .int (x3 + 1)), (0, .ref a0), (1, .int x1), (2, .int x2), (4, .int x4)]) F.1 F.2.1 dX11_fillUntil_52 hl (k := 3) rfl (by rfl) (by decide) rfl (fun ls hl => ?_)
        refine lv_iinc (v := x4 + 1) (lv' := [(4, .int (x4 + 1)), (3, .int (x3 + 1)), (0, .ref a0), (1, .int x1), (2, .int x2)]) F.1 F.2.1 dX11_fillUntil_55 hl (k := 4) rfl (by rfl) (by decide) rfl (fun ls hl => ?_)
        refine lv_goto (tgt := 17) F.1 F.2.1 dX11_fillUntil_58 (by decide) ?_
        exact ih (x3 + 1) (x4 + 1) usNn usNf usMn usMf usLn usLf usKn usKf ucMn ucMf ucLn ucLf ucTf uoNn uoNf uoMn uoMf uoLn uoLf uoDn uoDf uac uaDf uaLf h _ _ hP hD hS ls (lv_sub hl [2, 3, 4, 1, 0] rfl)
      · replace h := it_f k13 h
        refine lv_aload_n F.1 F.2.1 dX11_fillUntil_35 rfl (lv_at hl 0 rfl) ?_
        refine lv_iload_n F.1 F.2.1 dX11_fillUntil_36 rfl (lv_at hl 3 rfl) ?_
        obtain ⟨z14, k15, h⟩ := bd_ok h
        refine cRVA (As := [.int x3]) (rest := []) F hE hX hS (tX11_isFillable l dC dI g a0 a1 a2 a3 a4 a5 a6 a7 a8 a9 a10 a11 a12 a13 a14 a15 a16 a17 a18 a19 a20 a21 a22 a23 a24 a25 a26 a27 a28 a29 a30 a31 a32 uk ul ur usx usNn usNf usMn usMf usLn usLf usKn usKf ucMn ucMf ucLn ucLf ucTn ucTf uox uoNn uoNf uoMn uoMf uoLn uoLf uoDn uoDf uac uaWn uaWf uaDn uaDf uaLn uaLf x3 k15) mbX11_isFillable q1108 ⟨(Nat.le_of_ble_eq_true rfl), (Nat.le_of_ble_eq_true rfl)⟩ ⟨(Nat.le_of_ble_eq_true rfl), (Nat.le_of_ble_eq_true rfl)⟩ hP rfl 0 rfl rfl rfl hl.1 rfl (Nat.le_of_ble_eq_true rfl) dX11_fillUntil_37 ?_
        refine lv_if_eq (tgt := 52) F.1 F.2.1 dX11_fillUntil_40 (by decide) (fun k16 => ?_) (fun k16 => ?_)
        · replace h := it_t k16 h
          refine lv_iinc (v := x3 + 1) (lv' := [(3, .int (x3 + 1)), (0, .ref a0), (1, .int x1), (2, .int x2), (4, .int x4)]) F.1 F.2.1 dX11_fillUntil_52 hl (k := 3) rfl (by rfl) (by decide) rfl (fun ls hl => ?_)
          refine lv_iinc (v := x4 + 1) (lv' := [(4, .int (x4 + 1)), (3, .int (x3 + 1)), (0, .ref a0), (1, .int x1), (2, .int x2)]) F.1 F.2.1 dX11_fillUntil_55 hl (k := 4) rfl (by rfl) (by decide) rfl (fun ls hl => ?_)
          refine lv_goto (tgt := 17) F.1 F.2.1 dX11_fillUntil_58 (by decide) ?_
          exact ih (x3 + 1) (x4 + 1) usNn usNf usMn usMf usLn usLf usKn usKf ucMn ucMf ucLn ucLf ucTf uoNn uoNf uoMn uoMf uoLn uoLf uoDn uoDf uac uaDf uaLf h _ _ hP hD hS ls (lv_sub hl [2, 3, 4, 1, 0] rfl)
        · replace h := it_f k16 h
          refine lv_aload_n F.1 F.2.1 dX11_fillUntil_43 rfl (lv_at hl 0 rfl) ?_
          refine lv_iload_n F.1 F.2.1 dX11_fillUntil_44 rfl (lv_at hl 3 rfl) ?_
          obtain ⟨z17, k18, h⟩ := bd_ok h
          refine cMVA (As := [.int x3]) (rest := []) (ws' := catp [[(a0, .inr (13, [.ref a1, .ref a10, .ref a17, .ref a26, .int uk, .int ul, .int ur]))], wX9 g a1 a2 a3 a4 a5 a6 a7 a8 a9 usx z17.2.1 z17.2.2.1 z17.2.2.2.1 z17.2.2.2.2.1 z17.2.2.2.2.2.1 z17.2.2.2.2.2.2.1 z17.2.2.2.2.2.2.2.1 z17.2.2.2.2.2.2.2.2.1, wX8 g a10 a11 a12 a13 a14 a15 a16 z17.2.2.2.2.2.2.2.2.2.1 z17.2.2.2.2.2.2.2.2.2.2.1 z17.2.2.2.2.2.2.2.2.2.2.2.1 z17.2.2.2.2.2.2.2.2.2.2.2.2.1 ucTn z17.2.2.2.2.2.2.2.2.2.2.2.2.2.1, wX5 g a17 a18 a19 a20 a21 a22 a23 a24 a25 uox z17.2.2.2.2.2.2.2.2.2.2.2.2.2.2.1 z17.2.2.2.2.2.2.2.2.2.2.2.2.2.2.2.1 z17.2.2.2.2.2.2.2.2.2.2.2.2.2.2.2.2.1 z17.2.2.2.2.2.2.2.2.2.2.2.2.2.2.2.2.2.1 z17.2.2.2.2.2.2.2.2.2.2.2.2.2.2.2.2.2.2.1 z17.2.2.2.2.2.2.2.2.2.2.2.2.2.2.2.2.2.2.2.1 z17.2.2.2.2.2.2.2.2.2.2.2.2.2.2.2.2.2.2.2.2.1 z17.2.2.2.2.2.2.2.2.2.2.2.2.2.2.2.2.2.2.2.2.2.1, wX1 g a26 a27 a28 a29 a30 a31 a32 z17.2.2.2.2.2.2.2.2.2.2.2.2.2.2.2.2.2.2.2.2.2.2.1 uaWn uaWf uaDn z17.2.2.2.2.2.2.2.2.2.2.2.2.2.2.2.2.2.2.2.2.2.2.2.1 uaLn z17.2.2.2.2.2.2.2.2.2.2.2.2.2.2.2.2.2.2.2.2.2.2.2.2] []) F hE hX (tX11_fillAt l dC dI g a0 a1 a2 a3 a4 a5 a6 a7 a8 a9 a10 a11 a12 a13 a14 a15 a16 a17 a18 a19 a20 a21 a22 a23 a24 a25 a26 a27 a28 a29 a30 a31 a32 uk ul ur usx usNn usNf usMn usMf usLn usLf usKn usKf ucMn ucMf ucLn ucLf ucTn ucTf uox uoNn uoNf uoMn uoMf uoLn uoLf uoDn uoDf uac uaWn uaWf uaDn uaDf uaLn uaLf x3 k18) mbX11_fillAt q1141 ⟨(Nat.le_of_ble_eq_true rfl), (Nat.le_of_ble_eq_true rfl)⟩ ⟨(Nat.le_of_ble_eq_true rfl), (Nat.le_of_ble_eq_true rfl)⟩ hP hD hS hA rfl rfl rfl 0 rfl rfl rfl hl.1 rfl (Nat.le_of_ble_eq_true rfl) dX11_fillUntil_45 (fun H locs hP hD hS => ?_)
          refine lv_pop F.1 F.2.1 dX11_fillUntil_48 rfl ?_
          refine lv_goto (tgt := 55) F.1 F.2.1 dX11_fillUntil_49 (by decide) ?_
          refine lv_iinc (v := x4 + 1) (lv' := [(4, .int (x4 + 1)), (0, .ref a0), (1, .int x1), (2, .int x2), (3, .int x3)]) F.1 F.2.1 dX11_fillUntil_55 hl (k := 4) rfl (by rfl) (by decide) rfl (fun ls hl => ?_)
          refine lv_goto (tgt := 17) F.1 F.2.1 dX11_fillUntil_58 (by decide) ?_
          exact ih x3 (x4 + 1) z17.2.1 z17.2.2.1 z17.2.2.2.1 z17.2.2.2.2.1 z17.2.2.2.2.2.1 z17.2.2.2.2.2.2.1 z17.2.2.2.2.2.2.2.1 z17.2.2.2.2.2.2.2.2.1 z17.2.2.2.2.2.2.2.2.2.1 z17.2.2.2.2.2.2.2.2.2.2.1 z17.2.2.2.2.2.2.2.2.2.2.2.1 z17.2.2.2.2.2.2.2.2.2.2.2.2.1 z17.2.2.2.2.2.2.2.2.2.2.2.2.2.1 z17.2.2.2.2.2.2.2.2.2.2.2.2.2.2.1 z17.2.2.2.2.2.2.2.2.2.2.2.2.2.2.2.1 z17.2.2.2.2.2.2.2.2.2.2.2.2.2.2.2.2.1 z17.2.2.2.2.2.2.2.2.2.2.2.2.2.2.2.2.2.1 z17.2.2.2.2.2.2.2.2.2.2.2.2.2.2.2.2.2.2.1 z17.2.2.2.2.2.2.2.2.2.2.2.2.2.2.2.2.2.2.2.1 z17.2.2.2.2.2.2.2.2.2.2.2.2.2.2.2.2.2.2.2.2.1 z17.2.2.2.2.2.2.2.2.2.2.2.2.2.2.2.2.2.2.2.2.2.1 z17.2.2.2.2.2.2.2.2.2.2.2.2.2.2.2.2.2.2.2.2.2.2.1 z17.2.2.2.2.2.2.2.2.2.2.2.2.2.2.2.2.2.2.2.2.2.2.2.1 z17.2.2.2.2.2.2.2.2.2.2.2.2.2.2.2.2.2.2.2.2.2.2.2.2 h _ _ hP hD hS ls (lv_sub hl [1, 2, 3, 4, 0] rfl)
set_option maxHeartbeats 4000000 in
set_option maxRecDepth 100000 in
theorem tX11_fillUntil (l : Launch) (hl9 : l.stackTraces = false) (dC : Nat → ClassId) (dI : Nat → Nat → Nat) (g : Nat → ClassId) (a0 a1 a2 a3 a4 a5 a6 a7 a8 a9 a10 a11 a12 a13 a14 a15 a16 a17 a18 a19 a20 a21 a22 a23 a24 a25 a26 a27 a28 a29 a30 a31 a32 : Nat) (uk : Int32) (ul : Int32) (ur : Int32) (usx : Int32) (usNn : Int32) (usNf : Nat → Int32) (usMn : Int32) (usMf : Nat → Int32) (usLn : Int32) (usLf : Nat → Int32) (usKn : Int32) (usKf : Nat → Int32) (ucMn : Int32) (ucMf : Nat → Int32) (ucLn : Int32) (ucLf : Nat → Int32) (ucTn : Int32) (ucTf : Nat → Int32) (uox : Int32) (uoNn : Int32) (uoNf : Nat → Int32) (uoMn : Int32) (uoMf : Nat → Int32) (uoLn : Int32) (uoLf : Nat → Int32) (uoDn : Int32) (uoDf : Nat → Int32) (uac : Int32) (uaWn : Int32) (uaWf : Nat → Int32) (uaDn : Int32) (uaDf : Nat → Int32) (uaLn : Int32) (uaLf : Nat → Int32) (p1 : Int32) {r : (Except String Int32) × Int32 × (Nat → Int32) × Int32 × (Nat → Int32) × Int32 × (Nat → Int32) × Int32 × (Nat → Int32) × Int32 × (Nat → Int32) × Int32 × (Nat → Int32) × (Nat → Int32) × Int32 × (Nat → Int32) × Int32 × (Nat → Int32) × Int32 × (Nat → Int32) × Int32 × (Nat → Int32) × Int32 × (Nat → Int32) × (Nat → Int32)} (h : fX11_fillUntil uk ul ur usNn usNf usMn usMf usLn usLf usKn usKf ucMn ucMf ucLn ucLf ucTn ucTf uoNn uoNf uoMn uoMf uoLn uoLf uoDn uoDf uac uaDn uaDf uaLn uaLf p1 = some r) : MX vI l yX11_fillUntil cX11_fillUntil 5 (some .int) 7 102 1 6 dC dI g [.ref a0, .int p1] (wX11 g a0 a1 a2 a3 a4 a5 a6 a7 a8 a9 a10 a11 a12 a13 a14 a15 a16 a17 a18 a19 a20 a21 a22 a23 a24 a25 a26 a27 a28 a29 a30 a31 a32 uk ul ur usx usNn usNf usMn usMf usLn usLf usKn usKf ucMn ucMf ucLn ucLf ucTn ucTf uox uoNn uoNf uoMn uoMf uoLn uoLf uoDn uoDf uac uaWn uaWf uaDn uaDf uaLn uaLf) (wX11 g a0 a1 a2 a3 a4 a5 a6 a7 a8 a9 a10 a11 a12 a13 a14 a15 a16 a17 a18 a19 a20 a21 a22 a23 a24 a25 a26 a27 a28 a29 a30 a31 a32 uk ul ur usx r.2.1 r.2.2.1 r.2.2.2.1 r.2.2.2.2.1 r.2.2.2.2.2.1 r.2.2.2.2.2.2.1 r.2.2.2.2.2.2.2.1 r.2.2.2.2.2.2.2.2.1 r.2.2.2.2.2.2.2.2.2.1 r.2.2.2.2.2.2.2.2.2.2.1 r.2.2.2.2.2.2.2.2.2.2.2.1 r.2.2.2.2.2.2.2.2.2.2.2.2.1 ucTn r.2.2.2.2.2.2.2.2.2.2.2.2.2.1 uox r.2.2.2.2.2.2.2.2.2.2.2.2.2.2.1 r.2.2.2.2.2.2.2.2.2.2.2.2.2.2.2.1 r.2.2.2.2.2.2.2.2.2.2.2.2.2.2.2.2.1 r.2.2.2.2.2.2.2.2.2.2.2.2.2.2.2.2.2.1 r.2.2.2.2.2.2.2.2.2.2.2.2.2.2.2.2.2.2.1 r.2.2.2.2.2.2.2.2.2.2.2.2.2.2.2.2.2.2.2.1 r.2.2.2.2.2.2.2.2.2.2.2.2.2.2.2.2.2.2.2.2.1 r.2.2.2.2.2.2.2.2.2.2.2.2.2.2.2.2.2.2.2.2.2.1 r.2.2.2.2.2.2.2.2.2.2.2.2.2.2.2.2.2.2.2.2.2.2.1 uaWn uaWf uaDn r.2.2.2.2.2.2.2.2.2.2.2.2.2.2.2.2.2.2.2.2.2.2.2.1 uaLn r.2.2.2.2.2.2.2.2.2.2.2.2.2.2.2.2.2.2.2.2.2.2.2.2) r.1 := by
  refine MX_of (by decide) (Nat.le_of_ble_eq_true rfl) ?_
  intro p e s m below meth c ls F hr hlocks ht hE hX hA hP hD hS hl
  generalize va_A (wX11 g a0 a1 a2 a3 a4 a5 a6 a7 a8 a9 a10 a11 a12 a13 a14 a15 a16 a17 a18 a19 a20 a21 a22 a23 a24 a25 a26 a27 a28 a29 a30 a31 a32 uk ul ur usx usNn usNf usMn usMf usLn usLf usKn usKf ucMn ucMf ucLn ucLf ucTn ucTf uox uoNn uoNf uoMn uoMf uoLn uoLf uoDn uoDf uac uaWn uaWf uaDn uaDf uaLn uaLf) s.heap.size = A at hA hD hS hX ⊢
  replace F : CF p m c cX11_fillUntil 5 s _ RX11 := F
  replace hl : lv_has ls 5 [(0, .ref a0), (1, .int p1)] := hl
  rw [fX11_fillUntil] at h
  replace hP : va_P (dC, dI) vwCl (catp [[(a0, .inr (13, [.ref a1, .ref a10, .ref a17, .ref a26, .int uk, .int ul, .int ur]))], wX9 g a1 a2 a3 a4 a5 a6 a7 a8 a9 usx usNn usNf usMn usMf usLn usLf usKn usKf, wX8 g a10 a11 a12 a13 a14 a15 a16 ucMn ucMf ucLn ucLf ucTn ucTf, wX5 g a17 a18 a19 a20 a21 a22 a23 a24 a25 uox uoNn uoNf uoMn uoMf uoLn uoLf uoDn uoDf, wX1 g a26 a27 a28 a29 a30 a31 a32 uac uaWn uaWf uaDn uaDf uaLn uaLf] []) s.heap := hP
  replace hD : va_D A (catp [[(a0, .inr (13, [.ref a1, .ref a10, .ref a17, .ref a26, .int uk, .int ul, .int ur]))], wX9 g a1 a2 a3 a4 a5 a6 a7 a8 a9 usx usNn usNf usMn usMf usLn usLf usKn usKf, wX8 g a10 a11 a12 a13 a14 a15 a16 ucMn ucMf ucLn ucLf ucTn ucTf, wX5 g a17 a18 a19 a20 a21 a22 a23 a24 a25 uox uoNn uoNf uoMn uoMf uoLn uoLf uoDn uoDf, wX1 g a26 a27 a28 a29 a30 a31 a32 uac uaWn uaWf uaDn uaDf uaLn uaLf] []) := hD
  refine lv_iload_n F.1 F.2.1 dX11_fillUntil_0 rfl (lv_at hl 1 rfl) ?_
  obtain ⟨z1, k2, h⟩ := bd_ok h
  refine cXS0 (As := [.int p1]) (rest := []) F hE hX (tX11_requireDay l hl9 dC dI g p1 k2) mbX11_requireDay q1063 ⟨(Nat.le_of_ble_eq_true rfl), (Nat.le_of_ble_eq_true rfl)⟩ ⟨(Nat.le_of_ble_eq_true rfl), (Nat.le_of_ble_eq_true rfl)⟩ hP hD hS hA rfl hl.1 rfl (Nat.le_of_ble_eq_true rfl) dX11_fillUntil_1 (fun E ce q9 hx9 H locs hP hD hS h7 h8 h9 => ?_) (fun v3 k4 H locs hP hD hS => ?_)
  · replace h := ex_er hx9 h
    cases h
    exact MX_o rfl ht hlocks hP hS h7 h8 h9 (Nat.le_of_ble_eq_true rfl) (Nat.le_of_ble_eq_true rfl)
  replace h := ex_ok k4 h
  refine lv_aload_n F.1 F.2.1 dX11_fillUntil_4 rfl (lv_at hl 0 rfl) ?_
  refine gF (v := .ref a17) F hE hP 0 rfl rfl inX11 2 (by decide) q167 rfl dX11_fillUntil_5 ?_
  obtain ⟨z6, k7, h⟩ := bd_ok h
  refine cRV1 (As := []) (rest := []) (post := catp [wX1 g a26 a27 a28 a29 a30 a31 a32 uac uaWn uaWf uaDn uaDf uaLn uaLf] []) F hE hX hS (tX5_count l dC dI g a17 a18 a19 a20 a21 a22 a23 a24 a25 uox uoNn uoNf uoMn uoMf uoLn uoLf uoDn uoDf k7) mbX5_count q1067 ⟨(Nat.le_of_ble_eq_true rfl), (Nat.le_of_ble_eq_true rfl)⟩ ⟨(Nat.le_of_ble_eq_true rfl), (Nat.le_of_ble_eq_true rfl)⟩ hP [[(a0, .inr (13, [.ref a1, .ref a10, .ref a17, .ref a26, .int uk, .int ul, .int ur]))], wX9 g a1 a2 a3 a4 a5 a6 a7 a8 a9 usx usNn usNf usMn usMf usLn usLf usKn usKf, wX8 g a10 a11 a12 a13 a14 a15 a16 ucMn ucMf ucLn ucLf ucTn ucTf] rfl 0 rfl rfl rfl hl.1 rfl (Nat.le_of_ble_eq_true rfl) dX11_fillUntil_8 ?_
  refine lv_istore_n (lv' := [(2, .int z6), (0, .ref a0), (1, .int p1)]) F.1 F.2.1 dX11_fillUntil_11 rfl hl (by decide) rfl (fun ls hl => ?_)
  refine lv_iconst (v := 0) F.1 F.2.1 dX11_fillUntil_12 (by decide) ?_
  refine lv_istore_n (lv' := [(3, .int 0), (2, .int z6), (0, .ref a0), (1, .int p1)]) F.1 F.2.1 dX11_fillUntil_13 rfl hl (by decide) rfl (fun ls hl => ?_)
  refine lv_iconst (v := 0) F.1 F.2.1 dX11_fillUntil_14 (by decide) ?_
  refine lv_istore (lv' := [(4, .int 0), (3, .int 0), (2, .int z6), (0, .ref a0), (1, .int p1)]) F.1 F.2.1 dX11_fillUntil_15 hl (by decide) rfl (fun ls hl => ?_)
  exact tX11_fillUntil_L17 F hr hlocks hE hX hA hl9 ht p1 z6 uk ul ur usx ucTn uox uaWn uaWf uaDn uaLn FU 0 0 usNn usNf usMn usMf usLn usLf usKn usKf ucMn ucMf ucLn ucLf ucTf uoNn uoNf uoMn uoMf uoLn uoLf uoDn uoDf uac uaDf uaLf h _ _ hP hD hS ls (lv_sub hl [3, 4, 2, 1, 0] rfl)
/-! WireCutter$Workshop.changeKerf -/
def fX11_changeKerf (uk : Int32) (p1 : Int32) : Option ((Except String Int32) × Int32) :=
  if p1 < 0 then
    some (.error "java/lang/IllegalArgumentException", uk)
  else
    if p1 ≤ 5 then
      some (.ok uk, p1)
    else
      some (.error "java/lang/IllegalArgumentException", uk)
theorem mbX11_changeKerf : MV yX11_changeKerf cX11_changeKerf 3 (some .int) 1 := ⟨⟨q1197, q2, by decide +kernel⟩, q1195, q1196⟩
set_option maxHeartbeats 4000000 in
set_option maxRecDepth 100000 in
theorem tX11_changeKerf (l : Launch) (hl9 : l.stackTraces = false) (dC : Nat → ClassId) (dI : Nat → Nat → Nat) (g : Nat → ClassId) (a0 a1 a2 a3 a4 a5 a6 a7 a8 a9 a10 a11 a12 a13 a14 a15 a16 a17 a18 a19 a20 a21 a22 a23 a24 a25 a26 a27 a28 a29 a30 a31 a32 : Nat) (uk : Int32) (ul : Int32) (ur : Int32) (usx : Int32) (usNn : Int32) (usNf : Nat → Int32) (usMn : Int32) (usMf : Nat → Int32) (usLn : Int32) (usLf : Nat → Int32) (usKn : Int32) (usKf : Nat → Int32) (ucMn : Int32) (ucMf : Nat → Int32) (ucLn : Int32) (ucLf : Nat → Int32) (ucTn : Int32) (ucTf : Nat → Int32) (uox : Int32) (uoNn : Int32) (uoNf : Nat → Int32) (uoMn : Int32) (uoMf : Nat → Int32) (uoLn : Int32) (uoLf : Nat → Int32) (uoDn : Int32) (uoDf : Nat → Int32) (uac : Int32) (uaWn : Int32) (uaWf : Nat → Int32) (uaDn : Int32) (uaDf : Nat → Int32) (uaLn : Int32) (uaLf : Nat → Int32) (p1 : Int32) {r : (Except String Int32) × Int32} (h : fX11_changeKerf uk p1 = some r) : MX vI l yX11_changeKerf cX11_changeKerf 3 (some .int) 6 82 1 6 dC dI g [.ref a0, .int p1] (wX11 g a0 a1 a2 a3 a4 a5 a6 a7 a8 a9 a10 a11 a12 a13 a14 a15 a16 a17 a18 a19 a20 a21 a22 a23 a24 a25 a26 a27 a28 a29 a30 a31 a32 uk ul ur usx usNn usNf usMn usMf usLn usLf usKn usKf ucMn ucMf ucLn ucLf ucTn ucTf uox uoNn uoNf uoMn uoMf uoLn uoLf uoDn uoDf uac uaWn uaWf uaDn uaDf uaLn uaLf) (wX11 g a0 a1 a2 a3 a4 a5 a6 a7 a8 a9 a10 a11 a12 a13 a14 a15 a16 a17 a18 a19 a20 a21 a22 a23 a24 a25 a26 a27 a28 a29 a30 a31 a32 r.2 ul ur usx usNn usNf usMn usMf usLn usLf usKn usKf ucMn ucMf ucLn ucLf ucTn ucTf uox uoNn uoNf uoMn uoMf uoLn uoLf uoDn uoDf uac uaWn uaWf uaDn uaDf uaLn uaLf) r.1 := by
  refine MX_of (by decide) (Nat.le_of_ble_eq_true rfl) ?_
  intro p e s m below meth c ls F hr hlocks ht hE hX hA hP hD hS hl
  generalize va_A (wX11 g a0 a1 a2 a3 a4 a5 a6 a7 a8 a9 a10 a11 a12 a13 a14 a15 a16 a17 a18 a19 a20 a21 a22 a23 a24 a25 a26 a27 a28 a29 a30 a31 a32 uk ul ur usx usNn usNf usMn usMf usLn usLf usKn usKf ucMn ucMf ucLn ucLf ucTn ucTf uox uoNn uoNf uoMn uoMf uoLn uoLf uoDn uoDf uac uaWn uaWf uaDn uaDf uaLn uaLf) s.heap.size = A at hA hD hS hX ⊢
  replace F : CF p m c cX11_changeKerf 3 s _ RX11 := F
  replace hl : lv_has ls 3 [(0, .ref a0), (1, .int p1)] := hl
  rw [fX11_changeKerf] at h
  replace hP : va_P (dC, dI) vwCl (catp [[(a0, .inr (13, [.ref a1, .ref a10, .ref a17, .ref a26, .int uk, .int ul, .int ur]))], wX9 g a1 a2 a3 a4 a5 a6 a7 a8 a9 usx usNn usNf usMn usMf usLn usLf usKn usKf, wX8 g a10 a11 a12 a13 a14 a15 a16 ucMn ucMf ucLn ucLf ucTn ucTf, wX5 g a17 a18 a19 a20 a21 a22 a23 a24 a25 uox uoNn uoNf uoMn uoMf uoLn uoLf uoDn uoDf, wX1 g a26 a27 a28 a29 a30 a31 a32 uac uaWn uaWf uaDn uaDf uaLn uaLf] []) s.heap := hP
  replace hD : va_D A (catp [[(a0, .inr (13, [.ref a1, .ref a10, .ref a17, .ref a26, .int uk, .int ul, .int ur]))], wX9 g a1 a2 a3 a4 a5 a6 a7 a8 a9 usx usNn usNf usMn usMf usLn usLf usKn usKf, wX8 g a10 a11 a12 a13 a14 a15 a16 ucMn ucMf ucLn ucLf ucTn ucTf, wX5 g a17 a18 a19 a20 a21 a22 a23 a24 a25 uox uoNn uoNf uoMn uoMf uoLn uoLf uoDn uoDf, wX1 g a26 a27 a28 a29 a30 a31 a32 uac uaWn uaWf uaDn uaDf uaLn uaLf] []) := hD
  refine lv_iload_n F.1 F.2.1 dX11_changeKerf_0 rfl (lv_at hl 1 rfl) ?_
  refine lv_if_lt (tgt := 9) F.1 F.2.1 dX11_changeKerf_1 (by decide) (fun k1 => ?_) (fun k1 => ?_)
  · replace h := it_t k1 h
    cases h
    exact MX_t (rest := []) rfl F hE hX hl9 ht hlocks hP hS (by decide +kernel) q946 q20 sq21 at6 gt6 hl.1 dX11_changeKerf_9 dX11_changeKerf_12 dX11_changeKerf_13 dX11_changeKerf_15 dX11_changeKerf_18 (Nat.le_of_ble_eq_true rfl) (Nat.le_of_ble_eq_true rfl) (Nat.le_of_ble_eq_true rfl) (Nat.le_of_ble_eq_true rfl) (Nat.le_of_ble_eq_true rfl) (Nat.le_of_ble_eq_true rfl)
  · replace h := it_f k1 h
    refine lv_iload_n F.1 F.2.1 dX11_changeKerf_4 rfl (lv_at hl 1 rfl) ?_
    refine lv_iconst (v := 5) F.1 F.2.1 dX11_changeKerf_5 (by decide) ?_
    refine lv_icmp_le (tgt := 19) F.1 F.2.1 dX11_changeKerf_6 (by decide) (fun k2 => ?_) (fun k2 => ?_)
    · replace h := it_t k2 h
      refine lv_aload_n F.1 F.2.1 dX11_changeKerf_19 rfl (lv_at hl 0 rfl) ?_
      refine gF (v := .int uk) F hE hP 0 rfl rfl inX11 4 (by decide) q172 rfl dX11_changeKerf_20 ?_
      refine lv_istore_n (lv' := [(2, .int uk), (0, .ref a0), (1, .int p1)]) F.1 F.2.1 dX11_changeKerf_23 rfl hl (by decide) rfl (fun ls hl => ?_)
      refine lv_aload_n F.1 F.2.1 dX11_changeKerf_24 rfl (lv_at hl 1 rfl) ?_
      refine lv_iload_n F.1 F.2.1 dX11_changeKerf_25 rfl (lv_at hl 2 rfl) ?_
      refine pF (v := .int p1) F hE hP hD hS 0 rfl rfl inX11 tyX11 tyX11_ok nmX11 4 (by decide) q172 rfl rfl rfl (Nat.le_of_ble_eq_true rfl) dX11_changeKerf_26 (fun H locs hP hD hS => ?_)
      replace hP : va_P (dC, dI) vwCl (catp [[(a0, .inr (13, [.ref a1, .ref a10, .ref a17, .ref a26, .int p1, .int ul, .int ur]))], wX9 g a1 a2 a3 a4 a5 a6 a7 a8 a9 usx usNn usNf usMn usMf usLn usLf usKn usKf, wX8 g a10 a11 a12 a13 a14 a15 a16 ucMn ucMf ucLn ucLf ucTn ucTf, wX5 g a17 a18 a19 a20 a21 a22 a23 a24 a25 uox uoNn uoNf uoMn uoMf uoLn uoLf uoDn uoDf, wX1 g a26 a27 a28 a29 a30 a31 a32 uac uaWn uaWf uaDn uaDf uaLn uaLf] []) H := hP
      replace hD : va_D A (catp [[(a0, .inr (13, [.ref a1, .ref a10, .ref a17, .ref a26, .int p1, .int ul, .int ur]))], wX9 g a1 a2 a3 a4 a5 a6 a7 a8 a9 usx usNn usNf usMn usMf usLn usLf usKn usKf, wX8 g a10 a11 a12 a13 a14 a15 a16 ucMn ucMf ucLn ucLf ucTn ucTf, wX5 g a17 a18 a19 a20 a21 a22 a23 a24 a25 uox uoNn uoNf uoMn uoMf uoLn uoLf uoDn uoDf, wX1 g a26 a27 a28 a29 a30 a31 a32 uac uaWn uaWf uaDn uaDf uaLn uaLf] []) := hD
      refine lv_iload_n F.1 F.2.1 dX11_changeKerf_29 rfl (lv_at hl 0 rfl) ?_
      cases h
      exact MX_i rfl F hr hlocks (Nat.le_of_ble_eq_true rfl) (Nat.le_of_ble_eq_true rfl) hP hS dX11_changeKerf_30
    · replace h := it_f k2 h
      cases h
      exact MX_t (rest := []) rfl F hE hX hl9 ht hlocks hP hS (by decide +kernel) q946 q20 sq21 at6 gt6 hl.1 dX11_changeKerf_9 dX11_changeKerf_12 dX11_changeKerf_13 dX11_changeKerf_15 dX11_changeKerf_18 (Nat.le_of_ble_eq_true rfl) (Nat.le_of_ble_eq_true rfl) (Nat.le_of_ble_eq_true rfl) (Nat.le_of_ble_eq_true rfl) (Nat.le_of_ble_eq_true rfl) (Nat.le_of_ble_eq_true rfl)
/-! WireCutter$Workshop.changeScrapLimit -/
def fX11_changeScrapLimit (ul : Int32) (p1 : Int32) : Option ((Except String Int32) × Int32) :=
  if p1 < 1 then
    some (.error "java/lang/IllegalArgumentException", ul)
  else
    if p1 ≤ 50 then
      some (.ok ul, p1)
    else
      some (.error "java/lang/IllegalArgumentException", ul)
theorem mbX11_changeScrapLimit : MV yX11_changeScrapLimit cX11_changeScrapLimit 3 (some .int) 1 := ⟨⟨q1209, q2, by decide +kernel⟩, q1207, q1208⟩
set_option maxHeartbeats 4000000 in
set_option maxRecDepth 100000 in
theorem tX11_changeScrapLimit (l : Launch) (hl9 : l.stackTraces = false) (dC : Nat → ClassId) (dI : Nat → Nat → Nat) (g : Nat → ClassId) (a0 a1 a2 a3 a4 a5 a6 a7 a8 a9 a10 a11 a12 a13 a14 a15 a16 a17 a18 a19 a20 a21 a22 a23 a24 a25 a26 a27 a28 a29 a30 a31 a32 : Nat) (uk : Int32) (ul : Int32) (ur : Int32) (usx : Int32) (usNn : Int32) (usNf : Nat → Int32) (usMn : Int32) (usMf : Nat → Int32) (usLn : Int32) (usLf : Nat → Int32) (usKn : Int32) (usKf : Nat → Int32) (ucMn : Int32) (ucMf : Nat → Int32) (ucLn : Int32) (ucLf : Nat → Int32) (ucTn : Int32) (ucTf : Nat → Int32) (uox : Int32) (uoNn : Int32) (uoNf : Nat → Int32) (uoMn : Int32) (uoMf : Nat → Int32) (uoLn : Int32) (uoLf : Nat → Int32) (uoDn : Int32) (uoDf : Nat → Int32) (uac : Int32) (uaWn : Int32) (uaWf : Nat → Int32) (uaDn : Int32) (uaDf : Nat → Int32) (uaLn : Int32) (uaLf : Nat → Int32) (p1 : Int32) {r : (Except String Int32) × Int32} (h : fX11_changeScrapLimit ul p1 = some r) : MX vI l yX11_changeScrapLimit cX11_changeScrapLimit 3 (some .int) 6 82 1 6 dC dI g [.ref a0, .int p1] (wX11 g a0 a1 a2 a3 a4 a5 a6 a7 a8 a9 a10 a11 a12 a13 a14 a15 a16 a17 a18 a19 a20 a21 a22 a23 a24 a25 a26 a27 a28 a29 a30 a31 a32 uk ul ur usx usNn usNf usMn usMf usLn usLf usKn usKf ucMn ucMf ucLn ucLf ucTn ucTf uox uoNn uoNf uoMn uoMf uoLn uoLf uoDn uoDf uac uaWn uaWf uaDn uaDf uaLn uaLf) (wX11 g a0 a1 a2 a3 a4 a5 a6 a7 a8 a9 a10 a11 a12 a13 a14 a15 a16 a17 a18 a19 a20 a21 a22 a23 a24 a25 a26 a27 a28 a29 a30 a31 a32 uk r.2 ur usx usNn usNf usMn usMf usLn usLf usKn usKf ucMn ucMf ucLn ucLf ucTn ucTf uox uoNn uoNf uoMn uoMf uoLn uoLf uoDn uoDf uac uaWn uaWf uaDn uaDf uaLn uaLf) r.1 := by
  refine MX_of (by decide) (Nat.le_of_ble_eq_true rfl) ?_
  intro p e s m below meth c ls F hr hlocks ht hE hX hA hP hD hS hl
  generalize va_A (wX11 g a0 a1 a2 a3 a4 a5 a6 a7 a8 a9 a10 a11 a12 a13 a14 a15 a16 a17 a18 a19 a20 a21 a22 a23 a24 a25 a26 a27 a28 a29 a30 a31 a32 uk ul ur usx usNn usNf usMn usMf usLn usLf usKn usKf ucMn ucMf ucLn ucLf ucTn ucTf uox uoNn uoNf uoMn uoMf uoLn uoLf uoDn uoDf uac uaWn uaWf uaDn uaDf uaLn uaLf) s.heap.size = A at hA hD hS hX ⊢
  replace F : CF p m c cX11_changeScrapLimit 3 s _ RX11 := F
  replace hl : lv_has ls 3 [(0, .ref a0), (1, .int p1)] := hl
  rw [fX11_changeScrapLimit] at h
  replace hP : va_P (dC, dI) vwCl (catp [[(a0, .inr (13, [.ref a1, .ref a10, .ref a17, .ref a26, .int uk, .int ul, .int ur]))], wX9 g a1 a2 a3 a4 a5 a6 a7 a8 a9 usx usNn usNf usMn usMf usLn usLf usKn usKf, wX8 g a10 a11 a12 a13 a14 a15 a16 ucMn ucMf ucLn ucLf ucTn ucTf, wX5 g a17 a18 a19 a20 a21 a22 a23 a24 a25 uox uoNn uoNf uoMn uoMf uoLn uoLf uoDn uoDf, wX1 g a26 a27 a28 a29 a30 a31 a32 uac uaWn uaWf uaDn uaDf uaLn uaLf] []) s.heap := hP
  replace hD : va_D A (catp [[(a0, .inr (13, [.ref a1, .ref a10, .ref a17, .ref a26, .int uk, .int ul, .int ur]))], wX9 g a1 a2 a3 a4 a5 a6 a7 a8 a9 usx usNn usNf usMn usMf usLn usLf usKn usKf, wX8 g a10 a11 a12 a13 a14 a15 a16 ucMn ucMf ucLn ucLf ucTn ucTf, wX5 g a17 a18 a19 a20 a21 a22 a23 a24 a25 uox uoNn uoNf uoMn uoMf uoLn uoLf uoDn uoDf, wX1 g a26 a27 a28 a29 a30 a31 a32 uac uaWn uaWf uaDn uaDf uaLn uaLf] []) := hD
  refine lv_iload_n F.1 F.2.1 dX11_changeScrapLimit_0 rfl (lv_at hl 1 rfl) ?_
  refine lv_iconst (v := 1) F.1 F.2.1 dX11_changeScrapLimit_1 (by decide) ?_
  refine lv_icmp_lt (tgt := 11) F.1 F.2.1 dX11_changeScrapLimit_2 (by decide) (fun k1 => ?_) (fun k1 => ?_)
  · replace h := it_t k1 h
    cases h
    exact MX_t (rest := []) rfl F hE hX hl9 ht hlocks hP hS (by decide +kernel) q946 q20 sq22 at6 gt6 hl.1 dX11_changeScrapLimit_11 dX11_changeScrapLimit_14 dX11_changeScrapLimit_15 dX11_changeScrapLimit_17 dX11_changeScrapLimit_20 (Nat.le_of_ble_eq_true rfl) (Nat.le_of_ble_eq_true rfl) (Nat.le_of_ble_eq_true rfl) (Nat.le_of_ble_eq_true rfl) (Nat.le_of_ble_eq_true rfl) (Nat.le_of_ble_eq_true rfl)
  · replace h := it_f k1 h
    refine lv_iload_n F.1 F.2.1 dX11_changeScrapLimit_5 rfl (lv_at hl 1 rfl) ?_
    refine lv_bipush (v := 50) F.1 F.2.1 dX11_changeScrapLimit_6 (by decide) ?_
    refine lv_icmp_le (tgt := 21) F.1 F.2.1 dX11_changeScrapLimit_8 (by decide) (fun k2 => ?_) (fun k2 => ?_)
    · replace h := it_t k2 h
      refine lv_aload_n F.1 F.2.1 dX11_changeScrapLimit_21 rfl (lv_at hl 0 rfl) ?_
      refine gF (v := .int ul) F hE hP 0 rfl rfl inX11 5 (by decide) q175 rfl dX11_changeScrapLimit_22 ?_
      refine lv_istore_n (lv' := [(2, .int ul), (0, .ref a0), (1, .int p1)]) F.1 F.2.1 dX11_changeScrapLimit_25 rfl hl (by decide) rfl (fun ls hl => ?_)
      refine lv_aload_n F.1 F.2.1 dX11_changeScrapLimit_26 rfl (lv_at hl 1 rfl) ?_
      refine lv_iload_n F.1 F.2.1 dX11_changeScrapLimit_27 rfl (lv_at hl 2 rfl) ?_
      refine pF (v := .int p1) F hE hP hD hS 0 rfl rfl inX11 tyX11 tyX11_ok nmX11 5 (by decide) q175 rfl rfl rfl (Nat.le_of_ble_eq_true rfl) dX11_changeScrapLimit_28 (fun H locs hP hD hS => ?_)
      replace hP : va_P (dC, dI) vwCl (catp [[(a0, .inr (13, [.ref a1, .ref a10, .ref a17, .ref a26, .int uk, .int p1, .int ur]))], wX9 g a1 a2 a3 a4 a5 a6 a7 a8 a9 usx usNn usNf usMn usMf usLn usLf usKn usKf, wX8 g a10 a11 a12 a13 a14 a15 a16 ucMn ucMf ucLn ucLf ucTn ucTf, wX5 g a17 a18 a19 a20 a21 a22 a23 a24 a25 uox uoNn uoNf uoMn uoMf uoLn uoLf uoDn uoDf, wX1 g a26 a27 a28 a29 a30 a31 a32 uac uaWn uaWf uaDn uaDf uaLn uaLf] []) H := hP
      replace hD : va_D A (catp [[(a0, .inr (13, [.ref a1, .ref a10, .ref a17, .ref a26, .int uk, .int p1, .int ur]))], wX9 g a1 a2 a3 a4 a5 a6 a7 a8 a9 usx usNn usNf usMn usMf usLn usLf usKn usKf, wX8 g a10 a11 a12 a13 a14 a15 a16 ucMn ucMf ucLn ucLf ucTn ucTf, wX5 g a17 a18 a19 a20 a21 a22 a23 a24 a25 uox uoNn uoNf uoMn uoMf uoLn uoLf uoDn uoDf, wX1 g a26 a27 a28 a29 a30 a31 a32 uac uaWn uaWf uaDn uaDf uaLn uaLf] []) := hD
      refine lv_iload_n F.1 F.2.1 dX11_changeScrapLimit_31 rfl (lv_at hl 0 rfl) ?_
      cases h
      exact MX_i rfl F hr hlocks (Nat.le_of_ble_eq_true rfl) (Nat.le_of_ble_eq_true rfl) hP hS dX11_changeScrapLimit_32
    · replace h := it_f k2 h
      cases h
      exact MX_t (rest := []) rfl F hE hX hl9 ht hlocks hP hS (by decide +kernel) q946 q20 sq22 at6 gt6 hl.1 dX11_changeScrapLimit_11 dX11_changeScrapLimit_14 dX11_changeScrapLimit_15 dX11_changeScrapLimit_17 dX11_changeScrapLimit_20 (Nat.le_of_ble_eq_true rfl) (Nat.le_of_ble_eq_true rfl) (Nat.le_of_ble_eq_true rfl) (Nat.le_of_ble_eq_true rfl) (Nat.le_of_ble_eq_true rfl) (Nat.le_of_ble_eq_true rfl)
/-! WireCutter.isRule -/
def fX12_isRule (p0 : Int32) : Option (Int32) :=
  if p0 = 98 then
    some (1)
  else
    if p0 = 119 then
      some (1)
    else
      if p0 = 102 then
        some (1)
      else
        some (0)
theorem mbX12_isRule : MS yX12_isRule cX12_isRule 1 (some .boolean) 1 := ⟨⟨q1224, q1, by decide +kernel⟩, q1223⟩
set_option maxHeartbeats 4000000 in
set_option maxRecDepth 100000 in
theorem tX12_isRule (l : Launch) (dC : Nat → ClassId) (dI : Nat → Nat → Nat) (g : Nat → ClassId) (p0 : Int32) {r : Int32} (h : fX12_isRule p0 = some r) : RO l yX12_isRule cX12_isRule 1 (some .boolean) 0 0 dC dI g [.int p0] (([] : va_W)) (some (.int r)) := by
  refine RO_of (by decide) (Nat.le_of_ble_eq_true rfl) ?_
  intro p e s m below meth c ls F hr hlocks hE hX hP hl
  replace F : CF p m c cX12_isRule 1 s _ RX12 := F
  replace hl : lv_has ls 1 [(0, .int p0)] := hl
  rw [fX12_isRule] at h
  refine lv_iload_n F.1 F.2.1 dX12_isRule_0 rfl (lv_at hl 0 rfl) ?_
  refine lv_bipush (v := 98) F.1 F.2.1 dX12_isRule_1 (by decide) ?_
  refine lv_icmp_eq (tgt := 18) F.1 F.2.1 dX12_isRule_3 (by decide) (fun k1 => ?_) (fun k1 => ?_)
  · replace h := it_t k1 h
    refine lv_iconst (v := 1) F.1 F.2.1 dX12_isRule_18 (by decide) ?_
    refine lv_goto (tgt := 23) F.1 F.2.1 dX12_isRule_19 (by decide) ?_
    cases h
    exact RO_z F hr hlocks rfl dX12_isRule_23
  · replace h := it_f k1 h
    refine lv_iload_n F.1 F.2.1 dX12_isRule_6 rfl (lv_at hl 0 rfl) ?_
    refine lv_bipush (v := 119) F.1 F.2.1 dX12_isRule_7 (by decide) ?_
    refine lv_icmp_eq (tgt := 18) F.1 F.2.1 dX12_isRule_9 (by decide) (fun k2 => ?_) (fun k2 => ?_)
    · replace h := it_t k2 h
      refine lv_iconst (v := 1) F.1 F.2.1 dX12_isRule_18 (by decide) ?_
      refine lv_goto (tgt := 23) F.1 F.2.1 dX12_isRule_19 (by decide) ?_
      cases h
      exact RO_z F hr hlocks rfl dX12_isRule_23
    · replace h := it_f k2 h
      refine lv_iload_n F.1 F.2.1 dX12_isRule_12 rfl (lv_at hl 0 rfl) ?_
      refine lv_bipush (v := 102) F.1 F.2.1 dX12_isRule_13 (by decide) ?_
      refine lv_icmp_ne (tgt := 22) F.1 F.2.1 dX12_isRule_15 (by decide) (fun k3 => ?_) (fun k3 => ?_)
      · replace h := it_f k3 h
        refine lv_iconst (v := 0) F.1 F.2.1 dX12_isRule_22 (by decide) ?_
        cases h
        exact RO_z F hr hlocks rfl dX12_isRule_23
      · replace h := it_t k3 h
        refine lv_iconst (v := 1) F.1 F.2.1 dX12_isRule_18 (by decide) ?_
        refine lv_goto (tgt := 23) F.1 F.2.1 dX12_isRule_19 (by decide) ?_
        cases h
        exact RO_z F hr hlocks rfl dX12_isRule_23
