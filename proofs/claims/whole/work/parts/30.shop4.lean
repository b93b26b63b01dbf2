/-! WireCutter$Workshop.changeRule -/
def fX11_changeRule (ur : Int32) (p1 : Int32) : Option ((Except String Int32) × Int32) :=
  (fX12_isRule p1).bind fun z1 =>
  if z1 = 0 then
    some (.error "java/lang/IllegalArgumentException", ur)
  else
    gd (isC p1) <|
    gd (isC ur) <|
    some (.ok ur, p1)
theorem mbX11_changeRule : MV yX11_changeRule cX11_changeRule 3 (some .char) 1 := ⟨⟨q1221, q2, by decide +kernel⟩, q1219, q1220⟩
set_option maxHeartbeats 4000000 in
set_option maxRecDepth 100000 in
theorem tX11_changeRule (l : Launch) (hl9 : l.stackTraces = false) (dC : Nat → ClassId) (dI : Nat → Nat → Nat) (g : Nat → ClassId) (a0 a1 a2 a3 a4 a5 a6 a7 a8 a9 a10 a11 a12 a13 a14 a15 a16 a17 a18 a19 a20 a21 a22 a23 a24 a25 a26 a27 a28 a29 a30 a31 a32 : Nat) (uk : Int32) (ul : Int32) (ur : Int32) (usx : Int32) (usNn : Int32) (usNf : Nat → Int32) (usMn : Int32) (usMf : Nat → Int32) (usLn : Int32) (usLf : Nat → Int32) (usKn : Int32) (usKf : Nat → Int32) (ucMn : Int32) (ucMf : Nat → Int32) (ucLn : Int32) (ucLf : Nat → Int32) (ucTn : Int32) (ucTf : Nat → Int32) (uox : Int32) (uoNn : Int32) (uoNf : Nat → Int32) (uoMn : Int32) (uoMf : Nat → Int32) (uoLn : Int32) (uoLf : Nat → Int32) (uoDn : Int32) (uoDf : Nat → Int32) (uac : Int32) (uaWn : Int32) (uaWf : Nat → Int32) (uaDn : Int32) (uaDf : Nat → Int32) (uaLn : Int32) (uaLf : Nat → Int32) (p1 : Int32) {r : (Except String Int32) × Int32} (h : fX11_changeRule ur p1 = some r) : MX vI l yX11_changeRule cX11_changeRule 3 (some .char) 6 82 1 6 dC dI g [.ref a0, .int p1] (wX11 g a0 a1 a2 a3 a4 a5 a6 a7 a8 a9 a10 a11 a12 a13 a14 a15 a16 a17 a18 a19 a20 a21 a22 a23 a24 a25 a26 a27 a28 a29 a30 a31 a32 uk ul ur usx usNn usNf usMn usMf usLn usLf usKn usKf ucMn ucMf ucLn ucLf ucTn ucTf uox uoNn uoNf uoMn uoMf uoLn uoLf uoDn uoDf uac uaWn uaWf uaDn uaDf uaLn uaLf) (wX11 g a0 a1 a2 a3 a4 a5 a6 a7 a8 a9 a10 a11 a12 a13 a14 a15 a16 a17 a18 a19 a20 a21 a22 a23 a24 a25 a26 a27 a28 a29 a30 a31 a32 uk ul r.2 usx usNn usNf usMn usMf usLn usLf usKn usKf ucMn ucMf ucLn ucLf ucTn ucTf uox uoNn uoNf uoMn uoMf uoLn uoLf uoDn uoDf uac uaWn uaWf uaDn uaDf uaLn uaLf) r.1 := by
  refine MX_of (by decide) (Nat.le_of_ble_eq_true rfl) ?_
  intro p e s m below meth c ls F hr hlocks ht hE hX hA hP hD hS hl
  generalize va_A (wX11 g a0 a1 a2 a3 a4 a5 a6 a7 a8 a9 a10 a11 a12 a13 a14 a15 a16 a17 a18 a19 a20 a21 a22 a23 a24 a25 a26 a27 a28 a29 a30 a31 a32 uk ul ur usx usNn usNf usMn usMf usLn usLf usKn usKf ucMn ucMf ucLn ucLf ucTn ucTf uox uoNn uoNf uoMn uoMf uoLn uoLf uoDn uoDf uac uaWn uaWf uaDn uaDf uaLn uaLf) s.heap.size = A at hA hD hS hX ⊢
  replace F : CF p m c cX11_changeRule 3 s _ RX11 := F
  replace hl : lv_has ls 3 [(0, .ref a0), (1, .int p1)] := hl
  rw [fX11_changeRule] at h
  replace hP : va_P (dC, dI) vwCl (catp [[(a0, .inr (13, [.ref a1, .ref a10, .ref a17, .ref a26, .int uk, .int ul, .int ur]))], wX9 g a1 a2 a3 a4 a5 a6 a7 a8 a9 usx usNn usNf usMn usMf usLn usLf usKn usKf, wX8 g a10 a11 a12 a13 a14 a15 a16 ucMn ucMf ucLn ucLf ucTn ucTf, wX5 g a17 a18 a19 a20 a21 a22 a23 a24 a25 uox uoNn uoNf uoMn uoMf uoLn uoLf uoDn uoDf, wX1 g a26 a27 a28 a29 a30 a31 a32 uac uaWn uaWf uaDn uaDf uaLn uaLf] []) s.heap := hP
  replace hD : va_D A (catp [[(a0, .inr (13, [.ref a1, .ref a10, .ref a17, .ref a26, .int uk, .int ul, .int ur]))], wX9 g a1 a2 a3 a4 a5 a6 a7 a8 a9 usx usNn usNf usMn usMf usLn usLf usKn usKf, wX8 g a10 a11 a12 a13 a14 a15 a16 ucMn ucMf ucLn ucLf ucTn ucTf, wX5 g a17 a18 a19 a20 a21 a22 a23 a24 a25 uox uoNn uoNf uoMn uoMf uoLn uoLf uoDn uoDf, wX1 g a26 a27 a28 a29 a30 a31 a32 uac uaWn uaWf uaDn uaDf uaLn uaLf] []) := hD
  refine lv_iload_n F.1 F.2.1 dX11_changeRule_0 rfl (lv_at hl 1 rfl) ?_
  obtain ⟨z1, k2, h⟩ := bd_ok h
  refine cRSN0 (As := [.int p1]) (rest := []) F hE hX hS (tX12_isRule l dC dI g p1 k2) mbX12_isRule q1222 ⟨(Nat.le_of_ble_eq_true rfl), (Nat.le_of_ble_eq_true rfl)⟩ ⟨(Nat.le_of_ble_eq_true rfl), (Nat.le_of_ble_eq_true rfl)⟩ hP rfl hl.1 rfl (Nat.le_of_ble_eq_true rfl) dX11_changeRule_1 ?_
  refine lv_if_ne (tgt := 17) F.1 F.2.1 dX11_changeRule_4 (by decide) (fun k3 => ?_) (fun k3 => ?_)
  · replace h := it_f k3 h
    refine lv_aload_n F.1 F.2.1 dX11_changeRule_17 rfl (lv_at hl 0 rfl) ?_
    refine gF (v := .int ur) F hE hP 0 rfl rfl inX11 6 (by decide) q177 rfl dX11_changeRule_18 ?_
    refine lv_istore_n (lv' := [(2, .int ur), (0, .ref a0), (1, .int p1)]) F.1 F.2.1 dX11_changeRule_21 rfl hl (by decide) rfl (fun ls hl => ?_)
    refine lv_aload_n F.1 F.2.1 dX11_changeRule_22 rfl (lv_at hl 1 rfl) ?_
    refine lv_iload_n F.1 F.2.1 dX11_changeRule_23 rfl (lv_at hl 2 rfl) ?_
    obtain ⟨k4, h⟩ := gd_ok h
    refine pF (v := .int p1) F hE hP hD hS 0 rfl rfl inX11 tyX11 tyX11_ok nmX11 6 (by decide) q177 rfl (isC_n k4).1 (isC_n k4).2 (Nat.le_of_ble_eq_true rfl) dX11_changeRule_24 (fun H locs hP hD hS => ?_)
    replace hP : va_P (dC, dI) vwCl (catp [[(a0, .inr (13, [.ref a1, .ref a10, .ref a17, .ref a26, .int uk, .int ul, .int p1]))], wX9 g a1 a2 a3 a4 a5 a6 a7 a8 a9 usx usNn usNf usMn usMf usLn usLf usKn usKf, wX8 g a10 a11 a12 a13 a14 a15 a16 ucMn ucMf ucLn ucLf ucTn ucTf, wX5 g a17 a18 a19 a20 a21 a22 a23 a24 a25 uox uoNn uoNf uoMn uoMf uoLn uoLf uoDn uoDf, wX1 g a26 a27 a28 a29 a30 a31 a32 uac uaWn uaWf uaDn uaDf uaLn uaLf] []) H := hP
    replace hD : va_D A (catp [[(a0, .inr (13, [.ref a1, .ref a10, .ref a17, .ref a26, .int uk, .int ul, .int p1]))], wX9 g a1 a2 a3 a4 a5 a6 a7 a8 a9 usx usNn usNf usMn usMf usLn usLf usKn usKf, wX8 g a10 a11 a12 a13 a14 a15 a16 ucMn ucMf ucLn ucLf ucTn ucTf, wX5 g a17 a18 a19 a20 a21 a22 a23 a24 a25 uox uoNn uoNf uoMn uoMf uoLn uoLf uoDn uoDf, wX1 g a26 a27 a28 a29 a30 a31 a32 uac uaWn uaWf uaDn uaDf uaLn uaLf] []) := hD
    refine lv_iload_n F.1 F.2.1 dX11_changeRule_27 rfl (lv_at hl 0 rfl) ?_
    obtain ⟨k5, h⟩ := gd_ok h
    cases h
    exact MX_z (v := ur) rfl F hr hlocks (Nat.le_of_ble_eq_true rfl) (Nat.le_of_ble_eq_true rfl) (isC_n k5).1 hP hS dX11_changeRule_28
  · replace h := it_t k3 h
    cases h
    exact MX_t (rest := []) rfl F hE hX hl9 ht hlocks hP hS (by decide +kernel) q946 q20 sq23 at6 gt6 hl.1 dX11_changeRule_7 dX11_changeRule_10 dX11_changeRule_11 dX11_changeRule_13 dX11_changeRule_16 (Nat.le_of_ble_eq_true rfl) (Nat.le_of_ble_eq_true rfl) (Nat.le_of_ble_eq_true rfl) (Nat.le_of_ble_eq_true rfl) (Nat.le_of_ble_eq_true rfl) (Nat.le_of_ble_eq_true rfl)
/-! WireCutter$Workshop.scrapFor -/
def fX11_scrapFor (ucMn : Int32) (ucMf : Nat → Int32) (ucLn : Int32) (ucLf : Nat → Int32) (uoMn : Int32) (uoMf : Nat → Int32) (uoLn : Int32) (uoLf : Nat → Int32) (p1 : Int32) : Option (Int32) :=
  (fX5_materialAt uoMn uoMf p1).bind fun z1 =>
  (fX5_lengthAt uoLn uoLf p1).bind fun z3 =>
  (fX8_shortestFor ucMn ucMf ucLn ucLf z1 z3).bind fun z5 =>
  some (z5)
theorem mbX11_scrapFor : MV yX11_scrapFor cX11_scrapFor 2 (some .int) 1 := ⟨⟨q1363, q2, by decide +kernel⟩, q1361, q1362⟩
set_option maxHeartbeats 4000000 in
set_option maxRecDepth 100000 in
theorem tX11_scrapFor (l : Launch) (dC : Nat → ClassId) (dI : Nat → Nat → Nat) (g : Nat → ClassId) (a0 a1 a2 a3 a4 a5 a6 a7 a8 a9 a10 a11 a12 a13 a14 a15 a16 a17 a18 a19 a20 a21 a22 a23 a24 a25 a26 a27 a28 a29 a30 a31 a32 : Nat) (uk : Int32) (ul : Int32) (ur : Int32) (usx : Int32) (usNn : Int32) (usNf : Nat → Int32) (usMn : Int32) (usMf : Nat → Int32) (usLn : Int32) (usLf : Nat → Int32) (usKn : Int32) (usKf : Nat → Int32) (ucMn : Int32) (ucMf : Nat → Int32) (ucLn : Int32) (ucLf : Nat → Int32) (ucTn : Int32) (ucTf : Nat → Int32) (uox : Int32) (uoNn : Int32) (uoNf : Nat → Int32) (uoMn : Int32) (uoMf : Nat → Int32) (uoLn : Int32) (uoLf : Nat → Int32) (uoDn : Int32) (uoDf : Nat → Int32) (uac : Int32) (uaWn : Int32) (uaWf : Nat → Int32) (uaDn : Int32) (uaDf : Nat → Int32) (uaLn : Int32) (uaLf : Nat → Int32) (p1 : Int32) {r : Int32} (h : fX11_scrapFor ucMn ucMf ucLn ucLf uoMn uoMf uoLn uoLf p1 = some r) : RO l yX11_scrapFor cX11_scrapFor 2 (some .int) 2 44 dC dI g [.ref a0, .int p1] (wX11 g a0 a1 a2 a3 a4 a5 a6 a7 a8 a9 a10 a11 a12 a13 a14 a15 a16 a17 a18 a19 a20 a21 a22 a23 a24 a25 a26 a27 a28 a29 a30 a31 a32 uk ul ur usx usNn usNf usMn usMf usLn usLf usKn usKf ucMn ucMf ucLn ucLf ucTn ucTf uox uoNn uoNf uoMn uoMf uoLn uoLf uoDn uoDf uac uaWn uaWf uaDn uaDf uaLn uaLf) (some (.int r)) := by
  refine RO_of (by decide) (Nat.le_of_ble_eq_true rfl) ?_
  intro p e s m below meth c ls F hr hlocks hE hX hP hl
  replace F : CF p m c cX11_scrapFor 2 s _ RX11 := F
  replace hl : lv_has ls 2 [(0, .ref a0), (1, .int p1)] := hl
  rw [fX11_scrapFor] at h
  replace hP : va_P (dC, dI) vwCl (catp [[(a0, .inr (13, [.ref a1, .ref a10, .ref a17, .ref a26, .int uk, .int ul, .int ur]))], wX9 g a1 a2 a3 a4 a5 a6 a7 a8 a9 usx usNn usNf usMn usMf usLn usLf usKn usKf, wX8 g a10 a11 a12 a13 a14 a15 a16 ucMn ucMf ucLn ucLf ucTn ucTf, wX5 g a17 a18 a19 a20 a21 a22 a23 a24 a25 uox uoNn uoNf uoMn uoMf uoLn uoLf uoDn uoDf, wX1 g a26 a27 a28 a29 a30 a31 a32 uac uaWn uaWf uaDn uaDf uaLn uaLf] []) s.heap := hP
  refine lv_aload_n F.1 F.2.1 dX11_scrapFor_0 rfl (lv_at hl 0 rfl) ?_
  refine gF (v := .ref a10) F hE hP 0 rfl rfl inX11 1 (by decide) q165 rfl dX11_scrapFor_1 ?_
  refine lv_aload_n F.1 F.2.1 dX11_scrapFor_4 rfl (lv_at hl 0 rfl) ?_
  refine gF (v := .ref a17) F hE hP 0 rfl rfl inX11 2 (by decide) q167 rfl dX11_scrapFor_5 ?_
  refine lv_iload_n F.1 F.2.1 dX11_scrapFor_8 rfl (lv_at hl 1 rfl) ?_
  obtain ⟨z1, k2, h⟩ := bd_ok h
  refine cRV1 (As := [.int p1]) (rest := [.ref a10]) (post := catp [wX1 g a26 a27 a28 a29 a30 a31 a32 uac uaWn uaWf uaDn uaDf uaLn uaLf] []) F hE hX va_S.rf (tX5_materialAt l dC dI g a17 a18 a19 a20 a21 a22 a23 a24 a25 uox uoNn uoNf uoMn uoMf uoLn uoLf uoDn uoDf p1 k2) mbX5_materialAt q1112 ⟨(Nat.le_of_ble_eq_true rfl), (Nat.le_of_ble_eq_true rfl)⟩ ⟨Nat.zero_le _, Nat.zero_le _⟩ hP [[(a0, .inr (13, [.ref a1, .ref a10, .ref a17, .ref a26, .int uk, .int ul, .int ur]))], wX9 g a1 a2 a3 a4 a5 a6 a7 a8 a9 usx usNn usNf usMn usMf usLn usLf usKn usKf, wX8 g a10 a11 a12 a13 a14 a15 a16 ucMn ucMf ucLn ucLf ucTn ucTf] rfl 0 rfl rfl rfl hl.1 rfl (Nat.le_of_ble_eq_true rfl) dX11_scrapFor_9 ?_
  refine lv_aload_n F.1 F.2.1 dX11_scrapFor_12 rfl (lv_at hl 0 rfl) ?_
  refine gF (v := .ref a17) F hE hP 0 rfl rfl inX11 2 (by decide) q167 rfl dX11_scrapFor_13 ?_
  refine lv_iload_n F.1 F.2.1 dX11_scrapFor_16 rfl (lv_at hl 1 rfl) ?_
  obtain ⟨z3, k4, h⟩ := bd_ok h
  refine cRV1 (As := [.int p1]) (rest := [.int z1, .ref a10]) (post := catp [wX1 g a26 a27 a28 a29 a30 a31 a32 uac uaWn uaWf uaDn uaDf uaLn uaLf] []) F hE hX va_S.rf (tX5_lengthAt l dC dI g a17 a18 a19 a20 a21 a22 a23 a24 a25 uox uoNn uoNf uoMn uoMf uoLn uoLf uoDn uoDf p1 k4) mbX5_lengthAt q1113 ⟨(Nat.le_of_ble_eq_true rfl), (Nat.le_of_ble_eq_true rfl)⟩ ⟨Nat.zero_le _, Nat.zero_le _⟩ hP [[(a0, .inr (13, [.ref a1, .ref a10, .ref a17, .ref a26, .int uk, .int ul, .int ur]))], wX9 g a1 a2 a3 a4 a5 a6 a7 a8 a9 usx usNn usNf usMn usMf usLn usLf usKn usKf, wX8 g a10 a11 a12 a13 a14 a15 a16 ucMn ucMf ucLn ucLf ucTn ucTf] rfl 0 rfl rfl rfl hl.1 rfl (Nat.le_of_ble_eq_true rfl) dX11_scrapFor_17 ?_
  obtain ⟨z5, k6, h⟩ := bd_ok h
  refine cRV1 (As := [.int z1, .int z3]) (rest := []) (post := catp [wX5 g a17 a18 a19 a20 a21 a22 a23 a24 a25 uox uoNn uoNf uoMn uoMf uoLn uoLf uoDn uoDf, wX1 g a26 a27 a28 a29 a30 a31 a32 uac uaWn uaWf uaDn uaDf uaLn uaLf] []) F hE hX va_S.rf (tX8_shortestFor l dC dI g a10 a11 a12 a13 a14 a15 a16 ucMn ucMf ucLn ucLf ucTn ucTf z1 z3 k6) mbX8_shortestFor q1114 ⟨(Nat.le_of_ble_eq_true rfl), (Nat.le_of_ble_eq_true rfl)⟩ ⟨Nat.zero_le _, Nat.zero_le _⟩ hP [[(a0, .inr (13, [.ref a1, .ref a10, .ref a17, .ref a26, .int uk, .int ul, .int ur]))], wX9 g a1 a2 a3 a4 a5 a6 a7 a8 a9 usx usNn usNf usMn usMf usLn usLf usKn usKf] rfl 0 rfl rfl rfl hl.1 rfl (Nat.le_of_ble_eq_true rfl) dX11_scrapFor_20 ?_
  cases h
  exact RO_i F hr hlocks dX11_scrapFor_23
/-! WireCutter$Workshop.spoolFor -/
def fX11_spoolFor (ur : Int32) (usMn : Int32) (usMf : Nat → Int32) (usLn : Int32) (usLf : Nat → Int32) (uoMn : Int32) (uoMf : Nat → Int32) (uoLn : Int32) (uoLf : Nat → Int32) (p1 : Int32) : Option (Int32) :=
  (fX5_materialAt uoMn uoMf p1).bind fun z1 =>
  (fX5_lengthAt uoLn uoLf p1).bind fun z3 =>
  (fX9_choose usMn usMf usLn usLf z1 z3 ur).bind fun z5 =>
  some (z5)
theorem mbX11_spoolFor : MV yX11_spoolFor cX11_spoolFor 2 (some .int) 1 := ⟨⟨q1375, q2, by decide +kernel⟩, q1373, q1374⟩
set_option maxHeartbeats 4000000 in
set_option maxRecDepth 100000 in
theorem tX11_spoolFor (l : Launch) (dC : Nat → ClassId) (dI : Nat → Nat → Nat) (g : Nat → ClassId) (a0 a1 a2 a3 a4 a5 a6 a7 a8 a9 a10 a11 a12 a13 a14 a15 a16 a17 a18 a19 a20 a21 a22 a23 a24 a25 a26 a27 a28 a29 a30 a31 a32 : Nat) (uk : Int32) (ul : Int32) (ur : Int32) (usx : Int32) (usNn : Int32) (usNf : Nat → Int32) (usMn : Int32) (usMf : Nat → Int32) (usLn : Int32) (usLf : Nat → Int32) (usKn : Int32) (usKf : Nat → Int32) (ucMn : Int32) (ucMf : Nat → Int32) (ucLn : Int32) (ucLf : Nat → Int32) (ucTn : Int32) (ucTf : Nat → Int32) (uox : Int32) (uoNn : Int32) (uoNf : Nat → Int32) (uoMn : Int32) (uoMf : Nat → Int32) (uoLn : Int32) (uoLf : Nat → Int32) (uoDn : Int32) (uoDf : Nat → Int32) (uac : Int32) (uaWn : Int32) (uaWf : Nat → Int32) (uaDn : Int32) (uaDf : Nat → Int32) (uaLn : Int32) (uaLf : Nat → Int32) (p1 : Int32) {r : Int32} (h : fX11_spoolFor ur usMn usMf usLn usLf uoMn uoMf uoLn uoLf p1 = some r) : RO l yX11_spoolFor cX11_spoolFor 2 (some .int) 2 48 dC dI g [.ref a0, .int p1] (wX11 g a0 a1 a2 a3 a4 a5 a6 a7 a8 a9 a10 a11 a12 a13 a14 a15 a16 a17 a18 a19 a20 a21 a22 a23 a24 a25 a26 a27 a28 a29 a30 a31 a32 uk ul ur usx usNn usNf usMn usMf usLn usLf usKn usKf ucMn ucMf ucLn ucLf ucTn ucTf uox uoNn uoNf uoMn uoMf uoLn uoLf uoDn uoDf uac uaWn uaWf uaDn uaDf uaLn uaLf) (some (.int r)) := by
  refine RO_of (by decide) (Nat.le_of_ble_eq_true rfl) ?_
  intro p e s m below meth c ls F hr hlocks hE hX hP hl
  replace F : CF p m c cX11_spoolFor 2 s _ RX11 := F
  replace hl : lv_has ls 2 [(0, .ref a0), (1, .int p1)] := hl
  rw [fX11_spoolFor] at h
  replace hP : va_P (dC, dI) vwCl (catp [[(a0, .inr (13, [.ref a1, .ref a10, .ref a17, .ref a26, .int uk, .int ul, .int ur]))], wX9 g a1 a2 a3 a4 a5 a6 a7 a8 a9 usx usNn usNf usMn usMf usLn usLf usKn usKf, wX8 g a10 a11 a12 a13 a14 a15 a16 ucMn ucMf ucLn ucLf ucTn ucTf, wX5 g a17 a18 a19 a20 a21 a22 a23 a24 a25 uox uoNn uoNf uoMn uoMf uoLn uoLf uoDn uoDf, wX1 g a26 a27 a28 a29 a30 a31 a32 uac uaWn uaWf uaDn uaDf uaLn uaLf] []) s.heap := hP
  refine lv_aload_n F.1 F.2.1 dX11_spoolFor_0 rfl (lv_at hl 0 rfl) ?_
  refine gF (v := .ref a1) F hE hP 0 rfl rfl inX11 0 (by decide) q162 rfl dX11_spoolFor_1 ?_
  refine lv_aload_n F.1 F.2.1 dX11_spoolFor_4 rfl (lv_at hl 0 rfl) ?_
  refine gF (v := .ref a17) F hE hP 0 rfl rfl inX11 2 (by decide) q167 rfl dX11_spoolFor_5 ?_
  refine lv_iload_n F.1 F.2.1 dX11_spoolFor_8 rfl (lv_at hl 1 rfl) ?_
  obtain ⟨z1, k2, h⟩ := bd_ok h
  refine cRV1 (As := [.int p1]) (rest := [.ref a1]) (post := catp [wX1 g a26 a27 a28 a29 a30 a31 a32 uac uaWn uaWf uaDn uaDf uaLn uaLf] []) F hE hX va_S.rf (tX5_materialAt l dC dI g a17 a18 a19 a20 a21 a22 a23 a24 a25 uox uoNn uoNf uoMn uoMf uoLn uoLf uoDn uoDf p1 k2) mbX5_materialAt q1112 ⟨(Nat.le_of_ble_eq_true rfl), (Nat.le_of_ble_eq_true rfl)⟩ ⟨Nat.zero_le _, Nat.zero_le _⟩ hP [[(a0, .inr (13, [.ref a1, .ref a10, .ref a17, .ref a26, .int uk, .int ul, .int ur]))], wX9 g a1 a2 a3 a4 a5 a6 a7 a8 a9 usx usNn usNf usMn usMf usLn usLf usKn usKf, wX8 g a10 a11 a12 a13 a14 a15 a16 ucMn ucMf ucLn ucLf ucTn ucTf] rfl 0 rfl rfl rfl hl.1 rfl (Nat.le_of_ble_eq_true rfl) dX11_spoolFor_9 ?_
  refine lv_aload_n F.1 F.2.1 dX11_spoolFor_12 rfl (lv_at hl 0 rfl) ?_
  refine gF (v := .ref a17) F hE hP 0 rfl rfl inX11 2 (by decide) q167 rfl dX11_spoolFor_13 ?_
  refine lv_iload_n F.1 F.2.1 dX11_spoolFor_16 rfl (lv_at hl 1 rfl) ?_
  obtain ⟨z3, k4, h⟩ := bd_ok h
  refine cRV1 (As := [.int p1]) (rest := [.int z1, .ref a1]) (post := catp [wX1 g a26 a27 a28 a29 a30 a31 a32 uac uaWn uaWf uaDn uaDf uaLn uaLf] []) F hE hX va_S.rf (tX5_lengthAt l dC dI g a17 a18 a19 a20 a21 a22 a23 a24 a25 uox uoNn uoNf uoMn uoMf uoLn uoLf uoDn uoDf p1 k4) mbX5_lengthAt q1113 ⟨(Nat.le_of_ble_eq_true rfl), (Nat.le_of_ble_eq_true rfl)⟩ ⟨Nat.zero_le _, Nat.zero_le _⟩ hP [[(a0, .inr (13, [.ref a1, .ref a10, .ref a17, .ref a26, .int uk, .int ul, .int ur]))], wX9 g a1 a2 a3 a4 a5 a6 a7 a8 a9 usx usNn usNf usMn usMf usLn usLf usKn usKf, wX8 g a10 a11 a12 a13 a14 a15 a16 ucMn ucMf ucLn ucLf ucTn ucTf] rfl 0 rfl rfl rfl hl.1 rfl (Nat.le_of_ble_eq_true rfl) dX11_spoolFor_17 ?_
  refine lv_aload_n F.1 F.2.1 dX11_spoolFor_20 rfl (lv_at hl 0 rfl) ?_
  refine gF (v := .int ur) F hE hP 0 rfl rfl inX11 6 (by decide) q177 rfl dX11_spoolFor_21 ?_
  obtain ⟨z5, k6, h⟩ := bd_ok h
  refine cRV1 (As := [.int z1, .int z3, .int ur]) (rest := []) (post := catp [wX8 g a10 a11 a12 a13 a14 a15 a16 ucMn ucMf ucLn ucLf ucTn ucTf, wX5 g a17 a18 a19 a20 a21 a22 a23 a24 a25 uox uoNn uoNf uoMn uoMf uoLn uoLf uoDn uoDf, wX1 g a26 a27 a28 a29 a30 a31 a32 uac uaWn uaWf uaDn uaDf uaLn uaLf] []) F hE hX va_S.rf (tX9_choose l dC dI g a1 a2 a3 a4 a5 a6 a7 a8 a9 usx usNn usNf usMn usMf usLn usLf usKn usKf z1 z3 ur k6) mbX9_choose q1118 ⟨(Nat.le_of_ble_eq_true rfl), (Nat.le_of_ble_eq_true rfl)⟩ ⟨Nat.zero_le _, Nat.zero_le _⟩ hP [[(a0, .inr (13, [.ref a1, .ref a10, .ref a17, .ref a26, .int uk, .int ul, .int ur]))]] rfl 0 rfl rfl rfl hl.1 rfl (Nat.le_of_ble_eq_true rfl) dX11_spoolFor_24 ?_
  cases h
  exact RO_i F hr hlocks dX11_spoolFor_27
/-! WireCutter$Workshop.sumOfParts -/
def fX11_sumOfParts (usNn : Int32) (usMn : Int32) (usMf : Nat → Int32) (usLn : Int32) (usLf : Nat → Int32) (ucMn : Int32) (ucMf : Nat → Int32) (ucLn : Int32) (ucLf : Nat → Int32) (ucTn : Int32) (ucTf : Nat → Int32) (uaDn : Int32) (uaDf : Nat → Int32) (uaLn : Int32) (uaLf : Nat → Int32) (p1 : Int32) : Option (Int32) :=
  (fX12_placeOf p1).bind fun z1 =>
  (fX9_sumOf usNn usMn usMf usLn usLf p1).bind fun z3 =>
  (fX8_sumOf ucMn ucMf ucLn ucLf p1).bind fun z5 =>
  (fX7_get 6 uaDn uaDf z1).bind fun z7 =>
  (fX7_get 6 uaLn uaLf z1).bind fun z9 =>
  (fX8_thrownOf ucTn ucTf p1).bind fun z11 =>
  some ((z3 + z5) + ((z7 + z9) + z11))
theorem mbX11_sumOfParts : MV yX11_sumOfParts cX11_sumOfParts 5 (some .int) 1 := ⟨⟨q477, q2, by decide +kernel⟩, q475, q476⟩
set_option maxHeartbeats 4000000 in
set_option maxRecDepth 100000 in
theorem tX11_sumOfParts (l : Launch) (dC : Nat → ClassId) (dI : Nat → Nat → Nat) (g : Nat → ClassId) (a0 a1 a2 a3 a4 a5 a6 a7 a8 a9 a10 a11 a12 a13 a14 a15 a16 a17 a18 a19 a20 a21 a22 a23 a24 a25 a26 a27 a28 a29 a30 a31 a32 : Nat) (uk : Int32) (ul : Int32) (ur : Int32) (usx : Int32) (usNn : Int32) (usNf : Nat → Int32) (usMn : Int32) (usMf : Nat → Int32) (usLn : Int32) (usLf : Nat → Int32) (usKn : Int32) (usKf : Nat → Int32) (ucMn : Int32) (ucMf : Nat → Int32) (ucLn : Int32) (ucLf : Nat → Int32) (ucTn : Int32) (ucTf : Nat → Int32) (uox : Int32) (uoNn : Int32) (uoNf : Nat → Int32) (uoMn : Int32) (uoMf : Nat → Int32) (uoLn : Int32) (uoLf : Nat → Int32) (uoDn : Int32) (uoDf : Nat → Int32) (uac : Int32) (uaWn : Int32) (uaWf : Nat → Int32) (uaDn : Int32) (uaDf : Nat → Int32) (uaLn : Int32) (uaLf : Nat → Int32) (p1 : Int32) {r : Int32} (h : fX11_sumOfParts usNn usMn usMf usLn usLf ucMn ucMf ucLn ucLf ucTn ucTf uaDn uaDf uaLn uaLf p1 = some r) : RO l yX11_sumOfParts cX11_sumOfParts 5 (some .int) 3 63 dC dI g [.ref a0, .int p1] (wX11 g a0 a1 a2 a3 a4 a5 a6 a7 a8 a9 a10 a11 a12 a13 a14 a15 a16 a17 a18 a19 a20 a21 a22 a23 a24 a25 a26 a27 a28 a29 a30 a31 a32 uk ul ur usx usNn usNf usMn usMf usLn usLf usKn usKf ucMn ucMf ucLn ucLf ucTn ucTf uox uoNn uoNf uoMn uoMf uoLn uoLf uoDn uoDf uac uaWn uaWf uaDn uaDf uaLn uaLf) (some (.int r)) := by
  refine RO_of (by decide) (Nat.le_of_ble_eq_true rfl) ?_
  intro p e s m below meth c ls F hr hlocks hE hX hP hl
  replace F : CF p m c cX11_sumOfParts 5 s _ RX11 := F
  replace hl : lv_has ls 5 [(0, .ref a0), (1, .int p1)] := hl
  rw [fX11_sumOfParts] at h
  replace hP : va_P (dC, dI) vwCl (catp [[(a0, .inr (13, [.ref a1, .ref a10, .ref a17, .ref a26, .int uk, .int ul, .int ur]))], wX9 g a1 a2 a3 a4 a5 a6 a7 a8 a9 usx usNn usNf usMn usMf usLn usLf usKn usKf, wX8 g a10 a11 a12 a13 a14 a15 a16 ucMn ucMf ucLn ucLf ucTn ucTf, wX5 g a17 a18 a19 a20 a21 a22 a23 a24 a25 uox uoNn uoNf uoMn uoMf uoLn uoLf uoDn uoDf, [(a26, .inr (4, [.ref a27, .ref a29, .ref a31, .int uac]))], wX7 g a27 a28 6 uaWn uaWf, wX7 g a29 a30 6 uaDn uaDf, wX7 g a31 a32 6 uaLn uaLf] []) s.heap := hP
  refine lv_iload_n F.1 F.2.1 dX11_sumOfParts_0 rfl (lv_at hl 1 rfl) ?_
  obtain ⟨z1, k2, h⟩ := bd_ok h
  refine cRSN0 (As := [.int p1]) (rest := []) F hE hX va_S.rf (tX12_placeOf l dC dI g p1 k2) mbX12_placeOf q478 ⟨(Nat.le_of_ble_eq_true rfl), (Nat.le_of_ble_eq_true rfl)⟩ ⟨Nat.zero_le _, Nat.zero_le _⟩ hP rfl hl.1 rfl (Nat.le_of_ble_eq_true rfl) dX11_sumOfParts_1 ?_
  refine lv_istore_n (lv' := [(2, .int z1), (0, .ref a0), (1, .int p1)]) F.1 F.2.1 dX11_sumOfParts_4 rfl hl (by decide) rfl (fun ls hl => ?_)
  refine lv_aload_n F.1 F.2.1 dX11_sumOfParts_5 rfl (lv_at hl 1 rfl) ?_
  refine gF (v := .ref a1) F hE hP 0 rfl rfl inX11 0 (by decide) q162 rfl dX11_sumOfParts_6 ?_
  refine lv_iload_n F.1 F.2.1 dX11_sumOfParts_9 rfl (lv_at hl 2 rfl) ?_
  obtain ⟨z3, k4, h⟩ := bd_ok h
  refine cRV1 (As := [.int p1]) (rest := []) (post := catp [wX8 g a10 a11 a12 a13 a14 a15 a16 ucMn ucMf ucLn ucLf ucTn ucTf, wX5 g a17 a18 a19 a20 a21 a22 a23 a24 a25 uox uoNn uoNf uoMn uoMf uoLn uoLf uoDn uoDf, [(a26, .inr (4, [.ref a27, .ref a29, .ref a31, .int uac]))], wX7 g a27 a28 6 uaWn uaWf, wX7 g a29 a30 6 uaDn uaDf, wX7 g a31 a32 6 uaLn uaLf] []) F hE hX va_S.rf (tX9_sumOf l dC dI g a1 a2 a3 a4 a5 a6 a7 a8 a9 usx usNn usNf usMn usMf usLn usLf usKn usKf p1 k4) mbX9_sumOf q481 ⟨(Nat.le_of_ble_eq_true rfl), (Nat.le_of_ble_eq_true rfl)⟩ ⟨Nat.zero_le _, Nat.zero_le _⟩ hP [[(a0, .inr (13, [.ref a1, .ref a10, .ref a17, .ref a26, .int uk, .int ul, .int ur]))]] rfl 0 rfl rfl rfl hl.1 rfl (Nat.le_of_ble_eq_true rfl) dX11_sumOfParts_10 ?_
  refine lv_aload_n F.1 F.2.1 dX11_sumOfParts_13 rfl (lv_at hl 1 rfl) ?_
  refine gF (v := .ref a10) F hE hP 0 rfl rfl inX11 1 (by decide) q165 rfl dX11_sumOfParts_14 ?_
  refine lv_iload_n F.1 F.2.1 dX11_sumOfParts_17 rfl (lv_at hl 2 rfl) ?_
  obtain ⟨z5, k6, h⟩ := bd_ok h
  refine cRV1 (As := [.int p1]) (rest := [.int z3]) (post := catp [wX5 g a17 a18 a19 a20 a21 a22 a23 a24 a25 uox uoNn uoNf uoMn uoMf uoLn uoLf uoDn uoDf, [(a26, .inr (4, [.ref a27, .ref a29, .ref a31, .int uac]))], wX7 g a27 a28 6 uaWn uaWf, wX7 g a29 a30 6 uaDn uaDf, wX7 g a31 a32 6 uaLn uaLf] []) F hE hX va_S.rf (tX8_sumOf l dC dI g a10 a11 a12 a13 a14 a15 a16 ucMn ucMf ucLn ucLf ucTn ucTf p1 k6) mbX8_sumOf q486 ⟨(Nat.le_of_ble_eq_true rfl), (Nat.le_of_ble_eq_true rfl)⟩ ⟨Nat.zero_le _, Nat.zero_le _⟩ hP [[(a0, .inr (13, [.ref a1, .ref a10, .ref a17, .ref a26, .int uk, .int ul, .int ur]))], wX9 g a1 a2 a3 a4 a5 a6 a7 a8 a9 usx usNn usNf usMn usMf usLn usLf usKn usKf] rfl 0 rfl rfl rfl hl.1 rfl (Nat.le_of_ble_eq_true rfl) dX11_sumOfParts_18 ?_
  refine lv_iadd F.1 F.2.1 dX11_sumOfParts_21 ?_
  refine lv_istore_n (lv' := [(3, .int (z3 + z5)), (2, .int z1), (0, .ref a0), (1, .int p1)]) F.1 F.2.1 dX11_sumOfParts_22 rfl hl (by decide) rfl (fun ls hl => ?_)
  refine lv_aload_n F.1 F.2.1 dX11_sumOfParts_23 rfl (lv_at hl 2 rfl) ?_
  refine gF (v := .ref a26) F hE hP 0 rfl rfl inX11 3 (by decide) q170 rfl dX11_sumOfParts_24 ?_
  refine gFN (v := .ref a29) F hE hP 26 rfl rfl inX1 1 (by decide) q145 rfl dX11_sumOfParts_27 ?_
  refine lv_iload_n F.1 F.2.1 dX11_sumOfParts_30 rfl (lv_at hl 1 rfl) ?_
  obtain ⟨z7, k8, h⟩ := bd_ok h
  refine cRV1 (As := [.int z1]) (rest := []) (post := catp [wX7 g a31 a32 6 uaLn uaLf] []) F hE hX va_S.rf (tX7_get l dC dI g a29 a30 6 uaDn uaDf z1 k8) mbX7_get q492 ⟨(Nat.le_of_ble_eq_true rfl), (Nat.le_of_ble_eq_true rfl)⟩ ⟨Nat.zero_le _, Nat.zero_le _⟩ hP [[(a0, .inr (13, [.ref a1, .ref a10, .ref a17, .ref a26, .int uk, .int ul, .int ur]))], wX9 g a1 a2 a3 a4 a5 a6 a7 a8 a9 usx usNn usNf usMn usMf usLn usLf usKn usKf, wX8 g a10 a11 a12 a13 a14 a15 a16 ucMn ucMf ucLn ucLf ucTn ucTf, wX5 g a17 a18 a19 a20 a21 a22 a23 a24 a25 uox uoNn uoNf uoMn uoMf uoLn uoLf uoDn uoDf, [(a26, .inr (4, [.ref a27, .ref a29, .ref a31, .int uac]))], wX7 g a27 a28 6 uaWn uaWf] rfl 0 rfl rfl rfl hl.1 rfl (Nat.le_of_ble_eq_true rfl) dX11_sumOfParts_31 ?_
  refine lv_aload_n F.1 F.2.1 dX11_sumOfParts_34 rfl (lv_at hl 2 rfl) ?_
  refine gF (v := .ref a26) F hE hP 0 rfl rfl inX11 3 (by decide) q170 rfl dX11_sumOfParts_35 ?_
  refine gFN (v := .ref a31) F hE hP 26 rfl rfl inX1 2 (by decide) q148 rfl dX11_sumOfParts_38 ?_
  refine lv_iload_n F.1 F.2.1 dX11_sumOfParts_41 rfl (lv_at hl 1 rfl) ?_
  obtain ⟨z9, k10, h⟩ := bd_ok h
  refine cRV1 (As := [.int z1]) (rest := [.int z7]) (post := catp [] []) F hE hX va_S.rf (tX7_get l dC dI g a31 a32 6 uaLn uaLf z1 k10) mbX7_get q492 ⟨(Nat.le_of_ble_eq_true rfl), (Nat.le_of_ble_eq_true rfl)⟩ ⟨Nat.zero_le _, Nat.zero_le _⟩ hP [[(a0, .inr (13, [.ref a1, .ref a10, .ref a17, .ref a26, .int uk, .int ul, .int ur]))], wX9 g a1 a2 a3 a4 a5 a6 a7 a8 a9 usx usNn usNf usMn usMf usLn usLf usKn usKf, wX8 g a10 a11 a12 a13 a14 a15 a16 ucMn ucMf ucLn ucLf ucTn ucTf, wX5 g a17 a18 a19 a20 a21 a22 a23 a24 a25 uox uoNn uoNf uoMn uoMf uoLn uoLf uoDn uoDf, [(a26, .inr (4, [.ref a27, .ref a29, .ref a31, .int uac]))], wX7 g a27 a28 6 uaWn uaWf, wX7 g a29 a30 6 uaDn uaDf] rfl 0 rfl rfl rfl hl.1 rfl (Nat.le_of_ble_eq_true rfl) dX11_sumOfParts_42 ?_
  refine lv_iadd F.1 F.2.1 dX11_sumOfParts_45 ?_
  refine lv_aload_n F.1 F.2.1 dX11_sumOfParts_46 rfl (lv_at hl 2 rfl) ?_
  refine gF (v := .ref a10) F hE hP 0 rfl rfl inX11 1 (by decide) q165 rfl dX11_sumOfParts_47 ?_
  refine lv_iload_n F.1 F.2.1 dX11_sumOfParts_50 rfl (lv_at hl 3 rfl) ?_
  obtain ⟨z11, k12, h⟩ := bd_ok h
  refine cRV1 (As := [.int p1]) (rest := [.int (z7 + z9)]) (post := catp [wX5 g a17 a18 a19 a20 a21 a22 a23 a24 a25 uox uoNn uoNf uoMn uoMf uoLn uoLf uoDn uoDf, [(a26, .inr (4, [.ref a27, .ref a29, .ref a31, .int uac]))], wX7 g a27 a28 6 uaWn uaWf, wX7 g a29 a30 6 uaDn uaDf, wX7 g a31 a32 6 uaLn uaLf] []) F hE hX va_S.rf (tX8_thrownOf l dC dI g a10 a11 a12 a13 a14 a15 a16 ucMn ucMf ucLn ucLf ucTn ucTf p1 k12) mbX8_thrownOf q493 ⟨(Nat.le_of_ble_eq_true rfl), (Nat.le_of_ble_eq_true rfl)⟩ ⟨Nat.zero_le _, Nat.zero_le _⟩ hP [[(a0, .inr (13, [.ref a1, .ref a10, .ref a17, .ref a26, .int uk, .int ul, .int ur]))], wX9 g a1 a2 a3 a4 a5 a6 a7 a8 a9 usx usNn usNf usMn usMf usLn usLf usKn usKf] rfl 0 rfl rfl rfl hl.1 rfl (Nat.le_of_ble_eq_true rfl) dX11_sumOfParts_51 ?_
  refine lv_iadd F.1 F.2.1 dX11_sumOfParts_54 ?_
  refine lv_istore (lv' := [(4, .int ((z7 + z9) + z11)), (3, .int (z3 + z5)), (2, .int z1), (0, .ref a0), (1, .int p1)]) F.1 F.2.1 dX11_sumOfParts_55 hl (by decide) rfl (fun ls hl => ?_)
  refine lv_iload_n F.1 F.2.1 dX11_sumOfParts_57 rfl (lv_at hl 1 rfl) ?_
  refine lv_iload F.1 F.2.1 dX11_sumOfParts_58 (lv_at hl 0 rfl) ?_
  refine lv_iadd F.1 F.2.1 dX11_sumOfParts_60 ?_
  cases h
  exact RO_i F hr hlocks dX11_sumOfParts_61
/-! WireCutter$Loads.gatherPieces -/
def fX4_gatherPieces_L9 (x2 : Int32) (vNn : Int32) (vMn : Int32) (vMf : Nat → Int32) (vLn : Int32) (vLf : Nat → Int32) : Nat → Int32 → Int32 → (Nat → Int32) → Option (Int32 × (Nat → Int32))
  | 0, _, _, _ => none
  | k + 1, x3, upn, upf =>
    (fX5_count vNn).bind fun z3 =>
    if z3 ≤ x3 then
      some (upn, upf)
    else
      (fX5_materialAt vMn vMf x3).bind fun z6 =>
      if z6 = x2 then
        (fX5_lengthAt vLn vLf x3).bind fun z9 =>
        (fX7_add 12 upn upf z9).bind fun z11 =>
        fX4_gatherPieces_L9 x2 vNn vMn vMf vLn vLf k (x3 + 1) z11.1 z11.2
      else
        fX4_gatherPieces_L9 x2 vNn vMn vMf vLn vLf k (x3 + 1) upn upf
def fX4_gatherPieces (upf : Nat → Int32) (vNn : Int32) (vMn : Int32) (vMf : Nat → Int32) (vLn : Int32) (vLf : Nat → Int32) (p2 : Int32) : Option (Int32 × (Nat → Int32)) :=
  (fX7_clear).bind fun z1 =>
  fX4_gatherPieces_L9 p2 vNn vMn vMf vLn vLf FU 0 z1 upf
theorem mbX4_gatherPieces : MV yX4_gatherPieces cX4_gatherPieces 4 none 2 := ⟨⟨q429, q9, by decide +kernel⟩, q428, qs1⟩
set_option maxHeartbeats 4000000 in
set_option maxRecDepth 100000 in
theorem tX4_gatherPieces_L9 {p : Program} {l : Launch} {e : Env} {s : State} {m : MethodId} {args : Array Value} {below : List Frame} {meth : Method} {c : Code} {dC : Nat → ClassId} {dI : Nat → Nat → Nat} {g : Nat → ClassId} {a0 a1 a2 a3 b0 b1 b2 b3 b4 b5 b6 b7 b8 : Nat} {r : Int32 × (Nat → Int32)} {A : Nat → Prop} (F : CF p m c cX4_gatherPieces 4 s args RX4) (hr : meth.sig.returnType = none) (hlocks : meth.locks = false) (hE : EK dC dI g s) (hX : EX g A s s.heap) (hA : ∀ q : Nat, s.heap.size ≤ q → A q) (x2 : Int32) (ut : Nat → Int32) (vx : Int32) (vNn : Int32) (vNf : Nat → Int32) (vMn : Int32) (vMf : Nat → Int32) (vLn : Int32) (vLf : Nat → Int32) (vDn : Int32) (vDf : Nat → Int32) : ∀ (k : Nat) (x3 : Int32) (upn : Int32) (upf : Nat → Int32), fX4_gatherPieces_L9 x2 vNn vMn vMf vLn vLf k x3 upn upf = some r → ∀ (H : Heap) (locs : List Loc), va_P (dC, dI) vwCl (catp [[(a0, .inr (7, [.ref a1, .ref a2]))], [(a1, .inl (g 0, 1005, .inl ut))], wX7 g a2 a3 12 upn upf, wX5 g b0 b1 b2 b3 b4 b5 b6 b7 b8 vx vNn vNf vMn vMf vLn vLf vDn vDf] []) H → va_D A (catp [[(a0, .inr (7, [.ref a1, .ref a2]))], [(a1, .inl (g 0, 1005, .inl ut))], wX7 g a2 a3 12 upn upf, wX5 g b0 b1 b2 b3 b4 b5 b6 b7 b8 vx vNn vNf vMn vMf vLn vLf vDn vDf] []) → va_S A s.heap H locs → ∀ (ls : Array Slot), lv_has ls 4 [(0, .ref a0), (1, .ref b0), (2, .int x2), (3, .int x3)] → W p l e { frames := 2, cells := 0, slots := 0, locals := 42 } s m args below meth c H locs 0 0 (MQ below (fun _ st o t => o = .returned none ∧ va_P (dC, dI) vwCl (wX4 g a0 a1 a2 a3 ut r.1 r.2 ++ wX5 g b0 b1 b2 b3 b4 b5 b6 b7 b8 vx vNn vNf vMn vMf vLn vLf vDn vDf) t.heap ∧ va_F A st t) args s 0 0 A) (F0 m 9 ls []) := by
  intro k
  induction k with
  | zero =>
    intro x3 upn upf h
    exact absurd h (by simp [fX4_gatherPieces_L9])
  | succ k ih =>
    intro x3 upn upf h H locs hP hD hS ls hl
    rw [fX4_gatherPieces_L9] at h
    refine lv_iload_n F.1 F.2.1 dX4_gatherPieces_9 rfl (lv_at hl 3 rfl) ?_
    refine lv_aload_n F.1 F.2.1 dX4_gatherPieces_10 rfl (lv_at hl 1 rfl) ?_
    obtain ⟨z3, k4, h⟩ := bd_ok h
    refine cRV1 (As := []) (rest := [.int x3]) (post := catp [] []) F hE hX hS (tX5_count l dC dI g b0 b1 b2 b3 b4 b5 b6 b7 b8 vx vNn vNf vMn vMf vLn vLf vDn vDf k4) mbX5_count q434 ⟨(Nat.le_of_ble_eq_true rfl), (Nat.le_of_ble_eq_true rfl)⟩ ⟨Nat.zero_le _, Nat.zero_le _⟩ hP [[(a0, .inr (7, [.ref a1, .ref a2]))], [(a1, .inl (g 0, 1005, .inl ut))], wX7 g a2 a3 12 upn upf] rfl 0 rfl rfl rfl hl.1 rfl (Nat.le_of_ble_eq_true rfl) dX4_gatherPieces_11 ?_
    refine lv_icmp_ge (tgt := 44) F.1 F.2.1 dX4_gatherPieces_14 (by decide) (fun k5 => ?_) (fun k5 => ?_)
    · replace h := it_t k5 h
      cases h
      exact MU_v F hr hlocks (Nat.le_refl _) (Nat.le_refl _) hP hS dX4_gatherPieces_44
    · replace h := it_f k5 h
      refine lv_aload_n F.1 F.2.1 dX4_gatherPieces_17 rfl (lv_at hl 1 rfl) ?_
      refine lv_iload_n F.1 F.2.1 dX4_gatherPieces_18 rfl (lv_at hl 3 rfl) ?_
      obtain ⟨z6, k7, h⟩ := bd_ok h
      refine cRV1 (As := [.int x3]) (rest := []) (post := catp [] []) F hE hX hS (tX5_materialAt l dC dI g b0 b1 b2 b3 b4 b5 b6 b7 b8 vx vNn vNf vMn vMf vLn vLf vDn vDf x3 k7) mbX5_materialAt q435 ⟨(Nat.le_of_ble_eq_true rfl), (Nat.le_of_ble_eq_true rfl)⟩ ⟨Nat.zero_le _, Nat.zero_le _⟩ hP [[(a0, .inr (7, [.ref a1, .ref a2]))], [(a1, .inl (g 0, 1005, .inl ut))], wX7 g a2 a3 12 upn upf] rfl 0 rfl rfl rfl hl.1 rfl (Nat.le_of_ble_eq_true rfl) dX4_gatherPieces_19 ?_
      refine lv_iload_n F.1 F.2.1 dX4_gatherPieces_22 rfl (lv_at hl 2 rfl) ?_
      refine lv_icmp_ne (tgt := 38) F.1 F.2.1 dX4_gatherPieces_23 (by decide) (fun k8 => ?_) (fun k8 => ?_)
      · replace h := it_f k8 h
        refine lv_iinc (v := x3 + 1) (lv' := [(3, .int (x3 + 1)), (0, .ref a0), (1, .ref b0), (2, .int x2)]) F.1 F.2.1 dX4_gatherPieces_38 hl (k := 3) rfl (by rfl) (by decide) rfl (fun ls hl => ?_)
        refine lv_goto (tgt := 9) F.1 F.2.1 dX4_gatherPieces_41 (by decide) ?_
        exact ih (x3 + 1) upn upf h _ _ hP hD hS ls (lv_sub hl [1, 2, 3, 0] rfl)
      · replace h := it_t k8 h
        refine lv_aload_n F.1 F.2.1 dX4_gatherPieces_26 rfl (lv_at hl 0 rfl) ?_
        refine gF (v := .ref a2) F hE hP 0 rfl rfl inX4 1 (by decide) q222 rfl dX4_gatherPieces_27 ?_
        refine lv_aload_n F.1 F.2.1 dX4_gatherPieces_30 rfl (lv_at hl 1 rfl) ?_
        refine lv_iload_n F.1 F.2.1 dX4_gatherPieces_31 rfl (lv_at hl 3 rfl) ?_
        obtain ⟨z9, k10, h⟩ := bd_ok h
        refine cRV1 (As := [.int x3]) (rest := [.ref a2]) (post := catp [] []) F hE hX hS (tX5_lengthAt l dC dI g b0 b1 b2 b3 b4 b5 b6 b7 b8 vx vNn vNf vMn vMf vLn vLf vDn vDf x3 k10) mbX5_lengthAt q440 ⟨(Nat.le_of_ble_eq_true rfl), (Nat.le_of_ble_eq_true rfl)⟩ ⟨Nat.zero_le _, Nat.zero_le _⟩ hP [[(a0, .inr (7, [.ref a1, .ref a2]))], [(a1, .inl (g 0, 1005, .inl ut))], wX7 g a2 a3 12 upn upf] rfl 0 rfl rfl rfl hl.1 rfl (Nat.le_of_ble_eq_true rfl) dX4_gatherPieces_32 ?_
        obtain ⟨z11, k12, h⟩ := bd_ok h
        refine cMV1 (As := [.int z9]) (rest := []) (post := catp [wX5 g b0 b1 b2 b3 b4 b5 b6 b7 b8 vx vNn vNf vMn vMf vLn vLf vDn vDf] []) (ws' := catp [[(a0, .inr (7, [.ref a1, .ref a2]))], [(a1, .inl (g 0, 1005, .inl ut))], wX7 g a2 a3 12 z11.1 z11.2, wX5 g b0 b1 b2 b3 b4 b5 b6 b7 b8 vx vNn vNf vMn vMf vLn vLf vDn vDf] []) F hE hX (tX7_add l dC dI g a2 a3 12 upn upf z9 k12) mbX7_add q444 ⟨(Nat.le_of_ble_eq_true rfl), (Nat.le_of_ble_eq_true rfl)⟩ ⟨(Nat.le_of_ble_eq_true rfl), (Nat.le_of_ble_eq_true rfl)⟩ hP hD hS hA [[(a0, .inr (7, [.ref a1, .ref a2]))], [(a1, .inl (g 0, 1005, .inl ut))]] rfl rfl rfl 0 rfl rfl rfl hl.1 rfl (Nat.le_of_ble_eq_true rfl) dX4_gatherPieces_35 (fun H locs hP hD hS => ?_)
        refine lv_iinc (v := x3 + 1) (lv' := [(3, .int (x3 + 1)), (0, .ref a0), (1, .ref b0), (2, .int x2)]) F.1 F.2.1 dX4_gatherPieces_38 hl (k := 3) rfl (by rfl) (by decide) rfl (fun ls hl => ?_)
        refine lv_goto (tgt := 9) F.1 F.2.1 dX4_gatherPieces_41 (by decide) ?_
        exact ih (x3 + 1) z11.1 z11.2 h _ _ hP hD hS ls (lv_sub hl [1, 2, 3, 0] rfl)
set_option maxHeartbeats 4000000 in
set_option maxRecDepth 100000 in
theorem tX4_gatherPieces (l : Launch) (dC : Nat → ClassId) (dI : Nat → Nat → Nat) (g : Nat → ClassId) (a0 a1 a2 a3 b0 b1 b2 b3 b4 b5 b6 b7 b8 : Nat) (ut : Nat → Int32) (upn : Int32) (upf : Nat → Int32) (vx : Int32) (vNn : Int32) (vNf : Nat → Int32) (vMn : Int32) (vMf : Nat → Int32) (vLn : Int32) (vLf : Nat → Int32) (vDn : Int32) (vDf : Nat → Int32) (p2 : Int32) {r : Int32 × (Nat → Int32)} (h : fX4_gatherPieces upf vNn vMn vMf vLn vLf p2 = some r) : MU l yX4_gatherPieces cX4_gatherPieces 4 none 2 42 0 0 dC dI g [.ref a0, .ref b0, .int p2] (wX4 g a0 a1 a2 a3 ut upn upf ++ wX5 g b0 b1 b2 b3 b4 b5 b6 b7 b8 vx vNn vNf vMn vMf vLn vLf vDn vDf) (wX4 g a0 a1 a2 a3 ut r.1 r.2 ++ wX5 g b0 b1 b2 b3 b4 b5 b6 b7 b8 vx vNn vNf vMn vMf vLn vLf vDn vDf) none := by
  refine MU_of (by decide) (Nat.le_of_ble_eq_true rfl) ?_
  intro p e s m below meth c ls F hr hlocks hE hX hA hP hD hS hl
  generalize va_A (wX4 g a0 a1 a2 a3 ut upn upf ++ wX5 g b0 b1 b2 b3 b4 b5 b6 b7 b8 vx vNn vNf vMn vMf vLn vLf vDn vDf) s.heap.size = A at hA hD hS hX ⊢
  replace F : CF p m c cX4_gatherPieces 4 s _ RX4 := F
  replace hl : lv_has ls 4 [(0, .ref a0), (1, .ref b0), (2, .int p2)] := hl
  rw [fX4_gatherPieces] at h
  replace hP : va_P (dC, dI) vwCl (catp [[(a0, .inr (7, [.ref a1, .ref a2]))], [(a1, .inl (g 0, 1005, .inl ut))], wX7 g a2 a3 12 upn upf, wX5 g b0 b1 b2 b3 b4 b5 b6 b7 b8 vx vNn vNf vMn vMf vLn vLf vDn vDf] []) s.heap := hP
  replace hD : va_D A (catp [[(a0, .inr (7, [.ref a1, .ref a2]))], [(a1, .inl (g 0, 1005, .inl ut))], wX7 g a2 a3 12 upn upf, wX5 g b0 b1 b2 b3 b4 b5 b6 b7 b8 vx vNn vNf vMn vMf vLn vLf vDn vDf] []) := hD
  refine lv_aload_n F.1 F.2.1 dX4_gatherPieces_0 rfl (lv_at hl 0 rfl) ?_
  refine gF (v := .ref a2) F hE hP 0 rfl rfl inX4 1 (by decide) q222 rfl dX4_gatherPieces_1 ?_
  obtain ⟨z1, k2, h⟩ := bd_ok h
  refine cMV1 (As := []) (rest := []) (post := catp [wX5 g b0 b1 b2 b3 b4 b5 b6 b7 b8 vx vNn vNf vMn vMf vLn vLf vDn vDf] []) (ws' := catp [[(a0, .inr (7, [.ref a1, .ref a2]))], [(a1, .inl (g 0, 1005, .inl ut))], wX7 g a2 a3 12 z1 upf, wX5 g b0 b1 b2 b3 b4 b5 b6 b7 b8 vx vNn vNf vMn vMf vLn vLf vDn vDf] []) F hE hX (tX7_clear l dC dI g a2 a3 12 upn upf k2) mbX7_clear q430 ⟨(Nat.le_of_ble_eq_true rfl), (Nat.le_of_ble_eq_true rfl)⟩ ⟨(Nat.le_of_ble_eq_true rfl), (Nat.le_of_ble_eq_true rfl)⟩ hP hD hS hA [[(a0, .inr (7, [.ref a1, .ref a2]))], [(a1, .inl (g 0, 1005, .inl ut))]] rfl rfl rfl 0 rfl rfl rfl hl.1 rfl (Nat.le_of_ble_eq_true rfl) dX4_gatherPieces_4 (fun H locs hP hD hS => ?_)
  refine lv_iconst (v := 0) F.1 F.2.1 dX4_gatherPieces_7 (by decide) ?_
  refine lv_istore_n (lv' := [(3, .int 0), (0, .ref a0), (1, .ref b0), (2, .int p2)]) F.1 F.2.1 dX4_gatherPieces_8 rfl hl (by decide) rfl (fun ls hl => ?_)
  exact tX4_gatherPieces_L9 F hr hlocks hE hX hA p2 ut vx vNn vNf vMn vMf vLn vLf vDn vDf FU 0 z1 upf h _ _ hP hD hS ls (lv_sub hl [1, 2, 3, 0] rfl)
/-! WireCutter$Loads.roomOf -/
def fX4_roomOf (vk : Int32) (vsLn : Int32) (vsLf : Nat → Int32) (p1 : Int32) : Option (Int32) :=
  (fX9_lengthAt vsLn vsLf p1).bind fun z1 =>
  some (z1 + vk)
theorem mbX4_roomOf : MS yX4_roomOf cX4_roomOf 2 (some .int) 2 := ⟨⟨q450, q9, by decide +kernel⟩, q449⟩
set_option maxHeartbeats 4000000 in
set_option maxRecDepth 100000 in
theorem tX4_roomOf (l : Launch) (dC : Nat → ClassId) (dI : Nat → Nat → Nat) (g : Nat → ClassId) (b0 b1 b2 b3 b4 b5 b6 b7 b8 b9 b10 b11 b12 b13 b14 b15 b16 b17 b18 b19 b20 b21 b22 b23 b24 b25 b26 b27 b28 b29 b30 b31 b32 : Nat) (vk : Int32) (vl : Int32) (vr : Int32) (vsx : Int32) (vsNn : Int32) (vsNf : Nat → Int32) (vsMn : Int32) (vsMf : Nat → Int32) (vsLn : Int32) (vsLf : Nat → Int32) (vsKn : Int32) (vsKf : Nat → Int32) (vcMn : Int32) (vcMf : Nat → Int32) (vcLn : Int32) (vcLf : Nat → Int32) (vcTn : Int32) (vcTf : Nat → Int32) (vox : Int32) (voNn : Int32) (voNf : Nat → Int32) (voMn : Int32) (voMf : Nat → Int32) (voLn : Int32) (voLf : Nat → Int32) (voDn : Int32) (voDf : Nat → Int32) (vac : Int32) (vaWn : Int32) (vaWf : Nat → Int32) (vaDn : Int32) (vaDf : Nat → Int32) (vaLn : Int32) (vaLf : Nat → Int32) (p1 : Int32) {r : Int32} (h : fX4_roomOf vk vsLn vsLf p1 = some r) : RO l yX4_roomOf cX4_roomOf 2 (some .int) 2 42 dC dI g [.ref b0, .int p1] (wX11 g b0 b1 b2 b3 b4 b5 b6 b7 b8 b9 b10 b11 b12 b13 b14 b15 b16 b17 b18 b19 b20 b21 b22 b23 b24 b25 b26 b27 b28 b29 b30 b31 b32 vk vl vr vsx vsNn vsNf vsMn vsMf vsLn vsLf vsKn vsKf vcMn vcMf vcLn vcLf vcTn vcTf vox voNn voNf voMn voMf voLn voLf voDn voDf vac vaWn vaWf vaDn vaDf vaLn vaLf) (some (.int r)) := by
  refine RO_of (by decide) (Nat.le_of_ble_eq_true rfl) ?_
  intro p e s m below meth c ls F hr hlocks hE hX hP hl
  replace F : CF p m c cX4_roomOf 2 s _ RX4 := F
  replace hl : lv_has ls 2 [(0, .ref b0), (1, .int p1)] := hl
  rw [fX4_roomOf] at h
  replace hP : va_P (dC, dI) vwCl (catp [[(b0, .inr (13, [.ref b1, .ref b10, .ref b17, .ref b26, .int vk, .int vl, .int vr]))], wX9 g b1 b2 b3 b4 b5 b6 b7 b8 b9 vsx vsNn vsNf vsMn vsMf vsLn vsLf vsKn vsKf, wX8 g b10 b11 b12 b13 b14 b15 b16 vcMn vcMf vcLn vcLf vcTn vcTf, wX5 g b17 b18 b19 b20 b21 b22 b23 b24 b25 vox voNn voNf voMn voMf voLn voLf voDn voDf, wX1 g b26 b27 b28 b29 b30 b31 b32 vac vaWn vaWf vaDn vaDf vaLn vaLf] []) s.heap := hP
  refine lv_aload_n F.1 F.2.1 dX4_roomOf_0 rfl (lv_at hl 0 rfl) ?_
  refine gFN (v := .ref b1) F hE hP 0 rfl rfl inX11 0 (by decide) q163 rfl dX4_roomOf_1 ?_
  refine lv_iload_n F.1 F.2.1 dX4_roomOf_4 rfl (lv_at hl 1 rfl) ?_
  obtain ⟨z1, k2, h⟩ := bd_ok h
  refine cRV1 (As := [.int p1]) (rest := []) (post := catp [wX8 g b10 b11 b12 b13 b14 b15 b16 vcMn vcMf vcLn vcLf vcTn vcTf, wX5 g b17 b18 b19 b20 b21 b22 b23 b24 b25 vox voNn voNf voMn voMf voLn voLf voDn voDf, wX1 g b26 b27 b28 b29 b30 b31 b32 vac vaWn vaWf vaDn vaDf vaLn vaLf] []) F hE hX va_S.rf (tX9_lengthAt l dC dI g b1 b2 b3 b4 b5 b6 b7 b8 b9 vsx vsNn vsNf vsMn vsMf vsLn vsLf vsKn vsKf p1 k2) mbX9_lengthAt q451 ⟨(Nat.le_of_ble_eq_true rfl), (Nat.le_of_ble_eq_true rfl)⟩ ⟨Nat.zero_le _, Nat.zero_le _⟩ hP [[(b0, .inr (13, [.ref b1, .ref b10, .ref b17, .ref b26, .int vk, .int vl, .int vr]))]] rfl 0 rfl rfl rfl hl.1 rfl (Nat.le_of_ble_eq_true rfl) dX4_roomOf_5 ?_
  refine lv_aload_n F.1 F.2.1 dX4_roomOf_8 rfl (lv_at hl 0 rfl) ?_
  refine gFN (v := .int vk) F hE hP 0 rfl rfl inX11 4 (by decide) q173 rfl dX4_roomOf_9 ?_
  refine lv_iadd F.1 F.2.1 dX4_roomOf_12 ?_
  cases h
  exact RO_i F hr hlocks dX4_roomOf_13
