/-! WireCutterModel.orders -/
def fX13_orders (uw : Nat → Int32) : Option (Int32 × Int32) :=
  (fX13_asks uw 2).bind fun z1 =>
  some (z1.1, z1.2)
theorem mbX13_orders : MV yX13_orders cX13_orders 1 (some .int) 0 := ⟨⟨q2015, q16, by decide +kernel⟩, q2013, q2014⟩
set_option maxHeartbeats 4000000 in
set_option maxRecDepth 100000 in
theorem tX13_orders (l : Launch) (dC : Nat → ClassId) (dI : Nat → Nat → Nat) (g : Nat → ClassId) (a0 a1 a2 a3 a4 a5 a6 a7 a8 : Nat) (uth : Int32) (uch : Int32) (ufc : Int32) (usv : Int32) (ull : Int32) (ubl : Int32) (uba : Int32) (uea : Int32) (ufa : Int32) (uso : Int32) (udn : Int32) (uw : Nat → Int32) (uun : Nat → Int32) (usr : Nat → Int32) (ube : Nat → Int32) (ubs : Nat → Int32) (uln : Nat → Int32) (ubu : Nat → Int32) (unu : Nat → Int32) {r : Int32 × Int32} (h : fX13_orders uw = some r) : MU l yX13_orders cX13_orders 1 (some .int) 1 21 0 0 dC dI g [.ref a0] (wX13 g a0 a1 a2 a3 a4 a5 a6 a7 a8 uth uch ufc usv ull ubl uba uea ufa uso udn uw uun usr ube ubs uln ubu unu) (wX13 g a0 a1 a2 a3 a4 a5 a6 a7 a8 r.2 uch ufc usv ull ubl uba uea ufa uso udn uw uun usr ube ubs uln ubu unu) (some (.int r.1)) := by
  refine MU_of (by decide) (Nat.le_of_ble_eq_true rfl) ?_
  intro p e s m below meth c ls F hr hlocks hE hX hA hP hD hS hl
  generalize va_A (wX13 g a0 a1 a2 a3 a4 a5 a6 a7 a8 uth uch ufc usv ull ubl uba uea ufa uso udn uw uun usr ube ubs uln ubu unu) s.heap.size = A at hA hD hS hX ⊢
  replace F : CF p m c cX13_orders 1 s _ RX13 := F
  replace hl : lv_has ls 1 [(0, .ref a0)] := hl
  rw [fX13_orders] at h
  refine lv_aload_n F.1 F.2.1 dX13_orders_0 rfl (lv_at hl 0 rfl) ?_
  refine lv_iconst (v := 2) F.1 F.2.1 dX13_orders_1 (by decide) ?_
  obtain ⟨z1, k2, h⟩ := bd_ok h
  refine cMV (As := [.int 2]) (rest := []) (ws' := wX13 g a0 a1 a2 a3 a4 a5 a6 a7 a8 z1.2 uch ufc usv ull ubl uba uea ufa uso udn uw uun usr ube ubs uln ubu unu) F hE hX (tX13_asks l dC dI g a0 a1 a2 a3 a4 a5 a6 a7 a8 uth uch ufc usv ull ubl uba uea ufa uso udn uw uun usr ube ubs uln ubu unu 2 k2) mbX13_asks q1943 ⟨(Nat.le_of_ble_eq_true rfl), (Nat.le_of_ble_eq_true rfl)⟩ ⟨(Nat.le_of_ble_eq_true rfl), (Nat.le_of_ble_eq_true rfl)⟩ hP hD hS hA [0, 1, 2, 3, 4, 5, 6, 7, 8] rfl rfl rfl rfl rfl 0 rfl rfl rfl hl.1 rfl (Nat.le_of_ble_eq_true rfl) dX13_orders_2 (fun H locs hP hD hS => ?_)
  cases h
  exact MU_i F hr hlocks (Nat.le_refl _) (Nat.le_refl _) hP hS dX13_orders_5
/-! WireCutterModel.isOpen -/
def fX13_isOpen (uw : Nat → Int32) (p1 : Int32) : Option (Int32 × Int32) :=
  (fX13_orderPlace uw p1).bind fun z1 =>
  if z1 < 0 then
    some (0, 0)
  else
    some (1, 0)
theorem mbX13_isOpen : MV yX13_isOpen cX13_isOpen 2 (some .boolean) 1 := ⟨⟨q2019, q16, by decide +kernel⟩, q2017, q2018⟩
set_option maxHeartbeats 4000000 in
set_option maxRecDepth 100000 in
theorem tX13_isOpen (l : Launch) (dC : Nat → ClassId) (dI : Nat → Nat → Nat) (g : Nat → ClassId) (a0 a1 a2 a3 a4 a5 a6 a7 a8 : Nat) (uth : Int32) (uch : Int32) (ufc : Int32) (usv : Int32) (ull : Int32) (ubl : Int32) (uba : Int32) (uea : Int32) (ufa : Int32) (uso : Int32) (udn : Int32) (uw : Nat → Int32) (uun : Nat → Int32) (usr : Nat → Int32) (ube : Nat → Int32) (ubs : Nat → Int32) (uln : Nat → Int32) (ubu : Nat → Int32) (unu : Nat → Int32) (p1 : Int32) {r : Int32 × Int32} (h : fX13_isOpen uw p1 = some r) : MU l yX13_isOpen cX13_isOpen 2 (some .boolean) 2 44 0 0 dC dI g [.ref a0, .int p1] (wX13 g a0 a1 a2 a3 a4 a5 a6 a7 a8 uth uch ufc usv ull ubl uba uea ufa uso udn uw uun usr ube ubs uln ubu unu) (wX13 g a0 a1 a2 a3 a4 a5 a6 a7 a8 r.2 uch ufc usv ull ubl uba uea ufa uso udn uw uun usr ube ubs uln ubu unu) (some (.int r.1)) := by
  refine MU_of (by decide) (Nat.le_of_ble_eq_true rfl) ?_
  intro p e s m below meth c ls F hr hlocks hE hX hA hP hD hS hl
  generalize va_A (wX13 g a0 a1 a2 a3 a4 a5 a6 a7 a8 uth uch ufc usv ull ubl uba uea ufa uso udn uw uun usr ube ubs uln ubu unu) s.heap.size = A at hA hD hS hX ⊢
  replace F : CF p m c cX13_isOpen 2 s _ RX13 := F
  replace hl : lv_has ls 2 [(0, .ref a0), (1, .int p1)] := hl
  rw [fX13_isOpen] at h
  refine lv_aload_n F.1 F.2.1 dX13_isOpen_0 rfl (lv_at hl 0 rfl) ?_
  refine lv_iconst (v := 0) F.1 F.2.1 dX13_isOpen_1 (by decide) ?_
  refine pF (v := .int 0) F hE hP hD hS 0 rfl rfl inX13 tyX13 tyX13_ok nmX13 0 (by decide) q1684 rfl rfl rfl (Nat.le_of_ble_eq_true rfl) dX13_isOpen_2 (fun H locs hP hD hS => ?_)
  replace hP : va_P (dC, dI) vwCl (wX13 g a0 a1 a2 a3 a4 a5 a6 a7 a8 0 uch ufc usv ull ubl uba uea ufa uso udn uw uun usr ube ubs uln ubu unu) H := hP
  replace hD : va_D A (wX13 g a0 a1 a2 a3 a4 a5 a6 a7 a8 0 uch ufc usv ull ubl uba uea ufa uso udn uw uun usr ube ubs uln ubu unu) := hD
  refine lv_aload_n F.1 F.2.1 dX13_isOpen_5 rfl (lv_at hl 0 rfl) ?_
  refine lv_iload_n F.1 F.2.1 dX13_isOpen_6 rfl (lv_at hl 1 rfl) ?_
  obtain ⟨z1, k2, h⟩ := bd_ok h
  refine cRV (As := [.int p1]) (rest := []) F hE hX hS (tX13_orderPlace l dC dI g a0 a1 a2 a3 a4 a5 a6 a7 a8 0 uch ufc usv ull ubl uba uea ufa uso udn uw uun usr ube ubs uln ubu unu p1 k2) mbX13_orderPlace q1851 ⟨(Nat.le_of_ble_eq_true rfl), (Nat.le_of_ble_eq_true rfl)⟩ ⟨Nat.zero_le _, Nat.zero_le _⟩ hP [0, 1, 2, 3, 4, 5, 6, 7, 8] rfl 0 rfl rfl rfl hl.1 rfl (Nat.le_of_ble_eq_true rfl) dX13_isOpen_7 ?_
  refine lv_if_lt (tgt := 17) F.1 F.2.1 dX13_isOpen_10 (by decide) (fun k3 => ?_) (fun k3 => ?_)
  · replace h := it_t k3 h
    refine lv_iconst (v := 0) F.1 F.2.1 dX13_isOpen_17 (by decide) ?_
    cases h
    exact MU_z (v := 0) F hr hlocks (Nat.le_refl _) (Nat.le_refl _) rfl hP hS dX13_isOpen_18
  · replace h := it_f k3 h
    refine lv_iconst (v := 1) F.1 F.2.1 dX13_isOpen_13 (by decide) ?_
    refine lv_goto (tgt := 18) F.1 F.2.1 dX13_isOpen_14 (by decide) ?_
    cases h
    exact MU_z (v := 1) F hr hlocks (Nat.le_refl _) (Nat.le_refl _) rfl hP hS dX13_isOpen_18
/-! WireCutterModel.asksOrder -/
def fX13_asksOrder (uw : Nat → Int32) (p1 : Int32) (p2 : Int32) : Option (Int32 × Int32) :=
  (fX13_orderPlace uw p1).bind fun z1 =>
  if 0 ≤ z1 then
    (fX13_orderPlace uw p1).bind fun z4 =>
    (fX13_orderOf uw z4 p2).bind fun z6 =>
    some (z6, 0)
  else
    (fX13_fails 1).bind fun z8 =>
    some (z8.1, z8.2)
theorem mbX13_asksOrder : MV yX13_asksOrder cX13_asksOrder 3 (some .int) 2 := ⟨⟨q2027, q16, by decide +kernel⟩, q2026, qs61⟩
set_option maxHeartbeats 4000000 in
set_option maxRecDepth 100000 in
theorem tX13_asksOrder (l : Launch) (dC : Nat → ClassId) (dI : Nat → Nat → Nat) (g : Nat → ClassId) (a0 a1 a2 a3 a4 a5 a6 a7 a8 : Nat) (uth : Int32) (uch : Int32) (ufc : Int32) (usv : Int32) (ull : Int32) (ubl : Int32) (uba : Int32) (uea : Int32) (ufa : Int32) (uso : Int32) (udn : Int32) (uw : Nat → Int32) (uun : Nat → Int32) (usr : Nat → Int32) (ube : Nat → Int32) (ubs : Nat → Int32) (uln : Nat → Int32) (ubu : Nat → Int32) (unu : Nat → Int32) (p1 : Int32) (p2 : Int32) {r : Int32 × Int32} (h : fX13_asksOrder uw p1 p2 = some r) : MU l yX13_asksOrder cX13_asksOrder 3 (some .int) 2 44 0 0 dC dI g [.ref a0, .int p1, .int p2] (wX13 g a0 a1 a2 a3 a4 a5 a6 a7 a8 uth uch ufc usv ull ubl uba uea ufa uso udn uw uun usr ube ubs uln ubu unu) (wX13 g a0 a1 a2 a3 a4 a5 a6 a7 a8 r.2 uch ufc usv ull ubl uba uea ufa uso udn uw uun usr ube ubs uln ubu unu) (some (.int r.1)) := by
  refine MU_of (by decide) (Nat.le_of_ble_eq_true rfl) ?_
  intro p e s m below meth c ls F hr hlocks hE hX hA hP hD hS hl
  generalize va_A (wX13 g a0 a1 a2 a3 a4 a5 a6 a7 a8 uth uch ufc usv ull ubl uba uea ufa uso udn uw uun usr ube ubs uln ubu unu) s.heap.size = A at hA hD hS hX ⊢
  replace F : CF p m c cX13_asksOrder 3 s _ RX13 := F
  replace hl : lv_has ls 3 [(0, .ref a0), (1, .int p1), (2, .int p2)] := hl
  rw [fX13_asksOrder] at h
  refine lv_aload_n F.1 F.2.1 dX13_asksOrder_0 rfl (lv_at hl 0 rfl) ?_
  refine lv_iconst (v := 0) F.1 F.2.1 dX13_asksOrder_1 (by decide) ?_
  refine pF (v := .int 0) F hE hP hD hS 0 rfl rfl inX13 tyX13 tyX13_ok nmX13 0 (by decide) q1684 rfl rfl rfl (Nat.le_of_ble_eq_true rfl) dX13_asksOrder_2 (fun H locs hP hD hS => ?_)
  replace hP : va_P (dC, dI) vwCl (wX13 g a0 a1 a2 a3 a4 a5 a6 a7 a8 0 uch ufc usv ull ubl uba uea ufa uso udn uw uun usr ube ubs uln ubu unu) H := hP
  replace hD : va_D A (wX13 g a0 a1 a2 a3 a4 a5 a6 a7 a8 0 uch ufc usv ull ubl uba uea ufa uso udn uw uun usr ube ubs uln ubu unu) := hD
  refine lv_aload_n F.1 F.2.1 dX13_asksOrder_5 rfl (lv_at hl 0 rfl) ?_
  refine lv_iload_n F.1 F.2.1 dX13_asksOrder_6 rfl (lv_at hl 1 rfl) ?_
  obtain ⟨z1, k2, h⟩ := bd_ok h
  refine cRV (As := [.int p1]) (rest := []) F hE hX hS (tX13_orderPlace l dC dI g a0 a1 a2 a3 a4 a5 a6 a7 a8 0 uch ufc usv ull ubl uba uea ufa uso udn uw uun usr ube ubs uln ubu unu p1 k2) mbX13_orderPlace q1851 ⟨(Nat.le_of_ble_eq_true rfl), (Nat.le_of_ble_eq_true rfl)⟩ ⟨Nat.zero_le _, Nat.zero_le _⟩ hP [0, 1, 2, 3, 4, 5, 6, 7, 8] rfl 0 rfl rfl rfl hl.1 rfl (Nat.le_of_ble_eq_true rfl) dX13_asksOrder_7 ?_
  refine lv_if_ge (tgt := 21) F.1 F.2.1 dX13_asksOrder_10 (by decide) (fun k3 => ?_) (fun k3 => ?_)
  · replace h := it_t k3 h
    refine lv_aload_n F.1 F.2.1 dX13_asksOrder_21 rfl (lv_at hl 0 rfl) ?_
    refine lv_aload_n F.1 F.2.1 dX13_asksOrder_22 rfl (lv_at hl 0 rfl) ?_
    refine lv_iload_n F.1 F.2.1 dX13_asksOrder_23 rfl (lv_at hl 1 rfl) ?_
    obtain ⟨z4, k5, h⟩ := bd_ok h
    refine cRV (As := [.int p1]) (rest := [.ref a0]) F hE hX hS (tX13_orderPlace l dC dI g a0 a1 a2 a3 a4 a5 a6 a7 a8 0 uch ufc usv ull ubl uba uea ufa uso udn uw uun usr ube ubs uln ubu unu p1 k5) mbX13_orderPlace q1851 ⟨(Nat.le_of_ble_eq_true rfl), (Nat.le_of_ble_eq_true rfl)⟩ ⟨Nat.zero_le _, Nat.zero_le _⟩ hP [0, 1, 2, 3, 4, 5, 6, 7, 8] rfl 0 rfl rfl rfl hl.1 rfl (Nat.le_of_ble_eq_true rfl) dX13_asksOrder_24 ?_
    refine lv_iload_n F.1 F.2.1 dX13_asksOrder_27 rfl (lv_at hl 2 rfl) ?_
    obtain ⟨z6, k7, h⟩ := bd_ok h
    refine cRV (As := [.int z4, .int p2]) (rest := []) F hE hX hS (tX13_orderOf l dC dI g a0 a1 a2 a3 a4 a5 a6 a7 a8 0 uch ufc usv ull ubl uba uea ufa uso udn uw uun usr ube ubs uln ubu unu z4 p2 k7) mbX13_orderOf q1839 ⟨(Nat.le_of_ble_eq_true rfl), (Nat.le_of_ble_eq_true rfl)⟩ ⟨Nat.zero_le _, Nat.zero_le _⟩ hP [0, 1, 2, 3, 4, 5, 6, 7, 8] rfl 0 rfl rfl rfl hl.1 rfl (Nat.le_of_ble_eq_true rfl) dX13_asksOrder_28 ?_
    cases h
    exact MU_i F hr hlocks (Nat.le_refl _) (Nat.le_refl _) hP hS dX13_asksOrder_31
  · replace h := it_f k3 h
    refine lv_aload_n F.1 F.2.1 dX13_asksOrder_13 rfl (lv_at hl 0 rfl) ?_
    refine lv_iconst (v := 1) F.1 F.2.1 dX13_asksOrder_14 (by decide) ?_
    obtain ⟨z8, k9, h⟩ := bd_ok h
    refine cMV (As := [.int 1]) (rest := []) (ws' := wX13 g a0 a1 a2 a3 a4 a5 a6 a7 a8 z8.2 uch ufc usv ull ubl uba uea ufa uso udn uw uun usr ube ubs uln ubu unu) F hE hX (tX13_fails l dC dI g a0 a1 a2 a3 a4 a5 a6 a7 a8 0 uch ufc usv ull ubl uba uea ufa uso udn uw uun usr ube ubs uln ubu unu 1 k9) mbX13_fails q1756 ⟨(Nat.le_of_ble_eq_true rfl), (Nat.le_of_ble_eq_true rfl)⟩ ⟨(Nat.le_of_ble_eq_true rfl), (Nat.le_of_ble_eq_true rfl)⟩ hP hD hS hA [0, 1, 2, 3, 4, 5, 6, 7, 8] rfl rfl rfl rfl rfl 0 rfl rfl rfl hl.1 rfl (Nat.le_of_ble_eq_true rfl) dX13_asksOrder_15 (fun H locs hP hD hS => ?_)
    refine lv_goto (tgt := 31) F.1 F.2.1 dX13_asksOrder_18 (by decide) ?_
    cases h
    exact MU_i F hr hlocks (Nat.le_refl _) (Nat.le_refl _) hP hS dX13_asksOrder_31
/-! WireCutterModel.orderMaterial -/
def fX13_orderMaterial (uw : Nat → Int32) (p1 : Int32) : Option (Int32 × Int32) :=
  (fX13_asksOrder uw p1 1).bind fun z1 =>
  if z1.2 = 0 then
    some (((97 + z1.1).toUInt32 % 65536).toInt32, z1.2)
  else
    some (0, z1.2)
theorem mbX13_orderMaterial : MV yX13_orderMaterial cX13_orderMaterial 3 (some .char) 1 := ⟨⟨q2023, q16, by decide +kernel⟩, q2021, q2022⟩
set_option maxHeartbeats 4000000 in
set_option maxRecDepth 100000 in
theorem tX13_orderMaterial (l : Launch) (dC : Nat → ClassId) (dI : Nat → Nat → Nat) (g : Nat → ClassId) (a0 a1 a2 a3 a4 a5 a6 a7 a8 : Nat) (uth : Int32) (uch : Int32) (ufc : Int32) (usv : Int32) (ull : Int32) (ubl : Int32) (uba : Int32) (uea : Int32) (ufa : Int32) (uso : Int32) (udn : Int32) (uw : Nat → Int32) (uun : Nat → Int32) (usr : Nat → Int32) (ube : Nat → Int32) (ubs : Nat → Int32) (uln : Nat → Int32) (ubu : Nat → Int32) (unu : Nat → Int32) (p1 : Int32) {r : Int32 × Int32} (h : fX13_orderMaterial uw p1 = some r) : MU l yX13_orderMaterial cX13_orderMaterial 3 (some .char) 3 66 0 0 dC dI g [.ref a0, .int p1] (wX13 g a0 a1 a2 a3 a4 a5 a6 a7 a8 uth uch ufc usv ull ubl uba uea ufa uso udn uw uun usr ube ubs uln ubu unu) (wX13 g a0 a1 a2 a3 a4 a5 a6 a7 a8 r.2 uch ufc usv ull ubl uba uea ufa uso udn uw uun usr ube ubs uln ubu unu) (some (.int r.1)) := by
  refine MU_of (by decide) (Nat.le_of_ble_eq_true rfl) ?_
  intro p e s m below meth c ls F hr hlocks hE hX hA hP hD hS hl
  generalize va_A (wX13 g a0 a1 a2 a3 a4 a5 a6 a7 a8 uth uch ufc usv ull ubl uba uea ufa uso udn uw uun usr ube ubs uln ubu unu) s.heap.size = A at hA hD hS hX ⊢
  replace F : CF p m c cX13_orderMaterial 3 s _ RX13 := F
  replace hl : lv_has ls 3 [(0, .ref a0), (1, .int p1)] := hl
  rw [fX13_orderMaterial] at h
  refine lv_aload_n F.1 F.2.1 dX13_orderMaterial_0 rfl (lv_at hl 0 rfl) ?_
  refine lv_iload_n F.1 F.2.1 dX13_orderMaterial_1 rfl (lv_at hl 1 rfl) ?_
  refine lv_iconst (v := 1) F.1 F.2.1 dX13_orderMaterial_2 (by decide) ?_
  obtain ⟨z1, k2, h⟩ := bd_ok h
  refine cMV (As := [.int p1, .int 1]) (rest := []) (ws' := wX13 g a0 a1 a2 a3 a4 a5 a6 a7 a8 z1.2 uch ufc usv ull ubl uba uea ufa uso udn uw uun usr ube ubs uln ubu unu) F hE hX (tX13_asksOrder l dC dI g a0 a1 a2 a3 a4 a5 a6 a7 a8 uth uch ufc usv ull ubl uba uea ufa uso udn uw uun usr ube ubs uln ubu unu p1 1 k2) mbX13_asksOrder q2024 ⟨(Nat.le_of_ble_eq_true rfl), (Nat.le_of_ble_eq_true rfl)⟩ ⟨(Nat.le_of_ble_eq_true rfl), (Nat.le_of_ble_eq_true rfl)⟩ hP hD hS hA [0, 1, 2, 3, 4, 5, 6, 7, 8] rfl rfl rfl rfl rfl 0 rfl rfl rfl hl.1 rfl (Nat.le_of_ble_eq_true rfl) dX13_orderMaterial_3 (fun H locs hP hD hS => ?_)
  refine lv_istore_n (lv' := [(2, .int z1.1), (0, .ref a0), (1, .int p1)]) F.1 F.2.1 dX13_orderMaterial_6 rfl hl (by decide) rfl (fun ls hl => ?_)
  refine lv_aload_n F.1 F.2.1 dX13_orderMaterial_7 rfl (lv_at hl 1 rfl) ?_
  refine gF (v := .int z1.2) F hE hP 0 rfl rfl inX13 0 (by decide) q1684 rfl dX13_orderMaterial_8 ?_
  refine lv_if_eq (tgt := 16) F.1 F.2.1 dX13_orderMaterial_11 (by decide) (fun k3 => ?_) (fun k3 => ?_)
  · replace h := it_t k3 h
    refine lv_bipush (v := 97) F.1 F.2.1 dX13_orderMaterial_16 (by decide) ?_
    refine lv_iload_n F.1 F.2.1 dX13_orderMaterial_18 rfl (lv_at hl 0 rfl) ?_
    refine lv_iadd F.1 F.2.1 dX13_orderMaterial_19 ?_
    refine lv_i2c F.1 F.2.1 dX13_orderMaterial_20 rfl ?_
    cases h
    exact MU_z (v := (((97 + z1.1).toUInt32 % 65536).toInt32)) F hr hlocks (Nat.le_refl _) (Nat.le_refl _) (pk_nc _) hP hS dX13_orderMaterial_21
  · replace h := it_f k3 h
    refine lv_iconst (v := 0) F.1 F.2.1 dX13_orderMaterial_14 (by decide) ?_
    cases h
    exact MU_z (v := 0) F hr hlocks (Nat.le_refl _) (Nat.le_refl _) rfl hP hS dX13_orderMaterial_15
/-! WireCutterModel.orderLength -/
def fX13_orderLength (uw : Nat → Int32) (p1 : Int32) : Option (Int32 × Int32) :=
  (fX13_asksOrder uw p1 2).bind fun z1 =>
  some (z1.1, z1.2)
theorem mbX13_orderLength : MV yX13_orderLength cX13_orderLength 2 (some .int) 1 := ⟨⟨q2031, q16, by decide +kernel⟩, q2029, q2030⟩
set_option maxHeartbeats 4000000 in
set_option maxRecDepth 100000 in
theorem tX13_orderLength (l : Launch) (dC : Nat → ClassId) (dI : Nat → Nat → Nat) (g : Nat → ClassId) (a0 a1 a2 a3 a4 a5 a6 a7 a8 : Nat) (uth : Int32) (uch : Int32) (ufc : Int32) (usv : Int32) (ull : Int32) (ubl : Int32) (uba : Int32) (uea : Int32) (ufa : Int32) (uso : Int32) (udn : Int32) (uw : Nat → Int32) (uun : Nat → Int32) (usr : Nat → Int32) (ube : Nat → Int32) (ubs : Nat → Int32) (uln : Nat → Int32) (ubu : Nat → Int32) (unu : Nat → Int32) (p1 : Int32) {r : Int32 × Int32} (h : fX13_orderLength uw p1 = some r) : MU l yX13_orderLength cX13_orderLength 2 (some .int) 3 66 0 0 dC dI g [.ref a0, .int p1] (wX13 g a0 a1 a2 a3 a4 a5 a6 a7 a8 uth uch ufc usv ull ubl uba uea ufa uso udn uw uun usr ube ubs uln ubu unu) (wX13 g a0 a1 a2 a3 a4 a5 a6 a7 a8 r.2 uch ufc usv ull ubl uba uea ufa uso udn uw uun usr ube ubs uln ubu unu) (some (.int r.1)) := by
  refine MU_of (by decide) (Nat.le_of_ble_eq_true rfl) ?_
  intro p e s m below meth c ls F hr hlocks hE hX hA hP hD hS hl
  generalize va_A (wX13 g a0 a1 a2 a3 a4 a5 a6 a7 a8 uth uch ufc usv ull ubl uba uea ufa uso udn uw uun usr ube ubs uln ubu unu) s.heap.size = A at hA hD hS hX ⊢
  replace F : CF p m c cX13_orderLength 2 s _ RX13 := F
  replace hl : lv_has ls 2 [(0, .ref a0), (1, .int p1)] := hl
  rw [fX13_orderLength] at h
  refine lv_aload_n F.1 F.2.1 dX13_orderLength_0 rfl (lv_at hl 0 rfl) ?_
  refine lv_iload_n F.1 F.2.1 dX13_orderLength_1 rfl (lv_at hl 1 rfl) ?_
  refine lv_iconst (v := 2) F.1 F.2.1 dX13_orderLength_2 (by decide) ?_
  obtain ⟨z1, k2, h⟩ := bd_ok h
  refine cMV (As := [.int p1, .int 2]) (rest := []) (ws' := wX13 g a0 a1 a2 a3 a4 a5 a6 a7 a8 z1.2 uch ufc usv ull ubl uba uea ufa uso udn uw uun usr ube ubs uln ubu unu) F hE hX (tX13_asksOrder l dC dI g a0 a1 a2 a3 a4 a5 a6 a7 a8 uth uch ufc usv ull ubl uba uea ufa uso udn uw uun usr ube ubs uln ubu unu p1 2 k2) mbX13_asksOrder q2024 ⟨(Nat.le_of_ble_eq_true rfl), (Nat.le_of_ble_eq_true rfl)⟩ ⟨(Nat.le_of_ble_eq_true rfl), (Nat.le_of_ble_eq_true rfl)⟩ hP hD hS hA [0, 1, 2, 3, 4, 5, 6, 7, 8] rfl rfl rfl rfl rfl 0 rfl rfl rfl hl.1 rfl (Nat.le_of_ble_eq_true rfl) dX13_orderLength_3 (fun H locs hP hD hS => ?_)
  cases h
  exact MU_i F hr hlocks (Nat.le_refl _) (Nat.le_refl _) hP hS dX13_orderLength_6
/-! WireCutterModel.due -/
def fX13_due (uw : Nat → Int32) (p1 : Int32) : Option (Int32 × Int32) :=
  (fX13_asksOrder uw p1 3).bind fun z1 =>
  some (z1.1, z1.2)
theorem mbX13_due : MV yX13_due cX13_due 2 (some .int) 1 := ⟨⟨q2035, q16, by decide +kernel⟩, q2033, q2034⟩
set_option maxHeartbeats 4000000 in
set_option maxRecDepth 100000 in
theorem tX13_due (l : Launch) (dC : Nat → ClassId) (dI : Nat → Nat → Nat) (g : Nat → ClassId) (a0 a1 a2 a3 a4 a5 a6 a7 a8 : Nat) (uth : Int32) (uch : Int32) (ufc : Int32) (usv : Int32) (ull : Int32) (ubl : Int32) (uba : Int32) (uea : Int32) (ufa : Int32) (uso : Int32) (udn : Int32) (uw : Nat → Int32) (uun : Nat → Int32) (usr : Nat → Int32) (ube : Nat → Int32) (ubs : Nat → Int32) (uln : Nat → Int32) (ubu : Nat → Int32) (unu : Nat → Int32) (p1 : Int32) {r : Int32 × Int32} (h : fX13_due uw p1 = some r) : MU l yX13_due cX13_due 2 (some .int) 3 66 0 0 dC dI g [.ref a0, .int p1] (wX13 g a0 a1 a2 a3 a4 a5 a6 a7 a8 uth uch ufc usv ull ubl uba uea ufa uso udn uw uun usr ube ubs uln ubu unu) (wX13 g a0 a1 a2 a3 a4 a5 a6 a7 a8 r.2 uch ufc usv ull ubl uba uea ufa uso udn uw uun usr ube ubs uln ubu unu) (some (.int r.1)) := by
  refine MU_of (by decide) (Nat.le_of_ble_eq_true rfl) ?_
  intro p e s m below meth c ls F hr hlocks hE hX hA hP hD hS hl
  generalize va_A (wX13 g a0 a1 a2 a3 a4 a5 a6 a7 a8 uth uch ufc usv ull ubl uba uea ufa uso udn uw uun usr ube ubs uln ubu unu) s.heap.size = A at hA hD hS hX ⊢
  replace F : CF p m c cX13_due 2 s _ RX13 := F
  replace hl : lv_has ls 2 [(0, .ref a0), (1, .int p1)] := hl
  rw [fX13_due] at h
  refine lv_aload_n F.1 F.2.1 dX13_due_0 rfl (lv_at hl 0 rfl) ?_
  refine lv_iload_n F.1 F.2.1 dX13_due_1 rfl (lv_at hl 1 rfl) ?_
  refine lv_iconst (v := 3) F.1 F.2.1 dX13_due_2 (by decide) ?_
  obtain ⟨z1, k2, h⟩ := bd_ok h
  refine cMV (As := [.int p1, .int 3]) (rest := []) (ws' := wX13 g a0 a1 a2 a3 a4 a5 a6 a7 a8 z1.2 uch ufc usv ull ubl uba uea ufa uso udn uw uun usr ube ubs uln ubu unu) F hE hX (tX13_asksOrder l dC dI g a0 a1 a2 a3 a4 a5 a6 a7 a8 uth uch ufc usv ull ubl uba uea ufa uso udn uw uun usr ube ubs uln ubu unu p1 3 k2) mbX13_asksOrder q2024 ⟨(Nat.le_of_ble_eq_true rfl), (Nat.le_of_ble_eq_true rfl)⟩ ⟨(Nat.le_of_ble_eq_true rfl), (Nat.le_of_ble_eq_true rfl)⟩ hP hD hS hA [0, 1, 2, 3, 4, 5, 6, 7, 8] rfl rfl rfl rfl rfl 0 rfl rfl rfl hl.1 rfl (Nat.le_of_ble_eq_true rfl) dX13_due_3 (fun H locs hP hD hS => ?_)
  cases h
  exact MU_i F hr hlocks (Nat.le_refl _) (Nat.le_refl _) hP hS dX13_due_6
/-! WireCutterModel.orderAt -/
def fX13_orderAt (uw : Nat → Int32) (p1 : Int32) : Option (Int32 × Int32) :=
  (fX13_isBetween p1 0 ((uw 2) - 1)).bind fun z1 =>
  if z1 = 0 then
    (fX13_fails 1).bind fun z4 =>
    some (z4.1, z4.2)
  else
    (fX13_orderOf uw p1 0).bind fun z6 =>
    some (z6, 0)
theorem mbX13_orderAt : MV yX13_orderAt cX13_orderAt 2 (some .int) 1 := ⟨⟨q2039, q16, by decide +kernel⟩, q2037, q2038⟩
set_option maxHeartbeats 4000000 in
set_option maxRecDepth 100000 in
theorem tX13_orderAt (l : Launch) (dC : Nat → ClassId) (dI : Nat → Nat → Nat) (g : Nat → ClassId) (a0 a1 a2 a3 a4 a5 a6 a7 a8 : Nat) (uth : Int32) (uch : Int32) (ufc : Int32) (usv : Int32) (ull : Int32) (ubl : Int32) (uba : Int32) (uea : Int32) (ufa : Int32) (uso : Int32) (udn : Int32) (uw : Nat → Int32) (uun : Nat → Int32) (usr : Nat → Int32) (ube : Nat → Int32) (ubs : Nat → Int32) (uln : Nat → Int32) (ubu : Nat → Int32) (unu : Nat → Int32) (p1 : Int32) {r : Int32 × Int32} (h : fX13_orderAt uw p1 = some r) : MU l yX13_orderAt cX13_orderAt 2 (some .int) 1 22 0 0 dC dI g [.ref a0, .int p1] (wX13 g a0 a1 a2 a3 a4 a5 a6 a7 a8 uth uch ufc usv ull ubl uba uea ufa uso udn uw uun usr ube ubs uln ubu unu) (wX13 g a0 a1 a2 a3 a4 a5 a6 a7 a8 r.2 uch ufc usv ull ubl uba uea ufa uso udn uw uun usr ube ubs uln ubu unu) (some (.int r.1)) := by
  refine MU_of (by decide) (Nat.le_of_ble_eq_true rfl) ?_
  intro p e s m below meth c ls F hr hlocks hE hX hA hP hD hS hl
  generalize va_A (wX13 g a0 a1 a2 a3 a4 a5 a6 a7 a8 uth uch ufc usv ull ubl uba uea ufa uso udn uw uun usr ube ubs uln ubu unu) s.heap.size = A at hA hD hS hX ⊢
  replace F : CF p m c cX13_orderAt 2 s _ RX13 := F
  replace hl : lv_has ls 2 [(0, .ref a0), (1, .int p1)] := hl
  rw [fX13_orderAt] at h
  refine lv_aload_n F.1 F.2.1 dX13_orderAt_0 rfl (lv_at hl 0 rfl) ?_
  refine lv_iconst (v := 0) F.1 F.2.1 dX13_orderAt_1 (by decide) ?_
  refine pF (v := .int 0) F hE hP hD hS 0 rfl rfl inX13 tyX13 tyX13_ok nmX13 0 (by decide) q1684 rfl rfl rfl (Nat.le_of_ble_eq_true rfl) dX13_orderAt_2 (fun H locs hP hD hS => ?_)
  replace hP : va_P (dC, dI) vwCl (wX13 g a0 a1 a2 a3 a4 a5 a6 a7 a8 0 uch ufc usv ull ubl uba uea ufa uso udn uw uun usr ube ubs uln ubu unu) H := hP
  replace hD : va_D A (wX13 g a0 a1 a2 a3 a4 a5 a6 a7 a8 0 uch ufc usv ull ubl uba uea ufa uso udn uw uun usr ube ubs uln ubu unu) := hD
  refine lv_iload_n F.1 F.2.1 dX13_orderAt_5 rfl (lv_at hl 1 rfl) ?_
  refine lv_iconst (v := 0) F.1 F.2.1 dX13_orderAt_6 (by decide) ?_
  refine lv_aload_n F.1 F.2.1 dX13_orderAt_7 rfl (lv_at hl 0 rfl) ?_
  refine gF (v := .ref a1) F hE hP 0 rfl rfl inX13 1 (by decide) q1685 rfl dX13_orderAt_8 ?_
  refine lv_iconst (v := 2) F.1 F.2.1 dX13_orderAt_11 (by decide) ?_
  refine aLi (k := 2) F hE hP 1 0 rfl rfl (by decide) (by decide) dX13_orderAt_12 ?_
  refine lv_iconst (v := 1) F.1 F.2.1 dX13_orderAt_13 (by decide) ?_
  refine lv_isub F.1 F.2.1 dX13_orderAt_14 ?_
  obtain ⟨z1, k2, h⟩ := bd_ok h
  refine cRS (As := [.int p1, .int 0, .int ((uw 2) - 1)]) (rest := []) F hE hX hS (tX13_isBetween l dC dI g p1 0 ((uw 2) - 1) k2) mbX13_isBetween q1753 ⟨(Nat.le_of_ble_eq_true rfl), (Nat.le_of_ble_eq_true rfl)⟩ ⟨Nat.zero_le _, Nat.zero_le _⟩ hP [] rfl rfl hl.1 rfl (Nat.le_of_ble_eq_true rfl) dX13_orderAt_15 ?_
  refine lv_if_eq (tgt := 30) F.1 F.2.1 dX13_orderAt_18 (by decide) (fun k3 => ?_) (fun k3 => ?_)
  · replace h := it_t k3 h
    refine lv_aload_n F.1 F.2.1 dX13_orderAt_30 rfl (lv_at hl 0 rfl) ?_
    refine lv_iconst (v := 1) F.1 F.2.1 dX13_orderAt_31 (by decide) ?_
    obtain ⟨z4, k5, h⟩ := bd_ok h
    refine cMV (As := [.int 1]) (rest := []) (ws' := wX13 g a0 a1 a2 a3 a4 a5 a6 a7 a8 z4.2 uch ufc usv ull ubl uba uea ufa uso udn uw uun usr ube ubs uln ubu unu) F hE hX (tX13_fails l dC dI g a0 a1 a2 a3 a4 a5 a6 a7 a8 0 uch ufc usv ull ubl uba uea ufa uso udn uw uun usr ube ubs uln ubu unu 1 k5) mbX13_fails q1756 ⟨(Nat.le_of_ble_eq_true rfl), (Nat.le_of_ble_eq_true rfl)⟩ ⟨(Nat.le_of_ble_eq_true rfl), (Nat.le_of_ble_eq_true rfl)⟩ hP hD hS hA [0, 1, 2, 3, 4, 5, 6, 7, 8] rfl rfl rfl rfl rfl 0 rfl rfl rfl hl.1 rfl (Nat.le_of_ble_eq_true rfl) dX13_orderAt_32 (fun H locs hP hD hS => ?_)
    cases h
    exact MU_i F hr hlocks (Nat.le_refl _) (Nat.le_refl _) hP hS dX13_orderAt_35
  · replace h := it_f k3 h
    refine lv_aload_n F.1 F.2.1 dX13_orderAt_21 rfl (lv_at hl 0 rfl) ?_
    refine lv_iload_n F.1 F.2.1 dX13_orderAt_22 rfl (lv_at hl 1 rfl) ?_
    refine lv_iconst (v := 0) F.1 F.2.1 dX13_orderAt_23 (by decide) ?_
    obtain ⟨z6, k7, h⟩ := bd_ok h
    refine cRV (As := [.int p1, .int 0]) (rest := []) F hE hX hS (tX13_orderOf l dC dI g a0 a1 a2 a3 a4 a5 a6 a7 a8 0 uch ufc usv ull ubl uba uea ufa uso udn uw uun usr ube ubs uln ubu unu p1 0 k7) mbX13_orderOf q1839 ⟨(Nat.le_of_ble_eq_true rfl), (Nat.le_of_ble_eq_true rfl)⟩ ⟨Nat.zero_le _, Nat.zero_le _⟩ hP [0, 1, 2, 3, 4, 5, 6, 7, 8] rfl 0 rfl rfl rfl hl.1 rfl (Nat.le_of_ble_eq_true rfl) dX13_orderAt_24 ?_
    refine lv_goto (tgt := 35) F.1 F.2.1 dX13_orderAt_27 (by decide) ?_
    cases h
    exact MU_i F hr hlocks (Nat.le_refl _) (Nat.le_refl _) hP hS dX13_orderAt_35
/-! WireCutterModel.canFill -/
def fX13_canFill (uw : Nat → Int32) (p1 : Int32) : Option (Int32 × Int32) :=
  (fX13_orderPlace uw p1).bind fun z1 =>
  if 0 ≤ z1 then
    (fX13_isFillable uw z1).bind fun z4 =>
    gd (isB z4) <|
    some (z4, 0)
  else
    (fX13_fails 1).bind fun z7 =>
    if z7.1 ≤ 0 then
      some (0, z7.2)
    else
      some (1, z7.2)
theorem mbX13_canFill : MV yX13_canFill cX13_canFill 3 (some .boolean) 1 := ⟨⟨q2043, q16, by decide +kernel⟩, q2041, q2042⟩
set_option maxHeartbeats 4000000 in
set_option maxRecDepth 100000 in
theorem tX13_canFill (l : Launch) (dC : Nat → ClassId) (dI : Nat → Nat → Nat) (g : Nat → ClassId) (a0 a1 a2 a3 a4 a5 a6 a7 a8 : Nat) (uth : Int32) (uch : Int32) (ufc : Int32) (usv : Int32) (ull : Int32) (ubl : Int32) (uba : Int32) (uea : Int32) (ufa : Int32) (uso : Int32) (udn : Int32) (uw : Nat → Int32) (uun : Nat → Int32) (usr : Nat → Int32) (ube : Nat → Int32) (ubs : Nat → Int32) (uln : Nat → Int32) (ubu : Nat → Int32) (unu : Nat → Int32) (p1 : Int32) {r : Int32 × Int32} (h : fX13_canFill uw p1 = some r) : MU l yX13_canFill cX13_canFill 3 (some .boolean) 4 89 0 0 dC dI g [.ref a0, .int p1] (wX13 g a0 a1 a2 a3 a4 a5 a6 a7 a8 uth uch ufc usv ull ubl uba uea ufa uso udn uw uun usr ube ubs uln ubu unu) (wX13 g a0 a1 a2 a3 a4 a5 a6 a7 a8 r.2 uch ufc usv ull ubl uba uea ufa uso udn uw uun usr ube ubs uln ubu unu) (some (.int r.1)) := by
  refine MU_of (by decide) (Nat.le_of_ble_eq_true rfl) ?_
  intro p e s m below meth c ls F hr hlocks hE hX hA hP hD hS hl
  generalize va_A (wX13 g a0 a1 a2 a3 a4 a5 a6 a7 a8 uth uch ufc usv ull ubl uba uea ufa uso udn uw uun usr ube ubs uln ubu unu) s.heap.size = A at hA hD hS hX ⊢
  replace F : CF p m c cX13_canFill 3 s _ RX13 := F
  replace hl : lv_has ls 3 [(0, .ref a0), (1, .int p1)] := hl
  rw [fX13_canFill] at h
  refine lv_aload_n F.1 F.2.1 dX13_canFill_0 rfl (lv_at hl 0 rfl) ?_
  refine lv_iconst (v := 0) F.1 F.2.1 dX13_canFill_1 (by decide) ?_
  refine pF (v := .int 0) F hE hP hD hS 0 rfl rfl inX13 tyX13 tyX13_ok nmX13 0 (by decide) q1684 rfl rfl rfl (Nat.le_of_ble_eq_true rfl) dX13_canFill_2 (fun H locs hP hD hS => ?_)
  replace hP : va_P (dC, dI) vwCl (wX13 g a0 a1 a2 a3 a4 a5 a6 a7 a8 0 uch ufc usv ull ubl uba uea ufa uso udn uw uun usr ube ubs uln ubu unu) H := hP
  replace hD : va_D A (wX13 g a0 a1 a2 a3 a4 a5 a6 a7 a8 0 uch ufc usv ull ubl uba uea ufa uso udn uw uun usr ube ubs uln ubu unu) := hD
  refine lv_aload_n F.1 F.2.1 dX13_canFill_5 rfl (lv_at hl 0 rfl) ?_
  refine lv_iload_n F.1 F.2.1 dX13_canFill_6 rfl (lv_at hl 1 rfl) ?_
  obtain ⟨z1, k2, h⟩ := bd_ok h
  refine cRV (As := [.int p1]) (rest := []) F hE hX hS (tX13_orderPlace l dC dI g a0 a1 a2 a3 a4 a5 a6 a7 a8 0 uch ufc usv ull ubl uba uea ufa uso udn uw uun usr ube ubs uln ubu unu p1 k2) mbX13_orderPlace q1851 ⟨(Nat.le_of_ble_eq_true rfl), (Nat.le_of_ble_eq_true rfl)⟩ ⟨Nat.zero_le _, Nat.zero_le _⟩ hP [0, 1, 2, 3, 4, 5, 6, 7, 8] rfl 0 rfl rfl rfl hl.1 rfl (Nat.le_of_ble_eq_true rfl) dX13_canFill_7 ?_
  refine lv_istore_n (lv' := [(2, .int z1), (0, .ref a0), (1, .int p1)]) F.1 F.2.1 dX13_canFill_10 rfl hl (by decide) rfl (fun ls hl => ?_)
  refine lv_iload_n F.1 F.2.1 dX13_canFill_11 rfl (lv_at hl 0 rfl) ?_
  refine lv_if_ge (tgt := 29) F.1 F.2.1 dX13_canFill_12 (by decide) (fun k3 => ?_) (fun k3 => ?_)
  · replace h := it_t k3 h
    refine lv_aload_n F.1 F.2.1 dX13_canFill_29 rfl (lv_at hl 1 rfl) ?_
    refine lv_iload_n F.1 F.2.1 dX13_canFill_30 rfl (lv_at hl 0 rfl) ?_
    obtain ⟨z4, k5, h⟩ := bd_ok h
    refine cRV (As := [.int z1]) (rest := []) F hE hX hS (tX13_isFillable l dC dI g a0 a1 a2 a3 a4 a5 a6 a7 a8 0 uch ufc usv ull ubl uba uea ufa uso udn uw uun usr ube ubs uln ubu unu z1 k5) mbX13_isFillable q1871 ⟨(Nat.le_of_ble_eq_true rfl), (Nat.le_of_ble_eq_true rfl)⟩ ⟨Nat.zero_le _, Nat.zero_le _⟩ hP [0, 1, 2, 3, 4, 5, 6, 7, 8] rfl 0 rfl rfl rfl hl.1 rfl (Nat.le_of_ble_eq_true rfl) dX13_canFill_31 ?_
    obtain ⟨k6, h⟩ := gd_ok h
    cases h
    exact MU_z (v := z4) F hr hlocks (Nat.le_refl _) (Nat.le_refl _) (isB_n k6).1 hP hS dX13_canFill_34
  · replace h := it_f k3 h
    refine lv_aload_n F.1 F.2.1 dX13_canFill_15 rfl (lv_at hl 1 rfl) ?_
    refine lv_iconst (v := 1) F.1 F.2.1 dX13_canFill_16 (by decide) ?_
    obtain ⟨z7, k8, h⟩ := bd_ok h
    refine cMV (As := [.int 1]) (rest := []) (ws' := wX13 g a0 a1 a2 a3 a4 a5 a6 a7 a8 z7.2 uch ufc usv ull ubl uba uea ufa uso udn uw uun usr ube ubs uln ubu unu) F hE hX (tX13_fails l dC dI g a0 a1 a2 a3 a4 a5 a6 a7 a8 0 uch ufc usv ull ubl uba uea ufa uso udn uw uun usr ube ubs uln ubu unu 1 k8) mbX13_fails q1756 ⟨(Nat.le_of_ble_eq_true rfl), (Nat.le_of_ble_eq_true rfl)⟩ ⟨(Nat.le_of_ble_eq_true rfl), (Nat.le_of_ble_eq_true rfl)⟩ hP hD hS hA [0, 1, 2, 3, 4, 5, 6, 7, 8] rfl rfl rfl rfl rfl 0 rfl rfl rfl hl.1 rfl (Nat.le_of_ble_eq_true rfl) dX13_canFill_17 (fun H locs hP hD hS => ?_)
    refine lv_if_le (tgt := 27) F.1 F.2.1 dX13_canFill_20 (by decide) (fun k9 => ?_) (fun k9 => ?_)
    · replace h := it_t k9 h
      refine lv_iconst (v := 0) F.1 F.2.1 dX13_canFill_27 (by decide) ?_
      cases h
      exact MU_z (v := 0) F hr hlocks (Nat.le_refl _) (Nat.le_refl _) rfl hP hS dX13_canFill_28
    · replace h := it_f k9 h
      refine lv_iconst (v := 1) F.1 F.2.1 dX13_canFill_23 (by decide) ?_
      refine lv_goto (tgt := 28) F.1 F.2.1 dX13_canFill_24 (by decide) ?_
      cases h
      exact MU_z (v := 1) F hr hlocks (Nat.le_refl _) (Nat.le_refl _) rfl hP hS dX13_canFill_28
/-! WireCutterModel.chosenScrap -/
def fX13_chosenScrap (uw : Nat → Int32) (p1 : Int32) : Option (Int32 × Int32) :=
  (fX13_orderPlace uw p1).bind fun z1 =>
  if z1 < 0 then
    (fX13_fails 1).bind fun z4 =>
    some (z4.1, z4.2)
  else
    (fX13_scrapFor uw z1).bind fun z6 =>
    if 0 ≤ z6 then
      (fX13_scrapFor uw z1).bind fun z9 =>
      (fX13_scrapAt uw z9 1).bind fun z11 =>
      some (z11, 0)
    else
      (fX13_fails 1).bind fun z13 =>
      some (z13.1, z13.2)
theorem mbX13_chosenScrap : MV yX13_chosenScrap cX13_chosenScrap 3 (some .int) 1 := ⟨⟨q2047, q16, by decide +kernel⟩, q2045, q2046⟩
set_option maxHeartbeats 4000000 in
set_option maxRecDepth 100000 in
theorem tX13_chosenScrap (l : Launch) (dC : Nat → ClassId) (dI : Nat → Nat → Nat) (g : Nat → ClassId) (a0 a1 a2 a3 a4 a5 a6 a7 a8 : Nat) (uth : Int32) (uch : Int32) (ufc : Int32) (usv : Int32) (ull : Int32) (ubl : Int32) (uba : Int32) (uea : Int32) (ufa : Int32) (uso : Int32) (udn : Int32) (uw : Nat → Int32) (uun : Nat → Int32) (usr : Nat → Int32) (ube : Nat → Int32) (ubs : Nat → Int32) (uln : Nat → Int32) (ubu : Nat → Int32) (unu : Nat → Int32) (p1 : Int32) {r : Int32 × Int32} (h : fX13_chosenScrap uw p1 = some r) : MU l yX13_chosenScrap cX13_chosenScrap 3 (some .int) 2 45 0 0 dC dI g [.ref a0, .int p1] (wX13 g a0 a1 a2 a3 a4 a5 a6 a7 a8 uth uch ufc usv ull ubl uba uea ufa uso udn uw uun usr ube ubs uln ubu unu) (wX13 g a0 a1 a2 a3 a4 a5 a6 a7 a8 r.2 uch ufc usv ull ubl uba uea ufa uso udn uw uun usr ube ubs uln ubu unu) (some (.int r.1)) := by
  refine MU_of (by decide) (Nat.le_of_ble_eq_true rfl) ?_
  intro p e s m below meth c ls F hr hlocks hE hX hA hP hD hS hl
  generalize va_A (wX13 g a0 a1 a2 a3 a4 a5 a6 a7 a8 uth uch ufc usv ull ubl uba uea ufa uso udn uw uun usr ube ubs uln ubu unu) s.heap.size = A at hA hD hS hX ⊢
  replace F : CF p m c cX13_chosenScrap 3 s _ RX13 := F
  replace hl : lv_has ls 3 [(0, .ref a0), (1, .int p1)] := hl
  rw [fX13_chosenScrap] at h
  refine lv_aload_n F.1 F.2.1 dX13_chosenScrap_0 rfl (lv_at hl 0 rfl) ?_
  refine lv_iconst (v := 0) F.1 F.2.1 dX13_chosenScrap_1 (by decide) ?_
  refine pF (v := .int 0) F hE hP hD hS 0 rfl rfl inX13 tyX13 tyX13_ok nmX13 0 (by decide) q1684 rfl rfl rfl (Nat.le_of_ble_eq_true rfl) dX13_chosenScrap_2 (fun H locs hP hD hS => ?_)
  replace hP : va_P (dC, dI) vwCl (wX13 g a0 a1 a2 a3 a4 a5 a6 a7 a8 0 uch ufc usv ull ubl uba uea ufa uso udn uw uun usr ube ubs uln ubu unu) H := hP
  replace hD : va_D A (wX13 g a0 a1 a2 a3 a4 a5 a6 a7 a8 0 uch ufc usv ull ubl uba uea ufa uso udn uw uun usr ube ubs uln ubu unu) := hD
  refine lv_aload_n F.1 F.2.1 dX13_chosenScrap_5 rfl (lv_at hl 0 rfl) ?_
  refine lv_iload_n F.1 F.2.1 dX13_chosenScrap_6 rfl (lv_at hl 1 rfl) ?_
  obtain ⟨z1, k2, h⟩ := bd_ok h
  refine cRV (As := [.int p1]) (rest := []) F hE hX hS (tX13_orderPlace l dC dI g a0 a1 a2 a3 a4 a5 a6 a7 a8 0 uch ufc usv ull ubl uba uea ufa uso udn uw uun usr ube ubs uln ubu unu p1 k2) mbX13_orderPlace q1851 ⟨(Nat.le_of_ble_eq_true rfl), (Nat.le_of_ble_eq_true rfl)⟩ ⟨Nat.zero_le _, Nat.zero_le _⟩ hP [0, 1, 2, 3, 4, 5, 6, 7, 8] rfl 0 rfl rfl rfl hl.1 rfl (Nat.le_of_ble_eq_true rfl) dX13_chosenScrap_7 ?_
  refine lv_istore_n (lv' := [(2, .int z1), (0, .ref a0), (1, .int p1)]) F.1 F.2.1 dX13_chosenScrap_10 rfl hl (by decide) rfl (fun ls hl => ?_)
  refine lv_iload_n F.1 F.2.1 dX13_chosenScrap_11 rfl (lv_at hl 0 rfl) ?_
  refine lv_if_lt (tgt := 23) F.1 F.2.1 dX13_chosenScrap_12 (by decide) (fun k3 => ?_) (fun k3 => ?_)
  · replace h := it_t k3 h
    refine lv_aload_n F.1 F.2.1 dX13_chosenScrap_23 rfl (lv_at hl 1 rfl) ?_
    refine lv_iconst (v := 1) F.1 F.2.1 dX13_chosenScrap_24 (by decide) ?_
    obtain ⟨z4, k5, h⟩ := bd_ok h
    refine cMV (As := [.int 1]) (rest := []) (ws' := wX13 g a0 a1 a2 a3 a4 a5 a6 a7 a8 z4.2 uch ufc usv ull ubl uba uea ufa uso udn uw uun usr ube ubs uln ubu unu) F hE hX (tX13_fails l dC dI g a0 a1 a2 a3 a4 a5 a6 a7 a8 0 uch ufc usv ull ubl uba uea ufa uso udn uw uun usr ube ubs uln ubu unu 1 k5) mbX13_fails q1756 ⟨(Nat.le_of_ble_eq_true rfl), (Nat.le_of_ble_eq_true rfl)⟩ ⟨(Nat.le_of_ble_eq_true rfl), (Nat.le_of_ble_eq_true rfl)⟩ hP hD hS hA [0, 1, 2, 3, 4, 5, 6, 7, 8] rfl rfl rfl rfl rfl 0 rfl rfl rfl hl.1 rfl (Nat.le_of_ble_eq_true rfl) dX13_chosenScrap_25 (fun H locs hP hD hS => ?_)
    refine lv_goto (tgt := 41) F.1 F.2.1 dX13_chosenScrap_28 (by decide) ?_
    cases h
    exact MU_i F hr hlocks (Nat.le_refl _) (Nat.le_refl _) hP hS dX13_chosenScrap_41
  · replace h := it_f k3 h
    refine lv_aload_n F.1 F.2.1 dX13_chosenScrap_15 rfl (lv_at hl 1 rfl) ?_
    refine lv_iload_n F.1 F.2.1 dX13_chosenScrap_16 rfl (lv_at hl 0 rfl) ?_
    obtain ⟨z6, k7, h⟩ := bd_ok h
    refine cRV (As := [.int z1]) (rest := []) F hE hX hS (tX13_scrapFor l dC dI g a0 a1 a2 a3 a4 a5 a6 a7 a8 0 uch ufc usv ull ubl uba uea ufa uso udn uw uun usr ube ubs uln ubu unu z1 k7) mbX13_scrapFor q1875 ⟨(Nat.le_of_ble_eq_true rfl), (Nat.le_of_ble_eq_true rfl)⟩ ⟨Nat.zero_le _, Nat.zero_le _⟩ hP [0, 1, 2, 3, 4, 5, 6, 7, 8] rfl 0 rfl rfl rfl hl.1 rfl (Nat.le_of_ble_eq_true rfl) dX13_chosenScrap_17 ?_
    refine lv_if_ge (tgt := 31) F.1 F.2.1 dX13_chosenScrap_20 (by decide) (fun k8 => ?_) (fun k8 => ?_)
    · replace h := it_t k8 h
      refine lv_aload_n F.1 F.2.1 dX13_chosenScrap_31 rfl (lv_at hl 1 rfl) ?_
      refine lv_aload_n F.1 F.2.1 dX13_chosenScrap_32 rfl (lv_at hl 1 rfl) ?_
      refine lv_iload_n F.1 F.2.1 dX13_chosenScrap_33 rfl (lv_at hl 0 rfl) ?_
      obtain ⟨z9, k10, h⟩ := bd_ok h
      refine cRV (As := [.int z1]) (rest := [.ref a0]) F hE hX hS (tX13_scrapFor l dC dI g a0 a1 a2 a3 a4 a5 a6 a7 a8 0 uch ufc usv ull ubl uba uea ufa uso udn uw uun usr ube ubs uln ubu unu z1 k10) mbX13_scrapFor q1875 ⟨(Nat.le_of_ble_eq_true rfl), (Nat.le_of_ble_eq_true rfl)⟩ ⟨Nat.zero_le _, Nat.zero_le _⟩ hP [0, 1, 2, 3, 4, 5, 6, 7, 8] rfl 0 rfl rfl rfl hl.1 rfl (Nat.le_of_ble_eq_true rfl) dX13_chosenScrap_34 ?_
      refine lv_iconst (v := 1) F.1 F.2.1 dX13_chosenScrap_37 (by decide) ?_
      obtain ⟨z11, k12, h⟩ := bd_ok h
      refine cRV (As := [.int z9, .int 1]) (rest := []) F hE hX hS (tX13_scrapAt l dC dI g a0 a1 a2 a3 a4 a5 a6 a7 a8 0 uch ufc usv ull ubl uba uea ufa uso udn uw uun usr ube ubs uln ubu unu z9 1 k12) mbX13_scrapAt q1819 ⟨(Nat.le_of_ble_eq_true rfl), (Nat.le_of_ble_eq_true rfl)⟩ ⟨Nat.zero_le _, Nat.zero_le _⟩ hP [0, 1, 2, 3, 4, 5, 6, 7, 8] rfl 0 rfl rfl rfl hl.1 rfl (Nat.le_of_ble_eq_true rfl) dX13_chosenScrap_38 ?_
      cases h
      exact MU_i F hr hlocks (Nat.le_refl _) (Nat.le_refl _) hP hS dX13_chosenScrap_41
    · replace h := it_f k8 h
      refine lv_aload_n F.1 F.2.1 dX13_chosenScrap_23 rfl (lv_at hl 1 rfl) ?_
      refine lv_iconst (v := 1) F.1 F.2.1 dX13_chosenScrap_24 (by decide) ?_
      obtain ⟨z13, k14, h⟩ := bd_ok h
      refine cMV (As := [.int 1]) (rest := []) (ws' := wX13 g a0 a1 a2 a3 a4 a5 a6 a7 a8 z13.2 uch ufc usv ull ubl uba uea ufa uso udn uw uun usr ube ubs uln ubu unu) F hE hX (tX13_fails l dC dI g a0 a1 a2 a3 a4 a5 a6 a7 a8 0 uch ufc usv ull ubl uba uea ufa uso udn uw uun usr ube ubs uln ubu unu 1 k14) mbX13_fails q1756 ⟨(Nat.le_of_ble_eq_true rfl), (Nat.le_of_ble_eq_true rfl)⟩ ⟨(Nat.le_of_ble_eq_true rfl), (Nat.le_of_ble_eq_true rfl)⟩ hP hD hS hA [0, 1, 2, 3, 4, 5, 6, 7, 8] rfl rfl rfl rfl rfl 0 rfl rfl rfl hl.1 rfl (Nat.le_of_ble_eq_true rfl) dX13_chosenScrap_25 (fun H locs hP hD hS => ?_)
      refine lv_goto (tgt := 41) F.1 F.2.1 dX13_chosenScrap_28 (by decide) ?_
      cases h
      exact MU_i F hr hlocks (Nat.le_refl _) (Nat.le_refl _) hP hS dX13_chosenScrap_41
/-! WireCutterModel.chosenSpool -/
def fX13_chosenSpool (uw : Nat → Int32) (p1 : Int32) : Option (Int32 × Int32) :=
  (fX13_orderPlace uw p1).bind fun z1 =>
  if z1 < 0 then
    (fX13_fails 1).bind fun z4 =>
    some (z4.1, z4.2)
  else
    (fX13_scrapFor uw z1).bind fun z6 =>
    if 0 ≤ z6 then
      (fX13_fails 1).bind fun z9 =>
      some (z9.1, z9.2)
    else
      (fX13_spoolFor uw z1).bind fun z11 =>
      if 0 ≤ z11 then
        (fX13_spoolFor uw z1).bind fun z14 =>
        (fX13_spoolAt uw z14 0).bind fun z16 =>
        some (z16, 0)
      else
        (fX13_fails 1).bind fun z18 =>
        some (z18.1, z18.2)
theorem mbX13_chosenSpool : MV yX13_chosenSpool cX13_chosenSpool 3 (some .int) 1 := ⟨⟨q2051, q16, by decide +kernel⟩, q2049, q2050⟩
set_option maxHeartbeats 4000000 in
set_option maxRecDepth 100000 in
theorem tX13_chosenSpool (l : Launch) (dC : Nat → ClassId) (dI : Nat → Nat → Nat) (g : Nat → ClassId) (a0 a1 a2 a3 a4 a5 a6 a7 a8 : Nat) (uth : Int32) (uch : Int32) (ufc : Int32) (usv : Int32) (ull : Int32) (ubl : Int32) (uba : Int32) (uea : Int32) (ufa : Int32) (uso : Int32) (udn : Int32) (uw : Nat → Int32) (uun : Nat → Int32) (usr : Nat → Int32) (ube : Nat → Int32) (ubs : Nat → Int32) (uln : Nat → Int32) (ubu : Nat → Int32) (unu : Nat → Int32) (p1 : Int32) {r : Int32 × Int32} (h : fX13_chosenSpool uw p1 = some r) : MU l yX13_chosenSpool cX13_chosenSpool 3 (some .int) 3 68 0 0 dC dI g [.ref a0, .int p1] (wX13 g a0 a1 a2 a3 a4 a5 a6 a7 a8 uth uch ufc usv ull ubl uba uea ufa uso udn uw uun usr ube ubs uln ubu unu) (wX13 g a0 a1 a2 a3 a4 a5 a6 a7 a8 r.2 uch ufc usv ull ubl uba uea ufa uso udn uw uun usr ube ubs uln ubu unu) (some (.int r.1)) := by
  refine MU_of (by decide) (Nat.le_of_ble_eq_true rfl) ?_
  intro p e s m below meth c ls F hr hlocks hE hX hA hP hD hS hl
  generalize va_A (wX13 g a0 a1 a2 a3 a4 a5 a6 a7 a8 uth uch ufc usv ull ubl uba uea ufa uso udn uw uun usr ube ubs uln ubu unu) s.heap.size = A at hA hD hS hX ⊢
  replace F : CF p m c cX13_chosenSpool 3 s _ RX13 := F
  replace hl : lv_has ls 3 [(0, .ref a0), (1, .int p1)] := hl
  rw [fX13_chosenSpool] at h
  refine lv_aload_n F.1 F.2.1 dX13_chosenSpool_0 rfl (lv_at hl 0 rfl) ?_
  refine lv_iconst (v := 0) F.1 F.2.1 dX13_chosenSpool_1 (by decide) ?_
  refine pF (v := .int 0) F hE hP hD hS 0 rfl rfl inX13 tyX13 tyX13_ok nmX13 0 (by decide) q1684 rfl rfl rfl (Nat.le_of_ble_eq_true rfl) dX13_chosenSpool_2 (fun H locs hP hD hS => ?_)
  replace hP : va_P (dC, dI) vwCl (wX13 g a0 a1 a2 a3 a4 a5 a6 a7 a8 0 uch ufc usv ull ubl uba uea ufa uso udn uw uun usr ube ubs uln ubu unu) H := hP
  replace hD : va_D A (wX13 g a0 a1 a2 a3 a4 a5 a6 a7 a8 0 uch ufc usv ull ubl uba uea ufa uso udn uw uun usr ube ubs uln ubu unu) := hD
  refine lv_aload_n F.1 F.2.1 dX13_chosenSpool_5 rfl (lv_at hl 0 rfl) ?_
  refine lv_iload_n F.1 F.2.1 dX13_chosenSpool_6 rfl (lv_at hl 1 rfl) ?_
  obtain ⟨z1, k2, h⟩ := bd_ok h
  refine cRV (As := [.int p1]) (rest := []) F hE hX hS (tX13_orderPlace l dC dI g a0 a1 a2 a3 a4 a5 a6 a7 a8 0 uch ufc usv ull ubl uba uea ufa uso udn uw uun usr ube ubs uln ubu unu p1 k2) mbX13_orderPlace q1851 ⟨(Nat.le_of_ble_eq_true rfl), (Nat.le_of_ble_eq_true rfl)⟩ ⟨Nat.zero_le _, Nat.zero_le _⟩ hP [0, 1, 2, 3, 4, 5, 6, 7, 8] rfl 0 rfl rfl rfl hl.1 rfl (Nat.le_of_ble_eq_true rfl) dX13_chosenSpool_7 ?_
  refine lv_istore_n (lv' := [(2, .int z1), (0, .ref a0), (1, .int p1)]) F.1 F.2.1 dX13_chosenSpool_10 rfl hl (by decide) rfl (fun ls hl => ?_)
  refine lv_iload_n F.1 F.2.1 dX13_chosenSpool_11 rfl (lv_at hl 0 rfl) ?_
  refine lv_if_lt (tgt := 31) F.1 F.2.1 dX13_chosenSpool_12 (by decide) (fun k3 => ?_) (fun k3 => ?_)
  · replace h := it_t k3 h
    refine lv_aload_n F.1 F.2.1 dX13_chosenSpool_31 rfl (lv_at hl 1 rfl) ?_
    refine lv_iconst (v := 1) F.1 F.2.1 dX13_chosenSpool_32 (by decide) ?_
    obtain ⟨z4, k5, h⟩ := bd_ok h
    refine cMV (As := [.int 1]) (rest := []) (ws' := wX13 g a0 a1 a2 a3 a4 a5 a6 a7 a8 z4.2 uch ufc usv ull ubl uba uea ufa uso udn uw uun usr ube ubs uln ubu unu) F hE hX (tX13_fails l dC dI g a0 a1 a2 a3 a4 a5 a6 a7 a8 0 uch ufc usv ull ubl uba uea ufa uso udn uw uun usr ube ubs uln ubu unu 1 k5) mbX13_fails q1756 ⟨(Nat.le_of_ble_eq_true rfl), (Nat.le_of_ble_eq_true rfl)⟩ ⟨(Nat.le_of_ble_eq_true rfl), (Nat.le_of_ble_eq_true rfl)⟩ hP hD hS hA [0, 1, 2, 3, 4, 5, 6, 7, 8] rfl rfl rfl rfl rfl 0 rfl rfl rfl hl.1 rfl (Nat.le_of_ble_eq_true rfl) dX13_chosenSpool_33 (fun H locs hP hD hS => ?_)
    cases h
    exact MU_i F hr hlocks (Nat.le_refl _) (Nat.le_refl _) hP hS dX13_chosenSpool_36
  · replace h := it_f k3 h
    refine lv_aload_n F.1 F.2.1 dX13_chosenSpool_15 rfl (lv_at hl 1 rfl) ?_
    refine lv_iload_n F.1 F.2.1 dX13_chosenSpool_16 rfl (lv_at hl 0 rfl) ?_
    obtain ⟨z6, k7, h⟩ := bd_ok h
    refine cRV (As := [.int z1]) (rest := []) F hE hX hS (tX13_scrapFor l dC dI g a0 a1 a2 a3 a4 a5 a6 a7 a8 0 uch ufc usv ull ubl uba uea ufa uso udn uw uun usr ube ubs uln ubu unu z1 k7) mbX13_scrapFor q1875 ⟨(Nat.le_of_ble_eq_true rfl), (Nat.le_of_ble_eq_true rfl)⟩ ⟨Nat.zero_le _, Nat.zero_le _⟩ hP [0, 1, 2, 3, 4, 5, 6, 7, 8] rfl 0 rfl rfl rfl hl.1 rfl (Nat.le_of_ble_eq_true rfl) dX13_chosenSpool_17 ?_
    refine lv_if_ge (tgt := 31) F.1 F.2.1 dX13_chosenSpool_20 (by decide) (fun k8 => ?_) (fun k8 => ?_)
    · replace h := it_t k8 h
      refine lv_aload_n F.1 F.2.1 dX13_chosenSpool_31 rfl (lv_at hl 1 rfl) ?_
      refine lv_iconst (v := 1) F.1 F.2.1 dX13_chosenSpool_32 (by decide) ?_
      obtain ⟨z9, k10, h⟩ := bd_ok h
      refine cMV (As := [.int 1]) (rest := []) (ws' := wX13 g a0 a1 a2 a3 a4 a5 a6 a7 a8 z9.2 uch ufc usv ull ubl uba uea ufa uso udn uw uun usr ube ubs uln ubu unu) F hE hX (tX13_fails l dC dI g a0 a1 a2 a3 a4 a5 a6 a7 a8 0 uch ufc usv ull ubl uba uea ufa uso udn uw uun usr ube ubs uln ubu unu 1 k10) mbX13_fails q1756 ⟨(Nat.le_of_ble_eq_true rfl), (Nat.le_of_ble_eq_true rfl)⟩ ⟨(Nat.le_of_ble_eq_true rfl), (Nat.le_of_ble_eq_true rfl)⟩ hP hD hS hA [0, 1, 2, 3, 4, 5, 6, 7, 8] rfl rfl rfl rfl rfl 0 rfl rfl rfl hl.1 rfl (Nat.le_of_ble_eq_true rfl) dX13_chosenSpool_33 (fun H locs hP hD hS => ?_)
      cases h
      exact MU_i F hr hlocks (Nat.le_refl _) (Nat.le_refl _) hP hS dX13_chosenSpool_36
    · replace h := it_f k8 h
      refine lv_aload_n F.1 F.2.1 dX13_chosenSpool_23 rfl (lv_at hl 1 rfl) ?_
      refine lv_iload_n F.1 F.2.1 dX13_chosenSpool_24 rfl (lv_at hl 0 rfl) ?_
      obtain ⟨z11, k12, h⟩ := bd_ok h
      refine cRV (As := [.int z1]) (rest := []) F hE hX hS (tX13_spoolFor l dC dI g a0 a1 a2 a3 a4 a5 a6 a7 a8 0 uch ufc usv ull ubl uba uea ufa uso udn uw uun usr ube ubs uln ubu unu z1 k12) mbX13_spoolFor q1879 ⟨(Nat.le_of_ble_eq_true rfl), (Nat.le_of_ble_eq_true rfl)⟩ ⟨Nat.zero_le _, Nat.zero_le _⟩ hP [0, 1, 2, 3, 4, 5, 6, 7, 8] rfl 0 rfl rfl rfl hl.1 rfl (Nat.le_of_ble_eq_true rfl) dX13_chosenSpool_25 ?_
      refine lv_if_ge (tgt := 37) F.1 F.2.1 dX13_chosenSpool_28 (by decide) (fun k13 => ?_) (fun k13 => ?_)
      · replace h := it_t k13 h
        refine lv_aload_n F.1 F.2.1 dX13_chosenSpool_37 rfl (lv_at hl 1 rfl) ?_
        refine lv_aload_n F.1 F.2.1 dX13_chosenSpool_38 rfl (lv_at hl 1 rfl) ?_
        refine lv_iload_n F.1 F.2.1 dX13_chosenSpool_39 rfl (lv_at hl 0 rfl) ?_
        obtain ⟨z14, k15, h⟩ := bd_ok h
        refine cRV (As := [.int z1]) (rest := [.ref a0]) F hE hX hS (tX13_spoolFor l dC dI g a0 a1 a2 a3 a4 a5 a6 a7 a8 0 uch ufc usv ull ubl uba uea ufa uso udn uw uun usr ube ubs uln ubu unu z1 k15) mbX13_spoolFor q1879 ⟨(Nat.le_of_ble_eq_true rfl), (Nat.le_of_ble_eq_true rfl)⟩ ⟨Nat.zero_le _, Nat.zero_le _⟩ hP [0, 1, 2, 3, 4, 5, 6, 7, 8] rfl 0 rfl rfl rfl hl.1 rfl (Nat.le_of_ble_eq_true rfl) dX13_chosenSpool_40 ?_
        refine lv_iconst (v := 0) F.1 F.2.1 dX13_chosenSpool_43 (by decide) ?_
        obtain ⟨z16, k17, h⟩ := bd_ok h
        refine cRV (As := [.int z14, .int 0]) (rest := []) F hE hX hS (tX13_spoolAt l dC dI g a0 a1 a2 a3 a4 a5 a6 a7 a8 0 uch ufc usv ull ubl uba uea ufa uso udn uw uun usr ube ubs uln ubu unu z14 0 k17) mbX13_spoolAt q1788 ⟨(Nat.le_of_ble_eq_true rfl), (Nat.le_of_ble_eq_true rfl)⟩ ⟨Nat.zero_le _, Nat.zero_le _⟩ hP [0, 1, 2, 3, 4, 5, 6, 7, 8] rfl 0 rfl rfl rfl hl.1 rfl (Nat.le_of_ble_eq_true rfl) dX13_chosenSpool_44 ?_
        cases h
        exact MU_i F hr hlocks (Nat.le_refl _) (Nat.le_refl _) hP hS dX13_chosenSpool_47
      · replace h := it_f k13 h
        refine lv_aload_n F.1 F.2.1 dX13_chosenSpool_31 rfl (lv_at hl 1 rfl) ?_
        refine lv_iconst (v := 1) F.1 F.2.1 dX13_chosenSpool_32 (by decide) ?_
        obtain ⟨z18, k19, h⟩ := bd_ok h
        refine cMV (As := [.int 1]) (rest := []) (ws' := wX13 g a0 a1 a2 a3 a4 a5 a6 a7 a8 z18.2 uch ufc usv ull ubl uba uea ufa uso udn uw uun usr ube ubs uln ubu unu) F hE hX (tX13_fails l dC dI g a0 a1 a2 a3 a4 a5 a6 a7 a8 0 uch ufc usv ull ubl uba uea ufa uso udn uw uun usr ube ubs uln ubu unu 1 k19) mbX13_fails q1756 ⟨(Nat.le_of_ble_eq_true rfl), (Nat.le_of_ble_eq_true rfl)⟩ ⟨(Nat.le_of_ble_eq_true rfl), (Nat.le_of_ble_eq_true rfl)⟩ hP hD hS hA [0, 1, 2, 3, 4, 5, 6, 7, 8] rfl rfl rfl rfl rfl 0 rfl rfl rfl hl.1 rfl (Nat.le_of_ble_eq_true rfl) dX13_chosenSpool_33 (fun H locs hP hD hS => ?_)
        cases h
        exact MU_i F hr hlocks (Nat.le_refl _) (Nat.le_refl _) hP hS dX13_chosenSpool_36
/-! WireCutterModel.asksMaterial -/
def fX13_asksMaterial (uw : Nat → Int32) (p1 : Int32) (p2 : Int32) : Option (Int32 × Int32) :=
  (fX13_isMaterial p1).bind fun z1 =>
  if z1 = 0 then
    (fX13_fails 1).bind fun z4 =>
    some (z4.1, z4.2)
  else
    gd (inR ((p2 + p1) - 97) 201) <|
    some (uw (((p2 + p1) - 97).toNatClampNeg), 0)
theorem mbX13_asksMaterial : MV yX13_asksMaterial cX13_asksMaterial 3 (some .int) 2 := ⟨⟨q2059, q16, by decide +kernel⟩, q2058, qs62⟩
set_option maxHeartbeats 4000000 in
set_option maxRecDepth 100000 in
theorem tX13_asksMaterial (l : Launch) (dC : Nat → ClassId) (dI : Nat → Nat → Nat) (g : Nat → ClassId) (a0 a1 a2 a3 a4 a5 a6 a7 a8 : Nat) (uth : Int32) (uch : Int32) (ufc : Int32) (usv : Int32) (ull : Int32) (ubl : Int32) (uba : Int32) (uea : Int32) (ufa : Int32) (uso : Int32) (udn : Int32) (uw : Nat → Int32) (uun : Nat → Int32) (usr : Nat → Int32) (ube : Nat → Int32) (ubs : Nat → Int32) (uln : Nat → Int32) (ubu : Nat → Int32) (unu : Nat → Int32) (p1 : Int32) (p2 : Int32) {r : Int32 × Int32} (h : fX13_asksMaterial uw p1 p2 = some r) : MU l yX13_asksMaterial cX13_asksMaterial 3 (some .int) 2 42 0 0 dC dI g [.ref a0, .int p1, .int p2] (wX13 g a0 a1 a2 a3 a4 a5 a6 a7 a8 uth uch ufc usv ull ubl uba uea ufa uso udn uw uun usr ube ubs uln ubu unu) (wX13 g a0 a1 a2 a3 a4 a5 a6 a7 a8 r.2 uch ufc usv ull ubl uba uea ufa uso udn uw uun usr ube ubs uln ubu unu) (some (.int r.1)) := by
  refine MU_of (by decide) (Nat.le_of_ble_eq_true rfl) ?_
  intro p e s m below meth c ls F hr hlocks hE hX hA hP hD hS hl
  generalize va_A (wX13 g a0 a1 a2 a3 a4 a5 a6 a7 a8 uth uch ufc usv ull ubl uba uea ufa uso udn uw uun usr ube ubs uln ubu unu) s.heap.size = A at hA hD hS hX ⊢
  replace F : CF p m c cX13_asksMaterial 3 s _ RX13 := F
  replace hl : lv_has ls 3 [(0, .ref a0), (1, .int p1), (2, .int p2)] := hl
  rw [fX13_asksMaterial] at h
  refine lv_aload_n F.1 F.2.1 dX13_asksMaterial_0 rfl (lv_at hl 0 rfl) ?_
  refine lv_iconst (v := 0) F.1 F.2.1 dX13_asksMaterial_1 (by decide) ?_
  refine pF (v := .int 0) F hE hP hD hS 0 rfl rfl inX13 tyX13 tyX13_ok nmX13 0 (by decide) q1684 rfl rfl rfl (Nat.le_of_ble_eq_true rfl) dX13_asksMaterial_2 (fun H locs hP hD hS => ?_)
  replace hP : va_P (dC, dI) vwCl (wX13 g a0 a1 a2 a3 a4 a5 a6 a7 a8 0 uch ufc usv ull ubl uba uea ufa uso udn uw uun usr ube ubs uln ubu unu) H := hP
  replace hD : va_D A (wX13 g a0 a1 a2 a3 a4 a5 a6 a7 a8 0 uch ufc usv ull ubl uba uea ufa uso udn uw uun usr ube ubs uln ubu unu) := hD
  refine lv_iload_n F.1 F.2.1 dX13_asksMaterial_5 rfl (lv_at hl 1 rfl) ?_
  obtain ⟨z1, k2, h⟩ := bd_ok h
  refine cRS (As := [.int p1]) (rest := []) F hE hX hS (tX13_isMaterial l dC dI g p1 k2) mbX13_isMaterial q1750 ⟨(Nat.le_of_ble_eq_true rfl), (Nat.le_of_ble_eq_true rfl)⟩ ⟨Nat.zero_le _, Nat.zero_le _⟩ hP [] rfl rfl hl.1 rfl (Nat.le_of_ble_eq_true rfl) dX13_asksMaterial_6 ?_
  refine lv_if_eq (tgt := 26) F.1 F.2.1 dX13_asksMaterial_9 (by decide) (fun k3 => ?_) (fun k3 => ?_)
  · replace h := it_t k3 h
    refine lv_aload_n F.1 F.2.1 dX13_asksMaterial_26 rfl (lv_at hl 0 rfl) ?_
    refine lv_iconst (v := 1) F.1 F.2.1 dX13_asksMaterial_27 (by decide) ?_
    obtain ⟨z4, k5, h⟩ := bd_ok h
    refine cMV (As := [.int 1]) (rest := []) (ws' := wX13 g a0 a1 a2 a3 a4 a5 a6 a7 a8 z4.2 uch ufc usv ull ubl uba uea ufa uso udn uw uun usr ube ubs uln ubu unu) F hE hX (tX13_fails l dC dI g a0 a1 a2 a3 a4 a5 a6 a7 a8 0 uch ufc usv ull ubl uba uea ufa uso udn uw uun usr ube ubs uln ubu unu 1 k5) mbX13_fails q1756 ⟨(Nat.le_of_ble_eq_true rfl), (Nat.le_of_ble_eq_true rfl)⟩ ⟨(Nat.le_of_ble_eq_true rfl), (Nat.le_of_ble_eq_true rfl)⟩ hP hD hS hA [0, 1, 2, 3, 4, 5, 6, 7, 8] rfl rfl rfl rfl rfl 0 rfl rfl rfl hl.1 rfl (Nat.le_of_ble_eq_true rfl) dX13_asksMaterial_28 (fun H locs hP hD hS => ?_)
    cases h
    exact MU_i F hr hlocks (Nat.le_refl _) (Nat.le_refl _) hP hS dX13_asksMaterial_31
  · replace h := it_f k3 h
    refine lv_aload_n F.1 F.2.1 dX13_asksMaterial_12 rfl (lv_at hl 0 rfl) ?_
    refine gF (v := .ref a1) F hE hP 0 rfl rfl inX13 1 (by decide) q1685 rfl dX13_asksMaterial_13 ?_
    refine lv_iload_n F.1 F.2.1 dX13_asksMaterial_16 rfl (lv_at hl 2 rfl) ?_
    refine lv_iload_n F.1 F.2.1 dX13_asksMaterial_17 rfl (lv_at hl 1 rfl) ?_
    refine lv_iadd F.1 F.2.1 dX13_asksMaterial_18 ?_
    refine lv_bipush (v := 97) F.1 F.2.1 dX13_asksMaterial_19 (by decide) ?_
    refine lv_isub F.1 F.2.1 dX13_asksMaterial_21 ?_
    obtain ⟨k6, h⟩ := gd_ok h
    refine aLi (k := ((p2 + p1) - 97).toNatClampNeg) F hE hP 1 0 rfl rfl k6 rfl dX13_asksMaterial_22 ?_
    refine lv_goto (tgt := 31) F.1 F.2.1 dX13_asksMaterial_23 (by decide) ?_
    cases h
    exact MU_i F hr hlocks (Nat.le_refl _) (Nat.le_refl _) hP hS dX13_asksMaterial_31
/-! WireCutterModel.wound -/
def fX13_wound (uw : Nat → Int32) (p1 : Int32) : Option (Int32 × Int32) :=
  (fX13_asksMaterial uw p1 9).bind fun z1 =>
  some (z1.1, z1.2)
theorem mbX13_wound : MV yX13_wound cX13_wound 2 (some .int) 1 := ⟨⟨q2055, q16, by decide +kernel⟩, q2053, q2054⟩
set_option maxHeartbeats 4000000 in
set_option maxRecDepth 100000 in
theorem tX13_wound (l : Launch) (dC : Nat → ClassId) (dI : Nat → Nat → Nat) (g : Nat → ClassId) (a0 a1 a2 a3 a4 a5 a6 a7 a8 : Nat) (uth : Int32) (uch : Int32) (ufc : Int32) (usv : Int32) (ull : Int32) (ubl : Int32) (uba : Int32) (uea : Int32) (ufa : Int32) (uso : Int32) (udn : Int32) (uw : Nat → Int32) (uun : Nat → Int32) (usr : Nat → Int32) (ube : Nat → Int32) (ubs : Nat → Int32) (uln : Nat → Int32) (ubu : Nat → Int32) (unu : Nat → Int32) (p1 : Int32) {r : Int32 × Int32} (h : fX13_wound uw p1 = some r) : MU l yX13_wound cX13_wound 2 (some .int) 3 64 0 0 dC dI g [.ref a0, .int p1] (wX13 g a0 a1 a2 a3 a4 a5 a6 a7 a8 uth uch ufc usv ull ubl uba uea ufa uso udn uw uun usr ube ubs uln ubu unu) (wX13 g a0 a1 a2 a3 a4 a5 a6 a7 a8 r.2 uch ufc usv ull ubl uba uea ufa uso udn uw uun usr ube ubs uln ubu unu) (some (.int r.1)) := by
  refine MU_of (by decide) (Nat.le_of_ble_eq_true rfl) ?_
  intro p e s m below meth c ls F hr hlocks hE hX hA hP hD hS hl
  generalize va_A (wX13 g a0 a1 a2 a3 a4 a5 a6 a7 a8 uth uch ufc usv ull ubl uba uea ufa uso udn uw uun usr ube ubs uln ubu unu) s.heap.size = A at hA hD hS hX ⊢
  replace F : CF p m c cX13_wound 2 s _ RX13 := F
  replace hl : lv_has ls 2 [(0, .ref a0), (1, .int p1)] := hl
  rw [fX13_wound] at h
  refine lv_aload_n F.1 F.2.1 dX13_wound_0 rfl (lv_at hl 0 rfl) ?_
  refine lv_iload_n F.1 F.2.1 dX13_wound_1 rfl (lv_at hl 1 rfl) ?_
  refine lv_bipush (v := 9) F.1 F.2.1 dX13_wound_2 (by decide) ?_
  obtain ⟨z1, k2, h⟩ := bd_ok h
  refine cMV (As := [.int p1, .int 9]) (rest := []) (ws' := wX13 g a0 a1 a2 a3 a4 a5 a6 a7 a8 z1.2 uch ufc usv ull ubl uba uea ufa uso udn uw uun usr ube ubs uln ubu unu) F hE hX (tX13_asksMaterial l dC dI g a0 a1 a2 a3 a4 a5 a6 a7 a8 uth uch ufc usv ull ubl uba uea ufa uso udn uw uun usr ube ubs uln ubu unu p1 9 k2) mbX13_asksMaterial q2056 ⟨(Nat.le_of_ble_eq_true rfl), (Nat.le_of_ble_eq_true rfl)⟩ ⟨(Nat.le_of_ble_eq_true rfl), (Nat.le_of_ble_eq_true rfl)⟩ hP hD hS hA [0, 1, 2, 3, 4, 5, 6, 7, 8] rfl rfl rfl rfl rfl 0 rfl rfl rfl hl.1 rfl (Nat.le_of_ble_eq_true rfl) dX13_wound_4 (fun H locs hP hD hS => ?_)
  cases h
  exact MU_i F hr hlocks (Nat.le_refl _) (Nat.le_refl _) hP hS dX13_wound_7
/-! WireCutterModel.partsOf -/
def fX13_partsOf_L73 (x1 : Int32) (uw : Nat → Int32) : Nat → Int32 → Int32 → Option (Int32)
  | 0, _, _ => none
  | k + 1, x2, x3 =>
    if (uw 4) ≤ x3 then
      some (x2)
    else
      (fX13_scrapAt uw x3 0).bind fun z6 =>
      if z6 = x1 then
        (fX13_scrapAt uw x3 1).bind fun z9 =>
        fX13_partsOf_L73 x1 uw k (x2 + z9) (x3 + 1)
      else
        fX13_partsOf_L73 x1 uw k (x2 + 0) (x3 + 1)
def fX13_partsOf_L32 (x1 : Int32) (uw : Nat → Int32) : Nat → Int32 → Int32 → Option (Int32)
  | 0, _, _ => none
  | k + 1, x2, x3 =>
    if (uw 0) ≤ x3 then
      fX13_partsOf_L73 x1 uw FU x2 0
    else
      (fX13_spoolAt uw x3 1).bind fun z11 =>
      if z11 = x1 then
        (fX13_spoolAt uw x3 2).bind fun z14 =>
        fX13_partsOf_L32 x1 uw k (x2 + z14) (x3 + 1)
      else
        fX13_partsOf_L32 x1 uw k (x2 + 0) (x3 + 1)
def fX13_partsOf (uw : Nat → Int32) (p1 : Int32) : Option (Int32) :=
  gd (inR (15 + p1) 201) <|
  gd (inR (21 + p1) 201) <|
  gd (inR (27 + p1) 201) <|
  fX13_partsOf_L32 p1 uw FU (((uw ((15 + p1).toNatClampNeg)) + (uw ((21 + p1).toNatClampNeg))) + (uw ((27 + p1).toNatClampNeg))) 0
theorem mbX13_partsOf : MV yX13_partsOf cX13_partsOf 4 (some .int) 1 := ⟨⟨q2067, q16, by decide +kernel⟩, q2066, qs63⟩
set_option maxHeartbeats 4000000 in
set_option maxRecDepth 100000 in
theorem tX13_partsOf_L73 {p : Program} {l : Launch} {e : Env} {s : State} {m : MethodId} {args : Array Value} {below : List Frame} {meth : Method} {c : Code} {dC : Nat → ClassId} {dI : Nat → Nat → Nat} {g : Nat → ClassId} {a0 a1 a2 a3 a4 a5 a6 a7 a8 : Nat} {r : Int32} (F : CF p m c cX13_partsOf 4 s args RX13) (hr : meth.sig.returnType = (some .int)) (hlocks : meth.locks = false) (hE : EK dC dI g s) (hX : EXr g s) (x1 : Int32) (uth : Int32) (uch : Int32) (ufc : Int32) (usv : Int32) (ull : Int32) (ubl : Int32) (uba : Int32) (uea : Int32) (ufa : Int32) (uso : Int32) (udn : Int32) (uw : Nat → Int32) (uun : Nat → Int32) (usr : Nat → Int32) (ube : Nat → Int32) (ubs : Nat → Int32) (uln : Nat → Int32) (ubu : Nat → Int32) (unu : Nat → Int32) (hP : va_P (dC, dI) vwCl (wX13 g a0 a1 a2 a3 a4 a5 a6 a7 a8 uth uch ufc usv ull ubl uba uea ufa uso udn uw uun usr ube ubs uln ubu unu) s.heap) : ∀ (k : Nat) (x2 : Int32) (x3 : Int32), fX13_partsOf_L73 x1 uw k x2 x3 = some r → ∀ (ls : Array Slot), lv_has ls 4 [(0, .ref a0), (1, .int x1), (2, .int x2), (3, .int x3)] → W p l e { frames := 1, cells := 0, slots := 0, locals := 22 } s m args below meth c s.heap [] 0 0 (MQ below (fun _ st o t => o = .returned (some (.int r)) ∧ t.heap = st.heap) args s 0 0 (fun _ => False)) (F0 m 73 ls []) := by
  intro k
  induction k with
  | zero =>
    intro x2 x3 h
    exact absurd h (by simp [fX13_partsOf_L73])
  | succ k ih =>
    intro x2 x3 h ls hl
    rw [fX13_partsOf_L73] at h
    refine lv_iload_n F.1 F.2.1 dX13_partsOf_73 rfl (lv_at hl 3 rfl) ?_
    refine lv_aload_n F.1 F.2.1 dX13_partsOf_74 rfl (lv_at hl 0 rfl) ?_
    refine gF (v := .ref a1) F hE hP 0 rfl rfl inX13 1 (by decide) q1685 rfl dX13_partsOf_75 ?_
    refine lv_iconst (v := 4) F.1 F.2.1 dX13_partsOf_78 (by decide) ?_
    refine aLi (k := 4) F hE hP 1 0 rfl rfl (by decide) (by decide) dX13_partsOf_79 ?_
    refine lv_icmp_ge (tgt := 112) F.1 F.2.1 dX13_partsOf_80 (by decide) (fun k5 => ?_) (fun k5 => ?_)
    · replace h := it_t k5 h
      refine lv_iload_n F.1 F.2.1 dX13_partsOf_112 rfl (lv_at hl 2 rfl) ?_
      cases h
      exact RO_i F hr hlocks dX13_partsOf_113
    · replace h := it_f k5 h
      refine lv_iload_n F.1 F.2.1 dX13_partsOf_83 rfl (lv_at hl 2 rfl) ?_
      refine lv_aload_n F.1 F.2.1 dX13_partsOf_84 rfl (lv_at hl 0 rfl) ?_
      refine lv_iload_n F.1 F.2.1 dX13_partsOf_85 rfl (lv_at hl 3 rfl) ?_
      refine lv_iconst (v := 0) F.1 F.2.1 dX13_partsOf_86 (by decide) ?_
      obtain ⟨z6, k7, h⟩ := bd_ok h
      refine cRV (As := [.int x3, .int 0]) (rest := [.int x2]) F hE hX va_S.rf (tX13_scrapAt l dC dI g a0 a1 a2 a3 a4 a5 a6 a7 a8 uth uch ufc usv ull ubl uba uea ufa uso udn uw uun usr ube ubs uln ubu unu x3 0 k7) mbX13_scrapAt q1819 ⟨(Nat.le_of_ble_eq_true rfl), (Nat.le_of_ble_eq_true rfl)⟩ ⟨Nat.zero_le _, Nat.zero_le _⟩ hP [0, 1, 2, 3, 4, 5, 6, 7, 8] rfl 0 rfl rfl rfl hl.1 rfl (Nat.le_of_ble_eq_true rfl) dX13_partsOf_87 ?_
      refine lv_iload_n F.1 F.2.1 dX13_partsOf_90 rfl (lv_at hl 1 rfl) ?_
      refine lv_icmp_ne (tgt := 103) F.1 F.2.1 dX13_partsOf_91 (by decide) (fun k8 => ?_) (fun k8 => ?_)
      · replace h := it_f k8 h
        refine lv_iconst (v := 0) F.1 F.2.1 dX13_partsOf_103 (by decide) ?_
        refine lv_iadd F.1 F.2.1 dX13_partsOf_104 ?_
        refine lv_istore_n (lv' := [(2, .int (x2 + 0)), (0, .ref a0), (1, .int x1), (3, .int x3)]) F.1 F.2.1 dX13_partsOf_105 rfl hl (by decide) rfl (fun ls hl => ?_)
        refine lv_iinc (v := x3 + 1) (lv' := [(3, .int (x3 + 1)), (2, .int (x2 + 0)), (0, .ref a0), (1, .int x1)]) F.1 F.2.1 dX13_partsOf_106 hl (k := 3) rfl (by rfl) (by decide) rfl (fun ls hl => ?_)
        refine lv_goto (tgt := 73) F.1 F.2.1 dX13_partsOf_109 (by decide) ?_
        exact ih (x2 + 0) (x3 + 1) h ls (lv_sub hl [2, 3, 1, 0] rfl)
      · replace h := it_t k8 h
        refine lv_aload_n F.1 F.2.1 dX13_partsOf_94 rfl (lv_at hl 0 rfl) ?_
        refine lv_iload_n F.1 F.2.1 dX13_partsOf_95 rfl (lv_at hl 3 rfl) ?_
        refine lv_iconst (v := 1) F.1 F.2.1 dX13_partsOf_96 (by decide) ?_
        obtain ⟨z9, k10, h⟩ := bd_ok h
        refine cRV (As := [.int x3, .int 1]) (rest := [.int x2]) F hE hX va_S.rf (tX13_scrapAt l dC dI g a0 a1 a2 a3 a4 a5 a6 a7 a8 uth uch ufc usv ull ubl uba uea ufa uso udn uw uun usr ube ubs uln ubu unu x3 1 k10) mbX13_scrapAt q1819 ⟨(Nat.le_of_ble_eq_true rfl), (Nat.le_of_ble_eq_true rfl)⟩ ⟨Nat.zero_le _, Nat.zero_le _⟩ hP [0, 1, 2, 3, 4, 5, 6, 7, 8] rfl 0 rfl rfl rfl hl.1 rfl (Nat.le_of_ble_eq_true rfl) dX13_partsOf_97 ?_
        refine lv_goto (tgt := 104) F.1 F.2.1 dX13_partsOf_100 (by decide) ?_
        refine lv_iadd F.1 F.2.1 dX13_partsOf_104 ?_
        refine lv_istore_n (lv' := [(2, .int (x2 + z9)), (0, .ref a0), (1, .int x1), (3, .int x3)]) F.1 F.2.1 dX13_partsOf_105 rfl hl (by decide) rfl (fun ls hl => ?_)
        refine lv_iinc (v := x3 + 1) (lv' := [(3, .int (x3 + 1)), (2, .int (x2 + z9)), (0, .ref a0), (1, .int x1)]) F.1 F.2.1 dX13_partsOf_106 hl (k := 3) rfl (by rfl) (by decide) rfl (fun ls hl => ?_)
        refine lv_goto (tgt := 73) F.1 F.2.1 dX13_partsOf_109 (by decide) ?_
        exact ih (x2 + z9) (x3 + 1) h ls (lv_sub hl [2, 3, 1, 0] rfl)
set_option maxHeartbeats 4000000 in
set_option maxRecDepth 100000 in
theorem tX13_partsOf_L32 {p : Program} {l : Launch} {e : Env} {s : State} {m : MethodId} {args : Array Value} {below : List Frame} {meth : Method} {c : Code} {dC : Nat → ClassId} {dI : Nat → Nat → Nat} {g : Nat → ClassId} {a0 a1 a2 a3 a4 a5 a6 a7 a8 : Nat} {r : Int32} (F : CF p m c cX13_partsOf 4 s args RX13) (hr : meth.sig.returnType = (some .int)) (hlocks : meth.locks = false) (hE : EK dC dI g s) (hX : EXr g s) (x1 : Int32) (uth : Int32) (uch : Int32) (ufc : Int32) (usv : Int32) (ull : Int32) (ubl : Int32) (uba : Int32) (uea : Int32) (ufa : Int32) (uso : Int32) (udn : Int32) (uw : Nat → Int32) (uun : Nat → Int32) (usr : Nat → Int32) (ube : Nat → Int32) (ubs : Nat → Int32) (uln : Nat → Int32) (ubu : Nat → Int32) (unu : Nat → Int32) (hP : va_P (dC, dI) vwCl (wX13 g a0 a1 a2 a3 a4 a5 a6 a7 a8 uth uch ufc usv ull ubl uba uea ufa uso udn uw uun usr ube ubs uln ubu unu) s.heap) : ∀ (k : Nat) (x2 : Int32) (x3 : Int32), fX13_partsOf_L32 x1 uw k x2 x3 = some r → ∀ (ls : Array Slot), lv_has ls 4 [(0, .ref a0), (1, .int x1), (2, .int x2), (3, .int x3)] → W p l e { frames := 1, cells := 0, slots := 0, locals := 22 } s m args below meth c s.heap [] 0 0 (MQ below (fun _ st o t => o = .returned (some (.int r)) ∧ t.heap = st.heap) args s 0 0 (fun _ => False)) (F0 m 32 ls []) := by
  intro k
  induction k with
  | zero =>
    intro x2 x3 h
    exact absurd h (by simp [fX13_partsOf_L32])
  | succ k ih =>
    intro x2 x3 h ls hl
    rw [fX13_partsOf_L32] at h
    refine lv_iload_n F.1 F.2.1 dX13_partsOf_32 rfl (lv_at hl 3 rfl) ?_
    refine lv_aload_n F.1 F.2.1 dX13_partsOf_33 rfl (lv_at hl 0 rfl) ?_
    refine gF (v := .ref a1) F hE hP 0 rfl rfl inX13 1 (by decide) q1685 rfl dX13_partsOf_34 ?_
    refine lv_iconst (v := 0) F.1 F.2.1 dX13_partsOf_37 (by decide) ?_
    refine aLi (k := 0) F hE hP 1 0 rfl rfl (by decide) (by decide) dX13_partsOf_38 ?_
    refine lv_icmp_ge (tgt := 71) F.1 F.2.1 dX13_partsOf_39 (by decide) (fun k4 => ?_) (fun k4 => ?_)
    · replace h := it_t k4 h
      refine lv_iconst (v := 0) F.1 F.2.1 dX13_partsOf_71 (by decide) ?_
      refine lv_istore_n (lv' := [(3, .int 0), (0, .ref a0), (1, .int x1), (2, .int x2)]) F.1 F.2.1 dX13_partsOf_72 rfl hl (by decide) rfl (fun ls hl => ?_)
      exact tX13_partsOf_L73 F hr hlocks hE hX x1 uth uch ufc usv ull ubl uba uea ufa uso udn uw uun usr ube ubs uln ubu unu hP FU x2 0 h ls (lv_sub hl [1, 2, 3, 0] rfl)
    · replace h := it_f k4 h
      refine lv_iload_n F.1 F.2.1 dX13_partsOf_42 rfl (lv_at hl 2 rfl) ?_
      refine lv_aload_n F.1 F.2.1 dX13_partsOf_43 rfl (lv_at hl 0 rfl) ?_
      refine lv_iload_n F.1 F.2.1 dX13_partsOf_44 rfl (lv_at hl 3 rfl) ?_
      refine lv_iconst (v := 1) F.1 F.2.1 dX13_partsOf_45 (by decide) ?_
      obtain ⟨z11, k12, h⟩ := bd_ok h
      refine cRV (As := [.int x3, .int 1]) (rest := [.int x2]) F hE hX va_S.rf (tX13_spoolAt l dC dI g a0 a1 a2 a3 a4 a5 a6 a7 a8 uth uch ufc usv ull ubl uba uea ufa uso udn uw uun usr ube ubs uln ubu unu x3 1 k12) mbX13_spoolAt q1788 ⟨(Nat.le_of_ble_eq_true rfl), (Nat.le_of_ble_eq_true rfl)⟩ ⟨Nat.zero_le _, Nat.zero_le _⟩ hP [0, 1, 2, 3, 4, 5, 6, 7, 8] rfl 0 rfl rfl rfl hl.1 rfl (Nat.le_of_ble_eq_true rfl) dX13_partsOf_46 ?_
      refine lv_iload_n F.1 F.2.1 dX13_partsOf_49 rfl (lv_at hl 1 rfl) ?_
      refine lv_icmp_ne (tgt := 62) F.1 F.2.1 dX13_partsOf_50 (by decide) (fun k13 => ?_) (fun k13 => ?_)
      · replace h := it_f k13 h
        refine lv_iconst (v := 0) F.1 F.2.1 dX13_partsOf_62 (by decide) ?_
        refine lv_iadd F.1 F.2.1 dX13_partsOf_63 ?_
        refine lv_istore_n (lv' := [(2, .int (x2 + 0)), (0, .ref a0), (1, .int x1), (3, .int x3)]) F.1 F.2.1 dX13_partsOf_64 rfl hl (by decide) rfl (fun ls hl => ?_)
        refine lv_iinc (v := x3 + 1) (lv' := [(3, .int (x3 + 1)), (2, .int (x2 + 0)), (0, .ref a0), (1, .int x1)]) F.1 F.2.1 dX13_partsOf_65 hl (k := 3) rfl (by rfl) (by decide) rfl (fun ls hl => ?_)
        refine lv_goto (tgt := 32) F.1 F.2.1 dX13_partsOf_68 (by decide) ?_
        exact ih (x2 + 0) (x3 + 1) h ls (lv_sub hl [2, 3, 1, 0] rfl)
      · replace h := it_t k13 h
        refine lv_aload_n F.1 F.2.1 dX13_partsOf_53 rfl (lv_at hl 0 rfl) ?_
        refine lv_iload_n F.1 F.2.1 dX13_partsOf_54 rfl (lv_at hl 3 rfl) ?_
        refine lv_iconst (v := 2) F.1 F.2.1 dX13_partsOf_55 (by decide) ?_
        obtain ⟨z14, k15, h⟩ := bd_ok h
        refine cRV (As := [.int x3, .int 2]) (rest := [.int x2]) F hE hX va_S.rf (tX13_spoolAt l dC dI g a0 a1 a2 a3 a4 a5 a6 a7 a8 uth uch ufc usv ull ubl uba uea ufa uso udn uw uun usr ube ubs uln ubu unu x3 2 k15) mbX13_spoolAt q1788 ⟨(Nat.le_of_ble_eq_true rfl), (Nat.le_of_ble_eq_true rfl)⟩ ⟨Nat.zero_le _, Nat.zero_le _⟩ hP [0, 1, 2, 3, 4, 5, 6, 7, 8] rfl 0 rfl rfl rfl hl.1 rfl (Nat.le_of_ble_eq_true rfl) dX13_partsOf_56 ?_
        refine lv_goto (tgt := 63) F.1 F.2.1 dX13_partsOf_59 (by decide) ?_
        refine lv_iadd F.1 F.2.1 dX13_partsOf_63 ?_
        refine lv_istore_n (lv' := [(2, .int (x2 + z14)), (0, .ref a0), (1, .int x1), (3, .int x3)]) F.1 F.2.1 dX13_partsOf_64 rfl hl (by decide) rfl (fun ls hl => ?_)
        refine lv_iinc (v := x3 + 1) (lv' := [(3, .int (x3 + 1)), (2, .int (x2 + z14)), (0, .ref a0), (1, .int x1)]) F.1 F.2.1 dX13_partsOf_65 hl (k := 3) rfl (by rfl) (by decide) rfl (fun ls hl => ?_)
        refine lv_goto (tgt := 32) F.1 F.2.1 dX13_partsOf_68 (by decide) ?_
        exact ih (x2 + z14) (x3 + 1) h ls (lv_sub hl [2, 3, 1, 0] rfl)
set_option maxHeartbeats 4000000 in
set_option maxRecDepth 100000 in
theorem tX13_partsOf (l : Launch) (dC : Nat → ClassId) (dI : Nat → Nat → Nat) (g : Nat → ClassId) (a0 a1 a2 a3 a4 a5 a6 a7 a8 : Nat) (uth : Int32) (uch : Int32) (ufc : Int32) (usv : Int32) (ull : Int32) (ubl : Int32) (uba : Int32) (uea : Int32) (ufa : Int32) (uso : Int32) (udn : Int32) (uw : Nat → Int32) (uun : Nat → Int32) (usr : Nat → Int32) (ube : Nat → Int32) (ubs : Nat → Int32) (uln : Nat → Int32) (ubu : Nat → Int32) (unu : Nat → Int32) (p1 : Int32) {r : Int32} (h : fX13_partsOf uw p1 = some r) : RO l yX13_partsOf cX13_partsOf 4 (some .int) 1 22 dC dI g [.ref a0, .int p1] (wX13 g a0 a1 a2 a3 a4 a5 a6 a7 a8 uth uch ufc usv ull ubl uba uea ufa uso udn uw uun usr ube ubs uln ubu unu) (some (.int r)) := by
  refine RO_of (by decide) (Nat.le_of_ble_eq_true rfl) ?_
  intro p e s m below meth c ls F hr hlocks hE hX hP hl
  replace F : CF p m c cX13_partsOf 4 s _ RX13 := F
  replace hl : lv_has ls 4 [(0, .ref a0), (1, .int p1)] := hl
  rw [fX13_partsOf] at h
  refine lv_aload_n F.1 F.2.1 dX13_partsOf_0 rfl (lv_at hl 0 rfl) ?_
  refine gF (v := .ref a1) F hE hP 0 rfl rfl inX13 1 (by decide) q1685 rfl dX13_partsOf_1 ?_
  refine lv_bipush (v := 15) F.1 F.2.1 dX13_partsOf_4 (by decide) ?_
  refine lv_iload_n F.1 F.2.1 dX13_partsOf_6 rfl (lv_at hl 1 rfl) ?_
  refine lv_iadd F.1 F.2.1 dX13_partsOf_7 ?_
  obtain ⟨k1, h⟩ := gd_ok h
  refine aLi (k := (15 + p1).toNatClampNeg) F hE hP 1 0 rfl rfl k1 rfl dX13_partsOf_8 ?_
  refine lv_aload_n F.1 F.2.1 dX13_partsOf_9 rfl (lv_at hl 0 rfl) ?_
  refine gF (v := .ref a1) F hE hP 0 rfl rfl inX13 1 (by decide) q1685 rfl dX13_partsOf_10 ?_
  refine lv_bipush (v := 21) F.1 F.2.1 dX13_partsOf_13 (by decide) ?_
  refine lv_iload_n F.1 F.2.1 dX13_partsOf_15 rfl (lv_at hl 1 rfl) ?_
  refine lv_iadd F.1 F.2.1 dX13_partsOf_16 ?_
  obtain ⟨k2, h⟩ := gd_ok h
  refine aLi (k := (21 + p1).toNatClampNeg) F hE hP 1 0 rfl rfl k2 rfl dX13_partsOf_17 ?_
  refine lv_iadd F.1 F.2.1 dX13_partsOf_18 ?_
  refine lv_aload_n F.1 F.2.1 dX13_partsOf_19 rfl (lv_at hl 0 rfl) ?_
  refine gF (v := .ref a1) F hE hP 0 rfl rfl inX13 1 (by decide) q1685 rfl dX13_partsOf_20 ?_
  refine lv_bipush (v := 27) F.1 F.2.1 dX13_partsOf_23 (by decide) ?_
  refine lv_iload_n F.1 F.2.1 dX13_partsOf_25 rfl (lv_at hl 1 rfl) ?_
  refine lv_iadd F.1 F.2.1 dX13_partsOf_26 ?_
  obtain ⟨k3, h⟩ := gd_ok h
  refine aLi (k := (27 + p1).toNatClampNeg) F hE hP 1 0 rfl rfl k3 rfl dX13_partsOf_27 ?_
  refine lv_iadd F.1 F.2.1 dX13_partsOf_28 ?_
  refine lv_istore_n (lv' := [(2, .int (((uw ((15 + p1).toNatClampNeg)) + (uw ((21 + p1).toNatClampNeg))) + (uw ((27 + p1).toNatClampNeg)))), (0, .ref a0), (1, .int p1)]) F.1 F.2.1 dX13_partsOf_29 rfl hl (by decide) rfl (fun ls hl => ?_)
  refine lv_iconst (v := 0) F.1 F.2.1 dX13_partsOf_30 (by decide) ?_
  refine lv_istore_n (lv' := [(3, .int 0), (2, .int (((uw ((15 + p1).toNatClampNeg)) + (uw ((21 + p1).toNatClampNeg))) + (uw ((27 + p1).toNatClampNeg)))), (0, .ref a0), (1, .int p1)]) F.1 F.2.1 dX13_partsOf_31 rfl hl (by decide) rfl (fun ls hl => ?_)
  exact tX13_partsOf_L32 F hr hlocks hE hX p1 uth uch ufc usv ull ubl uba uea ufa uso udn uw uun usr ube ubs uln ubu unu hP FU (((uw ((15 + p1).toNatClampNeg)) + (uw ((21 + p1).toNatClampNeg))) + (uw ((27 + p1).toNatClampNeg))) 0 h ls (lv_sub hl [2, 3, 1, 0] rfl)
/-! WireCutterModel.woundByParts -/
def fX13_woundByParts (uw : Nat → Int32) (p1 : Int32) : Option (Int32 × Int32) :=
  (fX13_isMaterial p1).bind fun z1 =>
  if z1 = 0 then
    (fX13_fails 1).bind fun z4 =>
    some (z4.1, z4.2)
  else
    (fX13_partsOf uw (p1 - 97)).bind fun z6 =>
    some (z6, 0)
theorem mbX13_woundByParts : MV yX13_woundByParts cX13_woundByParts 2 (some .int) 1 := ⟨⟨q2063, q16, by decide +kernel⟩, q2061, q2062⟩
set_option maxHeartbeats 4000000 in
set_option maxRecDepth 100000 in
theorem tX13_woundByParts (l : Launch) (dC : Nat → ClassId) (dI : Nat → Nat → Nat) (g : Nat → ClassId) (a0 a1 a2 a3 a4 a5 a6 a7 a8 : Nat) (uth : Int32) (uch : Int32) (ufc : Int32) (usv : Int32) (ull : Int32) (ubl : Int32) (uba : Int32) (uea : Int32) (ufa : Int32) (uso : Int32) (udn : Int32) (uw : Nat → Int32) (uun : Nat → Int32) (usr : Nat → Int32) (ube : Nat → Int32) (ubs : Nat → Int32) (uln : Nat → Int32) (ubu : Nat → Int32) (unu : Nat → Int32) (p1 : Int32) {r : Int32 × Int32} (h : fX13_woundByParts uw p1 = some r) : MU l yX13_woundByParts cX13_woundByParts 2 (some .int) 2 45 0 0 dC dI g [.ref a0, .int p1] (wX13 g a0 a1 a2 a3 a4 a5 a6 a7 a8 uth uch ufc usv ull ubl uba uea ufa uso udn uw uun usr ube ubs uln ubu unu) (wX13 g a0 a1 a2 a3 a4 a5 a6 a7 a8 r.2 uch ufc usv ull ubl uba uea ufa uso udn uw uun usr ube ubs uln ubu unu) (some (.int r.1)) := by
  refine MU_of (by decide) (Nat.le_of_ble_eq_true rfl) ?_
  intro p e s m below meth c ls F hr hlocks hE hX hA hP hD hS hl
  generalize va_A (wX13 g a0 a1 a2 a3 a4 a5 a6 a7 a8 uth uch ufc usv ull ubl uba uea ufa uso udn uw uun usr ube ubs uln ubu unu) s.heap.size = A at hA hD hS hX ⊢
  replace F : CF p m c cX13_woundByParts 2 s _ RX13 := F
  replace hl : lv_has ls 2 [(0, .ref a0), (1, .int p1)] := hl
  rw [fX13_woundByParts] at h
  refine lv_aload_n F.1 F.2.1 dX13_woundByParts_0 rfl (lv_at hl 0 rfl) ?_
  refine lv_iconst (v := 0) F.1 F.2.1 dX13_woundByParts_1 (by decide) ?_
  refine pF (v := .int 0) F hE hP hD hS 0 rfl rfl inX13 tyX13 tyX13_ok nmX13 0 (by decide) q1684 rfl rfl rfl (Nat.le_of_ble_eq_true rfl) dX13_woundByParts_2 (fun H locs hP hD hS => ?_)
  replace hP : va_P (dC, dI) vwCl (wX13 g a0 a1 a2 a3 a4 a5 a6 a7 a8 0 uch ufc usv ull ubl uba uea ufa uso udn uw uun usr ube ubs uln ubu unu) H := hP
  replace hD : va_D A (wX13 g a0 a1 a2 a3 a4 a5 a6 a7 a8 0 uch ufc usv ull ubl uba uea ufa uso udn uw uun usr ube ubs uln ubu unu) := hD
  refine lv_iload_n F.1 F.2.1 dX13_woundByParts_5 rfl (lv_at hl 1 rfl) ?_
  obtain ⟨z1, k2, h⟩ := bd_ok h
  refine cRS (As := [.int p1]) (rest := []) F hE hX hS (tX13_isMaterial l dC dI g p1 k2) mbX13_isMaterial q1750 ⟨(Nat.le_of_ble_eq_true rfl), (Nat.le_of_ble_eq_true rfl)⟩ ⟨Nat.zero_le _, Nat.zero_le _⟩ hP [] rfl rfl hl.1 rfl (Nat.le_of_ble_eq_true rfl) dX13_woundByParts_6 ?_
  refine lv_if_eq (tgt := 23) F.1 F.2.1 dX13_woundByParts_9 (by decide) (fun k3 => ?_) (fun k3 => ?_)
  · replace h := it_t k3 h
    refine lv_aload_n F.1 F.2.1 dX13_woundByParts_23 rfl (lv_at hl 0 rfl) ?_
    refine lv_iconst (v := 1) F.1 F.2.1 dX13_woundByParts_24 (by decide) ?_
    obtain ⟨z4, k5, h⟩ := bd_ok h
    refine cMV (As := [.int 1]) (rest := []) (ws' := wX13 g a0 a1 a2 a3 a4 a5 a6 a7 a8 z4.2 uch ufc usv ull ubl uba uea ufa uso udn uw uun usr ube ubs uln ubu unu) F hE hX (tX13_fails l dC dI g a0 a1 a2 a3 a4 a5 a6 a7 a8 0 uch ufc usv ull ubl uba uea ufa uso udn uw uun usr ube ubs uln ubu unu 1 k5) mbX13_fails q1756 ⟨(Nat.le_of_ble_eq_true rfl), (Nat.le_of_ble_eq_true rfl)⟩ ⟨(Nat.le_of_ble_eq_true rfl), (Nat.le_of_ble_eq_true rfl)⟩ hP hD hS hA [0, 1, 2, 3, 4, 5, 6, 7, 8] rfl rfl rfl rfl rfl 0 rfl rfl rfl hl.1 rfl (Nat.le_of_ble_eq_true rfl) dX13_woundByParts_25 (fun H locs hP hD hS => ?_)
    cases h
    exact MU_i F hr hlocks (Nat.le_refl _) (Nat.le_refl _) hP hS dX13_woundByParts_28
  · replace h := it_f k3 h
    refine lv_aload_n F.1 F.2.1 dX13_woundByParts_12 rfl (lv_at hl 0 rfl) ?_
    refine lv_iload_n F.1 F.2.1 dX13_woundByParts_13 rfl (lv_at hl 1 rfl) ?_
    refine lv_bipush (v := 97) F.1 F.2.1 dX13_woundByParts_14 (by decide) ?_
    refine lv_isub F.1 F.2.1 dX13_woundByParts_16 ?_
    obtain ⟨z6, k7, h⟩ := bd_ok h
    refine cRV (As := [.int (p1 - 97)]) (rest := []) F hE hX hS (tX13_partsOf l dC dI g a0 a1 a2 a3 a4 a5 a6 a7 a8 0 uch ufc usv ull ubl uba uea ufa uso udn uw uun usr ube ubs uln ubu unu (p1 - 97) k7) mbX13_partsOf q2064 ⟨(Nat.le_of_ble_eq_true rfl), (Nat.le_of_ble_eq_true rfl)⟩ ⟨Nat.zero_le _, Nat.zero_le _⟩ hP [0, 1, 2, 3, 4, 5, 6, 7, 8] rfl 0 rfl rfl rfl hl.1 rfl (Nat.le_of_ble_eq_true rfl) dX13_woundByParts_17 ?_
    refine lv_goto (tgt := 28) F.1 F.2.1 dX13_woundByParts_20 (by decide) ?_
    cases h
    exact MU_i F hr hlocks (Nat.le_refl _) (Nat.le_refl _) hP hS dX13_woundByParts_28
/-! WireCutterModel.delivered -/
def fX13_delivered (uw : Nat → Int32) (p1 : Int32) : Option (Int32 × Int32) :=
  (fX13_asksMaterial uw p1 15).bind fun z1 =>
  some (z1.1, z1.2)
theorem mbX13_delivered : MV yX13_delivered cX13_delivered 2 (some .int) 1 := ⟨⟨q2071, q16, by decide +kernel⟩, q2069, q2070⟩
set_option maxHeartbeats 4000000 in
set_option maxRecDepth 100000 in
theorem tX13_delivered (l : Launch) (dC : Nat → ClassId) (dI : Nat → Nat → Nat) (g : Nat → ClassId) (a0 a1 a2 a3 a4 a5 a6 a7 a8 : Nat) (uth : Int32) (uch : Int32) (ufc : Int32) (usv : Int32) (ull : Int32) (ubl : Int32) (uba : Int32) (uea : Int32) (ufa : Int32) (uso : Int32) (udn : Int32) (uw : Nat → Int32) (uun : Nat → Int32) (usr : Nat → Int32) (ube : Nat → Int32) (ubs : Nat → Int32) (uln : Nat → Int32) (ubu : Nat → Int32) (unu : Nat → Int32) (p1 : Int32) {r : Int32 × Int32} (h : fX13_delivered uw p1 = some r) : MU l yX13_delivered cX13_delivered 2 (some .int) 3 64 0 0 dC dI g [.ref a0, .int p1] (wX13 g a0 a1 a2 a3 a4 a5 a6 a7 a8 uth uch ufc usv ull ubl uba uea ufa uso udn uw uun usr ube ubs uln ubu unu) (wX13 g a0 a1 a2 a3 a4 a5 a6 a7 a8 r.2 uch ufc usv ull ubl uba uea ufa uso udn uw uun usr ube ubs uln ubu unu) (some (.int r.1)) := by
  refine MU_of (by decide) (Nat.le_of_ble_eq_true rfl) ?_
  intro p e s m below meth c ls F hr hlocks hE hX hA hP hD hS hl
  generalize va_A (wX13 g a0 a1 a2 a3 a4 a5 a6 a7 a8 uth uch ufc usv ull ubl uba uea ufa uso udn uw uun usr ube ubs uln ubu unu) s.heap.size = A at hA hD hS hX ⊢
  replace F : CF p m c cX13_delivered 2 s _ RX13 := F
  replace hl : lv_has ls 2 [(0, .ref a0), (1, .int p1)] := hl
  rw [fX13_delivered] at h
  refine lv_aload_n F.1 F.2.1 dX13_delivered_0 rfl (lv_at hl 0 rfl) ?_
  refine lv_iload_n F.1 F.2.1 dX13_delivered_1 rfl (lv_at hl 1 rfl) ?_
  refine lv_bipush (v := 15) F.1 F.2.1 dX13_delivered_2 (by decide) ?_
  obtain ⟨z1, k2, h⟩ := bd_ok h
  refine cMV (As := [.int p1, .int 15]) (rest := []) (ws' := wX13 g a0 a1 a2 a3 a4 a5 a6 a7 a8 z1.2 uch ufc usv ull ubl uba uea ufa uso udn uw uun usr ube ubs uln ubu unu) F hE hX (tX13_asksMaterial l dC dI g a0 a1 a2 a3 a4 a5 a6 a7 a8 uth uch ufc usv ull ubl uba uea ufa uso udn uw uun usr ube ubs uln ubu unu p1 15 k2) mbX13_asksMaterial q2056 ⟨(Nat.le_of_ble_eq_true rfl), (Nat.le_of_ble_eq_true rfl)⟩ ⟨(Nat.le_of_ble_eq_true rfl), (Nat.le_of_ble_eq_true rfl)⟩ hP hD hS hA [0, 1, 2, 3, 4, 5, 6, 7, 8] rfl rfl rfl rfl rfl 0 rfl rfl rfl hl.1 rfl (Nat.le_of_ble_eq_true rfl) dX13_delivered_4 (fun H locs hP hD hS => ?_)
  cases h
  exact MU_i F hr hlocks (Nat.le_refl _) (Nat.le_refl _) hP hS dX13_delivered_7
/-! WireCutterModel.losses -/
def fX13_losses (uw : Nat → Int32) (p1 : Int32) : Option (Int32 × Int32) :=
  (fX13_asksMaterial uw p1 21).bind fun z1 =>
  some (z1.1, z1.2)
theorem mbX13_losses : MV yX13_losses cX13_losses 2 (some .int) 1 := ⟨⟨q2075, q16, by decide +kernel⟩, q2073, q2074⟩
set_option maxHeartbeats 4000000 in
set_option maxRecDepth 100000 in
theorem tX13_losses (l : Launch) (dC : Nat → ClassId) (dI : Nat → Nat → Nat) (g : Nat → ClassId) (a0 a1 a2 a3 a4 a5 a6 a7 a8 : Nat) (uth : Int32) (uch : Int32) (ufc : Int32) (usv : Int32) (ull : Int32) (ubl : Int32) (uba : Int32) (uea : Int32) (ufa : Int32) (uso : Int32) (udn : Int32) (uw : Nat → Int32) (uun : Nat → Int32) (usr : Nat → Int32) (ube : Nat → Int32) (ubs : Nat → Int32) (uln : Nat → Int32) (ubu : Nat → Int32) (unu : Nat → Int32) (p1 : Int32) {r : Int32 × Int32} (h : fX13_losses uw p1 = some r) : MU l yX13_losses cX13_losses 2 (some .int) 3 64 0 0 dC dI g [.ref a0, .int p1] (wX13 g a0 a1 a2 a3 a4 a5 a6 a7 a8 uth uch ufc usv ull ubl uba uea ufa uso udn uw uun usr ube ubs uln ubu unu) (wX13 g a0 a1 a2 a3 a4 a5 a6 a7 a8 r.2 uch ufc usv ull ubl uba uea ufa uso udn uw uun usr ube ubs uln ubu unu) (some (.int r.1)) := by
  refine MU_of (by decide) (Nat.le_of_ble_eq_true rfl) ?_
  intro p e s m below meth c ls F hr hlocks hE hX hA hP hD hS hl
  generalize va_A (wX13 g a0 a1 a2 a3 a4 a5 a6 a7 a8 uth uch ufc usv ull ubl uba uea ufa uso udn uw uun usr ube ubs uln ubu unu) s.heap.size = A at hA hD hS hX ⊢
  replace F : CF p m c cX13_losses 2 s _ RX13 := F
  replace hl : lv_has ls 2 [(0, .ref a0), (1, .int p1)] := hl
  rw [fX13_losses] at h
  refine lv_aload_n F.1 F.2.1 dX13_losses_0 rfl (lv_at hl 0 rfl) ?_
  refine lv_iload_n F.1 F.2.1 dX13_losses_1 rfl (lv_at hl 1 rfl) ?_
  refine lv_bipush (v := 21) F.1 F.2.1 dX13_losses_2 (by decide) ?_
  obtain ⟨z1, k2, h⟩ := bd_ok h
  refine cMV (As := [.int p1, .int 21]) (rest := []) (ws' := wX13 g a0 a1 a2 a3 a4 a5 a6 a7 a8 z1.2 uch ufc usv ull ubl uba uea ufa uso udn uw uun usr ube ubs uln ubu unu) F hE hX (tX13_asksMaterial l dC dI g a0 a1 a2 a3 a4 a5 a6 a7 a8 uth uch ufc usv ull ubl uba uea ufa uso udn uw uun usr ube ubs uln ubu unu p1 21 k2) mbX13_asksMaterial q2056 ⟨(Nat.le_of_ble_eq_true rfl), (Nat.le_of_ble_eq_true rfl)⟩ ⟨(Nat.le_of_ble_eq_true rfl), (Nat.le_of_ble_eq_true rfl)⟩ hP hD hS hA [0, 1, 2, 3, 4, 5, 6, 7, 8] rfl rfl rfl rfl rfl 0 rfl rfl rfl hl.1 rfl (Nat.le_of_ble_eq_true rfl) dX13_losses_4 (fun H locs hP hD hS => ?_)
  cases h
  exact MU_i F hr hlocks (Nat.le_refl _) (Nat.le_refl _) hP hS dX13_losses_7
/-! WireCutterModel.filled -/
def fX13_filled (uw : Nat → Int32) : Option (Int32 × Int32) :=
  (fX13_asks uw 8).bind fun z1 =>
  some (z1.1, z1.2)
theorem mbX13_filled : MV yX13_filled cX13_filled 1 (some .int) 0 := ⟨⟨q2079, q16, by decide +kernel⟩, q2077, q2078⟩
set_option maxHeartbeats 4000000 in
set_option maxRecDepth 100000 in
theorem tX13_filled (l : Launch) (dC : Nat → ClassId) (dI : Nat → Nat → Nat) (g : Nat → ClassId) (a0 a1 a2 a3 a4 a5 a6 a7 a8 : Nat) (uth : Int32) (uch : Int32) (ufc : Int32) (usv : Int32) (ull : Int32) (ubl : Int32) (uba : Int32) (uea : Int32) (ufa : Int32) (uso : Int32) (udn : Int32) (uw : Nat → Int32) (uun : Nat → Int32) (usr : Nat → Int32) (ube : Nat → Int32) (ubs : Nat → Int32) (uln : Nat → Int32) (ubu : Nat → Int32) (unu : Nat → Int32) {r : Int32 × Int32} (h : fX13_filled uw = some r) : MU l yX13_filled cX13_filled 1 (some .int) 1 21 0 0 dC dI g [.ref a0] (wX13 g a0 a1 a2 a3 a4 a5 a6 a7 a8 uth uch ufc usv ull ubl uba uea ufa uso udn uw uun usr ube ubs uln ubu unu) (wX13 g a0 a1 a2 a3 a4 a5 a6 a7 a8 r.2 uch ufc usv ull ubl uba uea ufa uso udn uw uun usr ube ubs uln ubu unu) (some (.int r.1)) := by
  refine MU_of (by decide) (Nat.le_of_ble_eq_true rfl) ?_
  intro p e s m below meth c ls F hr hlocks hE hX hA hP hD hS hl
  generalize va_A (wX13 g a0 a1 a2 a3 a4 a5 a6 a7 a8 uth uch ufc usv ull ubl uba uea ufa uso udn uw uun usr ube ubs uln ubu unu) s.heap.size = A at hA hD hS hX ⊢
  replace F : CF p m c cX13_filled 1 s _ RX13 := F
  replace hl : lv_has ls 1 [(0, .ref a0)] := hl
  rw [fX13_filled] at h
  refine lv_aload_n F.1 F.2.1 dX13_filled_0 rfl (lv_at hl 0 rfl) ?_
  refine lv_bipush (v := 8) F.1 F.2.1 dX13_filled_1 (by decide) ?_
  obtain ⟨z1, k2, h⟩ := bd_ok h
  refine cMV (As := [.int 8]) (rest := []) (ws' := wX13 g a0 a1 a2 a3 a4 a5 a6 a7 a8 z1.2 uch ufc usv ull ubl uba uea ufa uso udn uw uun usr ube ubs uln ubu unu) F hE hX (tX13_asks l dC dI g a0 a1 a2 a3 a4 a5 a6 a7 a8 uth uch ufc usv ull ubl uba uea ufa uso udn uw uun usr ube ubs uln ubu unu 8 k2) mbX13_asks q1943 ⟨(Nat.le_of_ble_eq_true rfl), (Nat.le_of_ble_eq_true rfl)⟩ ⟨(Nat.le_of_ble_eq_true rfl), (Nat.le_of_ble_eq_true rfl)⟩ hP hD hS hA [0, 1, 2, 3, 4, 5, 6, 7, 8] rfl rfl rfl rfl rfl 0 rfl rfl rfl hl.1 rfl (Nat.le_of_ble_eq_true rfl) dX13_filled_3 (fun H locs hP hD hS => ?_)
  cases h
  exact MU_i F hr hlocks (Nat.le_refl _) (Nat.le_refl _) hP hS dX13_filled_6
/-! WireCutterModel.sumOf -/
def fX13_sumOf_L4 (x1 : Int32) (uw : Nat → Int32) : Nat → Int32 → Int32 → Option (Int32)
  | 0, _, _ => none
  | k + 1, x2, x3 =>
    if 6 ≤ x3 then
      some (x2)
    else
      gd (inR (x1 + x3) 201) <|
      fX13_sumOf_L4 x1 uw k (x2 + (uw ((x1 + x3).toNatClampNeg))) (x3 + 1)
def fX13_sumOf (uw : Nat → Int32) (p1 : Int32) : Option (Int32) :=
  fX13_sumOf_L4 p1 uw FU 0 0
theorem mbX13_sumOf : MV yX13_sumOf cX13_sumOf 4 (some .int) 1 := ⟨⟨q2087, q16, by decide +kernel⟩, q2086, qs64⟩
set_option maxHeartbeats 4000000 in
set_option maxRecDepth 100000 in
theorem tX13_sumOf_L4 {p : Program} {l : Launch} {e : Env} {s : State} {m : MethodId} {args : Array Value} {below : List Frame} {meth : Method} {c : Code} {dC : Nat → ClassId} {dI : Nat → Nat → Nat} {g : Nat → ClassId} {a0 a1 a2 a3 a4 a5 a6 a7 a8 : Nat} {r : Int32} (F : CF p m c cX13_sumOf 4 s args RX13) (hr : meth.sig.returnType = (some .int)) (hlocks : meth.locks = false) (hE : EK dC dI g s) (hX : EXr g s) (x1 : Int32) (uth : Int32) (uch : Int32) (ufc : Int32) (usv : Int32) (ull : Int32) (ubl : Int32) (uba : Int32) (uea : Int32) (ufa : Int32) (uso : Int32) (udn : Int32) (uw : Nat → Int32) (uun : Nat → Int32) (usr : Nat → Int32) (ube : Nat → Int32) (ubs : Nat → Int32) (uln : Nat → Int32) (ubu : Nat → Int32) (unu : Nat → Int32) (hP : va_P (dC, dI) vwCl (wX13 g a0 a1 a2 a3 a4 a5 a6 a7 a8 uth uch ufc usv ull ubl uba uea ufa uso udn uw uun usr ube ubs uln ubu unu) s.heap) : ∀ (k : Nat) (x2 : Int32) (x3 : Int32), fX13_sumOf_L4 x1 uw k x2 x3 = some r → ∀ (ls : Array Slot), lv_has ls 4 [(0, .ref a0), (1, .int x1), (2, .int x2), (3, .int x3)] → W p l e { frames := 0, cells := 0, slots := 0, locals := 0 } s m args below meth c s.heap [] 0 0 (MQ below (fun _ st o t => o = .returned (some (.int r)) ∧ t.heap = st.heap) args s 0 0 (fun _ => False)) (F0 m 4 ls []) := by
  intro k
  induction k with
  | zero =>
    intro x2 x3 h
    exact absurd h (by simp [fX13_sumOf_L4])
  | succ k ih =>
    intro x2 x3 h ls hl
    rw [fX13_sumOf_L4] at h
    refine lv_iload_n F.1 F.2.1 dX13_sumOf_4 rfl (lv_at hl 3 rfl) ?_
    refine lv_bipush (v := 6) F.1 F.2.1 dX13_sumOf_5 (by decide) ?_
    refine lv_icmp_ge (tgt := 27) F.1 F.2.1 dX13_sumOf_7 (by decide) (fun k1 => ?_) (fun k1 => ?_)
    · replace h := it_t k1 h
      refine lv_iload_n F.1 F.2.1 dX13_sumOf_27 rfl (lv_at hl 2 rfl) ?_
      cases h
      exact RO_i F hr hlocks dX13_sumOf_28
    · replace h := it_f k1 h
      refine lv_iload_n F.1 F.2.1 dX13_sumOf_10 rfl (lv_at hl 2 rfl) ?_
      refine lv_aload_n F.1 F.2.1 dX13_sumOf_11 rfl (lv_at hl 0 rfl) ?_
      refine gF (v := .ref a1) F hE hP 0 rfl rfl inX13 1 (by decide) q1685 rfl dX13_sumOf_12 ?_
      refine lv_iload_n F.1 F.2.1 dX13_sumOf_15 rfl (lv_at hl 1 rfl) ?_
      refine lv_iload_n F.1 F.2.1 dX13_sumOf_16 rfl (lv_at hl 3 rfl) ?_
      refine lv_iadd F.1 F.2.1 dX13_sumOf_17 ?_
      obtain ⟨k2, h⟩ := gd_ok h
      refine aLi (k := (x1 + x3).toNatClampNeg) F hE hP 1 0 rfl rfl k2 rfl dX13_sumOf_18 ?_
      refine lv_iadd F.1 F.2.1 dX13_sumOf_19 ?_
      refine lv_istore_n (lv' := [(2, .int (x2 + (uw ((x1 + x3).toNatClampNeg)))), (0, .ref a0), (1, .int x1), (3, .int x3)]) F.1 F.2.1 dX13_sumOf_20 rfl hl (by decide) rfl (fun ls hl => ?_)
      refine lv_iinc (v := x3 + 1) (lv' := [(3, .int (x3 + 1)), (2, .int (x2 + (uw ((x1 + x3).toNatClampNeg)))), (0, .ref a0), (1, .int x1)]) F.1 F.2.1 dX13_sumOf_21 hl (k := 3) rfl (by rfl) (by decide) rfl (fun ls hl => ?_)
      refine lv_goto (tgt := 4) F.1 F.2.1 dX13_sumOf_24 (by decide) ?_
      exact ih (x2 + (uw ((x1 + x3).toNatClampNeg))) (x3 + 1) h ls (lv_sub hl [2, 3, 1, 0] rfl)
set_option maxHeartbeats 4000000 in
set_option maxRecDepth 100000 in
theorem tX13_sumOf (l : Launch) (dC : Nat → ClassId) (dI : Nat → Nat → Nat) (g : Nat → ClassId) (a0 a1 a2 a3 a4 a5 a6 a7 a8 : Nat) (uth : Int32) (uch : Int32) (ufc : Int32) (usv : Int32) (ull : Int32) (ubl : Int32) (uba : Int32) (uea : Int32) (ufa : Int32) (uso : Int32) (udn : Int32) (uw : Nat → Int32) (uun : Nat → Int32) (usr : Nat → Int32) (ube : Nat → Int32) (ubs : Nat → Int32) (uln : Nat → Int32) (ubu : Nat → Int32) (unu : Nat → Int32) (p1 : Int32) {r : Int32} (h : fX13_sumOf uw p1 = some r) : RO l yX13_sumOf cX13_sumOf 4 (some .int) 0 0 dC dI g [.ref a0, .int p1] (wX13 g a0 a1 a2 a3 a4 a5 a6 a7 a8 uth uch ufc usv ull ubl uba uea ufa uso udn uw uun usr ube ubs uln ubu unu) (some (.int r)) := by
  refine RO_of (by decide) (Nat.le_of_ble_eq_true rfl) ?_
  intro p e s m below meth c ls F hr hlocks hE hX hP hl
  replace F : CF p m c cX13_sumOf 4 s _ RX13 := F
  replace hl : lv_has ls 4 [(0, .ref a0), (1, .int p1)] := hl
  rw [fX13_sumOf] at h
  refine lv_iconst (v := 0) F.1 F.2.1 dX13_sumOf_0 (by decide) ?_
  refine lv_istore_n (lv' := [(2, .int 0), (0, .ref a0), (1, .int p1)]) F.1 F.2.1 dX13_sumOf_1 rfl hl (by decide) rfl (fun ls hl => ?_)
  refine lv_iconst (v := 0) F.1 F.2.1 dX13_sumOf_2 (by decide) ?_
  refine lv_istore_n (lv' := [(3, .int 0), (2, .int 0), (0, .ref a0), (1, .int p1)]) F.1 F.2.1 dX13_sumOf_3 rfl hl (by decide) rfl (fun ls hl => ?_)
  exact tX13_sumOf_L4 F hr hlocks hE hX p1 uth uch ufc usv ull ubl uba uea ufa uso udn uw uun usr ube ubs uln ubu unu hP FU 0 0 h ls (lv_sub hl [2, 3, 1, 0] rfl)
/-! WireCutterModel.totalDelivered -/
def fX13_totalDelivered (uw : Nat → Int32) : Option (Int64 × Int32) :=
  (fX13_sumOf uw 15).bind fun z1 =>
  some (z1.toInt64, 0)
theorem mbX13_totalDelivered : MV yX13_totalDelivered cX13_totalDelivered 1 (some .long) 0 := ⟨⟨q2083, q16, by decide +kernel⟩, q2081, q2082⟩
set_option maxHeartbeats 4000000 in
set_option maxRecDepth 100000 in
theorem tX13_totalDelivered (l : Launch) (dC : Nat → ClassId) (dI : Nat → Nat → Nat) (g : Nat → ClassId) (a0 a1 a2 a3 a4 a5 a6 a7 a8 : Nat) (uth : Int32) (uch : Int32) (ufc : Int32) (usv : Int32) (ull : Int32) (ubl : Int32) (uba : Int32) (uea : Int32) (ufa : Int32) (uso : Int32) (udn : Int32) (uw : Nat → Int32) (uun : Nat → Int32) (usr : Nat → Int32) (ube : Nat → Int32) (ubs : Nat → Int32) (uln : Nat → Int32) (ubu : Nat → Int32) (unu : Nat → Int32) {r : Int64 × Int32} (h : fX13_totalDelivered uw = some r) : MU l yX13_totalDelivered cX13_totalDelivered 1 (some .long) 1 23 0 0 dC dI g [.ref a0] (wX13 g a0 a1 a2 a3 a4 a5 a6 a7 a8 uth uch ufc usv ull ubl uba uea ufa uso udn uw uun usr ube ubs uln ubu unu) (wX13 g a0 a1 a2 a3 a4 a5 a6 a7 a8 r.2 uch ufc usv ull ubl uba uea ufa uso udn uw uun usr ube ubs uln ubu unu) (some (.long r.1)) := by
  refine MU_of (by decide) (Nat.le_of_ble_eq_true rfl) ?_
  intro p e s m below meth c ls F hr hlocks hE hX hA hP hD hS hl
  generalize va_A (wX13 g a0 a1 a2 a3 a4 a5 a6 a7 a8 uth uch ufc usv ull ubl uba uea ufa uso udn uw uun usr ube ubs uln ubu unu) s.heap.size = A at hA hD hS hX ⊢
  replace F : CF p m c cX13_totalDelivered 1 s _ RX13 := F
  replace hl : lv_has ls 1 [(0, .ref a0)] := hl
  rw [fX13_totalDelivered] at h
  refine lv_aload_n F.1 F.2.1 dX13_totalDelivered_0 rfl (lv_at hl 0 rfl) ?_
  refine lv_iconst (v := 0) F.1 F.2.1 dX13_totalDelivered_1 (by decide) ?_
  refine pF (v := .int 0) F hE hP hD hS 0 rfl rfl inX13 tyX13 tyX13_ok nmX13 0 (by decide) q1684 rfl rfl rfl (Nat.le_of_ble_eq_true rfl) dX13_totalDelivered_2 (fun H locs hP hD hS => ?_)
  replace hP : va_P (dC, dI) vwCl (wX13 g a0 a1 a2 a3 a4 a5 a6 a7 a8 0 uch ufc usv ull ubl uba uea ufa uso udn uw uun usr ube ubs uln ubu unu) H := hP
  replace hD : va_D A (wX13 g a0 a1 a2 a3 a4 a5 a6 a7 a8 0 uch ufc usv ull ubl uba uea ufa uso udn uw uun usr ube ubs uln ubu unu) := hD
  refine lv_aload_n F.1 F.2.1 dX13_totalDelivered_5 rfl (lv_at hl 0 rfl) ?_
  refine lv_bipush (v := 15) F.1 F.2.1 dX13_totalDelivered_6 (by decide) ?_
  obtain ⟨z1, k2, h⟩ := bd_ok h
  refine cRV (As := [.int 15]) (rest := []) F hE hX hS (tX13_sumOf l dC dI g a0 a1 a2 a3 a4 a5 a6 a7 a8 0 uch ufc usv ull ubl uba uea ufa uso udn uw uun usr ube ubs uln ubu unu 15 k2) mbX13_sumOf q2084 ⟨(Nat.le_of_ble_eq_true rfl), (Nat.le_of_ble_eq_true rfl)⟩ ⟨Nat.zero_le _, Nat.zero_le _⟩ hP [0, 1, 2, 3, 4, 5, 6, 7, 8] rfl 0 rfl rfl rfl hl.1 rfl (Nat.le_of_ble_eq_true rfl) dX13_totalDelivered_8 ?_
  refine lv_i2l F.1 F.2.1 dX13_totalDelivered_11 rfl ?_
  cases h
  exact MU_l F hr hlocks (Nat.le_refl _) (Nat.le_refl _) hP hS dX13_totalDelivered_12
/-! WireCutterModel.isConsistent -/
def fX13_isConsistent_L40 (uth : Int32) (uw : Nat → Int32) : Nat → Int32 → Option (Int32 × Int32)
  | 0, _ => none
  | k + 1, x1 =>
    if (uw 2) ≤ x1 then
      some (1, uth)
    else
      (fX13_orderOf uw (x1 - 1) 3).bind fun z3 =>
      (fX13_orderOf uw x1 3).bind fun z5 =>
      if z3 ≤ z5 then
        fX13_isConsistent_L40 uth uw k (x1 + 1)
      else
        some (0, uth)
def fX13_isConsistent_L7 (uth : Int32) (uw : Nat → Int32) : Nat → Int32 → Option (Int32 × Int32)
  | 0, _ => none
  | k + 1, x1 =>
    if 6 ≤ x1 then
      fX13_isConsistent_L40 uth uw FU 1
    else
      (fX13_partsOf uw x1).bind fun z8 =>
      gd (inR (9 + x1) 201) <|
      if z8 = (uw ((9 + x1).toNatClampNeg)) then
        fX13_isConsistent_L7 uth uw k (x1 + 1)
      else
        some (0, uth)
def fX13_isConsistent (uw : Nat → Int32) : Option (Int32 × Int32) :=
  fX13_isConsistent_L7 0 uw FU 0
theorem mbX13_isConsistent : MV yX13_isConsistent cX13_isConsistent 2 (some .boolean) 0 := ⟨⟨q2099, q16, by decide +kernel⟩, q2097, q2098⟩
set_option maxHeartbeats 4000000 in
set_option maxRecDepth 100000 in
theorem tX13_isConsistent_L40 {p : Program} {l : Launch} {e : Env} {s : State} {m : MethodId} {args : Array Value} {below : List Frame} {meth : Method} {c : Code} {dC : Nat → ClassId} {dI : Nat → Nat → Nat} {g : Nat → ClassId} {a0 a1 a2 a3 a4 a5 a6 a7 a8 : Nat} {r : Int32 × Int32} {A : Nat → Prop} (F : CF p m c cX13_isConsistent 2 s args RX13) (hr : meth.sig.returnType = (some .boolean)) (hlocks : meth.locks = false) (hE : EK dC dI g s) (hX : EX g A s s.heap) (hA : ∀ q : Nat, s.heap.size ≤ q → A q) (uth : Int32) (uch : Int32) (ufc : Int32) (usv : Int32) (ull : Int32) (ubl : Int32) (uba : Int32) (uea : Int32) (ufa : Int32) (uso : Int32) (udn : Int32) (uw : Nat → Int32) (uun : Nat → Int32) (usr : Nat → Int32) (ube : Nat → Int32) (ubs : Nat → Int32) (uln : Nat → Int32) (ubu : Nat → Int32) (unu : Nat → Int32) : ∀ (k : Nat) (x1 : Int32), fX13_isConsistent_L40 uth uw k x1 = some r → ∀ (H : Heap) (locs : List Loc), va_P (dC, dI) vwCl (wX13 g a0 a1 a2 a3 a4 a5 a6 a7 a8 uth uch ufc usv ull ubl uba uea ufa uso udn uw uun usr ube ubs uln ubu unu) H → va_D A (wX13 g a0 a1 a2 a3 a4 a5 a6 a7 a8 uth uch ufc usv ull ubl uba uea ufa uso udn uw uun usr ube ubs uln ubu unu) → va_S A s.heap H locs → ∀ (ls : Array Slot), lv_has ls 2 [(0, .ref a0), (1, .int x1)] → W p l e { frames := 2, cells := 0, slots := 0, locals := 45 } s m args below meth c H locs 0 0 (MQ below (fun _ st o t => o = .returned (some (.int r.1)) ∧ va_P (dC, dI) vwCl (wX13 g a0 a1 a2 a3 a4 a5 a6 a7 a8 r.2 uch ufc usv ull ubl uba uea ufa uso udn uw uun usr ube ubs uln ubu unu) t.heap ∧ va_F A st t) args s 0 0 A) (F0 m 40 ls []) := by
  intro k
  induction k with
  | zero =>
    intro x1 h
    exact absurd h (by simp [fX13_isConsistent_L40])
  | succ k ih =>
    intro x1 h H locs hP hD hS ls hl
    rw [fX13_isConsistent_L40] at h
    refine lv_iload_n F.1 F.2.1 dX13_isConsistent_40 rfl (lv_at hl 1 rfl) ?_
    refine lv_aload_n F.1 F.2.1 dX13_isConsistent_41 rfl (lv_at hl 0 rfl) ?_
    refine gF (v := .ref a1) F hE hP 0 rfl rfl inX13 1 (by decide) q1685 rfl dX13_isConsistent_42 ?_
    refine lv_iconst (v := 2) F.1 F.2.1 dX13_isConsistent_45 (by decide) ?_
    refine aLi (k := 2) F hE hP 1 0 rfl rfl (by decide) (by decide) dX13_isConsistent_46 ?_
    refine lv_icmp_ge (tgt := 75) F.1 F.2.1 dX13_isConsistent_47 (by decide) (fun k2 => ?_) (fun k2 => ?_)
    · replace h := it_t k2 h
      refine lv_iconst (v := 1) F.1 F.2.1 dX13_isConsistent_75 (by decide) ?_
      cases h
      exact MU_z (v := 1) F hr hlocks (Nat.le_refl _) (Nat.le_refl _) rfl hP hS dX13_isConsistent_76
    · replace h := it_f k2 h
      refine lv_aload_n F.1 F.2.1 dX13_isConsistent_50 rfl (lv_at hl 0 rfl) ?_
      refine lv_iload_n F.1 F.2.1 dX13_isConsistent_51 rfl (lv_at hl 1 rfl) ?_
      refine lv_iconst (v := 1) F.1 F.2.1 dX13_isConsistent_52 (by decide) ?_
      refine lv_isub F.1 F.2.1 dX13_isConsistent_53 ?_
      refine lv_iconst (v := 3) F.1 F.2.1 dX13_isConsistent_54 (by decide) ?_
      obtain ⟨z3, k4, h⟩ := bd_ok h
      refine cRV (As := [.int (x1 - 1), .int 3]) (rest := []) F hE hX hS (tX13_orderOf l dC dI g a0 a1 a2 a3 a4 a5 a6 a7 a8 uth uch ufc usv ull ubl uba uea ufa uso udn uw uun usr ube ubs uln ubu unu (x1 - 1) 3 k4) mbX13_orderOf q1839 ⟨(Nat.le_of_ble_eq_true rfl), (Nat.le_of_ble_eq_true rfl)⟩ ⟨Nat.zero_le _, Nat.zero_le _⟩ hP [0, 1, 2, 3, 4, 5, 6, 7, 8] rfl 0 rfl rfl rfl hl.1 rfl (Nat.le_of_ble_eq_true rfl) dX13_isConsistent_55 ?_
      refine lv_aload_n F.1 F.2.1 dX13_isConsistent_58 rfl (lv_at hl 0 rfl) ?_
      refine lv_iload_n F.1 F.2.1 dX13_isConsistent_59 rfl (lv_at hl 1 rfl) ?_
      refine lv_iconst (v := 3) F.1 F.2.1 dX13_isConsistent_60 (by decide) ?_
      obtain ⟨z5, k6, h⟩ := bd_ok h
      refine cRV (As := [.int x1, .int 3]) (rest := [.int z3]) F hE hX hS (tX13_orderOf l dC dI g a0 a1 a2 a3 a4 a5 a6 a7 a8 uth uch ufc usv ull ubl uba uea ufa uso udn uw uun usr ube ubs uln ubu unu x1 3 k6) mbX13_orderOf q1839 ⟨(Nat.le_of_ble_eq_true rfl), (Nat.le_of_ble_eq_true rfl)⟩ ⟨Nat.zero_le _, Nat.zero_le _⟩ hP [0, 1, 2, 3, 4, 5, 6, 7, 8] rfl 0 rfl rfl rfl hl.1 rfl (Nat.le_of_ble_eq_true rfl) dX13_isConsistent_61 ?_
      refine lv_icmp_le (tgt := 69) F.1 F.2.1 dX13_isConsistent_64 (by decide) (fun k7 => ?_) (fun k7 => ?_)
      · replace h := it_t k7 h
        refine lv_iinc (v := x1 + 1) (lv' := [(1, .int (x1 + 1)), (0, .ref a0)]) F.1 F.2.1 dX13_isConsistent_69 hl (k := 1) rfl (by rfl) (by decide) rfl (fun ls hl => ?_)
        refine lv_goto (tgt := 40) F.1 F.2.1 dX13_isConsistent_72 (by decide) ?_
        exact ih (x1 + 1) h _ _ hP hD hS ls (lv_sub hl [1, 0] rfl)
      · replace h := it_f k7 h
        refine lv_iconst (v := 0) F.1 F.2.1 dX13_isConsistent_67 (by decide) ?_
        cases h
        exact MU_z (v := 0) F hr hlocks (Nat.le_refl _) (Nat.le_refl _) rfl hP hS dX13_isConsistent_68
set_option maxHeartbeats 4000000 in
set_option maxRecDepth 100000 in
theorem tX13_isConsistent_L7 {p : Program} {l : Launch} {e : Env} {s : State} {m : MethodId} {args : Array Value} {below : List Frame} {meth : Method} {c : Code} {dC : Nat → ClassId} {dI : Nat → Nat → Nat} {g : Nat → ClassId} {a0 a1 a2 a3 a4 a5 a6 a7 a8 : Nat} {r : Int32 × Int32} {A : Nat → Prop} (F : CF p m c cX13_isConsistent 2 s args RX13) (hr : meth.sig.returnType = (some .boolean)) (hlocks : meth.locks = false) (hE : EK dC dI g s) (hX : EX g A s s.heap) (hA : ∀ q : Nat, s.heap.size ≤ q → A q) (uth : Int32) (uch : Int32) (ufc : Int32) (usv : Int32) (ull : Int32) (ubl : Int32) (uba : Int32) (uea : Int32) (ufa : Int32) (uso : Int32) (udn : Int32) (uw : Nat → Int32) (uun : Nat → Int32) (usr : Nat → Int32) (ube : Nat → Int32) (ubs : Nat → Int32) (uln : Nat → Int32) (ubu : Nat → Int32) (unu : Nat → Int32) : ∀ (k : Nat) (x1 : Int32), fX13_isConsistent_L7 uth uw k x1 = some r → ∀ (H : Heap) (locs : List Loc), va_P (dC, dI) vwCl (wX13 g a0 a1 a2 a3 a4 a5 a6 a7 a8 uth uch ufc usv ull ubl uba uea ufa uso udn uw uun usr ube ubs uln ubu unu) H → va_D A (wX13 g a0 a1 a2 a3 a4 a5 a6 a7 a8 uth uch ufc usv ull ubl uba uea ufa uso udn uw uun usr ube ubs uln ubu unu) → va_S A s.heap H locs → ∀ (ls : Array Slot), lv_has ls 2 [(0, .ref a0), (1, .int x1)] → W p l e { frames := 2, cells := 0, slots := 0, locals := 45 } s m args below meth c H locs 0 0 (MQ below (fun _ st o t => o = .returned (some (.int r.1)) ∧ va_P (dC, dI) vwCl (wX13 g a0 a1 a2 a3 a4 a5 a6 a7 a8 r.2 uch ufc usv ull ubl uba uea ufa uso udn uw uun usr ube ubs uln ubu unu) t.heap ∧ va_F A st t) args s 0 0 A) (F0 m 7 ls []) := by
  intro k
  induction k with
  | zero =>
    intro x1 h
    exact absurd h (by simp [fX13_isConsistent_L7])
  | succ k ih =>
    intro x1 h H locs hP hD hS ls hl
    rw [fX13_isConsistent_L7] at h
    refine lv_iload_n F.1 F.2.1 dX13_isConsistent_7 rfl (lv_at hl 1 rfl) ?_
    refine lv_bipush (v := 6) F.1 F.2.1 dX13_isConsistent_8 (by decide) ?_
    refine lv_icmp_ge (tgt := 38) F.1 F.2.1 dX13_isConsistent_10 (by decide) (fun k1 => ?_) (fun k1 => ?_)
    · replace h := it_t k1 h
      refine lv_iconst (v := 1) F.1 F.2.1 dX13_isConsistent_38 (by decide) ?_
      refine lv_istore_n (lv' := [(1, .int 1), (0, .ref a0)]) F.1 F.2.1 dX13_isConsistent_39 rfl hl (by decide) rfl (fun ls hl => ?_)
      exact tX13_isConsistent_L40 F hr hlocks hE hX hA uth uch ufc usv ull ubl uba uea ufa uso udn uw uun usr ube ubs uln ubu unu FU 1 h _ _ hP hD hS ls (lv_sub hl [1, 0] rfl)
    · replace h := it_f k1 h
      refine lv_aload_n F.1 F.2.1 dX13_isConsistent_13 rfl (lv_at hl 0 rfl) ?_
      refine lv_iload_n F.1 F.2.1 dX13_isConsistent_14 rfl (lv_at hl 1 rfl) ?_
      obtain ⟨z8, k9, h⟩ := bd_ok h
      refine cRV (As := [.int x1]) (rest := []) F hE hX hS (tX13_partsOf l dC dI g a0 a1 a2 a3 a4 a5 a6 a7 a8 uth uch ufc usv ull ubl uba uea ufa uso udn uw uun usr ube ubs uln ubu unu x1 k9) mbX13_partsOf q2064 ⟨(Nat.le_of_ble_eq_true rfl), (Nat.le_of_ble_eq_true rfl)⟩ ⟨Nat.zero_le _, Nat.zero_le _⟩ hP [0, 1, 2, 3, 4, 5, 6, 7, 8] rfl 0 rfl rfl rfl hl.1 rfl (Nat.le_of_ble_eq_true rfl) dX13_isConsistent_15 ?_
      refine lv_aload_n F.1 F.2.1 dX13_isConsistent_18 rfl (lv_at hl 0 rfl) ?_
      refine gF (v := .ref a1) F hE hP 0 rfl rfl inX13 1 (by decide) q1685 rfl dX13_isConsistent_19 ?_
      refine lv_bipush (v := 9) F.1 F.2.1 dX13_isConsistent_22 (by decide) ?_
      refine lv_iload_n F.1 F.2.1 dX13_isConsistent_24 rfl (lv_at hl 1 rfl) ?_
      refine lv_iadd F.1 F.2.1 dX13_isConsistent_25 ?_
      obtain ⟨k10, h⟩ := gd_ok h
      refine aLi (k := (9 + x1).toNatClampNeg) F hE hP 1 0 rfl rfl k10 rfl dX13_isConsistent_26 ?_
      refine lv_icmp_eq (tgt := 32) F.1 F.2.1 dX13_isConsistent_27 (by decide) (fun k11 => ?_) (fun k11 => ?_)
      · replace h := it_t k11 h
        refine lv_iinc (v := x1 + 1) (lv' := [(1, .int (x1 + 1)), (0, .ref a0)]) F.1 F.2.1 dX13_isConsistent_32 hl (k := 1) rfl (by rfl) (by decide) rfl (fun ls hl => ?_)
        refine lv_goto (tgt := 7) F.1 F.2.1 dX13_isConsistent_35 (by decide) ?_
        exact ih (x1 + 1) h _ _ hP hD hS ls (lv_sub hl [1, 0] rfl)
      · replace h := it_f k11 h
        refine lv_iconst (v := 0) F.1 F.2.1 dX13_isConsistent_30 (by decide) ?_
        cases h
        exact MU_z (v := 0) F hr hlocks (Nat.le_refl _) (Nat.le_refl _) rfl hP hS dX13_isConsistent_31
set_option maxHeartbeats 4000000 in
set_option maxRecDepth 100000 in
theorem tX13_isConsistent (l : Launch) (dC : Nat → ClassId) (dI : Nat → Nat → Nat) (g : Nat → ClassId) (a0 a1 a2 a3 a4 a5 a6 a7 a8 : Nat) (uth : Int32) (uch : Int32) (ufc : Int32) (usv : Int32) (ull : Int32) (ubl : Int32) (uba : Int32) (uea : Int32) (ufa : Int32) (uso : Int32) (udn : Int32) (uw : Nat → Int32) (uun : Nat → Int32) (usr : Nat → Int32) (ube : Nat → Int32) (ubs : Nat → Int32) (uln : Nat → Int32) (ubu : Nat → Int32) (unu : Nat → Int32) {r : Int32 × Int32} (h : fX13_isConsistent uw = some r) : MU l yX13_isConsistent cX13_isConsistent 2 (some .boolean) 2 45 0 0 dC dI g [.ref a0] (wX13 g a0 a1 a2 a3 a4 a5 a6 a7 a8 uth uch ufc usv ull ubl uba uea ufa uso udn uw uun usr ube ubs uln ubu unu) (wX13 g a0 a1 a2 a3 a4 a5 a6 a7 a8 r.2 uch ufc usv ull ubl uba uea ufa uso udn uw uun usr ube ubs uln ubu unu) (some (.int r.1)) := by
  refine MU_of (by decide) (Nat.le_of_ble_eq_true rfl) ?_
  intro p e s m below meth c ls F hr hlocks hE hX hA hP hD hS hl
  generalize va_A (wX13 g a0 a1 a2 a3 a4 a5 a6 a7 a8 uth uch ufc usv ull ubl uba uea ufa uso udn uw uun usr ube ubs uln ubu unu) s.heap.size = A at hA hD hS hX ⊢
  replace F : CF p m c cX13_isConsistent 2 s _ RX13 := F
  replace hl : lv_has ls 2 [(0, .ref a0)] := hl
  rw [fX13_isConsistent] at h
  refine lv_aload_n F.1 F.2.1 dX13_isConsistent_0 rfl (lv_at hl 0 rfl) ?_
  refine lv_iconst (v := 0) F.1 F.2.1 dX13_isConsistent_1 (by decide) ?_
  refine pF (v := .int 0) F hE hP hD hS 0 rfl rfl inX13 tyX13 tyX13_ok nmX13 0 (by decide) q1684 rfl rfl rfl (Nat.le_of_ble_eq_true rfl) dX13_isConsistent_2 (fun H locs hP hD hS => ?_)
  replace hP : va_P (dC, dI) vwCl (wX13 g a0 a1 a2 a3 a4 a5 a6 a7 a8 0 uch ufc usv ull ubl uba uea ufa uso udn uw uun usr ube ubs uln ubu unu) H := hP
  replace hD : va_D A (wX13 g a0 a1 a2 a3 a4 a5 a6 a7 a8 0 uch ufc usv ull ubl uba uea ufa uso udn uw uun usr ube ubs uln ubu unu) := hD
  refine lv_iconst (v := 0) F.1 F.2.1 dX13_isConsistent_5 (by decide) ?_
  refine lv_istore_n (lv' := [(1, .int 0), (0, .ref a0)]) F.1 F.2.1 dX13_isConsistent_6 rfl hl (by decide) rfl (fun ls hl => ?_)
  exact tX13_isConsistent_L7 F hr hlocks hE hX hA 0 uch ufc usv ull ubl uba uea ufa uso udn uw uun usr ube ubs uln ubu unu FU 0 h _ _ hP hD hS ls (lv_sub hl [1, 0] rfl)
/-! WireCutterModel.writes -/
def fX13_writes (ull : Int32) (uln : Nat → Int32) (p1 : Int32) : Option (Int32 × (Nat → Int32)) :=
  gd (inR ull 200) <|
  some (ull + 1, upd uln ull.toNatClampNeg (vp_nar .char ((p1.toUInt32 % 65536).toInt32)))
theorem mbX13_writes : MV yX13_writes cX13_writes 2 none 1 := ⟨⟨q2111, q16, by decide +kernel⟩, q2110, qs66⟩
set_option maxHeartbeats 4000000 in
set_option maxRecDepth 100000 in
theorem tX13_writes (l : Launch) (dC : Nat → ClassId) (dI : Nat → Nat → Nat) (g : Nat → ClassId) (a0 a1 a2 a3 a4 a5 a6 a7 a8 : Nat) (uth : Int32) (uch : Int32) (ufc : Int32) (usv : Int32) (ull : Int32) (ubl : Int32) (uba : Int32) (uea : Int32) (ufa : Int32) (uso : Int32) (udn : Int32) (uw : Nat → Int32) (uun : Nat → Int32) (usr : Nat → Int32) (ube : Nat → Int32) (ubs : Nat → Int32) (uln : Nat → Int32) (ubu : Nat → Int32) (unu : Nat → Int32) (p1 : Int32) {r : Int32 × (Nat → Int32)} (h : fX13_writes ull uln p1 = some r) : MU l yX13_writes cX13_writes 2 none 0 0 0 0 dC dI g [.ref a0, .int p1] (wX13 g a0 a1 a2 a3 a4 a5 a6 a7 a8 uth uch ufc usv ull ubl uba uea ufa uso udn uw uun usr ube ubs uln ubu unu) (wX13 g a0 a1 a2 a3 a4 a5 a6 a7 a8 uth uch ufc usv r.1 ubl uba uea ufa uso udn uw uun usr ube ubs r.2 ubu unu) none := by
  refine MU_of (by decide) (Nat.le_of_ble_eq_true rfl) ?_
  intro p e s m below meth c ls F hr hlocks hE hX hA hP hD hS hl
  generalize va_A (wX13 g a0 a1 a2 a3 a4 a5 a6 a7 a8 uth uch ufc usv ull ubl uba uea ufa uso udn uw uun usr ube ubs uln ubu unu) s.heap.size = A at hA hD hS hX ⊢
  replace F : CF p m c cX13_writes 2 s _ RX13 := F
  replace hl : lv_has ls 2 [(0, .ref a0), (1, .int p1)] := hl
  rw [fX13_writes] at h
  refine lv_aload_n F.1 F.2.1 dX13_writes_0 rfl (lv_at hl 0 rfl) ?_
  refine gF (v := .ref a6) F hE hP 0 rfl rfl inX13 9 (by decide) q1693 rfl dX13_writes_1 ?_
  refine lv_aload_n F.1 F.2.1 dX13_writes_4 rfl (lv_at hl 0 rfl) ?_
  refine gF (v := .int ull) F hE hP 0 rfl rfl inX13 10 (by decide) q1694 rfl dX13_writes_5 ?_
  refine lv_iload_n F.1 F.2.1 dX13_writes_8 rfl (lv_at hl 1 rfl) ?_
  refine lv_i2c F.1 F.2.1 dX13_writes_9 rfl ?_
  obtain ⟨k1, h⟩ := gd_ok h
  refine aSc (k := ull.toNatClampNeg) F hE hP hD hS 6 1 rfl rfl k1 rfl dX13_writes_10 (fun H locs hP hD hS => ?_)
  replace hP : va_P (dC, dI) vwCl (wX13 g a0 a1 a2 a3 a4 a5 a6 a7 a8 uth uch ufc usv ull ubl uba uea ufa uso udn uw uun usr ube ubs (upd uln ull.toNatClampNeg (vp_nar .char ((p1.toUInt32 % 65536).toInt32))) ubu unu) H := hP
  replace hD : va_D A (wX13 g a0 a1 a2 a3 a4 a5 a6 a7 a8 uth uch ufc usv ull ubl uba uea ufa uso udn uw uun usr ube ubs (upd uln ull.toNatClampNeg (vp_nar .char ((p1.toUInt32 % 65536).toInt32))) ubu unu) := hD
  refine lv_aload_n F.1 F.2.1 dX13_writes_11 rfl (lv_at hl 0 rfl) ?_
  refine lv_dup F.1 F.2.1 dX13_writes_12 rfl ?_
  refine gF (v := .int ull) F hE hP 0 rfl rfl inX13 10 (by decide) q1694 rfl dX13_writes_13 ?_
  refine lv_iconst (v := 1) F.1 F.2.1 dX13_writes_16 (by decide) ?_
  refine lv_iadd F.1 F.2.1 dX13_writes_17 ?_
  refine pF (v := .int (ull + 1)) F hE hP hD hS 0 rfl rfl inX13 tyX13 tyX13_ok nmX13 10 (by decide) q1694 rfl rfl rfl (Nat.le_of_ble_eq_true rfl) dX13_writes_18 (fun H locs hP hD hS => ?_)
  replace hP : va_P (dC, dI) vwCl (wX13 g a0 a1 a2 a3 a4 a5 a6 a7 a8 uth uch ufc usv (ull + 1) ubl uba uea ufa uso udn uw uun usr ube ubs (upd uln ull.toNatClampNeg (vp_nar .char ((p1.toUInt32 % 65536).toInt32))) ubu unu) H := hP
  replace hD : va_D A (wX13 g a0 a1 a2 a3 a4 a5 a6 a7 a8 uth uch ufc usv (ull + 1) ubl uba uea ufa uso udn uw uun usr ube ubs (upd uln ull.toNatClampNeg (vp_nar .char ((p1.toUInt32 % 65536).toInt32))) ubu unu) := hD
  cases h
  exact MU_v F hr hlocks (Nat.le_refl _) (Nat.le_refl _) hP hS dX13_writes_21
