/-! WireCutterModel.kerf -/
def fX13_kerf (uw : Nat → Int32) : Option (Int32 × Int32) :=
  (fX13_asks uw 5).bind fun z1 =>
  some (z1.1, z1.2)
theorem mbX13_kerf : MV yX13_kerf cX13_kerf 1 (some .int) 0 := ⟨⟨q1942, q16, by decide +kernel⟩, q1940, q1941⟩
set_option maxHeartbeats 4000000 in
set_option maxRecDepth 100000 in
theorem tX13_kerf (l : Launch) (dC : Nat → ClassId) (dI : Nat → Nat → Nat) (g : Nat → ClassId) (a0 a1 a2 a3 a4 a5 a6 a7 a8 : Nat) (uth : Int32) (uch : Int32) (ufc : Int32) (usv : Int32) (ull : Int32) (ubl : Int32) (uba : Int32) (uea : Int32) (ufa : Int32) (uso : Int32) (udn : Int32) (uw : Nat → Int32) (uun : Nat → Int32) (usr : Nat → Int32) (ube : Nat → Int32) (ubs : Nat → Int32) (uln : Nat → Int32) (ubu : Nat → Int32) (unu : Nat → Int32) {r : Int32 × Int32} (h : fX13_kerf uw = some r) : MU l yX13_kerf cX13_kerf 1 (some .int) 1 21 0 0 dC dI g [.ref a0] (wX13 g a0 a1 a2 a3 a4 a5 a6 a7 a8 uth uch ufc usv ull ubl uba uea ufa uso udn uw uun usr ube ubs uln ubu unu) (wX13 g a0 a1 a2 a3 a4 a5 a6 a7 a8 r.2 uch ufc usv ull ubl uba uea ufa uso udn uw uun usr ube ubs uln ubu unu) (some (.int r.1)) := by
  refine MU_of (by decide) (Nat.le_of_ble_eq_true rfl) ?_
  intro p e s m below meth c ls F hr hlocks hE hX hA hP hD hS hl
  generalize va_A (wX13 g a0 a1 a2 a3 a4 a5 a6 a7 a8 uth uch ufc usv ull ubl uba uea ufa uso udn uw uun usr ube ubs uln ubu unu) s.heap.size = A at hA hD hS hX ⊢
  replace F : CF p m c cX13_kerf 1 s _ RX13 := F
  replace hl : lv_has ls 1 [(0, .ref a0)] := hl
  rw [fX13_kerf] at h
  refine lv_aload_n F.1 F.2.1 dX13_kerf_0 rfl (lv_at hl 0 rfl) ?_
  refine lv_iconst (v := 5) F.1 F.2.1 dX13_kerf_1 (by decide) ?_
  obtain ⟨z1, k2, h⟩ := bd_ok h
  refine cMV (As := [.int 5]) (rest := []) (ws' := wX13 g a0 a1 a2 a3 a4 a5 a6 a7 a8 z1.2 uch ufc usv ull ubl uba uea ufa uso udn uw uun usr ube ubs uln ubu unu) F hE hX (tX13_asks l dC dI g a0 a1 a2 a3 a4 a5 a6 a7 a8 uth uch ufc usv ull ubl uba uea ufa uso udn uw uun usr ube ubs uln ubu unu 5 k2) mbX13_asks q1943 ⟨(Nat.le_of_ble_eq_true rfl), (Nat.le_of_ble_eq_true rfl)⟩ ⟨(Nat.le_of_ble_eq_true rfl), (Nat.le_of_ble_eq_true rfl)⟩ hP hD hS hA [0, 1, 2, 3, 4, 5, 6, 7, 8] rfl rfl rfl rfl rfl 0 rfl rfl rfl hl.1 rfl (Nat.le_of_ble_eq_true rfl) dX13_kerf_2 (fun H locs hP hD hS => ?_)
  cases h
  exact MU_i F hr hlocks (Nat.le_refl _) (Nat.le_refl _) hP hS dX13_kerf_5
/-! WireCutterModel.scrapLimit -/
def fX13_scrapLimit (uw : Nat → Int32) : Option (Int32 × Int32) :=
  (fX13_asks uw 6).bind fun z1 =>
  some (z1.1, z1.2)
theorem mbX13_scrapLimit : MV yX13_scrapLimit cX13_scrapLimit 1 (some .int) 0 := ⟨⟨q1950, q16, by decide +kernel⟩, q1948, q1949⟩
set_option maxHeartbeats 4000000 in
set_option maxRecDepth 100000 in
theorem tX13_scrapLimit (l : Launch) (dC : Nat → ClassId) (dI : Nat → Nat → Nat) (g : Nat → ClassId) (a0 a1 a2 a3 a4 a5 a6 a7 a8 : Nat) (uth : Int32) (uch : Int32) (ufc : Int32) (usv : Int32) (ull : Int32) (ubl : Int32) (uba : Int32) (uea : Int32) (ufa : Int32) (uso : Int32) (udn : Int32) (uw : Nat → Int32) (uun : Nat → Int32) (usr : Nat → Int32) (ube : Nat → Int32) (ubs : Nat → Int32) (uln : Nat → Int32) (ubu : Nat → Int32) (unu : Nat → Int32) {r : Int32 × Int32} (h : fX13_scrapLimit uw = some r) : MU l yX13_scrapLimit cX13_scrapLimit 1 (some .int) 1 21 0 0 dC dI g [.ref a0] (wX13 g a0 a1 a2 a3 a4 a5 a6 a7 a8 uth uch ufc usv ull ubl uba uea ufa uso udn uw uun usr ube ubs uln ubu unu) (wX13 g a0 a1 a2 a3 a4 a5 a6 a7 a8 r.2 uch ufc usv ull ubl uba uea ufa uso udn uw uun usr ube ubs uln ubu unu) (some (.int r.1)) := by
  refine MU_of (by decide) (Nat.le_of_ble_eq_true rfl) ?_
  intro p e s m below meth c ls F hr hlocks hE hX hA hP hD hS hl
  generalize va_A (wX13 g a0 a1 a2 a3 a4 a5 a6 a7 a8 uth uch ufc usv ull ubl uba uea ufa uso udn uw uun usr ube ubs uln ubu unu) s.heap.size = A at hA hD hS hX ⊢
  replace F : CF p m c cX13_scrapLimit 1 s _ RX13 := F
  replace hl : lv_has ls 1 [(0, .ref a0)] := hl
  rw [fX13_scrapLimit] at h
  refine lv_aload_n F.1 F.2.1 dX13_scrapLimit_0 rfl (lv_at hl 0 rfl) ?_
  refine lv_bipush (v := 6) F.1 F.2.1 dX13_scrapLimit_1 (by decide) ?_
  obtain ⟨z1, k2, h⟩ := bd_ok h
  refine cMV (As := [.int 6]) (rest := []) (ws' := wX13 g a0 a1 a2 a3 a4 a5 a6 a7 a8 z1.2 uch ufc usv ull ubl uba uea ufa uso udn uw uun usr ube ubs uln ubu unu) F hE hX (tX13_asks l dC dI g a0 a1 a2 a3 a4 a5 a6 a7 a8 uth uch ufc usv ull ubl uba uea ufa uso udn uw uun usr ube ubs uln ubu unu 6 k2) mbX13_asks q1943 ⟨(Nat.le_of_ble_eq_true rfl), (Nat.le_of_ble_eq_true rfl)⟩ ⟨(Nat.le_of_ble_eq_true rfl), (Nat.le_of_ble_eq_true rfl)⟩ hP hD hS hA [0, 1, 2, 3, 4, 5, 6, 7, 8] rfl rfl rfl rfl rfl 0 rfl rfl rfl hl.1 rfl (Nat.le_of_ble_eq_true rfl) dX13_scrapLimit_3 (fun H locs hP hD hS => ?_)
  cases h
  exact MU_i F hr hlocks (Nat.le_refl _) (Nat.le_refl _) hP hS dX13_scrapLimit_6
/-! WireCutterModel.rule -/
def fX13_rule (uw : Nat → Int32) : Option (Int32 × Int32) :=
  (fX13_asks uw 7).bind fun z1 =>
  some ((z1.1.toUInt32 % 65536).toInt32, z1.2)
theorem mbX13_rule : MV yX13_rule cX13_rule 1 (some .char) 0 := ⟨⟨q1954, q16, by decide +kernel⟩, q1952, q1953⟩
set_option maxHeartbeats 4000000 in
set_option maxRecDepth 100000 in
theorem tX13_rule (l : Launch) (dC : Nat → ClassId) (dI : Nat → Nat → Nat) (g : Nat → ClassId) (a0 a1 a2 a3 a4 a5 a6 a7 a8 : Nat) (uth : Int32) (uch : Int32) (ufc : Int32) (usv : Int32) (ull : Int32) (ubl : Int32) (uba : Int32) (uea : Int32) (ufa : Int32) (uso : Int32) (udn : Int32) (uw : Nat → Int32) (uun : Nat → Int32) (usr : Nat → Int32) (ube : Nat → Int32) (ubs : Nat → Int32) (uln : Nat → Int32) (ubu : Nat → Int32) (unu : Nat → Int32) {r : Int32 × Int32} (h : fX13_rule uw = some r) : MU l yX13_rule cX13_rule 1 (some .char) 1 21 0 0 dC dI g [.ref a0] (wX13 g a0 a1 a2 a3 a4 a5 a6 a7 a8 uth uch ufc usv ull ubl uba uea ufa uso udn uw uun usr ube ubs uln ubu unu) (wX13 g a0 a1 a2 a3 a4 a5 a6 a7 a8 r.2 uch ufc usv ull ubl uba uea ufa uso udn uw uun usr ube ubs uln ubu unu) (some (.int r.1)) := by
  refine MU_of (by decide) (Nat.le_of_ble_eq_true rfl) ?_
  intro p e s m below meth c ls F hr hlocks hE hX hA hP hD hS hl
  generalize va_A (wX13 g a0 a1 a2 a3 a4 a5 a6 a7 a8 uth uch ufc usv ull ubl uba uea ufa uso udn uw uun usr ube ubs uln ubu unu) s.heap.size = A at hA hD hS hX ⊢
  replace F : CF p m c cX13_rule 1 s _ RX13 := F
  replace hl : lv_has ls 1 [(0, .ref a0)] := hl
  rw [fX13_rule] at h
  refine lv_aload_n F.1 F.2.1 dX13_rule_0 rfl (lv_at hl 0 rfl) ?_
  refine lv_bipush (v := 7) F.1 F.2.1 dX13_rule_1 (by decide) ?_
  obtain ⟨z1, k2, h⟩ := bd_ok h
  refine cMV (As := [.int 7]) (rest := []) (ws' := wX13 g a0 a1 a2 a3 a4 a5 a6 a7 a8 z1.2 uch ufc usv ull ubl uba uea ufa uso udn uw uun usr ube ubs uln ubu unu) F hE hX (tX13_asks l dC dI g a0 a1 a2 a3 a4 a5 a6 a7 a8 uth uch ufc usv ull ubl uba uea ufa uso udn uw uun usr ube ubs uln ubu unu 7 k2) mbX13_asks q1943 ⟨(Nat.le_of_ble_eq_true rfl), (Nat.le_of_ble_eq_true rfl)⟩ ⟨(Nat.le_of_ble_eq_true rfl), (Nat.le_of_ble_eq_true rfl)⟩ hP hD hS hA [0, 1, 2, 3, 4, 5, 6, 7, 8] rfl rfl rfl rfl rfl 0 rfl rfl rfl hl.1 rfl (Nat.le_of_ble_eq_true rfl) dX13_rule_3 (fun H locs hP hD hS => ?_)
  refine lv_i2c F.1 F.2.1 dX13_rule_6 rfl ?_
  cases h
  exact MU_z (v := ((z1.1.toUInt32 % 65536).toInt32)) F hr hlocks (Nat.le_refl _) (Nat.le_refl _) (pk_nc _) hP hS dX13_rule_7
/-! WireCutterModel.spools -/
def fX13_spools (uw : Nat → Int32) : Option (Int32 × Int32) :=
  (fX13_asks uw 0).bind fun z1 =>
  some (z1.1, z1.2)
theorem mbX13_spools : MV yX13_spools cX13_spools 1 (some .int) 0 := ⟨⟨q1958, q16, by decide +kernel⟩, q1956, q1957⟩
set_option maxHeartbeats 4000000 in
set_option maxRecDepth 100000 in
theorem tX13_spools (l : Launch) (dC : Nat → ClassId) (dI : Nat → Nat → Nat) (g : Nat → ClassId) (a0 a1 a2 a3 a4 a5 a6 a7 a8 : Nat) (uth : Int32) (uch : Int32) (ufc : Int32) (usv : Int32) (ull : Int32) (ubl : Int32) (uba : Int32) (uea : Int32) (ufa : Int32) (uso : Int32) (udn : Int32) (uw : Nat → Int32) (uun : Nat → Int32) (usr : Nat → Int32) (ube : Nat → Int32) (ubs : Nat → Int32) (uln : Nat → Int32) (ubu : Nat → Int32) (unu : Nat → Int32) {r : Int32 × Int32} (h : fX13_spools uw = some r) : MU l yX13_spools cX13_spools 1 (some .int) 1 21 0 0 dC dI g [.ref a0] (wX13 g a0 a1 a2 a3 a4 a5 a6 a7 a8 uth uch ufc usv ull ubl uba uea ufa uso udn uw uun usr ube ubs uln ubu unu) (wX13 g a0 a1 a2 a3 a4 a5 a6 a7 a8 r.2 uch ufc usv ull ubl uba uea ufa uso udn uw uun usr ube ubs uln ubu unu) (some (.int r.1)) := by
  refine MU_of (by decide) (Nat.le_of_ble_eq_true rfl) ?_
  intro p e s m below meth c ls F hr hlocks hE hX hA hP hD hS hl
  generalize va_A (wX13 g a0 a1 a2 a3 a4 a5 a6 a7 a8 uth uch ufc usv ull ubl uba uea ufa uso udn uw uun usr ube ubs uln ubu unu) s.heap.size = A at hA hD hS hX ⊢
  replace F : CF p m c cX13_spools 1 s _ RX13 := F
  replace hl : lv_has ls 1 [(0, .ref a0)] := hl
  rw [fX13_spools] at h
  refine lv_aload_n F.1 F.2.1 dX13_spools_0 rfl (lv_at hl 0 rfl) ?_
  refine lv_iconst (v := 0) F.1 F.2.1 dX13_spools_1 (by decide) ?_
  obtain ⟨z1, k2, h⟩ := bd_ok h
  refine cMV (As := [.int 0]) (rest := []) (ws' := wX13 g a0 a1 a2 a3 a4 a5 a6 a7 a8 z1.2 uch ufc usv ull ubl uba uea ufa uso udn uw uun usr ube ubs uln ubu unu) F hE hX (tX13_asks l dC dI g a0 a1 a2 a3 a4 a5 a6 a7 a8 uth uch ufc usv ull ubl uba uea ufa uso udn uw uun usr ube ubs uln ubu unu 0 k2) mbX13_asks q1943 ⟨(Nat.le_of_ble_eq_true rfl), (Nat.le_of_ble_eq_true rfl)⟩ ⟨(Nat.le_of_ble_eq_true rfl), (Nat.le_of_ble_eq_true rfl)⟩ hP hD hS hA [0, 1, 2, 3, 4, 5, 6, 7, 8] rfl rfl rfl rfl rfl 0 rfl rfl rfl hl.1 rfl (Nat.le_of_ble_eq_true rfl) dX13_spools_2 (fun H locs hP hD hS => ?_)
  cases h
  exact MU_i F hr hlocks (Nat.le_refl _) (Nat.le_refl _) hP hS dX13_spools_5
/-! WireCutterModel.hasSpool -/
def fX13_hasSpool (uw : Nat → Int32) (p1 : Int32) : Option (Int32 × Int32) :=
  (fX13_spoolPlace uw p1).bind fun z1 =>
  if z1 < 0 then
    some (0, 0)
  else
    some (1, 0)
theorem mbX13_hasSpool : MV yX13_hasSpool cX13_hasSpool 2 (some .boolean) 1 := ⟨⟨q1962, q16, by decide +kernel⟩, q1960, q1961⟩
set_option maxHeartbeats 4000000 in
set_option maxRecDepth 100000 in
theorem tX13_hasSpool (l : Launch) (dC : Nat → ClassId) (dI : Nat → Nat → Nat) (g : Nat → ClassId) (a0 a1 a2 a3 a4 a5 a6 a7 a8 : Nat) (uth : Int32) (uch : Int32) (ufc : Int32) (usv : Int32) (ull : Int32) (ubl : Int32) (uba : Int32) (uea : Int32) (ufa : Int32) (uso : Int32) (udn : Int32) (uw : Nat → Int32) (uun : Nat → Int32) (usr : Nat → Int32) (ube : Nat → Int32) (ubs : Nat → Int32) (uln : Nat → Int32) (ubu : Nat → Int32) (unu : Nat → Int32) (p1 : Int32) {r : Int32 × Int32} (h : fX13_hasSpool uw p1 = some r) : MU l yX13_hasSpool cX13_hasSpool 2 (some .boolean) 2 44 0 0 dC dI g [.ref a0, .int p1] (wX13 g a0 a1 a2 a3 a4 a5 a6 a7 a8 uth uch ufc usv ull ubl uba uea ufa uso udn uw uun usr ube ubs uln ubu unu) (wX13 g a0 a1 a2 a3 a4 a5 a6 a7 a8 r.2 uch ufc usv ull ubl uba uea ufa uso udn uw uun usr ube ubs uln ubu unu) (some (.int r.1)) := by
  refine MU_of (by decide) (Nat.le_of_ble_eq_true rfl) ?_
  intro p e s m below meth c ls F hr hlocks hE hX hA hP hD hS hl
  generalize va_A (wX13 g a0 a1 a2 a3 a4 a5 a6 a7 a8 uth uch ufc usv ull ubl uba uea ufa uso udn uw uun usr ube ubs uln ubu unu) s.heap.size = A at hA hD hS hX ⊢
  replace F : CF p m c cX13_hasSpool 2 s _ RX13 := F
  replace hl : lv_has ls 2 [(0, .ref a0), (1, .int p1)] := hl
  rw [fX13_hasSpool] at h
  refine lv_aload_n F.1 F.2.1 dX13_hasSpool_0 rfl (lv_at hl 0 rfl) ?_
  refine lv_iconst (v := 0) F.1 F.2.1 dX13_hasSpool_1 (by decide) ?_
  refine pF (v := .int 0) F hE hP hD hS 0 rfl rfl inX13 tyX13 tyX13_ok nmX13 0 (by decide) q1684 rfl rfl rfl (Nat.le_of_ble_eq_true rfl) dX13_hasSpool_2 (fun H locs hP hD hS => ?_)
  replace hP : va_P (dC, dI) vwCl (wX13 g a0 a1 a2 a3 a4 a5 a6 a7 a8 0 uch ufc usv ull ubl uba uea ufa uso udn uw uun usr ube ubs uln ubu unu) H := hP
  replace hD : va_D A (wX13 g a0 a1 a2 a3 a4 a5 a6 a7 a8 0 uch ufc usv ull ubl uba uea ufa uso udn uw uun usr ube ubs uln ubu unu) := hD
  refine lv_aload_n F.1 F.2.1 dX13_hasSpool_5 rfl (lv_at hl 0 rfl) ?_
  refine lv_iload_n F.1 F.2.1 dX13_hasSpool_6 rfl (lv_at hl 1 rfl) ?_
  obtain ⟨z1, k2, h⟩ := bd_ok h
  refine cRV (As := [.int p1]) (rest := []) F hE hX hS (tX13_spoolPlace l dC dI g a0 a1 a2 a3 a4 a5 a6 a7 a8 0 uch ufc usv ull ubl uba uea ufa uso udn uw uun usr ube ubs uln ubu unu p1 k2) mbX13_spoolPlace q1784 ⟨(Nat.le_of_ble_eq_true rfl), (Nat.le_of_ble_eq_true rfl)⟩ ⟨Nat.zero_le _, Nat.zero_le _⟩ hP [0, 1, 2, 3, 4, 5, 6, 7, 8] rfl 0 rfl rfl rfl hl.1 rfl (Nat.le_of_ble_eq_true rfl) dX13_hasSpool_7 ?_
  refine lv_if_lt (tgt := 17) F.1 F.2.1 dX13_hasSpool_10 (by decide) (fun k3 => ?_) (fun k3 => ?_)
  · replace h := it_t k3 h
    refine lv_iconst (v := 0) F.1 F.2.1 dX13_hasSpool_17 (by decide) ?_
    cases h
    exact MU_z (v := 0) F hr hlocks (Nat.le_refl _) (Nat.le_refl _) rfl hP hS dX13_hasSpool_18
  · replace h := it_f k3 h
    refine lv_iconst (v := 1) F.1 F.2.1 dX13_hasSpool_13 (by decide) ?_
    refine lv_goto (tgt := 18) F.1 F.2.1 dX13_hasSpool_14 (by decide) ?_
    cases h
    exact MU_z (v := 1) F hr hlocks (Nat.le_refl _) (Nat.le_refl _) rfl hP hS dX13_hasSpool_18
/-! WireCutterModel.asksSpool -/
def fX13_asksSpool (uw : Nat → Int32) (p1 : Int32) (p2 : Int32) : Option (Int32 × Int32) :=
  (fX13_spoolPlace uw p1).bind fun z1 =>
  if 0 ≤ z1 then
    (fX13_spoolPlace uw p1).bind fun z4 =>
    (fX13_spoolAt uw z4 p2).bind fun z6 =>
    some (z6, 0)
  else
    (fX13_fails 1).bind fun z8 =>
    some (z8.1, z8.2)
theorem mbX13_asksSpool : MV yX13_asksSpool cX13_asksSpool 3 (some .int) 2 := ⟨⟨q1970, q16, by decide +kernel⟩, q1969, qs57⟩
set_option maxHeartbeats 4000000 in
set_option maxRecDepth 100000 in
theorem tX13_asksSpool (l : Launch) (dC : Nat → ClassId) (dI : Nat → Nat → Nat) (g : Nat → ClassId) (a0 a1 a2 a3 a4 a5 a6 a7 a8 : Nat) (uth : Int32) (uch : Int32) (ufc : Int32) (usv : Int32) (ull : Int32) (ubl : Int32) (uba : Int32) (uea : Int32) (ufa : Int32) (uso : Int32) (udn : Int32) (uw : Nat → Int32) (uun : Nat → Int32) (usr : Nat → Int32) (ube : Nat → Int32) (ubs : Nat → Int32) (uln : Nat → Int32) (ubu : Nat → Int32) (unu : Nat → Int32) (p1 : Int32) (p2 : Int32) {r : Int32 × Int32} (h : fX13_asksSpool uw p1 p2 = some r) : MU l yX13_asksSpool cX13_asksSpool 3 (some .int) 2 44 0 0 dC dI g [.ref a0, .int p1, .int p2] (wX13 g a0 a1 a2 a3 a4 a5 a6 a7 a8 uth uch ufc usv ull ubl uba uea ufa uso udn uw uun usr ube ubs uln ubu unu) (wX13 g a0 a1 a2 a3 a4 a5 a6 a7 a8 r.2 uch ufc usv ull ubl uba uea ufa uso udn uw uun usr ube ubs uln ubu unu) (some (.int r.1)) := by
  refine MU_of (by decide) (Nat.le_of_ble_eq_true rfl) ?_
  intro p e s m below meth c ls F hr hlocks hE hX hA hP hD hS hl
  generalize va_A (wX13 g a0 a1 a2 a3 a4 a5 a6 a7 a8 uth uch ufc usv ull ubl uba uea ufa uso udn uw uun usr ube ubs uln ubu unu) s.heap.size = A at hA hD hS hX ⊢
  replace F : CF p m c cX13_asksSpool 3 s _ RX13 := F
  replace hl : lv_has ls 3 [(0, .ref a0), (1, .int p1), (2, .int p2)] := hl
  rw [fX13_asksSpool] at h
  refine lv_aload_n F.1 F.2.1 dX13_asksSpool_0 rfl (lv_at hl 0 rfl) ?_
  refine lv_iconst (v := 0) F.1 F.2.1 dX13_asksSpool_1 (by decide) ?_
  refine pF (v := .int 0) F hE hP hD hS 0 rfl rfl inX13 tyX13 tyX13_ok nmX13 0 (by decide) q1684 rfl rfl rfl (Nat.le_of_ble_eq_true rfl) dX13_asksSpool_2 (fun H locs hP hD hS => ?_)
  replace hP : va_P (dC, dI) vwCl (wX13 g a0 a1 a2 a3 a4 a5 a6 a7 a8 0 uch ufc usv ull ubl uba uea ufa uso udn uw uun usr ube ubs uln ubu unu) H := hP
  replace hD : va_D A (wX13 g a0 a1 a2 a3 a4 a5 a6 a7 a8 0 uch ufc usv ull ubl uba uea ufa uso udn uw uun usr ube ubs uln ubu unu) := hD
  refine lv_aload_n F.1 F.2.1 dX13_asksSpool_5 rfl (lv_at hl 0 rfl) ?_
  refine lv_iload_n F.1 F.2.1 dX13_asksSpool_6 rfl (lv_at hl 1 rfl) ?_
  obtain ⟨z1, k2, h⟩ := bd_ok h
  refine cRV (As := [.int p1]) (rest := []) F hE hX hS (tX13_spoolPlace l dC dI g a0 a1 a2 a3 a4 a5 a6 a7 a8 0 uch ufc usv ull ubl uba uea ufa uso udn uw uun usr ube ubs uln ubu unu p1 k2) mbX13_spoolPlace q1784 ⟨(Nat.le_of_ble_eq_true rfl), (Nat.le_of_ble_eq_true rfl)⟩ ⟨Nat.zero_le _, Nat.zero_le _⟩ hP [0, 1, 2, 3, 4, 5, 6, 7, 8] rfl 0 rfl rfl rfl hl.1 rfl (Nat.le_of_ble_eq_true rfl) dX13_asksSpool_7 ?_
  refine lv_if_ge (tgt := 21) F.1 F.2.1 dX13_asksSpool_10 (by decide) (fun k3 => ?_) (fun k3 => ?_)
  · replace h := it_t k3 h
    refine lv_aload_n F.1 F.2.1 dX13_asksSpool_21 rfl (lv_at hl 0 rfl) ?_
    refine lv_aload_n F.1 F.2.1 dX13_asksSpool_22 rfl (lv_at hl 0 rfl) ?_
    refine lv_iload_n F.1 F.2.1 dX13_asksSpool_23 rfl (lv_at hl 1 rfl) ?_
    obtain ⟨z4, k5, h⟩ := bd_ok h
    refine cRV (As := [.int p1]) (rest := [.ref a0]) F hE hX hS (tX13_spoolPlace l dC dI g a0 a1 a2 a3 a4 a5 a6 a7 a8 0 uch ufc usv ull ubl uba uea ufa uso udn uw uun usr ube ubs uln ubu unu p1 k5) mbX13_spoolPlace q1784 ⟨(Nat.le_of_ble_eq_true rfl), (Nat.le_of_ble_eq_true rfl)⟩ ⟨Nat.zero_le _, Nat.zero_le _⟩ hP [0, 1, 2, 3, 4, 5, 6, 7, 8] rfl 0 rfl rfl rfl hl.1 rfl (Nat.le_of_ble_eq_true rfl) dX13_asksSpool_24 ?_
    refine lv_iload_n F.1 F.2.1 dX13_asksSpool_27 rfl (lv_at hl 2 rfl) ?_
    obtain ⟨z6, k7, h⟩ := bd_ok h
    refine cRV (As := [.int z4, .int p2]) (rest := []) F hE hX hS (tX13_spoolAt l dC dI g a0 a1 a2 a3 a4 a5 a6 a7 a8 0 uch ufc usv ull ubl uba uea ufa uso udn uw uun usr ube ubs uln ubu unu z4 p2 k7) mbX13_spoolAt q1788 ⟨(Nat.le_of_ble_eq_true rfl), (Nat.le_of_ble_eq_true rfl)⟩ ⟨Nat.zero_le _, Nat.zero_le _⟩ hP [0, 1, 2, 3, 4, 5, 6, 7, 8] rfl 0 rfl rfl rfl hl.1 rfl (Nat.le_of_ble_eq_true rfl) dX13_asksSpool_28 ?_
    cases h
    exact MU_i F hr hlocks (Nat.le_refl _) (Nat.le_refl _) hP hS dX13_asksSpool_31
  · replace h := it_f k3 h
    refine lv_aload_n F.1 F.2.1 dX13_asksSpool_13 rfl (lv_at hl 0 rfl) ?_
    refine lv_iconst (v := 1) F.1 F.2.1 dX13_asksSpool_14 (by decide) ?_
    obtain ⟨z8, k9, h⟩ := bd_ok h
    refine cMV (As := [.int 1]) (rest := []) (ws' := wX13 g a0 a1 a2 a3 a4 a5 a6 a7 a8 z8.2 uch ufc usv ull ubl uba uea ufa uso udn uw uun usr ube ubs uln ubu unu) F hE hX (tX13_fails l dC dI g a0 a1 a2 a3 a4 a5 a6 a7 a8 0 uch ufc usv ull ubl uba uea ufa uso udn uw uun usr ube ubs uln ubu unu 1 k9) mbX13_fails q1756 ⟨(Nat.le_of_ble_eq_true rfl), (Nat.le_of_ble_eq_true rfl)⟩ ⟨(Nat.le_of_ble_eq_true rfl), (Nat.le_of_ble_eq_true rfl)⟩ hP hD hS hA [0, 1, 2, 3, 4, 5, 6, 7, 8] rfl rfl rfl rfl rfl 0 rfl rfl rfl hl.1 rfl (Nat.le_of_ble_eq_true rfl) dX13_asksSpool_15 (fun H locs hP hD hS => ?_)
    refine lv_goto (tgt := 31) F.1 F.2.1 dX13_asksSpool_18 (by decide) ?_
    cases h
    exact MU_i F hr hlocks (Nat.le_refl _) (Nat.le_refl _) hP hS dX13_asksSpool_31
/-! WireCutterModel.material -/
def fX13_material (uw : Nat → Int32) (p1 : Int32) : Option (Int32 × Int32) :=
  (fX13_asksSpool uw p1 1).bind fun z1 =>
  if z1.2 = 0 then
    some (((97 + z1.1).toUInt32 % 65536).toInt32, z1.2)
  else
    some (0, z1.2)
theorem mbX13_material : MV yX13_material cX13_material 3 (some .char) 1 := ⟨⟨q1966, q16, by decide +kernel⟩, q1964, q1965⟩
set_option maxHeartbeats 4000000 in
set_option maxRecDepth 100000 in
theorem tX13_material (l : Launch) (dC : Nat → ClassId) (dI : Nat → Nat → Nat) (g : Nat → ClassId) (a0 a1 a2 a3 a4 a5 a6 a7 a8 : Nat) (uth : Int32) (uch : Int32) (ufc : Int32) (usv : Int32) (ull : Int32) (ubl : Int32) (uba : Int32) (uea : Int32) (ufa : Int32) (uso : Int32) (udn : Int32) (uw : Nat → Int32) (uun : Nat → Int32) (usr : Nat → Int32) (ube : Nat → Int32) (ubs : Nat → Int32) (uln : Nat → Int32) (ubu : Nat → Int32) (unu : Nat → Int32) (p1 : Int32) {r : Int32 × Int32} (h : fX13_material uw p1 = some r) : MU l yX13_material cX13_material 3 (some .char) 3 66 0 0 dC dI g [.ref a0, .int p1] (wX13 g a0 a1 a2 a3 a4 a5 a6 a7 a8 uth uch ufc usv ull ubl uba uea ufa uso udn uw uun usr ube ubs uln ubu unu) (wX13 g a0 a1 a2 a3 a4 a5 a6 a7 a8 r.2 uch ufc usv ull ubl uba uea ufa uso udn uw uun usr ube ubs uln ubu unu) (some (.int r.1)) := by
  refine MU_of (by decide) (Nat.le_of_ble_eq_true rfl) ?_
  intro p e s m below meth c ls F hr hlocks hE hX hA hP hD hS hl
  generalize va_A (wX13 g a0 a1 a2 a3 a4 a5 a6 a7 a8 uth uch ufc usv ull ubl uba uea ufa uso udn uw uun usr ube ubs uln ubu unu) s.heap.size = A at hA hD hS hX ⊢
  replace F : CF p m c cX13_material 3 s _ RX13 := F
  replace hl : lv_has ls 3 [(0, .ref a0), (1, .int p1)] := hl
  rw [fX13_material] at h
  refine lv_aload_n F.1 F.2.1 dX13_material_0 rfl (lv_at hl 0 rfl) ?_
  refine lv_iload_n F.1 F.2.1 dX13_material_1 rfl (lv_at hl 1 rfl) ?_
  refine lv_iconst (v := 1) F.1 F.2.1 dX13_material_2 (by decide) ?_
  obtain ⟨z1, k2, h⟩ := bd_ok h
  refine cMV (As := [.int p1, .int 1]) (rest := []) (ws' := wX13 g a0 a1 a2 a3 a4 a5 a6 a7 a8 z1.2 uch ufc usv ull ubl uba uea ufa uso udn uw uun usr ube ubs uln ubu unu) F hE hX (tX13_asksSpool l dC dI g a0 a1 a2 a3 a4 a5 a6 a7 a8 uth uch ufc usv ull ubl uba uea ufa uso udn uw uun usr ube ubs uln ubu unu p1 1 k2) mbX13_asksSpool q1967 ⟨(Nat.le_of_ble_eq_true rfl), (Nat.le_of_ble_eq_true rfl)⟩ ⟨(Nat.le_of_ble_eq_true rfl), (Nat.le_of_ble_eq_true rfl)⟩ hP hD hS hA [0, 1, 2, 3, 4, 5, 6, 7, 8] rfl rfl rfl rfl rfl 0 rfl rfl rfl hl.1 rfl (Nat.le_of_ble_eq_true rfl) dX13_material_3 (fun H locs hP hD hS => ?_)
  refine lv_istore_n (lv' := [(2, .int z1.1), (0, .ref a0), (1, .int p1)]) F.1 F.2.1 dX13_material_6 rfl hl (by decide) rfl (fun ls hl => ?_)
  refine lv_aload_n F.1 F.2.1 dX13_material_7 rfl (lv_at hl 1 rfl) ?_
  refine gF (v := .int z1.2) F hE hP 0 rfl rfl inX13 0 (by decide) q1684 rfl dX13_material_8 ?_
  refine lv_if_eq (tgt := 16) F.1 F.2.1 dX13_material_11 (by decide) (fun k3 => ?_) (fun k3 => ?_)
  · replace h := it_t k3 h
    refine lv_bipush (v := 97) F.1 F.2.1 dX13_material_16 (by decide) ?_
    refine lv_iload_n F.1 F.2.1 dX13_material_18 rfl (lv_at hl 0 rfl) ?_
    refine lv_iadd F.1 F.2.1 dX13_material_19 ?_
    refine lv_i2c F.1 F.2.1 dX13_material_20 rfl ?_
    cases h
    exact MU_z (v := (((97 + z1.1).toUInt32 % 65536).toInt32)) F hr hlocks (Nat.le_refl _) (Nat.le_refl _) (pk_nc _) hP hS dX13_material_21
  · replace h := it_f k3 h
    refine lv_iconst (v := 0) F.1 F.2.1 dX13_material_14 (by decide) ?_
    cases h
    exact MU_z (v := 0) F hr hlocks (Nat.le_refl _) (Nat.le_refl _) rfl hP hS dX13_material_15
/-! WireCutterModel.remaining -/
def fX13_remaining (uw : Nat → Int32) (p1 : Int32) : Option (Int32 × Int32) :=
  (fX13_asksSpool uw p1 2).bind fun z1 =>
  some (z1.1, z1.2)
theorem mbX13_remaining : MV yX13_remaining cX13_remaining 2 (some .int) 1 := ⟨⟨q1974, q16, by decide +kernel⟩, q1972, q1973⟩
set_option maxHeartbeats 4000000 in
set_option maxRecDepth 100000 in
theorem tX13_remaining (l : Launch) (dC : Nat → ClassId) (dI : Nat → Nat → Nat) (g : Nat → ClassId) (a0 a1 a2 a3 a4 a5 a6 a7 a8 : Nat) (uth : Int32) (uch : Int32) (ufc : Int32) (usv : Int32) (ull : Int32) (ubl : Int32) (uba : Int32) (uea : Int32) (ufa : Int32) (uso : Int32) (udn : Int32) (uw : Nat → Int32) (uun : Nat → Int32) (usr : Nat → Int32) (ube : Nat → Int32) (ubs : Nat → Int32) (uln : Nat → Int32) (ubu : Nat → Int32) (unu : Nat → Int32) (p1 : Int32) {r : Int32 × Int32} (h : fX13_remaining uw p1 = some r) : MU l yX13_remaining cX13_remaining 2 (some .int) 3 66 0 0 dC dI g [.ref a0, .int p1] (wX13 g a0 a1 a2 a3 a4 a5 a6 a7 a8 uth uch ufc usv ull ubl uba uea ufa uso udn uw uun usr ube ubs uln ubu unu) (wX13 g a0 a1 a2 a3 a4 a5 a6 a7 a8 r.2 uch ufc usv ull ubl uba uea ufa uso udn uw uun usr ube ubs uln ubu unu) (some (.int r.1)) := by
  refine MU_of (by decide) (Nat.le_of_ble_eq_true rfl) ?_
  intro p e s m below meth c ls F hr hlocks hE hX hA hP hD hS hl
  generalize va_A (wX13 g a0 a1 a2 a3 a4 a5 a6 a7 a8 uth uch ufc usv ull ubl uba uea ufa uso udn uw uun usr ube ubs uln ubu unu) s.heap.size = A at hA hD hS hX ⊢
  replace F : CF p m c cX13_remaining 2 s _ RX13 := F
  replace hl : lv_has ls 2 [(0, .ref a0), (1, .int p1)] := hl
  rw [fX13_remaining] at h
  refine lv_aload_n F.1 F.2.1 dX13_remaining_0 rfl (lv_at hl 0 rfl) ?_
  refine lv_iload_n F.1 F.2.1 dX13_remaining_1 rfl (lv_at hl 1 rfl) ?_
  refine lv_iconst (v := 2) F.1 F.2.1 dX13_remaining_2 (by decide) ?_
  obtain ⟨z1, k2, h⟩ := bd_ok h
  refine cMV (As := [.int p1, .int 2]) (rest := []) (ws' := wX13 g a0 a1 a2 a3 a4 a5 a6 a7 a8 z1.2 uch ufc usv ull ubl uba uea ufa uso udn uw uun usr ube ubs uln ubu unu) F hE hX (tX13_asksSpool l dC dI g a0 a1 a2 a3 a4 a5 a6 a7 a8 uth uch ufc usv ull ubl uba uea ufa uso udn uw uun usr ube ubs uln ubu unu p1 2 k2) mbX13_asksSpool q1967 ⟨(Nat.le_of_ble_eq_true rfl), (Nat.le_of_ble_eq_true rfl)⟩ ⟨(Nat.le_of_ble_eq_true rfl), (Nat.le_of_ble_eq_true rfl)⟩ hP hD hS hA [0, 1, 2, 3, 4, 5, 6, 7, 8] rfl rfl rfl rfl rfl 0 rfl rfl rfl hl.1 rfl (Nat.le_of_ble_eq_true rfl) dX13_remaining_3 (fun H locs hP hD hS => ?_)
  cases h
  exact MU_i F hr hlocks (Nat.le_refl _) (Nat.le_refl _) hP hS dX13_remaining_6
/-! WireCutterModel.cuts -/
def fX13_cuts (uw : Nat → Int32) (p1 : Int32) : Option (Int32 × Int32) :=
  (fX13_asksSpool uw p1 3).bind fun z1 =>
  some (z1.1, z1.2)
theorem mbX13_cuts : MV yX13_cuts cX13_cuts 2 (some .int) 1 := ⟨⟨q1978, q16, by decide +kernel⟩, q1976, q1977⟩
set_option maxHeartbeats 4000000 in
set_option maxRecDepth 100000 in
theorem tX13_cuts (l : Launch) (dC : Nat → ClassId) (dI : Nat → Nat → Nat) (g : Nat → ClassId) (a0 a1 a2 a3 a4 a5 a6 a7 a8 : Nat) (uth : Int32) (uch : Int32) (ufc : Int32) (usv : Int32) (ull : Int32) (ubl : Int32) (uba : Int32) (uea : Int32) (ufa : Int32) (uso : Int32) (udn : Int32) (uw : Nat → Int32) (uun : Nat → Int32) (usr : Nat → Int32) (ube : Nat → Int32) (ubs : Nat → Int32) (uln : Nat → Int32) (ubu : Nat → Int32) (unu : Nat → Int32) (p1 : Int32) {r : Int32 × Int32} (h : fX13_cuts uw p1 = some r) : MU l yX13_cuts cX13_cuts 2 (some .int) 3 66 0 0 dC dI g [.ref a0, .int p1] (wX13 g a0 a1 a2 a3 a4 a5 a6 a7 a8 uth uch ufc usv ull ubl uba uea ufa uso udn uw uun usr ube ubs uln ubu unu) (wX13 g a0 a1 a2 a3 a4 a5 a6 a7 a8 r.2 uch ufc usv ull ubl uba uea ufa uso udn uw uun usr ube ubs uln ubu unu) (some (.int r.1)) := by
  refine MU_of (by decide) (Nat.le_of_ble_eq_true rfl) ?_
  intro p e s m below meth c ls F hr hlocks hE hX hA hP hD hS hl
  generalize va_A (wX13 g a0 a1 a2 a3 a4 a5 a6 a7 a8 uth uch ufc usv ull ubl uba uea ufa uso udn uw uun usr ube ubs uln ubu unu) s.heap.size = A at hA hD hS hX ⊢
  replace F : CF p m c cX13_cuts 2 s _ RX13 := F
  replace hl : lv_has ls 2 [(0, .ref a0), (1, .int p1)] := hl
  rw [fX13_cuts] at h
  refine lv_aload_n F.1 F.2.1 dX13_cuts_0 rfl (lv_at hl 0 rfl) ?_
  refine lv_iload_n F.1 F.2.1 dX13_cuts_1 rfl (lv_at hl 1 rfl) ?_
  refine lv_iconst (v := 3) F.1 F.2.1 dX13_cuts_2 (by decide) ?_
  obtain ⟨z1, k2, h⟩ := bd_ok h
  refine cMV (As := [.int p1, .int 3]) (rest := []) (ws' := wX13 g a0 a1 a2 a3 a4 a5 a6 a7 a8 z1.2 uch ufc usv ull ubl uba uea ufa uso udn uw uun usr ube ubs uln ubu unu) F hE hX (tX13_asksSpool l dC dI g a0 a1 a2 a3 a4 a5 a6 a7 a8 uth uch ufc usv ull ubl uba uea ufa uso udn uw uun usr ube ubs uln ubu unu p1 3 k2) mbX13_asksSpool q1967 ⟨(Nat.le_of_ble_eq_true rfl), (Nat.le_of_ble_eq_true rfl)⟩ ⟨(Nat.le_of_ble_eq_true rfl), (Nat.le_of_ble_eq_true rfl)⟩ hP hD hS hA [0, 1, 2, 3, 4, 5, 6, 7, 8] rfl rfl rfl rfl rfl 0 rfl rfl rfl hl.1 rfl (Nat.le_of_ble_eq_true rfl) dX13_cuts_3 (fun H locs hP hD hS => ?_)
  cases h
  exact MU_i F hr hlocks (Nat.le_refl _) (Nat.le_refl _) hP hS dX13_cuts_6
/-! WireCutterModel.isAhead -/
def fX13_isAhead (uw : Nat → Int32) (p1 : Int32) (p2 : Int32) : Option (Int32) :=
  (fX13_spoolAt uw p1 2).bind fun z1 =>
  (fX13_spoolAt uw p2 2).bind fun z3 =>
  (fX13_spoolAt uw p2 1).bind fun z5 =>
  (fX13_spoolAt uw p1 1).bind fun z7 =>
  if (z1 - z3) = 0 then
    if (z5 - z7) = 0 then
      if p2 ≤ p1 then
        some (0)
      else
        some (1)
    else
      if (z5 - z7) ≤ 0 then
        some (0)
      else
        some (1)
  else
    if (z1 - z3) ≤ 0 then
      some (0)
    else
      some (1)
theorem mbX13_isAhead : MV yX13_isAhead cX13_isAhead 5 (some .boolean) 2 := ⟨⟨q1986, q16, by decide +kernel⟩, q1985, qs58⟩
set_option maxHeartbeats 4000000 in
set_option maxRecDepth 100000 in
theorem tX13_isAhead (l : Launch) (dC : Nat → ClassId) (dI : Nat → Nat → Nat) (g : Nat → ClassId) (a0 a1 a2 a3 a4 a5 a6 a7 a8 : Nat) (uth : Int32) (uch : Int32) (ufc : Int32) (usv : Int32) (ull : Int32) (ubl : Int32) (uba : Int32) (uea : Int32) (ufa : Int32) (uso : Int32) (udn : Int32) (uw : Nat → Int32) (uun : Nat → Int32) (usr : Nat → Int32) (ube : Nat → Int32) (ubs : Nat → Int32) (uln : Nat → Int32) (ubu : Nat → Int32) (unu : Nat → Int32) (p1 : Int32) (p2 : Int32) {r : Int32} (h : fX13_isAhead uw p1 p2 = some r) : RO l yX13_isAhead cX13_isAhead 5 (some .boolean) 1 22 dC dI g [.ref a0, .int p1, .int p2] (wX13 g a0 a1 a2 a3 a4 a5 a6 a7 a8 uth uch ufc usv ull ubl uba uea ufa uso udn uw uun usr ube ubs uln ubu unu) (some (.int r)) := by
  refine RO_of (by decide) (Nat.le_of_ble_eq_true rfl) ?_
  intro p e s m below meth c ls F hr hlocks hE hX hP hl
  replace F : CF p m c cX13_isAhead 5 s _ RX13 := F
  replace hl : lv_has ls 5 [(0, .ref a0), (1, .int p1), (2, .int p2)] := hl
  rw [fX13_isAhead] at h
  refine lv_aload_n F.1 F.2.1 dX13_isAhead_0 rfl (lv_at hl 0 rfl) ?_
  refine lv_iload_n F.1 F.2.1 dX13_isAhead_1 rfl (lv_at hl 1 rfl) ?_
  refine lv_iconst (v := 2) F.1 F.2.1 dX13_isAhead_2 (by decide) ?_
  obtain ⟨z1, k2, h⟩ := bd_ok h
  refine cRV (As := [.int p1, .int 2]) (rest := []) F hE hX va_S.rf (tX13_spoolAt l dC dI g a0 a1 a2 a3 a4 a5 a6 a7 a8 uth uch ufc usv ull ubl uba uea ufa uso udn uw uun usr ube ubs uln ubu unu p1 2 k2) mbX13_spoolAt q1788 ⟨(Nat.le_of_ble_eq_true rfl), (Nat.le_of_ble_eq_true rfl)⟩ ⟨Nat.zero_le _, Nat.zero_le _⟩ hP [0, 1, 2, 3, 4, 5, 6, 7, 8] rfl 0 rfl rfl rfl hl.1 rfl (Nat.le_of_ble_eq_true rfl) dX13_isAhead_3 ?_
  refine lv_aload_n F.1 F.2.1 dX13_isAhead_6 rfl (lv_at hl 0 rfl) ?_
  refine lv_iload_n F.1 F.2.1 dX13_isAhead_7 rfl (lv_at hl 2 rfl) ?_
  refine lv_iconst (v := 2) F.1 F.2.1 dX13_isAhead_8 (by decide) ?_
  obtain ⟨z3, k4, h⟩ := bd_ok h
  refine cRV (As := [.int p2, .int 2]) (rest := [.int z1]) F hE hX va_S.rf (tX13_spoolAt l dC dI g a0 a1 a2 a3 a4 a5 a6 a7 a8 uth uch ufc usv ull ubl uba uea ufa uso udn uw uun usr ube ubs uln ubu unu p2 2 k4) mbX13_spoolAt q1788 ⟨(Nat.le_of_ble_eq_true rfl), (Nat.le_of_ble_eq_true rfl)⟩ ⟨Nat.zero_le _, Nat.zero_le _⟩ hP [0, 1, 2, 3, 4, 5, 6, 7, 8] rfl 0 rfl rfl rfl hl.1 rfl (Nat.le_of_ble_eq_true rfl) dX13_isAhead_9 ?_
  refine lv_isub F.1 F.2.1 dX13_isAhead_12 ?_
  refine lv_istore_n (lv' := [(3, .int (z1 - z3)), (0, .ref a0), (1, .int p1), (2, .int p2)]) F.1 F.2.1 dX13_isAhead_13 rfl hl (by decide) rfl (fun ls hl => ?_)
  refine lv_aload_n F.1 F.2.1 dX13_isAhead_14 rfl (lv_at hl 1 rfl) ?_
  refine lv_iload_n F.1 F.2.1 dX13_isAhead_15 rfl (lv_at hl 3 rfl) ?_
  refine lv_iconst (v := 1) F.1 F.2.1 dX13_isAhead_16 (by decide) ?_
  obtain ⟨z5, k6, h⟩ := bd_ok h
  refine cRV (As := [.int p2, .int 1]) (rest := []) F hE hX va_S.rf (tX13_spoolAt l dC dI g a0 a1 a2 a3 a4 a5 a6 a7 a8 uth uch ufc usv ull ubl uba uea ufa uso udn uw uun usr ube ubs uln ubu unu p2 1 k6) mbX13_spoolAt q1788 ⟨(Nat.le_of_ble_eq_true rfl), (Nat.le_of_ble_eq_true rfl)⟩ ⟨Nat.zero_le _, Nat.zero_le _⟩ hP [0, 1, 2, 3, 4, 5, 6, 7, 8] rfl 0 rfl rfl rfl hl.1 rfl (Nat.le_of_ble_eq_true rfl) dX13_isAhead_17 ?_
  refine lv_aload_n F.1 F.2.1 dX13_isAhead_20 rfl (lv_at hl 1 rfl) ?_
  refine lv_iload_n F.1 F.2.1 dX13_isAhead_21 rfl (lv_at hl 2 rfl) ?_
  refine lv_iconst (v := 1) F.1 F.2.1 dX13_isAhead_22 (by decide) ?_
  obtain ⟨z7, k8, h⟩ := bd_ok h
  refine cRV (As := [.int p1, .int 1]) (rest := [.int z5]) F hE hX va_S.rf (tX13_spoolAt l dC dI g a0 a1 a2 a3 a4 a5 a6 a7 a8 uth uch ufc usv ull ubl uba uea ufa uso udn uw uun usr ube ubs uln ubu unu p1 1 k8) mbX13_spoolAt q1788 ⟨(Nat.le_of_ble_eq_true rfl), (Nat.le_of_ble_eq_true rfl)⟩ ⟨Nat.zero_le _, Nat.zero_le _⟩ hP [0, 1, 2, 3, 4, 5, 6, 7, 8] rfl 0 rfl rfl rfl hl.1 rfl (Nat.le_of_ble_eq_true rfl) dX13_isAhead_23 ?_
  refine lv_isub F.1 F.2.1 dX13_isAhead_26 ?_
  refine lv_istore (lv' := [(4, .int (z5 - z7)), (3, .int (z1 - z3)), (0, .ref a0), (1, .int p1), (2, .int p2)]) F.1 F.2.1 dX13_isAhead_27 hl (by decide) rfl (fun ls hl => ?_)
  refine lv_iload_n F.1 F.2.1 dX13_isAhead_29 rfl (lv_at hl 1 rfl) ?_
  refine lv_if_eq (tgt := 43) F.1 F.2.1 dX13_isAhead_30 (by decide) (fun k9 => ?_) (fun k9 => ?_)
  · replace h := it_t k9 h
    refine lv_iload F.1 F.2.1 dX13_isAhead_43 (lv_at hl 0 rfl) ?_
    refine lv_if_eq (tgt := 61) F.1 F.2.1 dX13_isAhead_45 (by decide) (fun k10 => ?_) (fun k10 => ?_)
    · replace h := it_t k10 h
      refine lv_iload_n F.1 F.2.1 dX13_isAhead_61 rfl (lv_at hl 3 rfl) ?_
      refine lv_iload_n F.1 F.2.1 dX13_isAhead_62 rfl (lv_at hl 4 rfl) ?_
      refine lv_icmp_ge (tgt := 70) F.1 F.2.1 dX13_isAhead_63 (by decide) (fun k11 => ?_) (fun k11 => ?_)
      · replace h := it_t k11 h
        refine lv_iconst (v := 0) F.1 F.2.1 dX13_isAhead_70 (by decide) ?_
        cases h
        exact RO_z F hr hlocks rfl dX13_isAhead_71
      · replace h := it_f k11 h
        refine lv_iconst (v := 1) F.1 F.2.1 dX13_isAhead_66 (by decide) ?_
        refine lv_goto (tgt := 71) F.1 F.2.1 dX13_isAhead_67 (by decide) ?_
        cases h
        exact RO_z F hr hlocks rfl dX13_isAhead_71
    · replace h := it_f k10 h
      refine lv_iload F.1 F.2.1 dX13_isAhead_48 (lv_at hl 0 rfl) ?_
      refine lv_if_le (tgt := 57) F.1 F.2.1 dX13_isAhead_50 (by decide) (fun k12 => ?_) (fun k12 => ?_)
      · replace h := it_t k12 h
        refine lv_iconst (v := 0) F.1 F.2.1 dX13_isAhead_57 (by decide) ?_
        refine lv_goto (tgt := 71) F.1 F.2.1 dX13_isAhead_58 (by decide) ?_
        cases h
        exact RO_z F hr hlocks rfl dX13_isAhead_71
      · replace h := it_f k12 h
        refine lv_iconst (v := 1) F.1 F.2.1 dX13_isAhead_53 (by decide) ?_
        refine lv_goto (tgt := 71) F.1 F.2.1 dX13_isAhead_54 (by decide) ?_
        cases h
        exact RO_z F hr hlocks rfl dX13_isAhead_71
  · replace h := it_f k9 h
    refine lv_iload_n F.1 F.2.1 dX13_isAhead_33 rfl (lv_at hl 1 rfl) ?_
    refine lv_if_le (tgt := 41) F.1 F.2.1 dX13_isAhead_34 (by decide) (fun k13 => ?_) (fun k13 => ?_)
    · replace h := it_t k13 h
      refine lv_iconst (v := 0) F.1 F.2.1 dX13_isAhead_41 (by decide) ?_
      cases h
      exact RO_z F hr hlocks rfl dX13_isAhead_42
    · replace h := it_f k13 h
      refine lv_iconst (v := 1) F.1 F.2.1 dX13_isAhead_37 (by decide) ?_
      refine lv_goto (tgt := 42) F.1 F.2.1 dX13_isAhead_38 (by decide) ?_
      cases h
      exact RO_z F hr hlocks rfl dX13_isAhead_42
/-! WireCutterModel.spoolByLength -/
def fX13_spoolByLength_L22 (K7 : Int32 → Option (Int32 × Int32)) (x1 : Int32) (x2 : Int32) (uth : Int32) (uw : Nat → Int32) : Nat → Int32 → Int32 → Option (Int32 × Int32)
  | 0, _, _ => none
  | k + 1, x3, x4 =>
    if (uw 0) ≤ x4 then
      if x3 = x1 then
        (fX13_spoolAt uw x2 0).bind fun z6 =>
        some (z6, uth)
      else
        K7 (x2 + 1)
    else
      (fX13_isAhead uw x4 x2).bind fun z8 =>
      if z8 = 0 then
        fX13_spoolByLength_L22 K7 x1 x2 uth uw k (x3 + 0) (x4 + 1)
      else
        fX13_spoolByLength_L22 K7 x1 x2 uth uw k (x3 + 1) (x4 + 1)
def fX13_spoolByLength_L7 (x1 : Int32) (uth : Int32) (uw : Nat → Int32) : Nat → Int32 → Option (Int32 × Int32)
  | 0, _ => none
  | k + 1, x2 =>
    if (uw 0) ≤ x2 then
      (fX13_fails 1).bind fun z2 =>
      some (z2.1, z2.2)
    else
      fX13_spoolByLength_L22 (fX13_spoolByLength_L7 x1 uth uw k) x1 x2 uth uw FU 0 0
def fX13_spoolByLength (uw : Nat → Int32) (p1 : Int32) : Option (Int32 × Int32) :=
  fX13_spoolByLength_L7 p1 0 uw FU 0
theorem mbX13_spoolByLength : MV yX13_spoolByLength cX13_spoolByLength 5 (some .int) 1 := ⟨⟨q1982, q16, by decide +kernel⟩, q1980, q1981⟩
set_option maxHeartbeats 4000000 in
set_option maxRecDepth 100000 in
theorem tX13_spoolByLength_L22 {p : Program} {l : Launch} {e : Env} {s : State} {m : MethodId} {args : Array Value} {below : List Frame} {meth : Method} {c : Code} {dC : Nat → ClassId} {dI : Nat → Nat → Nat} {g : Nat → ClassId} {a0 a1 a2 a3 a4 a5 a6 a7 a8 : Nat} {r : Int32 × Int32} {A : Nat → Prop} (F : CF p m c cX13_spoolByLength 5 s args RX13) (hr : meth.sig.returnType = (some .int)) (hlocks : meth.locks = false) (hE : EK dC dI g s) (hX : EX g A s s.heap) (hA : ∀ q : Nat, s.heap.size ≤ q → A q) (x1 : Int32) (x2 : Int32) (uth : Int32) (uch : Int32) (ufc : Int32) (usv : Int32) (ull : Int32) (ubl : Int32) (uba : Int32) (uea : Int32) (ufa : Int32) (uso : Int32) (udn : Int32) (uw : Nat → Int32) (uun : Nat → Int32) (usr : Nat → Int32) (ube : Nat → Int32) (ubs : Nat → Int32) (uln : Nat → Int32) (ubu : Nat → Int32) (unu : Nat → Int32) {K7 : Int32 → Option (Int32 × Int32)} (hK7 : ∀ (x2 : Int32), K7 x2 = some r → ∀ (H : Heap) (locs : List Loc), va_P (dC, dI) vwCl (wX13 g a0 a1 a2 a3 a4 a5 a6 a7 a8 uth uch ufc usv ull ubl uba uea ufa uso udn uw uun usr ube ubs uln ubu unu) H → va_D A (wX13 g a0 a1 a2 a3 a4 a5 a6 a7 a8 uth uch ufc usv ull ubl uba uea ufa uso udn uw uun usr ube ubs uln ubu unu) → va_S A s.heap H locs → ∀ (ls : Array Slot), lv_has ls 5 [(0, .ref a0), (1, .int x1), (2, .int x2)] → W p l e { frames := 2, cells := 0, slots := 0, locals := 46 } s m args below meth c H locs 0 0 (MQ below (fun _ st o t => o = .returned (some (.int r.1)) ∧ va_P (dC, dI) vwCl (wX13 g a0 a1 a2 a3 a4 a5 a6 a7 a8 r.2 uch ufc usv ull ubl uba uea ufa uso udn uw uun usr ube ubs uln ubu unu) t.heap ∧ va_F A st t) args s 0 0 A) (F0 m 7 ls [])) : ∀ (k : Nat) (x3 : Int32) (x4 : Int32), fX13_spoolByLength_L22 K7 x1 x2 uth uw k x3 x4 = some r → ∀ (H : Heap) (locs : List Loc), va_P (dC, dI) vwCl (wX13 g a0 a1 a2 a3 a4 a5 a6 a7 a8 uth uch ufc usv ull ubl uba uea ufa uso udn uw uun usr ube ubs uln ubu unu) H → va_D A (wX13 g a0 a1 a2 a3 a4 a5 a6 a7 a8 uth uch ufc usv ull ubl uba uea ufa uso udn uw uun usr ube ubs uln ubu unu) → va_S A s.heap H locs → ∀ (ls : Array Slot), lv_has ls 5 [(0, .ref a0), (1, .int x1), (2, .int x2), (3, .int x3), (4, .int x4)] → W p l e { frames := 2, cells := 0, slots := 0, locals := 46 } s m args below meth c H locs 0 0 (MQ below (fun _ st o t => o = .returned (some (.int r.1)) ∧ va_P (dC, dI) vwCl (wX13 g a0 a1 a2 a3 a4 a5 a6 a7 a8 r.2 uch ufc usv ull ubl uba uea ufa uso udn uw uun usr ube ubs uln ubu unu) t.heap ∧ va_F A st t) args s 0 0 A) (F0 m 22 ls []) := by
  intro k
  induction k with
  | zero =>
    intro x3 x4 h
    exact absurd h (by simp [fX13_spoolByLength_L22])
  | succ k ih =>
    intro x3 x4 h H locs hP hD hS ls hl
    rw [fX13_spoolByLength_L22] at h
    refine lv_iload F.1 F.2.1 dX13_spoolByLength_22 (lv_at hl 4 rfl) ?_
    refine lv_aload_n F.1 F.2.1 dX13_spoolByLength_24 rfl (lv_at hl 0 rfl) ?_
    refine gF (v := .ref a1) F hE hP 0 rfl rfl inX13 1 (by decide) q1685 rfl dX13_spoolByLength_25 ?_
    refine lv_iconst (v := 0) F.1 F.2.1 dX13_spoolByLength_28 (by decide) ?_
    refine aLi (k := 0) F hE hP 1 0 rfl rfl (by decide) (by decide) dX13_spoolByLength_29 ?_
    refine lv_icmp_ge (tgt := 57) F.1 F.2.1 dX13_spoolByLength_30 (by decide) (fun k4 => ?_) (fun k4 => ?_)
    · replace h := it_t k4 h
      refine lv_iload_n F.1 F.2.1 dX13_spoolByLength_57 rfl (lv_at hl 3 rfl) ?_
      refine lv_iload_n F.1 F.2.1 dX13_spoolByLength_58 rfl (lv_at hl 1 rfl) ?_
      refine lv_icmp_ne (tgt := 69) F.1 F.2.1 dX13_spoolByLength_59 (by decide) (fun k5 => ?_) (fun k5 => ?_)
      · replace h := it_f k5 h
        refine lv_iinc (v := x2 + 1) (lv' := [(2, .int (x2 + 1)), (0, .ref a0), (1, .int x1), (3, .int x3), (4, .int x4)]) F.1 F.2.1 dX13_spoolByLength_69 hl (k := 2) rfl (by rfl) (by decide) rfl (fun ls hl => ?_)
        refine lv_goto (tgt := 7) F.1 F.2.1 dX13_spoolByLength_72 (by decide) ?_
        exact hK7 (x2 + 1) h _ _ hP hD hS ls (lv_sub hl [1, 2, 0] rfl)
      · replace h := it_t k5 h
        refine lv_aload_n F.1 F.2.1 dX13_spoolByLength_62 rfl (lv_at hl 0 rfl) ?_
        refine lv_iload_n F.1 F.2.1 dX13_spoolByLength_63 rfl (lv_at hl 2 rfl) ?_
        refine lv_iconst (v := 0) F.1 F.2.1 dX13_spoolByLength_64 (by decide) ?_
        obtain ⟨z6, k7, h⟩ := bd_ok h
        refine cRV (As := [.int x2, .int 0]) (rest := []) F hE hX hS (tX13_spoolAt l dC dI g a0 a1 a2 a3 a4 a5 a6 a7 a8 uth uch ufc usv ull ubl uba uea ufa uso udn uw uun usr ube ubs uln ubu unu x2 0 k7) mbX13_spoolAt q1788 ⟨(Nat.le_of_ble_eq_true rfl), (Nat.le_of_ble_eq_true rfl)⟩ ⟨Nat.zero_le _, Nat.zero_le _⟩ hP [0, 1, 2, 3, 4, 5, 6, 7, 8] rfl 0 rfl rfl rfl hl.1 rfl (Nat.le_of_ble_eq_true rfl) dX13_spoolByLength_65 ?_
        cases h
        exact MU_i F hr hlocks (Nat.le_refl _) (Nat.le_refl _) hP hS dX13_spoolByLength_68
    · replace h := it_f k4 h
      refine lv_iload_n F.1 F.2.1 dX13_spoolByLength_33 rfl (lv_at hl 3 rfl) ?_
      refine lv_aload_n F.1 F.2.1 dX13_spoolByLength_34 rfl (lv_at hl 0 rfl) ?_
      refine lv_iload F.1 F.2.1 dX13_spoolByLength_35 (lv_at hl 4 rfl) ?_
      refine lv_iload_n F.1 F.2.1 dX13_spoolByLength_37 rfl (lv_at hl 2 rfl) ?_
      obtain ⟨z8, k9, h⟩ := bd_ok h
      refine cRV (As := [.int x4, .int x2]) (rest := [.int x3]) F hE hX hS (tX13_isAhead l dC dI g a0 a1 a2 a3 a4 a5 a6 a7 a8 uth uch ufc usv ull ubl uba uea ufa uso udn uw uun usr ube ubs uln ubu unu x4 x2 k9) mbX13_isAhead q1983 ⟨(Nat.le_of_ble_eq_true rfl), (Nat.le_of_ble_eq_true rfl)⟩ ⟨Nat.zero_le _, Nat.zero_le _⟩ hP [0, 1, 2, 3, 4, 5, 6, 7, 8] rfl 0 rfl rfl rfl hl.1 rfl (Nat.le_of_ble_eq_true rfl) dX13_spoolByLength_38 ?_
      refine lv_if_eq (tgt := 48) F.1 F.2.1 dX13_spoolByLength_41 (by decide) (fun k10 => ?_) (fun k10 => ?_)
      · replace h := it_t k10 h
        refine lv_iconst (v := 0) F.1 F.2.1 dX13_spoolByLength_48 (by decide) ?_
        refine lv_iadd F.1 F.2.1 dX13_spoolByLength_49 ?_
        refine lv_istore_n (lv' := [(3, .int (x3 + 0)), (0, .ref a0), (1, .int x1), (2, .int x2), (4, .int x4)]) F.1 F.2.1 dX13_spoolByLength_50 rfl hl (by decide) rfl (fun ls hl => ?_)
        refine lv_iinc (v := x4 + 1) (lv' := [(4, .int (x4 + 1)), (3, .int (x3 + 0)), (0, .ref a0), (1, .int x1), (2, .int x2)]) F.1 F.2.1 dX13_spoolByLength_51 hl (k := 4) rfl (by rfl) (by decide) rfl (fun ls hl => ?_)
        refine lv_goto (tgt := 22) F.1 F.2.1 dX13_spoolByLength_54 (by decide) ?_
        exact ih (x3 + 0) (x4 + 1) h _ _ hP hD hS ls (lv_sub hl [2, 3, 4, 1, 0] rfl)
      · replace h := it_f k10 h
        refine lv_iconst (v := 1) F.1 F.2.1 dX13_spoolByLength_44 (by decide) ?_
        refine lv_goto (tgt := 49) F.1 F.2.1 dX13_spoolByLength_45 (by decide) ?_
        refine lv_iadd F.1 F.2.1 dX13_spoolByLength_49 ?_
        refine lv_istore_n (lv' := [(3, .int (x3 + 1)), (0, .ref a0), (1, .int x1), (2, .int x2), (4, .int x4)]) F.1 F.2.1 dX13_spoolByLength_50 rfl hl (by decide) rfl (fun ls hl => ?_)
        refine lv_iinc (v := x4 + 1) (lv' := [(4, .int (x4 + 1)), (3, .int (x3 + 1)), (0, .ref a0), (1, .int x1), (2, .int x2)]) F.1 F.2.1 dX13_spoolByLength_51 hl (k := 4) rfl (by rfl) (by decide) rfl (fun ls hl => ?_)
        refine lv_goto (tgt := 22) F.1 F.2.1 dX13_spoolByLength_54 (by decide) ?_
        exact ih (x3 + 1) (x4 + 1) h _ _ hP hD hS ls (lv_sub hl [2, 3, 4, 1, 0] rfl)
set_option maxHeartbeats 4000000 in
set_option maxRecDepth 100000 in
theorem tX13_spoolByLength_L7 {p : Program} {l : Launch} {e : Env} {s : State} {m : MethodId} {args : Array Value} {below : List Frame} {meth : Method} {c : Code} {dC : Nat → ClassId} {dI : Nat → Nat → Nat} {g : Nat → ClassId} {a0 a1 a2 a3 a4 a5 a6 a7 a8 : Nat} {r : Int32 × Int32} {A : Nat → Prop} (F : CF p m c cX13_spoolByLength 5 s args RX13) (hr : meth.sig.returnType = (some .int)) (hlocks : meth.locks = false) (hE : EK dC dI g s) (hX : EX g A s s.heap) (hA : ∀ q : Nat, s.heap.size ≤ q → A q) (x1 : Int32) (uth : Int32) (uch : Int32) (ufc : Int32) (usv : Int32) (ull : Int32) (ubl : Int32) (uba : Int32) (uea : Int32) (ufa : Int32) (uso : Int32) (udn : Int32) (uw : Nat → Int32) (uun : Nat → Int32) (usr : Nat → Int32) (ube : Nat → Int32) (ubs : Nat → Int32) (uln : Nat → Int32) (ubu : Nat → Int32) (unu : Nat → Int32) : ∀ (k : Nat) (x2 : Int32), fX13_spoolByLength_L7 x1 uth uw k x2 = some r → ∀ (H : Heap) (locs : List Loc), va_P (dC, dI) vwCl (wX13 g a0 a1 a2 a3 a4 a5 a6 a7 a8 uth uch ufc usv ull ubl uba uea ufa uso udn uw uun usr ube ubs uln ubu unu) H → va_D A (wX13 g a0 a1 a2 a3 a4 a5 a6 a7 a8 uth uch ufc usv ull ubl uba uea ufa uso udn uw uun usr ube ubs uln ubu unu) → va_S A s.heap H locs → ∀ (ls : Array Slot), lv_has ls 5 [(0, .ref a0), (1, .int x1), (2, .int x2)] → W p l e { frames := 2, cells := 0, slots := 0, locals := 46 } s m args below meth c H locs 0 0 (MQ below (fun _ st o t => o = .returned (some (.int r.1)) ∧ va_P (dC, dI) vwCl (wX13 g a0 a1 a2 a3 a4 a5 a6 a7 a8 r.2 uch ufc usv ull ubl uba uea ufa uso udn uw uun usr ube ubs uln ubu unu) t.heap ∧ va_F A st t) args s 0 0 A) (F0 m 7 ls []) := by
  intro k
  induction k with
  | zero =>
    intro x2 h
    exact absurd h (by simp [fX13_spoolByLength_L7])
  | succ k ih =>
    intro x2 h H locs hP hD hS ls hl
    rw [fX13_spoolByLength_L7] at h
    refine lv_iload_n F.1 F.2.1 dX13_spoolByLength_7 rfl (lv_at hl 2 rfl) ?_
    refine lv_aload_n F.1 F.2.1 dX13_spoolByLength_8 rfl (lv_at hl 0 rfl) ?_
    refine gF (v := .ref a1) F hE hP 0 rfl rfl inX13 1 (by decide) q1685 rfl dX13_spoolByLength_9 ?_
    refine lv_iconst (v := 0) F.1 F.2.1 dX13_spoolByLength_12 (by decide) ?_
    refine aLi (k := 0) F hE hP 1 0 rfl rfl (by decide) (by decide) dX13_spoolByLength_13 ?_
    refine lv_icmp_ge (tgt := 75) F.1 F.2.1 dX13_spoolByLength_14 (by decide) (fun k1 => ?_) (fun k1 => ?_)
    · replace h := it_t k1 h
      refine lv_aload_n F.1 F.2.1 dX13_spoolByLength_75 rfl (lv_at hl 0 rfl) ?_
      refine lv_iconst (v := 1) F.1 F.2.1 dX13_spoolByLength_76 (by decide) ?_
      obtain ⟨z2, k3, h⟩ := bd_ok h
      refine cMV (As := [.int 1]) (rest := []) (ws' := wX13 g a0 a1 a2 a3 a4 a5 a6 a7 a8 z2.2 uch ufc usv ull ubl uba uea ufa uso udn uw uun usr ube ubs uln ubu unu) F hE hX (tX13_fails l dC dI g a0 a1 a2 a3 a4 a5 a6 a7 a8 uth uch ufc usv ull ubl uba uea ufa uso udn uw uun usr ube ubs uln ubu unu 1 k3) mbX13_fails q1756 ⟨(Nat.le_of_ble_eq_true rfl), (Nat.le_of_ble_eq_true rfl)⟩ ⟨(Nat.le_of_ble_eq_true rfl), (Nat.le_of_ble_eq_true rfl)⟩ hP hD hS hA [0, 1, 2, 3, 4, 5, 6, 7, 8] rfl rfl rfl rfl rfl 0 rfl rfl rfl hl.1 rfl (Nat.le_of_ble_eq_true rfl) dX13_spoolByLength_77 (fun H locs hP hD hS => ?_)
      cases h
      exact MU_i F hr hlocks (Nat.le_refl _) (Nat.le_refl _) hP hS dX13_spoolByLength_80
    · replace h := it_f k1 h
      refine lv_iconst (v := 0) F.1 F.2.1 dX13_spoolByLength_17 (by decide) ?_
      refine lv_istore_n (lv' := [(3, .int 0), (0, .ref a0), (1, .int x1), (2, .int x2)]) F.1 F.2.1 dX13_spoolByLength_18 rfl hl (by decide) rfl (fun ls hl => ?_)
      refine lv_iconst (v := 0) F.1 F.2.1 dX13_spoolByLength_19 (by decide) ?_
      refine lv_istore (lv' := [(4, .int 0), (3, .int 0), (0, .ref a0), (1, .int x1), (2, .int x2)]) F.1 F.2.1 dX13_spoolByLength_20 hl (by decide) rfl (fun ls hl => ?_)
      exact tX13_spoolByLength_L22 F hr hlocks hE hX hA x1 x2 uth uch ufc usv ull ubl uba uea ufa uso udn uw uun usr ube ubs uln ubu unu ih FU 0 0 h _ _ hP hD hS ls (lv_sub hl [2, 3, 4, 1, 0] rfl)
set_option maxHeartbeats 4000000 in
set_option maxRecDepth 100000 in
theorem tX13_spoolByLength (l : Launch) (dC : Nat → ClassId) (dI : Nat → Nat → Nat) (g : Nat → ClassId) (a0 a1 a2 a3 a4 a5 a6 a7 a8 : Nat) (uth : Int32) (uch : Int32) (ufc : Int32) (usv : Int32) (ull : Int32) (ubl : Int32) (uba : Int32) (uea : Int32) (ufa : Int32) (uso : Int32) (udn : Int32) (uw : Nat → Int32) (uun : Nat → Int32) (usr : Nat → Int32) (ube : Nat → Int32) (ubs : Nat → Int32) (uln : Nat → Int32) (ubu : Nat → Int32) (unu : Nat → Int32) (p1 : Int32) {r : Int32 × Int32} (h : fX13_spoolByLength uw p1 = some r) : MU l yX13_spoolByLength cX13_spoolByLength 5 (some .int) 2 46 0 0 dC dI g [.ref a0, .int p1] (wX13 g a0 a1 a2 a3 a4 a5 a6 a7 a8 uth uch ufc usv ull ubl uba uea ufa uso udn uw uun usr ube ubs uln ubu unu) (wX13 g a0 a1 a2 a3 a4 a5 a6 a7 a8 r.2 uch ufc usv ull ubl uba uea ufa uso udn uw uun usr ube ubs uln ubu unu) (some (.int r.1)) := by
  refine MU_of (by decide) (Nat.le_of_ble_eq_true rfl) ?_
  intro p e s m below meth c ls F hr hlocks hE hX hA hP hD hS hl
  generalize va_A (wX13 g a0 a1 a2 a3 a4 a5 a6 a7 a8 uth uch ufc usv ull ubl uba uea ufa uso udn uw uun usr ube ubs uln ubu unu) s.heap.size = A at hA hD hS hX ⊢
  replace F : CF p m c cX13_spoolByLength 5 s _ RX13 := F
  replace hl : lv_has ls 5 [(0, .ref a0), (1, .int p1)] := hl
  rw [fX13_spoolByLength] at h
  refine lv_aload_n F.1 F.2.1 dX13_spoolByLength_0 rfl (lv_at hl 0 rfl) ?_
  refine lv_iconst (v := 0) F.1 F.2.1 dX13_spoolByLength_1 (by decide) ?_
  refine pF (v := .int 0) F hE hP hD hS 0 rfl rfl inX13 tyX13 tyX13_ok nmX13 0 (by decide) q1684 rfl rfl rfl (Nat.le_of_ble_eq_true rfl) dX13_spoolByLength_2 (fun H locs hP hD hS => ?_)
  replace hP : va_P (dC, dI) vwCl (wX13 g a0 a1 a2 a3 a4 a5 a6 a7 a8 0 uch ufc usv ull ubl uba uea ufa uso udn uw uun usr ube ubs uln ubu unu) H := hP
  replace hD : va_D A (wX13 g a0 a1 a2 a3 a4 a5 a6 a7 a8 0 uch ufc usv ull ubl uba uea ufa uso udn uw uun usr ube ubs uln ubu unu) := hD
  refine lv_iconst (v := 0) F.1 F.2.1 dX13_spoolByLength_5 (by decide) ?_
  refine lv_istore_n (lv' := [(2, .int 0), (0, .ref a0), (1, .int p1)]) F.1 F.2.1 dX13_spoolByLength_6 rfl hl (by decide) rfl (fun ls hl => ?_)
  exact tX13_spoolByLength_L7 F hr hlocks hE hX hA p1 0 uch ufc usv ull ubl uba uea ufa uso udn uw uun usr ube ubs uln ubu unu FU 0 h _ _ hP hD hS ls (lv_sub hl [1, 2, 0] rfl)
/-! WireCutterModel.scraps -/
def fX13_scraps_L22 (x1 : Int32) (uth : Int32) (uw : Nat → Int32) : Nat → Int32 → Int32 → Option (Int32 × Int32)
  | 0, _, _ => none
  | k + 1, x2, x3 =>
    if (uw 4) ≤ x3 then
      some (x2, uth)
    else
      (fX13_scrapAt uw x3 0).bind fun z5 =>
      if z5 = (x1 - 97) then
        fX13_scraps_L22 x1 uth uw k (x2 + 1) (x3 + 1)
      else
        fX13_scraps_L22 x1 uth uw k (x2 + 0) (x3 + 1)
def fX13_scraps (uw : Nat → Int32) (p1 : Int32) : Option (Int32 × Int32) :=
  (fX13_isMaterial p1).bind fun z1 =>
  if z1 = 0 then
    (fX13_fails 1).bind fun z8 =>
    some (z8.1, z8.2)
  else
    fX13_scraps_L22 p1 0 uw FU 0 0
theorem mbX13_scraps : MV yX13_scraps cX13_scraps 4 (some .int) 1 := ⟨⟨q1990, q16, by decide +kernel⟩, q1988, q1989⟩
set_option maxHeartbeats 4000000 in
set_option maxRecDepth 100000 in
theorem tX13_scraps_L22 {p : Program} {l : Launch} {e : Env} {s : State} {m : MethodId} {args : Array Value} {below : List Frame} {meth : Method} {c : Code} {dC : Nat → ClassId} {dI : Nat → Nat → Nat} {g : Nat → ClassId} {a0 a1 a2 a3 a4 a5 a6 a7 a8 : Nat} {r : Int32 × Int32} {A : Nat → Prop} (F : CF p m c cX13_scraps 4 s args RX13) (hr : meth.sig.returnType = (some .int)) (hlocks : meth.locks = false) (hE : EK dC dI g s) (hX : EX g A s s.heap) (hA : ∀ q : Nat, s.heap.size ≤ q → A q) (x1 : Int32) (uth : Int32) (uch : Int32) (ufc : Int32) (usv : Int32) (ull : Int32) (ubl : Int32) (uba : Int32) (uea : Int32) (ufa : Int32) (uso : Int32) (udn : Int32) (uw : Nat → Int32) (uun : Nat → Int32) (usr : Nat → Int32) (ube : Nat → Int32) (ubs : Nat → Int32) (uln : Nat → Int32) (ubu : Nat → Int32) (unu : Nat → Int32) : ∀ (k : Nat) (x2 : Int32) (x3 : Int32), fX13_scraps_L22 x1 uth uw k x2 x3 = some r → ∀ (H : Heap) (locs : List Loc), va_P (dC, dI) vwCl (wX13 g a0 a1 a2 a3 a4 a5 a6 a7 a8 uth uch ufc usv ull ubl uba uea ufa uso udn uw uun usr ube ubs uln ubu unu) H → va_D A (wX13 g a0 a1 a2 a3 a4 a5 a6 a7 a8 uth uch ufc usv ull ubl uba uea ufa uso udn uw uun usr ube ubs uln ubu unu) → va_S A s.heap H locs → ∀ (ls : Array Slot), lv_has ls 4 [(0, .ref a0), (1, .int x1), (2, .int x2), (3, .int x3)] → W p l e { frames := 2, cells := 0, slots := 0, locals := 42 } s m args below meth c H locs 0 0 (MQ below (fun _ st o t => o = .returned (some (.int r.1)) ∧ va_P (dC, dI) vwCl (wX13 g a0 a1 a2 a3 a4 a5 a6 a7 a8 r.2 uch ufc usv ull ubl uba uea ufa uso udn uw uun usr ube ubs uln ubu unu) t.heap ∧ va_F A st t) args s 0 0 A) (F0 m 22 ls []) := by
  intro k
  induction k with
  | zero =>
    intro x2 x3 h
    exact absurd h (by simp [fX13_scraps_L22])
  | succ k ih =>
    intro x2 x3 h H locs hP hD hS ls hl
    rw [fX13_scraps_L22] at h
    refine lv_iload_n F.1 F.2.1 dX13_scraps_22 rfl (lv_at hl 3 rfl) ?_
    refine lv_aload_n F.1 F.2.1 dX13_scraps_23 rfl (lv_at hl 0 rfl) ?_
    refine gF (v := .ref a1) F hE hP 0 rfl rfl inX13 1 (by decide) q1685 rfl dX13_scraps_24 ?_
    refine lv_iconst (v := 4) F.1 F.2.1 dX13_scraps_27 (by decide) ?_
    refine aLi (k := 4) F hE hP 1 0 rfl rfl (by decide) (by decide) dX13_scraps_28 ?_
    refine lv_icmp_ge (tgt := 59) F.1 F.2.1 dX13_scraps_29 (by decide) (fun k4 => ?_) (fun k4 => ?_)
    · replace h := it_t k4 h
      refine lv_iload_n F.1 F.2.1 dX13_scraps_59 rfl (lv_at hl 2 rfl) ?_
      cases h
      exact MU_i F hr hlocks (Nat.le_refl _) (Nat.le_refl _) hP hS dX13_scraps_60
    · replace h := it_f k4 h
      refine lv_iload_n F.1 F.2.1 dX13_scraps_32 rfl (lv_at hl 2 rfl) ?_
      refine lv_aload_n F.1 F.2.1 dX13_scraps_33 rfl (lv_at hl 0 rfl) ?_
      refine lv_iload_n F.1 F.2.1 dX13_scraps_34 rfl (lv_at hl 3 rfl) ?_
      refine lv_iconst (v := 0) F.1 F.2.1 dX13_scraps_35 (by decide) ?_
      obtain ⟨z5, k6, h⟩ := bd_ok h
      refine cRV (As := [.int x3, .int 0]) (rest := [.int x2]) F hE hX hS (tX13_scrapAt l dC dI g a0 a1 a2 a3 a4 a5 a6 a7 a8 uth uch ufc usv ull ubl uba uea ufa uso udn uw uun usr ube ubs uln ubu unu x3 0 k6) mbX13_scrapAt q1819 ⟨(Nat.le_of_ble_eq_true rfl), (Nat.le_of_ble_eq_true rfl)⟩ ⟨Nat.zero_le _, Nat.zero_le _⟩ hP [0, 1, 2, 3, 4, 5, 6, 7, 8] rfl 0 rfl rfl rfl hl.1 rfl (Nat.le_of_ble_eq_true rfl) dX13_scraps_36 ?_
      refine lv_iload_n F.1 F.2.1 dX13_scraps_39 rfl (lv_at hl 1 rfl) ?_
      refine lv_bipush (v := 97) F.1 F.2.1 dX13_scraps_40 (by decide) ?_
      refine lv_isub F.1 F.2.1 dX13_scraps_42 ?_
      refine lv_icmp_ne (tgt := 50) F.1 F.2.1 dX13_scraps_43 (by decide) (fun k7 => ?_) (fun k7 => ?_)
      · replace h := it_f k7 h
        refine lv_iconst (v := 0) F.1 F.2.1 dX13_scraps_50 (by decide) ?_
        refine lv_iadd F.1 F.2.1 dX13_scraps_51 ?_
        refine lv_istore_n (lv' := [(2, .int (x2 + 0)), (0, .ref a0), (1, .int x1), (3, .int x3)]) F.1 F.2.1 dX13_scraps_52 rfl hl (by decide) rfl (fun ls hl => ?_)
        refine lv_iinc (v := x3 + 1) (lv' := [(3, .int (x3 + 1)), (2, .int (x2 + 0)), (0, .ref a0), (1, .int x1)]) F.1 F.2.1 dX13_scraps_53 hl (k := 3) rfl (by rfl) (by decide) rfl (fun ls hl => ?_)
        refine lv_goto (tgt := 22) F.1 F.2.1 dX13_scraps_56 (by decide) ?_
        exact ih (x2 + 0) (x3 + 1) h _ _ hP hD hS ls (lv_sub hl [2, 3, 1, 0] rfl)
      · replace h := it_t k7 h
        refine lv_iconst (v := 1) F.1 F.2.1 dX13_scraps_46 (by decide) ?_
        refine lv_goto (tgt := 51) F.1 F.2.1 dX13_scraps_47 (by decide) ?_
        refine lv_iadd F.1 F.2.1 dX13_scraps_51 ?_
        refine lv_istore_n (lv' := [(2, .int (x2 + 1)), (0, .ref a0), (1, .int x1), (3, .int x3)]) F.1 F.2.1 dX13_scraps_52 rfl hl (by decide) rfl (fun ls hl => ?_)
        refine lv_iinc (v := x3 + 1) (lv' := [(3, .int (x3 + 1)), (2, .int (x2 + 1)), (0, .ref a0), (1, .int x1)]) F.1 F.2.1 dX13_scraps_53 hl (k := 3) rfl (by rfl) (by decide) rfl (fun ls hl => ?_)
        refine lv_goto (tgt := 22) F.1 F.2.1 dX13_scraps_56 (by decide) ?_
        exact ih (x2 + 1) (x3 + 1) h _ _ hP hD hS ls (lv_sub hl [2, 3, 1, 0] rfl)
set_option maxHeartbeats 4000000 in
set_option maxRecDepth 100000 in
theorem tX13_scraps (l : Launch) (dC : Nat → ClassId) (dI : Nat → Nat → Nat) (g : Nat → ClassId) (a0 a1 a2 a3 a4 a5 a6 a7 a8 : Nat) (uth : Int32) (uch : Int32) (ufc : Int32) (usv : Int32) (ull : Int32) (ubl : Int32) (uba : Int32) (uea : Int32) (ufa : Int32) (uso : Int32) (udn : Int32) (uw : Nat → Int32) (uun : Nat → Int32) (usr : Nat → Int32) (ube : Nat → Int32) (ubs : Nat → Int32) (uln : Nat → Int32) (ubu : Nat → Int32) (unu : Nat → Int32) (p1 : Int32) {r : Int32 × Int32} (h : fX13_scraps uw p1 = some r) : MU l yX13_scraps cX13_scraps 4 (some .int) 2 42 0 0 dC dI g [.ref a0, .int p1] (wX13 g a0 a1 a2 a3 a4 a5 a6 a7 a8 uth uch ufc usv ull ubl uba uea ufa uso udn uw uun usr ube ubs uln ubu unu) (wX13 g a0 a1 a2 a3 a4 a5 a6 a7 a8 r.2 uch ufc usv ull ubl uba uea ufa uso udn uw uun usr ube ubs uln ubu unu) (some (.int r.1)) := by
  refine MU_of (by decide) (Nat.le_of_ble_eq_true rfl) ?_
  intro p e s m below meth c ls F hr hlocks hE hX hA hP hD hS hl
  generalize va_A (wX13 g a0 a1 a2 a3 a4 a5 a6 a7 a8 uth uch ufc usv ull ubl uba uea ufa uso udn uw uun usr ube ubs uln ubu unu) s.heap.size = A at hA hD hS hX ⊢
  replace F : CF p m c cX13_scraps 4 s _ RX13 := F
  replace hl : lv_has ls 4 [(0, .ref a0), (1, .int p1)] := hl
  rw [fX13_scraps] at h
  refine lv_aload_n F.1 F.2.1 dX13_scraps_0 rfl (lv_at hl 0 rfl) ?_
  refine lv_iconst (v := 0) F.1 F.2.1 dX13_scraps_1 (by decide) ?_
  refine pF (v := .int 0) F hE hP hD hS 0 rfl rfl inX13 tyX13 tyX13_ok nmX13 0 (by decide) q1684 rfl rfl rfl (Nat.le_of_ble_eq_true rfl) dX13_scraps_2 (fun H locs hP hD hS => ?_)
  replace hP : va_P (dC, dI) vwCl (wX13 g a0 a1 a2 a3 a4 a5 a6 a7 a8 0 uch ufc usv ull ubl uba uea ufa uso udn uw uun usr ube ubs uln ubu unu) H := hP
  replace hD : va_D A (wX13 g a0 a1 a2 a3 a4 a5 a6 a7 a8 0 uch ufc usv ull ubl uba uea ufa uso udn uw uun usr ube ubs uln ubu unu) := hD
  refine lv_iload_n F.1 F.2.1 dX13_scraps_5 rfl (lv_at hl 1 rfl) ?_
  obtain ⟨z1, k2, h⟩ := bd_ok h
  refine cRS (As := [.int p1]) (rest := []) F hE hX hS (tX13_isMaterial l dC dI g p1 k2) mbX13_isMaterial q1750 ⟨(Nat.le_of_ble_eq_true rfl), (Nat.le_of_ble_eq_true rfl)⟩ ⟨Nat.zero_le _, Nat.zero_le _⟩ hP [] rfl rfl hl.1 rfl (Nat.le_of_ble_eq_true rfl) dX13_scraps_6 ?_
  refine lv_if_ne (tgt := 18) F.1 F.2.1 dX13_scraps_9 (by decide) (fun k3 => ?_) (fun k3 => ?_)
  · replace h := it_f k3 h
    refine lv_iconst (v := 0) F.1 F.2.1 dX13_scraps_18 (by decide) ?_
    refine lv_istore_n (lv' := [(2, .int 0), (0, .ref a0), (1, .int p1)]) F.1 F.2.1 dX13_scraps_19 rfl hl (by decide) rfl (fun ls hl => ?_)
    refine lv_iconst (v := 0) F.1 F.2.1 dX13_scraps_20 (by decide) ?_
    refine lv_istore_n (lv' := [(3, .int 0), (2, .int 0), (0, .ref a0), (1, .int p1)]) F.1 F.2.1 dX13_scraps_21 rfl hl (by decide) rfl (fun ls hl => ?_)
    exact tX13_scraps_L22 F hr hlocks hE hX hA p1 0 uch ufc usv ull ubl uba uea ufa uso udn uw uun usr ube ubs uln ubu unu FU 0 0 h _ _ hP hD hS ls (lv_sub hl [2, 3, 1, 0] rfl)
  · replace h := it_t k3 h
    refine lv_aload_n F.1 F.2.1 dX13_scraps_12 rfl (lv_at hl 0 rfl) ?_
    refine lv_iconst (v := 1) F.1 F.2.1 dX13_scraps_13 (by decide) ?_
    obtain ⟨z8, k9, h⟩ := bd_ok h
    refine cMV (As := [.int 1]) (rest := []) (ws' := wX13 g a0 a1 a2 a3 a4 a5 a6 a7 a8 z8.2 uch ufc usv ull ubl uba uea ufa uso udn uw uun usr ube ubs uln ubu unu) F hE hX (tX13_fails l dC dI g a0 a1 a2 a3 a4 a5 a6 a7 a8 0 uch ufc usv ull ubl uba uea ufa uso udn uw uun usr ube ubs uln ubu unu 1 k9) mbX13_fails q1756 ⟨(Nat.le_of_ble_eq_true rfl), (Nat.le_of_ble_eq_true rfl)⟩ ⟨(Nat.le_of_ble_eq_true rfl), (Nat.le_of_ble_eq_true rfl)⟩ hP hD hS hA [0, 1, 2, 3, 4, 5, 6, 7, 8] rfl rfl rfl rfl rfl 0 rfl rfl rfl hl.1 rfl (Nat.le_of_ble_eq_true rfl) dX13_scraps_14 (fun H locs hP hD hS => ?_)
    cases h
    exact MU_i F hr hlocks (Nat.le_refl _) (Nat.le_refl _) hP hS dX13_scraps_17
/-! WireCutterModel.scrapsAhead -/
def fX13_scrapsAhead_L4 (x1 : Int32) (uw : Nat → Int32) : Nat → Int32 → Int32 → Option (Int32)
  | 0, _, _ => none
  | k + 1, x2, x3 =>
    if (uw 4) ≤ x3 then
      some (x2)
    else
      (fX13_scrapAt uw x3 0).bind fun z2 =>
      (fX13_scrapAt uw x1 0).bind fun z4 =>
      if z2 = z4 then
        (fX13_scrapAt uw x1 1).bind fun z7 =>
        (fX13_scrapAt uw x3 1).bind fun z9 =>
        if 0 < (z7 - z9) then
          fX13_scrapsAhead_L4 x1 uw k (x2 + 1) (x3 + 1)
        else
          if (z7 - z9) = 0 then
            if x1 ≤ x3 then
              fX13_scrapsAhead_L4 x1 uw k (x2 + 0) (x3 + 1)
            else
              fX13_scrapsAhead_L4 x1 uw k (x2 + 1) (x3 + 1)
          else
            fX13_scrapsAhead_L4 x1 uw k (x2 + 0) (x3 + 1)
      else
        fX13_scrapsAhead_L4 x1 uw k x2 (x3 + 1)
def fX13_scrapsAhead (uw : Nat → Int32) (p1 : Int32) : Option (Int32) :=
  fX13_scrapsAhead_L4 p1 uw FU 0 0
theorem mbX13_scrapsAhead : MV yX13_scrapsAhead cX13_scrapsAhead 5 (some .int) 1 := ⟨⟨q1998, q16, by decide +kernel⟩, q1997, qs59⟩
set_option maxHeartbeats 4000000 in
set_option maxRecDepth 100000 in
theorem tX13_scrapsAhead_L4 {p : Program} {l : Launch} {e : Env} {s : State} {m : MethodId} {args : Array Value} {below : List Frame} {meth : Method} {c : Code} {dC : Nat → ClassId} {dI : Nat → Nat → Nat} {g : Nat → ClassId} {a0 a1 a2 a3 a4 a5 a6 a7 a8 : Nat} {r : Int32} (F : CF p m c cX13_scrapsAhead 5 s args RX13) (hr : meth.sig.returnType = (some .int)) (hlocks : meth.locks = false) (hE : EK dC dI g s) (hX : EXr g s) (x1 : Int32) (uth : Int32) (uch : Int32) (ufc : Int32) (usv : Int32) (ull : Int32) (ubl : Int32) (uba : Int32) (uea : Int32) (ufa : Int32) (uso : Int32) (udn : Int32) (uw : Nat → Int32) (uun : Nat → Int32) (usr : Nat → Int32) (ube : Nat → Int32) (ubs : Nat → Int32) (uln : Nat → Int32) (ubu : Nat → Int32) (unu : Nat → Int32) (hP : va_P (dC, dI) vwCl (wX13 g a0 a1 a2 a3 a4 a5 a6 a7 a8 uth uch ufc usv ull ubl uba uea ufa uso udn uw uun usr ube ubs uln ubu unu) s.heap) : ∀ (k : Nat) (x2 : Int32) (x3 : Int32), fX13_scrapsAhead_L4 x1 uw k x2 x3 = some r → ∀ (ls : Array Slot), lv_has ls 5 [(0, .ref a0), (1, .int x1), (2, .int x2), (3, .int x3)] → W p l e { frames := 1, cells := 0, slots := 0, locals := 22 } s m args below meth c s.heap [] 0 0 (MQ below (fun _ st o t => o = .returned (some (.int r)) ∧ t.heap = st.heap) args s 0 0 (fun _ => False)) (F0 m 4 ls []) := by
  intro k
  induction k with
  | zero =>
    intro x2 x3 h
    exact absurd h (by simp [fX13_scrapsAhead_L4])
  | succ k ih =>
    intro x2 x3 h ls hl
    rw [fX13_scrapsAhead_L4] at h
    refine lv_iload_n F.1 F.2.1 dX13_scrapsAhead_4 rfl (lv_at hl 3 rfl) ?_
    refine lv_aload_n F.1 F.2.1 dX13_scrapsAhead_5 rfl (lv_at hl 0 rfl) ?_
    refine gF (v := .ref a1) F hE hP 0 rfl rfl inX13 1 (by decide) q1685 rfl dX13_scrapsAhead_6 ?_
    refine lv_iconst (v := 4) F.1 F.2.1 dX13_scrapsAhead_9 (by decide) ?_
    refine aLi (k := 4) F hE hP 1 0 rfl rfl (by decide) (by decide) dX13_scrapsAhead_10 ?_
    refine lv_icmp_ge (tgt := 76) F.1 F.2.1 dX13_scrapsAhead_11 (by decide) (fun k1 => ?_) (fun k1 => ?_)
    · replace h := it_t k1 h
      refine lv_iload_n F.1 F.2.1 dX13_scrapsAhead_76 rfl (lv_at hl 2 rfl) ?_
      cases h
      exact RO_i F hr hlocks dX13_scrapsAhead_77
    · replace h := it_f k1 h
      refine lv_aload_n F.1 F.2.1 dX13_scrapsAhead_14 rfl (lv_at hl 0 rfl) ?_
      refine lv_iload_n F.1 F.2.1 dX13_scrapsAhead_15 rfl (lv_at hl 3 rfl) ?_
      refine lv_iconst (v := 0) F.1 F.2.1 dX13_scrapsAhead_16 (by decide) ?_
      obtain ⟨z2, k3, h⟩ := bd_ok h
      refine cRV (As := [.int x3, .int 0]) (rest := []) F hE hX va_S.rf (tX13_scrapAt l dC dI g a0 a1 a2 a3 a4 a5 a6 a7 a8 uth uch ufc usv ull ubl uba uea ufa uso udn uw uun usr ube ubs uln ubu unu x3 0 k3) mbX13_scrapAt q1819 ⟨(Nat.le_of_ble_eq_true rfl), (Nat.le_of_ble_eq_true rfl)⟩ ⟨Nat.zero_le _, Nat.zero_le _⟩ hP [0, 1, 2, 3, 4, 5, 6, 7, 8] rfl 0 rfl rfl rfl hl.1 rfl (Nat.le_of_ble_eq_true rfl) dX13_scrapsAhead_17 ?_
      refine lv_aload_n F.1 F.2.1 dX13_scrapsAhead_20 rfl (lv_at hl 0 rfl) ?_
      refine lv_iload_n F.1 F.2.1 dX13_scrapsAhead_21 rfl (lv_at hl 1 rfl) ?_
      refine lv_iconst (v := 0) F.1 F.2.1 dX13_scrapsAhead_22 (by decide) ?_
      obtain ⟨z4, k5, h⟩ := bd_ok h
      refine cRV (As := [.int x1, .int 0]) (rest := [.int z2]) F hE hX va_S.rf (tX13_scrapAt l dC dI g a0 a1 a2 a3 a4 a5 a6 a7 a8 uth uch ufc usv ull ubl uba uea ufa uso udn uw uun usr ube ubs uln ubu unu x1 0 k5) mbX13_scrapAt q1819 ⟨(Nat.le_of_ble_eq_true rfl), (Nat.le_of_ble_eq_true rfl)⟩ ⟨Nat.zero_le _, Nat.zero_le _⟩ hP [0, 1, 2, 3, 4, 5, 6, 7, 8] rfl 0 rfl rfl rfl hl.1 rfl (Nat.le_of_ble_eq_true rfl) dX13_scrapsAhead_23 ?_
      refine lv_icmp_eq (tgt := 32) F.1 F.2.1 dX13_scrapsAhead_26 (by decide) (fun k6 => ?_) (fun k6 => ?_)
      · replace h := it_t k6 h
        refine lv_aload_n F.1 F.2.1 dX13_scrapsAhead_32 rfl (lv_at hl 0 rfl) ?_
        refine lv_iload_n F.1 F.2.1 dX13_scrapsAhead_33 rfl (lv_at hl 1 rfl) ?_
        refine lv_iconst (v := 1) F.1 F.2.1 dX13_scrapsAhead_34 (by decide) ?_
        obtain ⟨z7, k8, h⟩ := bd_ok h
        refine cRV (As := [.int x1, .int 1]) (rest := []) F hE hX va_S.rf (tX13_scrapAt l dC dI g a0 a1 a2 a3 a4 a5 a6 a7 a8 uth uch ufc usv ull ubl uba uea ufa uso udn uw uun usr ube ubs uln ubu unu x1 1 k8) mbX13_scrapAt q1819 ⟨(Nat.le_of_ble_eq_true rfl), (Nat.le_of_ble_eq_true rfl)⟩ ⟨Nat.zero_le _, Nat.zero_le _⟩ hP [0, 1, 2, 3, 4, 5, 6, 7, 8] rfl 0 rfl rfl rfl hl.1 rfl (Nat.le_of_ble_eq_true rfl) dX13_scrapsAhead_35 ?_
        refine lv_aload_n F.1 F.2.1 dX13_scrapsAhead_38 rfl (lv_at hl 0 rfl) ?_
        refine lv_iload_n F.1 F.2.1 dX13_scrapsAhead_39 rfl (lv_at hl 3 rfl) ?_
        refine lv_iconst (v := 1) F.1 F.2.1 dX13_scrapsAhead_40 (by decide) ?_
        obtain ⟨z9, k10, h⟩ := bd_ok h
        refine cRV (As := [.int x3, .int 1]) (rest := [.int z7]) F hE hX va_S.rf (tX13_scrapAt l dC dI g a0 a1 a2 a3 a4 a5 a6 a7 a8 uth uch ufc usv ull ubl uba uea ufa uso udn uw uun usr ube ubs uln ubu unu x3 1 k10) mbX13_scrapAt q1819 ⟨(Nat.le_of_ble_eq_true rfl), (Nat.le_of_ble_eq_true rfl)⟩ ⟨Nat.zero_le _, Nat.zero_le _⟩ hP [0, 1, 2, 3, 4, 5, 6, 7, 8] rfl 0 rfl rfl rfl hl.1 rfl (Nat.le_of_ble_eq_true rfl) dX13_scrapsAhead_41 ?_
        refine lv_isub F.1 F.2.1 dX13_scrapsAhead_44 ?_
        refine lv_istore (lv' := [(4, .int (z7 - z9)), (0, .ref a0), (1, .int x1), (2, .int x2), (3, .int x3)]) F.1 F.2.1 dX13_scrapsAhead_45 hl (by decide) rfl (fun ls hl => ?_)
        refine lv_iload_n F.1 F.2.1 dX13_scrapsAhead_47 rfl (lv_at hl 3 rfl) ?_
        refine lv_iload F.1 F.2.1 dX13_scrapsAhead_48 (lv_at hl 0 rfl) ?_
        refine lv_if_gt (tgt := 63) F.1 F.2.1 dX13_scrapsAhead_50 (by decide) (fun k11 => ?_) (fun k11 => ?_)
        · replace h := it_t k11 h
          refine lv_iconst (v := 1) F.1 F.2.1 dX13_scrapsAhead_63 (by decide) ?_
          refine lv_goto (tgt := 68) F.1 F.2.1 dX13_scrapsAhead_64 (by decide) ?_
          refine lv_iadd F.1 F.2.1 dX13_scrapsAhead_68 ?_
          refine lv_istore_n (lv' := [(2, .int (x2 + 1)), (4, .int (z7 - z9)), (0, .ref a0), (1, .int x1), (3, .int x3)]) F.1 F.2.1 dX13_scrapsAhead_69 rfl hl (by decide) rfl (fun ls hl => ?_)
          refine lv_iinc (v := x3 + 1) (lv' := [(3, .int (x3 + 1)), (2, .int (x2 + 1)), (4, .int (z7 - z9)), (0, .ref a0), (1, .int x1)]) F.1 F.2.1 dX13_scrapsAhead_70 hl (k := 4) rfl (by rfl) (by decide) rfl (fun ls hl => ?_)
          refine lv_goto (tgt := 4) F.1 F.2.1 dX13_scrapsAhead_73 (by decide) ?_
          exact ih (x2 + 1) (x3 + 1) h ls (lv_sub hl [3, 4, 1, 0] rfl)
        · replace h := it_f k11 h
          refine lv_iload F.1 F.2.1 dX13_scrapsAhead_53 (lv_at hl 0 rfl) ?_
          refine lv_if_ne (tgt := 67) F.1 F.2.1 dX13_scrapsAhead_55 (by decide) (fun k12 => ?_) (fun k12 => ?_)
          · replace h := it_f k12 h
            refine lv_iconst (v := 0) F.1 F.2.1 dX13_scrapsAhead_67 (by decide) ?_
            refine lv_iadd F.1 F.2.1 dX13_scrapsAhead_68 ?_
            refine lv_istore_n (lv' := [(2, .int (x2 + 0)), (4, .int (z7 - z9)), (0, .ref a0), (1, .int x1), (3, .int x3)]) F.1 F.2.1 dX13_scrapsAhead_69 rfl hl (by decide) rfl (fun ls hl => ?_)
            refine lv_iinc (v := x3 + 1) (lv' := [(3, .int (x3 + 1)), (2, .int (x2 + 0)), (4, .int (z7 - z9)), (0, .ref a0), (1, .int x1)]) F.1 F.2.1 dX13_scrapsAhead_70 hl (k := 4) rfl (by rfl) (by decide) rfl (fun ls hl => ?_)
            refine lv_goto (tgt := 4) F.1 F.2.1 dX13_scrapsAhead_73 (by decide) ?_
            exact ih (x2 + 0) (x3 + 1) h ls (lv_sub hl [3, 4, 1, 0] rfl)
          · replace h := it_t k12 h
            refine lv_iload_n F.1 F.2.1 dX13_scrapsAhead_58 rfl (lv_at hl 4 rfl) ?_
            refine lv_iload_n F.1 F.2.1 dX13_scrapsAhead_59 rfl (lv_at hl 2 rfl) ?_
            refine lv_icmp_ge (tgt := 67) F.1 F.2.1 dX13_scrapsAhead_60 (by decide) (fun k13 => ?_) (fun k13 => ?_)
            · replace h := it_t k13 h
              refine lv_iconst (v := 0) F.1 F.2.1 dX13_scrapsAhead_67 (by decide) ?_
              refine lv_iadd F.1 F.2.1 dX13_scrapsAhead_68 ?_
              refine lv_istore_n (lv' := [(2, .int (x2 + 0)), (4, .int (z7 - z9)), (0, .ref a0), (1, .int x1), (3, .int x3)]) F.1 F.2.1 dX13_scrapsAhead_69 rfl hl (by decide) rfl (fun ls hl => ?_)
              refine lv_iinc (v := x3 + 1) (lv' := [(3, .int (x3 + 1)), (2, .int (x2 + 0)), (4, .int (z7 - z9)), (0, .ref a0), (1, .int x1)]) F.1 F.2.1 dX13_scrapsAhead_70 hl (k := 4) rfl (by rfl) (by decide) rfl (fun ls hl => ?_)
              refine lv_goto (tgt := 4) F.1 F.2.1 dX13_scrapsAhead_73 (by decide) ?_
              exact ih (x2 + 0) (x3 + 1) h ls (lv_sub hl [3, 4, 1, 0] rfl)
            · replace h := it_f k13 h
              refine lv_iconst (v := 1) F.1 F.2.1 dX13_scrapsAhead_63 (by decide) ?_
              refine lv_goto (tgt := 68) F.1 F.2.1 dX13_scrapsAhead_64 (by decide) ?_
              refine lv_iadd F.1 F.2.1 dX13_scrapsAhead_68 ?_
              refine lv_istore_n (lv' := [(2, .int (x2 + 1)), (4, .int (z7 - z9)), (0, .ref a0), (1, .int x1), (3, .int x3)]) F.1 F.2.1 dX13_scrapsAhead_69 rfl hl (by decide) rfl (fun ls hl => ?_)
              refine lv_iinc (v := x3 + 1) (lv' := [(3, .int (x3 + 1)), (2, .int (x2 + 1)), (4, .int (z7 - z9)), (0, .ref a0), (1, .int x1)]) F.1 F.2.1 dX13_scrapsAhead_70 hl (k := 4) rfl (by rfl) (by decide) rfl (fun ls hl => ?_)
              refine lv_goto (tgt := 4) F.1 F.2.1 dX13_scrapsAhead_73 (by decide) ?_
              exact ih (x2 + 1) (x3 + 1) h ls (lv_sub hl [3, 4, 1, 0] rfl)
      · replace h := it_f k6 h
        refine lv_goto (tgt := 70) F.1 F.2.1 dX13_scrapsAhead_29 (by decide) ?_
        refine lv_iinc (v := x3 + 1) (lv' := [(3, .int (x3 + 1)), (0, .ref a0), (1, .int x1), (2, .int x2)]) F.1 F.2.1 dX13_scrapsAhead_70 hl (k := 3) rfl (by rfl) (by decide) rfl (fun ls hl => ?_)
        refine lv_goto (tgt := 4) F.1 F.2.1 dX13_scrapsAhead_73 (by decide) ?_
        exact ih x2 (x3 + 1) h ls (lv_sub hl [1, 2, 3, 0] rfl)
set_option maxHeartbeats 4000000 in
set_option maxRecDepth 100000 in
theorem tX13_scrapsAhead (l : Launch) (dC : Nat → ClassId) (dI : Nat → Nat → Nat) (g : Nat → ClassId) (a0 a1 a2 a3 a4 a5 a6 a7 a8 : Nat) (uth : Int32) (uch : Int32) (ufc : Int32) (usv : Int32) (ull : Int32) (ubl : Int32) (uba : Int32) (uea : Int32) (ufa : Int32) (uso : Int32) (udn : Int32) (uw : Nat → Int32) (uun : Nat → Int32) (usr : Nat → Int32) (ube : Nat → Int32) (ubs : Nat → Int32) (uln : Nat → Int32) (ubu : Nat → Int32) (unu : Nat → Int32) (p1 : Int32) {r : Int32} (h : fX13_scrapsAhead uw p1 = some r) : RO l yX13_scrapsAhead cX13_scrapsAhead 5 (some .int) 1 22 dC dI g [.ref a0, .int p1] (wX13 g a0 a1 a2 a3 a4 a5 a6 a7 a8 uth uch ufc usv ull ubl uba uea ufa uso udn uw uun usr ube ubs uln ubu unu) (some (.int r)) := by
  refine RO_of (by decide) (Nat.le_of_ble_eq_true rfl) ?_
  intro p e s m below meth c ls F hr hlocks hE hX hP hl
  replace F : CF p m c cX13_scrapsAhead 5 s _ RX13 := F
  replace hl : lv_has ls 5 [(0, .ref a0), (1, .int p1)] := hl
  rw [fX13_scrapsAhead] at h
  refine lv_iconst (v := 0) F.1 F.2.1 dX13_scrapsAhead_0 (by decide) ?_
  refine lv_istore_n (lv' := [(2, .int 0), (0, .ref a0), (1, .int p1)]) F.1 F.2.1 dX13_scrapsAhead_1 rfl hl (by decide) rfl (fun ls hl => ?_)
  refine lv_iconst (v := 0) F.1 F.2.1 dX13_scrapsAhead_2 (by decide) ?_
  refine lv_istore_n (lv' := [(3, .int 0), (2, .int 0), (0, .ref a0), (1, .int p1)]) F.1 F.2.1 dX13_scrapsAhead_3 rfl hl (by decide) rfl (fun ls hl => ?_)
  exact tX13_scrapsAhead_L4 F hr hlocks hE hX p1 uth uch ufc usv ull ubl uba uea ufa uso udn uw uun usr ube ubs uln ubu unu hP FU 0 0 h ls (lv_sub hl [2, 3, 1, 0] rfl)
/-! WireCutterModel.scrap -/
def fX13_scrap_L20 (x1 : Int32) (x2 : Int32) (uth : Int32) (uw : Nat → Int32) : Nat → Int32 → Option (Int32 × Int32)
  | 0, _ => none
  | k + 1, x3 =>
    if (uw 4) ≤ x3 then
      (fX13_fails 2).bind fun z5 =>
      some (z5.1, z5.2)
    else
      (fX13_scrapAt uw x3 0).bind fun z7 =>
      if z7 = (x1 - 97) then
        (fX13_scrapsAhead uw x3).bind fun z10 =>
        if z10 = x2 then
          (fX13_scrapAt uw x3 1).bind fun z13 =>
          some (z13, uth)
        else
          fX13_scrap_L20 x1 x2 uth uw k (x3 + 1)
      else
        fX13_scrap_L20 x1 x2 uth uw k (x3 + 1)
def fX13_scrap (uw : Nat → Int32) (p1 : Int32) (p2 : Int32) : Option (Int32 × Int32) :=
  (fX13_isMaterial p1).bind fun z1 =>
  if z1 = 0 then
    (fX13_fails 1).bind fun z15 =>
    some (z15.1, z15.2)
  else
    fX13_scrap_L20 p1 p2 0 uw FU 0
theorem mbX13_scrap : MV yX13_scrap cX13_scrap 4 (some .int) 2 := ⟨⟨q1994, q16, by decide +kernel⟩, q1992, q1993⟩
set_option maxHeartbeats 4000000 in
set_option maxRecDepth 100000 in
theorem tX13_scrap_L20 {p : Program} {l : Launch} {e : Env} {s : State} {m : MethodId} {args : Array Value} {below : List Frame} {meth : Method} {c : Code} {dC : Nat → ClassId} {dI : Nat → Nat → Nat} {g : Nat → ClassId} {a0 a1 a2 a3 a4 a5 a6 a7 a8 : Nat} {r : Int32 × Int32} {A : Nat → Prop} (F : CF p m c cX13_scrap 4 s args RX13) (hr : meth.sig.returnType = (some .int)) (hlocks : meth.locks = false) (hE : EK dC dI g s) (hX : EX g A s s.heap) (hA : ∀ q : Nat, s.heap.size ≤ q → A q) (x1 : Int32) (x2 : Int32) (uth : Int32) (uch : Int32) (ufc : Int32) (usv : Int32) (ull : Int32) (ubl : Int32) (uba : Int32) (uea : Int32) (ufa : Int32) (uso : Int32) (udn : Int32) (uw : Nat → Int32) (uun : Nat → Int32) (usr : Nat → Int32) (ube : Nat → Int32) (ubs : Nat → Int32) (uln : Nat → Int32) (ubu : Nat → Int32) (unu : Nat → Int32) : ∀ (k : Nat) (x3 : Int32), fX13_scrap_L20 x1 x2 uth uw k x3 = some r → ∀ (H : Heap) (locs : List Loc), va_P (dC, dI) vwCl (wX13 g a0 a1 a2 a3 a4 a5 a6 a7 a8 uth uch ufc usv ull ubl uba uea ufa uso udn uw uun usr ube ubs uln ubu unu) H → va_D A (wX13 g a0 a1 a2 a3 a4 a5 a6 a7 a8 uth uch ufc usv ull ubl uba uea ufa uso udn uw uun usr ube ubs uln ubu unu) → va_S A s.heap H locs → ∀ (ls : Array Slot), lv_has ls 4 [(0, .ref a0), (1, .int x1), (2, .int x2), (3, .int x3)] → W p l e { frames := 2, cells := 0, slots := 0, locals := 46 } s m args below meth c H locs 0 0 (MQ below (fun _ st o t => o = .returned (some (.int r.1)) ∧ va_P (dC, dI) vwCl (wX13 g a0 a1 a2 a3 a4 a5 a6 a7 a8 r.2 uch ufc usv ull ubl uba uea ufa uso udn uw uun usr ube ubs uln ubu unu) t.heap ∧ va_F A st t) args s 0 0 A) (F0 m 20 ls []) := by
  intro k
  induction k with
  | zero =>
    intro x3 h
    exact absurd h (by simp [fX13_scrap_L20])
  | succ k ih =>
    intro x3 h H locs hP hD hS ls hl
    rw [fX13_scrap_L20] at h
    refine lv_iload_n F.1 F.2.1 dX13_scrap_20 rfl (lv_at hl 3 rfl) ?_
    refine lv_aload_n F.1 F.2.1 dX13_scrap_21 rfl (lv_at hl 0 rfl) ?_
    refine gF (v := .ref a1) F hE hP 0 rfl rfl inX13 1 (by decide) q1685 rfl dX13_scrap_22 ?_
    refine lv_iconst (v := 4) F.1 F.2.1 dX13_scrap_25 (by decide) ?_
    refine aLi (k := 4) F hE hP 1 0 rfl rfl (by decide) (by decide) dX13_scrap_26 ?_
    refine lv_icmp_ge (tgt := 65) F.1 F.2.1 dX13_scrap_27 (by decide) (fun k4 => ?_) (fun k4 => ?_)
    · replace h := it_t k4 h
      refine lv_aload_n F.1 F.2.1 dX13_scrap_65 rfl (lv_at hl 0 rfl) ?_
      refine lv_iconst (v := 2) F.1 F.2.1 dX13_scrap_66 (by decide) ?_
      obtain ⟨z5, k6, h⟩ := bd_ok h
      refine cMV (As := [.int 2]) (rest := []) (ws' := wX13 g a0 a1 a2 a3 a4 a5 a6 a7 a8 z5.2 uch ufc usv ull ubl uba uea ufa uso udn uw uun usr ube ubs uln ubu unu) F hE hX (tX13_fails l dC dI g a0 a1 a2 a3 a4 a5 a6 a7 a8 uth uch ufc usv ull ubl uba uea ufa uso udn uw uun usr ube ubs uln ubu unu 2 k6) mbX13_fails q1756 ⟨(Nat.le_of_ble_eq_true rfl), (Nat.le_of_ble_eq_true rfl)⟩ ⟨(Nat.le_of_ble_eq_true rfl), (Nat.le_of_ble_eq_true rfl)⟩ hP hD hS hA [0, 1, 2, 3, 4, 5, 6, 7, 8] rfl rfl rfl rfl rfl 0 rfl rfl rfl hl.1 rfl (Nat.le_of_ble_eq_true rfl) dX13_scrap_67 (fun H locs hP hD hS => ?_)
      cases h
      exact MU_i F hr hlocks (Nat.le_refl _) (Nat.le_refl _) hP hS dX13_scrap_70
    · replace h := it_f k4 h
      refine lv_aload_n F.1 F.2.1 dX13_scrap_30 rfl (lv_at hl 0 rfl) ?_
      refine lv_iload_n F.1 F.2.1 dX13_scrap_31 rfl (lv_at hl 3 rfl) ?_
      refine lv_iconst (v := 0) F.1 F.2.1 dX13_scrap_32 (by decide) ?_
      obtain ⟨z7, k8, h⟩ := bd_ok h
      refine cRV (As := [.int x3, .int 0]) (rest := []) F hE hX hS (tX13_scrapAt l dC dI g a0 a1 a2 a3 a4 a5 a6 a7 a8 uth uch ufc usv ull ubl uba uea ufa uso udn uw uun usr ube ubs uln ubu unu x3 0 k8) mbX13_scrapAt q1819 ⟨(Nat.le_of_ble_eq_true rfl), (Nat.le_of_ble_eq_true rfl)⟩ ⟨Nat.zero_le _, Nat.zero_le _⟩ hP [0, 1, 2, 3, 4, 5, 6, 7, 8] rfl 0 rfl rfl rfl hl.1 rfl (Nat.le_of_ble_eq_true rfl) dX13_scrap_33 ?_
      refine lv_iload_n F.1 F.2.1 dX13_scrap_36 rfl (lv_at hl 1 rfl) ?_
      refine lv_bipush (v := 97) F.1 F.2.1 dX13_scrap_37 (by decide) ?_
      refine lv_isub F.1 F.2.1 dX13_scrap_39 ?_
      refine lv_icmp_ne (tgt := 59) F.1 F.2.1 dX13_scrap_40 (by decide) (fun k9 => ?_) (fun k9 => ?_)
      · replace h := it_f k9 h
        refine lv_iinc (v := x3 + 1) (lv' := [(3, .int (x3 + 1)), (0, .ref a0), (1, .int x1), (2, .int x2)]) F.1 F.2.1 dX13_scrap_59 hl (k := 3) rfl (by rfl) (by decide) rfl (fun ls hl => ?_)
        refine lv_goto (tgt := 20) F.1 F.2.1 dX13_scrap_62 (by decide) ?_
        exact ih (x3 + 1) h _ _ hP hD hS ls (lv_sub hl [1, 2, 3, 0] rfl)
      · replace h := it_t k9 h
        refine lv_aload_n F.1 F.2.1 dX13_scrap_43 rfl (lv_at hl 0 rfl) ?_
        refine lv_iload_n F.1 F.2.1 dX13_scrap_44 rfl (lv_at hl 3 rfl) ?_
        obtain ⟨z10, k11, h⟩ := bd_ok h
        refine cRV (As := [.int x3]) (rest := []) F hE hX hS (tX13_scrapsAhead l dC dI g a0 a1 a2 a3 a4 a5 a6 a7 a8 uth uch ufc usv ull ubl uba uea ufa uso udn uw uun usr ube ubs uln ubu unu x3 k11) mbX13_scrapsAhead q1995 ⟨(Nat.le_of_ble_eq_true rfl), (Nat.le_of_ble_eq_true rfl)⟩ ⟨Nat.zero_le _, Nat.zero_le _⟩ hP [0, 1, 2, 3, 4, 5, 6, 7, 8] rfl 0 rfl rfl rfl hl.1 rfl (Nat.le_of_ble_eq_true rfl) dX13_scrap_45 ?_
        refine lv_iload_n F.1 F.2.1 dX13_scrap_48 rfl (lv_at hl 2 rfl) ?_
        refine lv_icmp_ne (tgt := 59) F.1 F.2.1 dX13_scrap_49 (by decide) (fun k12 => ?_) (fun k12 => ?_)
        · replace h := it_f k12 h
          refine lv_iinc (v := x3 + 1) (lv' := [(3, .int (x3 + 1)), (0, .ref a0), (1, .int x1), (2, .int x2)]) F.1 F.2.1 dX13_scrap_59 hl (k := 3) rfl (by rfl) (by decide) rfl (fun ls hl => ?_)
          refine lv_goto (tgt := 20) F.1 F.2.1 dX13_scrap_62 (by decide) ?_
          exact ih (x3 + 1) h _ _ hP hD hS ls (lv_sub hl [1, 2, 3, 0] rfl)
        · replace h := it_t k12 h
          refine lv_aload_n F.1 F.2.1 dX13_scrap_52 rfl (lv_at hl 0 rfl) ?_
          refine lv_iload_n F.1 F.2.1 dX13_scrap_53 rfl (lv_at hl 3 rfl) ?_
          refine lv_iconst (v := 1) F.1 F.2.1 dX13_scrap_54 (by decide) ?_
          obtain ⟨z13, k14, h⟩ := bd_ok h
          refine cRV (As := [.int x3, .int 1]) (rest := []) F hE hX hS (tX13_scrapAt l dC dI g a0 a1 a2 a3 a4 a5 a6 a7 a8 uth uch ufc usv ull ubl uba uea ufa uso udn uw uun usr ube ubs uln ubu unu x3 1 k14) mbX13_scrapAt q1819 ⟨(Nat.le_of_ble_eq_true rfl), (Nat.le_of_ble_eq_true rfl)⟩ ⟨Nat.zero_le _, Nat.zero_le _⟩ hP [0, 1, 2, 3, 4, 5, 6, 7, 8] rfl 0 rfl rfl rfl hl.1 rfl (Nat.le_of_ble_eq_true rfl) dX13_scrap_55 ?_
          cases h
          exact MU_i F hr hlocks (Nat.le_refl _) (Nat.le_refl _) hP hS dX13_scrap_58
set_option maxHeartbeats 4000000 in
set_option maxRecDepth 100000 in
theorem tX13_scrap (l : Launch) (dC : Nat → ClassId) (dI : Nat → Nat → Nat) (g : Nat → ClassId) (a0 a1 a2 a3 a4 a5 a6 a7 a8 : Nat) (uth : Int32) (uch : Int32) (ufc : Int32) (usv : Int32) (ull : Int32) (ubl : Int32) (uba : Int32) (uea : Int32) (ufa : Int32) (uso : Int32) (udn : Int32) (uw : Nat → Int32) (uun : Nat → Int32) (usr : Nat → Int32) (ube : Nat → Int32) (ubs : Nat → Int32) (uln : Nat → Int32) (ubu : Nat → Int32) (unu : Nat → Int32) (p1 : Int32) (p2 : Int32) {r : Int32 × Int32} (h : fX13_scrap uw p1 p2 = some r) : MU l yX13_scrap cX13_scrap 4 (some .int) 2 46 0 0 dC dI g [.ref a0, .int p1, .int p2] (wX13 g a0 a1 a2 a3 a4 a5 a6 a7 a8 uth uch ufc usv ull ubl uba uea ufa uso udn uw uun usr ube ubs uln ubu unu) (wX13 g a0 a1 a2 a3 a4 a5 a6 a7 a8 r.2 uch ufc usv ull ubl uba uea ufa uso udn uw uun usr ube ubs uln ubu unu) (some (.int r.1)) := by
  refine MU_of (by decide) (Nat.le_of_ble_eq_true rfl) ?_
  intro p e s m below meth c ls F hr hlocks hE hX hA hP hD hS hl
  generalize va_A (wX13 g a0 a1 a2 a3 a4 a5 a6 a7 a8 uth uch ufc usv ull ubl uba uea ufa uso udn uw uun usr ube ubs uln ubu unu) s.heap.size = A at hA hD hS hX ⊢
  replace F : CF p m c cX13_scrap 4 s _ RX13 := F
  replace hl : lv_has ls 4 [(0, .ref a0), (1, .int p1), (2, .int p2)] := hl
  rw [fX13_scrap] at h
  refine lv_aload_n F.1 F.2.1 dX13_scrap_0 rfl (lv_at hl 0 rfl) ?_
  refine lv_iconst (v := 0) F.1 F.2.1 dX13_scrap_1 (by decide) ?_
  refine pF (v := .int 0) F hE hP hD hS 0 rfl rfl inX13 tyX13 tyX13_ok nmX13 0 (by decide) q1684 rfl rfl rfl (Nat.le_of_ble_eq_true rfl) dX13_scrap_2 (fun H locs hP hD hS => ?_)
  replace hP : va_P (dC, dI) vwCl (wX13 g a0 a1 a2 a3 a4 a5 a6 a7 a8 0 uch ufc usv ull ubl uba uea ufa uso udn uw uun usr ube ubs uln ubu unu) H := hP
  replace hD : va_D A (wX13 g a0 a1 a2 a3 a4 a5 a6 a7 a8 0 uch ufc usv ull ubl uba uea ufa uso udn uw uun usr ube ubs uln ubu unu) := hD
  refine lv_iload_n F.1 F.2.1 dX13_scrap_5 rfl (lv_at hl 1 rfl) ?_
  obtain ⟨z1, k2, h⟩ := bd_ok h
  refine cRS (As := [.int p1]) (rest := []) F hE hX hS (tX13_isMaterial l dC dI g p1 k2) mbX13_isMaterial q1750 ⟨(Nat.le_of_ble_eq_true rfl), (Nat.le_of_ble_eq_true rfl)⟩ ⟨Nat.zero_le _, Nat.zero_le _⟩ hP [] rfl rfl hl.1 rfl (Nat.le_of_ble_eq_true rfl) dX13_scrap_6 ?_
  refine lv_if_ne (tgt := 18) F.1 F.2.1 dX13_scrap_9 (by decide) (fun k3 => ?_) (fun k3 => ?_)
  · replace h := it_f k3 h
    refine lv_iconst (v := 0) F.1 F.2.1 dX13_scrap_18 (by decide) ?_
    refine lv_istore_n (lv' := [(3, .int 0), (0, .ref a0), (1, .int p1), (2, .int p2)]) F.1 F.2.1 dX13_scrap_19 rfl hl (by decide) rfl (fun ls hl => ?_)
    exact tX13_scrap_L20 F hr hlocks hE hX hA p1 p2 0 uch ufc usv ull ubl uba uea ufa uso udn uw uun usr ube ubs uln ubu unu FU 0 h _ _ hP hD hS ls (lv_sub hl [1, 2, 3, 0] rfl)
  · replace h := it_t k3 h
    refine lv_aload_n F.1 F.2.1 dX13_scrap_12 rfl (lv_at hl 0 rfl) ?_
    refine lv_iconst (v := 1) F.1 F.2.1 dX13_scrap_13 (by decide) ?_
    obtain ⟨z15, k16, h⟩ := bd_ok h
    refine cMV (As := [.int 1]) (rest := []) (ws' := wX13 g a0 a1 a2 a3 a4 a5 a6 a7 a8 z15.2 uch ufc usv ull ubl uba uea ufa uso udn uw uun usr ube ubs uln ubu unu) F hE hX (tX13_fails l dC dI g a0 a1 a2 a3 a4 a5 a6 a7 a8 0 uch ufc usv ull ubl uba uea ufa uso udn uw uun usr ube ubs uln ubu unu 1 k16) mbX13_fails q1756 ⟨(Nat.le_of_ble_eq_true rfl), (Nat.le_of_ble_eq_true rfl)⟩ ⟨(Nat.le_of_ble_eq_true rfl), (Nat.le_of_ble_eq_true rfl)⟩ hP hD hS hA [0, 1, 2, 3, 4, 5, 6, 7, 8] rfl rfl rfl rfl rfl 0 rfl rfl rfl hl.1 rfl (Nat.le_of_ble_eq_true rfl) dX13_scrap_14 (fun H locs hP hD hS => ?_)
    cases h
    exact MU_i F hr hlocks (Nat.le_refl _) (Nat.le_refl _) hP hS dX13_scrap_17
/-! WireCutterModel.loadOf -/
def fX13_loadOf_L79 (K35 : Int32 → (Nat → Int32) → Option (Int32 × (Nat → Int32))) (x4 : Int32) (x5 : Int32) (uw : Nat → Int32) : Nat → Int32 → (Nat → Int32) → Option (Int32 × (Nat → Int32))
  | 0, _, _ => none
  | k + 1, x6, ubs =>
    if x6 < x5 then
      K35 (x4 + 1) ubs
    else
      gd (inR (x6 - x5) 1010) <|
      (fX13_orderOf uw x4 2).bind fun z11 =>
      gd (inR x6 1010) <|
      if ((ubs ((x6 - x5).toNatClampNeg)) + z11) ≤ (ubs x6.toNatClampNeg) then
        fX13_loadOf_L79 K35 x4 x5 uw k (x6 + (-1)) ubs
      else
        gd (inR x6 1010) <|
        fX13_loadOf_L79 K35 x4 x5 uw k (x6 + (-1)) (upd ubs x6.toNatClampNeg ((ubs ((x6 - x5).toNatClampNeg)) + z11))
def fX13_loadOf_L35 (x1 : Int32) (x3 : Int32) (uw : Nat → Int32) : Nat → Int32 → (Nat → Int32) → Option (Int32 × (Nat → Int32))
  | 0, _, _ => none
  | k + 1, x4, ubs =>
    if (uw 2) ≤ x4 then
      gd (inR x3 1010) <|
      some (ubs x3.toNatClampNeg, ubs)
    else
      (fX13_orderOf uw x4 1).bind fun z4 =>
      if z4 = x1 then
        (fX13_orderOf uw x4 2).bind fun z7 =>
        fX13_loadOf_L79 (fX13_loadOf_L35 x1 x3 uw k) x4 (z7 + (uw 5)) uw FU x3 ubs
      else
        fX13_loadOf_L35 x1 x3 uw k (x4 + 1) ubs
def fX13_loadOf_L12 (x1 : Int32) (x3 : Int32) (uw : Nat → Int32) : Nat → Int32 → (Nat → Int32) → Option (Int32 × (Nat → Int32))
  | 0, _, _ => none
  | k + 1, x4, ubs =>
    if x3 < x4 then
      fX13_loadOf_L35 x1 x3 uw FU 0 ubs
    else
      gd (inR x4 1010) <|
      fX13_loadOf_L12 x1 x3 uw k (x4 + 1) (upd ubs x4.toNatClampNeg 0)
def fX13_loadOf (uw : Nat → Int32) (ubs : Nat → Int32) (p1 : Int32) (p2 : Int32) : Option (Int32 × (Nat → Int32)) :=
  fX13_loadOf_L12 p1 (p2 + (uw 5)) uw FU 0 ubs
theorem mbX13_loadOf : MV yX13_loadOf cX13_loadOf 8 (some .int) 2 := ⟨⟨q2006, q16, by decide +kernel⟩, q2005, qs60⟩
set_option maxHeartbeats 4000000 in
set_option maxRecDepth 100000 in
theorem tX13_loadOf_L79 {p : Program} {l : Launch} {e : Env} {s : State} {m : MethodId} {args : Array Value} {below : List Frame} {meth : Method} {c : Code} {dC : Nat → ClassId} {dI : Nat → Nat → Nat} {g : Nat → ClassId} {a0 a1 a2 a3 a4 a5 a6 a7 a8 : Nat} {r : Int32 × (Nat → Int32)} {A : Nat → Prop} (F : CF p m c cX13_loadOf 8 s args RX13) (hr : meth.sig.returnType = (some .int)) (hlocks : meth.locks = false) (hE : EK dC dI g s) (hX : EX g A s s.heap) (hA : ∀ q : Nat, s.heap.size ≤ q → A q) (x1 : Int32) (x3 : Int32) (x4 : Int32) (x5 : Int32) (uth : Int32) (uch : Int32) (ufc : Int32) (usv : Int32) (ull : Int32) (ubl : Int32) (uba : Int32) (uea : Int32) (ufa : Int32) (uso : Int32) (udn : Int32) (uw : Nat → Int32) (uun : Nat → Int32) (usr : Nat → Int32) (ube : Nat → Int32) (uln : Nat → Int32) (ubu : Nat → Int32) (unu : Nat → Int32) {K35 : Int32 → (Nat → Int32) → Option (Int32 × (Nat → Int32))} (hK35 : ∀ (x4 : Int32) (ubs : Nat → Int32), K35 x4 ubs = some r → ∀ (H : Heap) (locs : List Loc), va_P (dC, dI) vwCl (wX13 g a0 a1 a2 a3 a4 a5 a6 a7 a8 uth uch ufc usv ull ubl uba uea ufa uso udn uw uun usr ube ubs uln ubu unu) H → va_D A (wX13 g a0 a1 a2 a3 a4 a5 a6 a7 a8 uth uch ufc usv ull ubl uba uea ufa uso udn uw uun usr ube ubs uln ubu unu) → va_S A s.heap H locs → ∀ (ls : Array Slot), lv_has ls 8 [(0, .ref a0), (1, .int x1), (3, .int x3), (4, .int x4)] → W p l e { frames := 1, cells := 0, slots := 0, locals := 22 } s m args below meth c H locs 0 0 (MQ below (fun _ st o t => o = .returned (some (.int r.1)) ∧ va_P (dC, dI) vwCl (wX13 g a0 a1 a2 a3 a4 a5 a6 a7 a8 uth uch ufc usv ull ubl uba uea ufa uso udn uw uun usr ube r.2 uln ubu unu) t.heap ∧ va_F A st t) args s 0 0 A) (F0 m 35 ls [])) : ∀ (k : Nat) (x6 : Int32) (ubs : Nat → Int32), fX13_loadOf_L79 K35 x4 x5 uw k x6 ubs = some r → ∀ (H : Heap) (locs : List Loc), va_P (dC, dI) vwCl (wX13 g a0 a1 a2 a3 a4 a5 a6 a7 a8 uth uch ufc usv ull ubl uba uea ufa uso udn uw uun usr ube ubs uln ubu unu) H → va_D A (wX13 g a0 a1 a2 a3 a4 a5 a6 a7 a8 uth uch ufc usv ull ubl uba uea ufa uso udn uw uun usr ube ubs uln ubu unu) → va_S A s.heap H locs → ∀ (ls : Array Slot), lv_has ls 8 [(0, .ref a0), (1, .int x1), (3, .int x3), (4, .int x4), (5, .int x5), (6, .int x6)] → W p l e { frames := 1, cells := 0, slots := 0, locals := 22 } s m args below meth c H locs 0 0 (MQ below (fun _ st o t => o = .returned (some (.int r.1)) ∧ va_P (dC, dI) vwCl (wX13 g a0 a1 a2 a3 a4 a5 a6 a7 a8 uth uch ufc usv ull ubl uba uea ufa uso udn uw uun usr ube r.2 uln ubu unu) t.heap ∧ va_F A st t) args s 0 0 A) (F0 m 79 ls []) := by
  intro k
  induction k with
  | zero =>
    intro x6 ubs h
    exact absurd h (by simp [fX13_loadOf_L79])
  | succ k ih =>
    intro x6 ubs h H locs hP hD hS ls hl
    rw [fX13_loadOf_L79] at h
    refine lv_iload F.1 F.2.1 dX13_loadOf_79 (lv_at hl 5 rfl) ?_
    refine lv_iload F.1 F.2.1 dX13_loadOf_81 (lv_at hl 4 rfl) ?_
    refine lv_icmp_lt (tgt := 133) F.1 F.2.1 dX13_loadOf_83 (by decide) (fun k9 => ?_) (fun k9 => ?_)
    · replace h := it_t k9 h
      refine lv_iinc (v := x4 + 1) (lv' := [(4, .int (x4 + 1)), (0, .ref a0), (1, .int x1), (3, .int x3), (5, .int x5), (6, .int x6)]) F.1 F.2.1 dX13_loadOf_133 hl (k := 3) rfl (by rfl) (by decide) rfl (fun ls hl => ?_)
      refine lv_goto (tgt := 35) F.1 F.2.1 dX13_loadOf_136 (by decide) ?_
      exact hK35 (x4 + 1) ubs h _ _ hP hD hS ls (lv_sub hl [1, 2, 3, 0] rfl)
    · replace h := it_f k9 h
      refine lv_aload_n F.1 F.2.1 dX13_loadOf_86 rfl (lv_at hl 0 rfl) ?_
      refine gF (v := .ref a5) F hE hP 0 rfl rfl inX13 8 (by decide) q1692 rfl dX13_loadOf_87 ?_
      refine lv_iload F.1 F.2.1 dX13_loadOf_90 (lv_at hl 5 rfl) ?_
      refine lv_iload F.1 F.2.1 dX13_loadOf_92 (lv_at hl 4 rfl) ?_
      refine lv_isub F.1 F.2.1 dX13_loadOf_94 ?_
      obtain ⟨k10, h⟩ := gd_ok h
      refine aLi (k := (x6 - x5).toNatClampNeg) F hE hP 5 0 rfl rfl k10 rfl dX13_loadOf_95 ?_
      refine lv_aload_n F.1 F.2.1 dX13_loadOf_96 rfl (lv_at hl 0 rfl) ?_
      refine lv_iload F.1 F.2.1 dX13_loadOf_97 (lv_at hl 3 rfl) ?_
      refine lv_iconst (v := 2) F.1 F.2.1 dX13_loadOf_99 (by decide) ?_
      obtain ⟨z11, k12, h⟩ := bd_ok h
      refine cRV (As := [.int x4, .int 2]) (rest := [.int (ubs ((x6 - x5).toNatClampNeg))]) F hE hX hS (tX13_orderOf l dC dI g a0 a1 a2 a3 a4 a5 a6 a7 a8 uth uch ufc usv ull ubl uba uea ufa uso udn uw uun usr ube ubs uln ubu unu x4 2 k12) mbX13_orderOf q1839 ⟨(Nat.le_of_ble_eq_true rfl), (Nat.le_of_ble_eq_true rfl)⟩ ⟨Nat.zero_le _, Nat.zero_le _⟩ hP [0, 1, 2, 3, 4, 5, 6, 7, 8] rfl 0 rfl rfl rfl hl.1 rfl (Nat.le_of_ble_eq_true rfl) dX13_loadOf_100 ?_
      refine lv_iadd F.1 F.2.1 dX13_loadOf_103 ?_
      refine lv_istore (lv' := [(7, .int ((ubs ((x6 - x5).toNatClampNeg)) + z11)), (0, .ref a0), (1, .int x1), (3, .int x3), (4, .int x4), (5, .int x5), (6, .int x6)]) F.1 F.2.1 dX13_loadOf_104 hl (by decide) rfl (fun ls hl => ?_)
      refine lv_iload F.1 F.2.1 dX13_loadOf_106 (lv_at hl 0 rfl) ?_
      refine lv_aload_n F.1 F.2.1 dX13_loadOf_108 rfl (lv_at hl 1 rfl) ?_
      refine gF (v := .ref a5) F hE hP 0 rfl rfl inX13 8 (by decide) q1692 rfl dX13_loadOf_109 ?_
      refine lv_iload F.1 F.2.1 dX13_loadOf_112 (lv_at hl 6 rfl) ?_
      obtain ⟨k13, h⟩ := gd_ok h
      refine aLi (k := x6.toNatClampNeg) F hE hP 5 0 rfl rfl k13 rfl dX13_loadOf_114 ?_
      refine lv_icmp_le (tgt := 127) F.1 F.2.1 dX13_loadOf_115 (by decide) (fun k14 => ?_) (fun k14 => ?_)
      · replace h := it_t k14 h
        refine lv_iinc (v := x6 + (-1)) (lv' := [(6, .int (x6 + (-1))), (7, .int ((ubs ((x6 - x5).toNatClampNeg)) + z11)), (0, .ref a0), (1, .int x1), (3, .int x3), (4, .int x4), (5, .int x5)]) F.1 F.2.1 dX13_loadOf_127 hl (k := 6) rfl (by rfl) (by decide) rfl (fun ls hl => ?_)
        refine lv_goto (tgt := 79) F.1 F.2.1 dX13_loadOf_130 (by decide) ?_
        exact ih (x6 + (-1)) ubs h _ _ hP hD hS ls (lv_sub hl [2, 3, 4, 5, 6, 0] rfl)
      · replace h := it_f k14 h
        refine lv_aload_n F.1 F.2.1 dX13_loadOf_118 rfl (lv_at hl 1 rfl) ?_
        refine gF (v := .ref a5) F hE hP 0 rfl rfl inX13 8 (by decide) q1692 rfl dX13_loadOf_119 ?_
        refine lv_iload F.1 F.2.1 dX13_loadOf_122 (lv_at hl 6 rfl) ?_
        refine lv_iload F.1 F.2.1 dX13_loadOf_124 (lv_at hl 0 rfl) ?_
        obtain ⟨k15, h⟩ := gd_ok h
        refine aSi (k := x6.toNatClampNeg) F hE hP hD hS 5 0 rfl rfl k15 rfl dX13_loadOf_126 (fun H locs hP hD hS => ?_)
        replace hP : va_P (dC, dI) vwCl (wX13 g a0 a1 a2 a3 a4 a5 a6 a7 a8 uth uch ufc usv ull ubl uba uea ufa uso udn uw uun usr ube (upd ubs x6.toNatClampNeg ((ubs ((x6 - x5).toNatClampNeg)) + z11)) uln ubu unu) H := hP
        replace hD : va_D A (wX13 g a0 a1 a2 a3 a4 a5 a6 a7 a8 uth uch ufc usv ull ubl uba uea ufa uso udn uw uun usr ube (upd ubs x6.toNatClampNeg ((ubs ((x6 - x5).toNatClampNeg)) + z11)) uln ubu unu) := hD
        refine lv_iinc (v := x6 + (-1)) (lv' := [(6, .int (x6 + (-1))), (7, .int ((ubs ((x6 - x5).toNatClampNeg)) + z11)), (0, .ref a0), (1, .int x1), (3, .int x3), (4, .int x4), (5, .int x5)]) F.1 F.2.1 dX13_loadOf_127 hl (k := 6) rfl (by rfl) (by decide) rfl (fun ls hl => ?_)
        refine lv_goto (tgt := 79) F.1 F.2.1 dX13_loadOf_130 (by decide) ?_
        exact ih (x6 + (-1)) (upd ubs x6.toNatClampNeg ((ubs ((x6 - x5).toNatClampNeg)) + z11)) h _ _ hP hD hS ls (lv_sub hl [2, 3, 4, 5, 6, 0] rfl)
set_option maxHeartbeats 4000000 in
set_option maxRecDepth 100000 in
theorem tX13_loadOf_L35 {p : Program} {l : Launch} {e : Env} {s : State} {m : MethodId} {args : Array Value} {below : List Frame} {meth : Method} {c : Code} {dC : Nat → ClassId} {dI : Nat → Nat → Nat} {g : Nat → ClassId} {a0 a1 a2 a3 a4 a5 a6 a7 a8 : Nat} {r : Int32 × (Nat → Int32)} {A : Nat → Prop} (F : CF p m c cX13_loadOf 8 s args RX13) (hr : meth.sig.returnType = (some .int)) (hlocks : meth.locks = false) (hE : EK dC dI g s) (hX : EX g A s s.heap) (hA : ∀ q : Nat, s.heap.size ≤ q → A q) (x1 : Int32) (x3 : Int32) (uth : Int32) (uch : Int32) (ufc : Int32) (usv : Int32) (ull : Int32) (ubl : Int32) (uba : Int32) (uea : Int32) (ufa : Int32) (uso : Int32) (udn : Int32) (uw : Nat → Int32) (uun : Nat → Int32) (usr : Nat → Int32) (ube : Nat → Int32) (uln : Nat → Int32) (ubu : Nat → Int32) (unu : Nat → Int32) : ∀ (k : Nat) (x4 : Int32) (ubs : Nat → Int32), fX13_loadOf_L35 x1 x3 uw k x4 ubs = some r → ∀ (H : Heap) (locs : List Loc), va_P (dC, dI) vwCl (wX13 g a0 a1 a2 a3 a4 a5 a6 a7 a8 uth uch ufc usv ull ubl uba uea ufa uso udn uw uun usr ube ubs uln ubu unu) H → va_D A (wX13 g a0 a1 a2 a3 a4 a5 a6 a7 a8 uth uch ufc usv ull ubl uba uea ufa uso udn uw uun usr ube ubs uln ubu unu) → va_S A s.heap H locs → ∀ (ls : Array Slot), lv_has ls 8 [(0, .ref a0), (1, .int x1), (3, .int x3), (4, .int x4)] → W p l e { frames := 1, cells := 0, slots := 0, locals := 22 } s m args below meth c H locs 0 0 (MQ below (fun _ st o t => o = .returned (some (.int r.1)) ∧ va_P (dC, dI) vwCl (wX13 g a0 a1 a2 a3 a4 a5 a6 a7 a8 uth uch ufc usv ull ubl uba uea ufa uso udn uw uun usr ube r.2 uln ubu unu) t.heap ∧ va_F A st t) args s 0 0 A) (F0 m 35 ls []) := by
  intro k
  induction k with
  | zero =>
    intro x4 ubs h
    exact absurd h (by simp [fX13_loadOf_L35])
  | succ k ih =>
    intro x4 ubs h H locs hP hD hS ls hl
    rw [fX13_loadOf_L35] at h
    refine lv_iload F.1 F.2.1 dX13_loadOf_35 (lv_at hl 3 rfl) ?_
    refine lv_aload_n F.1 F.2.1 dX13_loadOf_37 rfl (lv_at hl 0 rfl) ?_
    refine gF (v := .ref a1) F hE hP 0 rfl rfl inX13 1 (by decide) q1685 rfl dX13_loadOf_38 ?_
    refine lv_iconst (v := 2) F.1 F.2.1 dX13_loadOf_41 (by decide) ?_
    refine aLi (k := 2) F hE hP 1 0 rfl rfl (by decide) (by decide) dX13_loadOf_42 ?_
    refine lv_icmp_ge (tgt := 139) F.1 F.2.1 dX13_loadOf_43 (by decide) (fun k2 => ?_) (fun k2 => ?_)
    · replace h := it_t k2 h
      refine lv_aload_n F.1 F.2.1 dX13_loadOf_139 rfl (lv_at hl 0 rfl) ?_
      refine gF (v := .ref a5) F hE hP 0 rfl rfl inX13 8 (by decide) q1692 rfl dX13_loadOf_140 ?_
      refine lv_iload_n F.1 F.2.1 dX13_loadOf_143 rfl (lv_at hl 2 rfl) ?_
      obtain ⟨k3, h⟩ := gd_ok h
      refine aLi (k := x3.toNatClampNeg) F hE hP 5 0 rfl rfl k3 rfl dX13_loadOf_144 ?_
      cases h
      exact MU_i F hr hlocks (Nat.le_refl _) (Nat.le_refl _) hP hS dX13_loadOf_145
    · replace h := it_f k2 h
      refine lv_aload_n F.1 F.2.1 dX13_loadOf_46 rfl (lv_at hl 0 rfl) ?_
      refine lv_iload F.1 F.2.1 dX13_loadOf_47 (lv_at hl 3 rfl) ?_
      refine lv_iconst (v := 1) F.1 F.2.1 dX13_loadOf_49 (by decide) ?_
      obtain ⟨z4, k5, h⟩ := bd_ok h
      refine cRV (As := [.int x4, .int 1]) (rest := []) F hE hX hS (tX13_orderOf l dC dI g a0 a1 a2 a3 a4 a5 a6 a7 a8 uth uch ufc usv ull ubl uba uea ufa uso udn uw uun usr ube ubs uln ubu unu x4 1 k5) mbX13_orderOf q1839 ⟨(Nat.le_of_ble_eq_true rfl), (Nat.le_of_ble_eq_true rfl)⟩ ⟨Nat.zero_le _, Nat.zero_le _⟩ hP [0, 1, 2, 3, 4, 5, 6, 7, 8] rfl 0 rfl rfl rfl hl.1 rfl (Nat.le_of_ble_eq_true rfl) dX13_loadOf_50 ?_
      refine lv_iload_n F.1 F.2.1 dX13_loadOf_53 rfl (lv_at hl 1 rfl) ?_
      refine lv_icmp_eq (tgt := 60) F.1 F.2.1 dX13_loadOf_54 (by decide) (fun k6 => ?_) (fun k6 => ?_)
      · replace h := it_t k6 h
        refine lv_aload_n F.1 F.2.1 dX13_loadOf_60 rfl (lv_at hl 0 rfl) ?_
        refine lv_iload F.1 F.2.1 dX13_loadOf_61 (lv_at hl 3 rfl) ?_
        refine lv_iconst (v := 2) F.1 F.2.1 dX13_loadOf_63 (by decide) ?_
        obtain ⟨z7, k8, h⟩ := bd_ok h
        refine cRV (As := [.int x4, .int 2]) (rest := []) F hE hX hS (tX13_orderOf l dC dI g a0 a1 a2 a3 a4 a5 a6 a7 a8 uth uch ufc usv ull ubl uba uea ufa uso udn uw uun usr ube ubs uln ubu unu x4 2 k8) mbX13_orderOf q1839 ⟨(Nat.le_of_ble_eq_true rfl), (Nat.le_of_ble_eq_true rfl)⟩ ⟨Nat.zero_le _, Nat.zero_le _⟩ hP [0, 1, 2, 3, 4, 5, 6, 7, 8] rfl 0 rfl rfl rfl hl.1 rfl (Nat.le_of_ble_eq_true rfl) dX13_loadOf_64 ?_
        refine lv_aload_n F.1 F.2.1 dX13_loadOf_67 rfl (lv_at hl 0 rfl) ?_
        refine gF (v := .ref a1) F hE hP 0 rfl rfl inX13 1 (by decide) q1685 rfl dX13_loadOf_68 ?_
        refine lv_iconst (v := 5) F.1 F.2.1 dX13_loadOf_71 (by decide) ?_
        refine aLi (k := 5) F hE hP 1 0 rfl rfl (by decide) (by decide) dX13_loadOf_72 ?_
        refine lv_iadd F.1 F.2.1 dX13_loadOf_73 ?_
        refine lv_istore (lv' := [(5, .int (z7 + (uw 5))), (0, .ref a0), (1, .int x1), (3, .int x3), (4, .int x4)]) F.1 F.2.1 dX13_loadOf_74 hl (by decide) rfl (fun ls hl => ?_)
        refine lv_iload_n F.1 F.2.1 dX13_loadOf_76 rfl (lv_at hl 3 rfl) ?_
        refine lv_istore (lv' := [(6, .int x3), (5, .int (z7 + (uw 5))), (0, .ref a0), (1, .int x1), (3, .int x3), (4, .int x4)]) F.1 F.2.1 dX13_loadOf_77 hl (by decide) rfl (fun ls hl => ?_)
        exact tX13_loadOf_L79 F hr hlocks hE hX hA x1 x3 x4 (z7 + (uw 5)) uth uch ufc usv ull ubl uba uea ufa uso udn uw uun usr ube uln ubu unu ih FU x3 ubs h _ _ hP hD hS ls (lv_sub hl [2, 3, 4, 5, 1, 0] rfl)
      · replace h := it_f k6 h
        refine lv_goto (tgt := 133) F.1 F.2.1 dX13_loadOf_57 (by decide) ?_
        refine lv_iinc (v := x4 + 1) (lv' := [(4, .int (x4 + 1)), (0, .ref a0), (1, .int x1), (3, .int x3)]) F.1 F.2.1 dX13_loadOf_133 hl (k := 3) rfl (by rfl) (by decide) rfl (fun ls hl => ?_)
        refine lv_goto (tgt := 35) F.1 F.2.1 dX13_loadOf_136 (by decide) ?_
        exact ih (x4 + 1) ubs h _ _ hP hD hS ls (lv_sub hl [1, 2, 3, 0] rfl)
set_option maxHeartbeats 4000000 in
set_option maxRecDepth 100000 in
theorem tX13_loadOf_L12 {p : Program} {l : Launch} {e : Env} {s : State} {m : MethodId} {args : Array Value} {below : List Frame} {meth : Method} {c : Code} {dC : Nat → ClassId} {dI : Nat → Nat → Nat} {g : Nat → ClassId} {a0 a1 a2 a3 a4 a5 a6 a7 a8 : Nat} {r : Int32 × (Nat → Int32)} {A : Nat → Prop} (F : CF p m c cX13_loadOf 8 s args RX13) (hr : meth.sig.returnType = (some .int)) (hlocks : meth.locks = false) (hE : EK dC dI g s) (hX : EX g A s s.heap) (hA : ∀ q : Nat, s.heap.size ≤ q → A q) (x1 : Int32) (x3 : Int32) (uth : Int32) (uch : Int32) (ufc : Int32) (usv : Int32) (ull : Int32) (ubl : Int32) (uba : Int32) (uea : Int32) (ufa : Int32) (uso : Int32) (udn : Int32) (uw : Nat → Int32) (uun : Nat → Int32) (usr : Nat → Int32) (ube : Nat → Int32) (uln : Nat → Int32) (ubu : Nat → Int32) (unu : Nat → Int32) : ∀ (k : Nat) (x4 : Int32) (ubs : Nat → Int32), fX13_loadOf_L12 x1 x3 uw k x4 ubs = some r → ∀ (H : Heap) (locs : List Loc), va_P (dC, dI) vwCl (wX13 g a0 a1 a2 a3 a4 a5 a6 a7 a8 uth uch ufc usv ull ubl uba uea ufa uso udn uw uun usr ube ubs uln ubu unu) H → va_D A (wX13 g a0 a1 a2 a3 a4 a5 a6 a7 a8 uth uch ufc usv ull ubl uba uea ufa uso udn uw uun usr ube ubs uln ubu unu) → va_S A s.heap H locs → ∀ (ls : Array Slot), lv_has ls 8 [(0, .ref a0), (1, .int x1), (3, .int x3), (4, .int x4)] → W p l e { frames := 1, cells := 0, slots := 0, locals := 22 } s m args below meth c H locs 0 0 (MQ below (fun _ st o t => o = .returned (some (.int r.1)) ∧ va_P (dC, dI) vwCl (wX13 g a0 a1 a2 a3 a4 a5 a6 a7 a8 uth uch ufc usv ull ubl uba uea ufa uso udn uw uun usr ube r.2 uln ubu unu) t.heap ∧ va_F A st t) args s 0 0 A) (F0 m 12 ls []) := by
  intro k
  induction k with
  | zero =>
    intro x4 ubs h
    exact absurd h (by simp [fX13_loadOf_L12])
  | succ k ih =>
    intro x4 ubs h H locs hP hD hS ls hl
    rw [fX13_loadOf_L12] at h
    refine lv_iload F.1 F.2.1 dX13_loadOf_12 (lv_at hl 3 rfl) ?_
    refine lv_iload_n F.1 F.2.1 dX13_loadOf_14 rfl (lv_at hl 2 rfl) ?_
    refine lv_icmp_gt (tgt := 32) F.1 F.2.1 dX13_loadOf_15 (by decide) (fun k1 => ?_) (fun k1 => ?_)
    · replace h := it_t k1 h
      refine lv_iconst (v := 0) F.1 F.2.1 dX13_loadOf_32 (by decide) ?_
      refine lv_istore (lv' := [(4, .int 0), (0, .ref a0), (1, .int x1), (3, .int x3)]) F.1 F.2.1 dX13_loadOf_33 hl (by decide) rfl (fun ls hl => ?_)
      exact tX13_loadOf_L35 F hr hlocks hE hX hA x1 x3 uth uch ufc usv ull ubl uba uea ufa uso udn uw uun usr ube uln ubu unu FU 0 ubs h _ _ hP hD hS ls (lv_sub hl [1, 2, 3, 0] rfl)
    · replace h := it_f k1 h
      refine lv_aload_n F.1 F.2.1 dX13_loadOf_18 rfl (lv_at hl 0 rfl) ?_
      refine gF (v := .ref a5) F hE hP 0 rfl rfl inX13 8 (by decide) q1692 rfl dX13_loadOf_19 ?_
      refine lv_iload F.1 F.2.1 dX13_loadOf_22 (lv_at hl 3 rfl) ?_
      refine lv_iconst (v := 0) F.1 F.2.1 dX13_loadOf_24 (by decide) ?_
      obtain ⟨k16, h⟩ := gd_ok h
      refine aSi (k := x4.toNatClampNeg) F hE hP hD hS 5 0 rfl rfl k16 rfl dX13_loadOf_25 (fun H locs hP hD hS => ?_)
      replace hP : va_P (dC, dI) vwCl (wX13 g a0 a1 a2 a3 a4 a5 a6 a7 a8 uth uch ufc usv ull ubl uba uea ufa uso udn uw uun usr ube (upd ubs x4.toNatClampNeg 0) uln ubu unu) H := hP
      replace hD : va_D A (wX13 g a0 a1 a2 a3 a4 a5 a6 a7 a8 uth uch ufc usv ull ubl uba uea ufa uso udn uw uun usr ube (upd ubs x4.toNatClampNeg 0) uln ubu unu) := hD
      refine lv_iinc (v := x4 + 1) (lv' := [(4, .int (x4 + 1)), (0, .ref a0), (1, .int x1), (3, .int x3)]) F.1 F.2.1 dX13_loadOf_26 hl (k := 3) rfl (by rfl) (by decide) rfl (fun ls hl => ?_)
      refine lv_goto (tgt := 12) F.1 F.2.1 dX13_loadOf_29 (by decide) ?_
      exact ih (x4 + 1) (upd ubs x4.toNatClampNeg 0) h _ _ hP hD hS ls (lv_sub hl [1, 2, 3, 0] rfl)
set_option maxHeartbeats 4000000 in
set_option maxRecDepth 100000 in
theorem tX13_loadOf (l : Launch) (dC : Nat → ClassId) (dI : Nat → Nat → Nat) (g : Nat → ClassId) (a0 a1 a2 a3 a4 a5 a6 a7 a8 : Nat) (uth : Int32) (uch : Int32) (ufc : Int32) (usv : Int32) (ull : Int32) (ubl : Int32) (uba : Int32) (uea : Int32) (ufa : Int32) (uso : Int32) (udn : Int32) (uw : Nat → Int32) (uun : Nat → Int32) (usr : Nat → Int32) (ube : Nat → Int32) (ubs : Nat → Int32) (uln : Nat → Int32) (ubu : Nat → Int32) (unu : Nat → Int32) (p1 : Int32) (p2 : Int32) {r : Int32 × (Nat → Int32)} (h : fX13_loadOf uw ubs p1 p2 = some r) : MU l yX13_loadOf cX13_loadOf 8 (some .int) 1 22 0 0 dC dI g [.ref a0, .int p1, .int p2] (wX13 g a0 a1 a2 a3 a4 a5 a6 a7 a8 uth uch ufc usv ull ubl uba uea ufa uso udn uw uun usr ube ubs uln ubu unu) (wX13 g a0 a1 a2 a3 a4 a5 a6 a7 a8 uth uch ufc usv ull ubl uba uea ufa uso udn uw uun usr ube r.2 uln ubu unu) (some (.int r.1)) := by
  refine MU_of (by decide) (Nat.le_of_ble_eq_true rfl) ?_
  intro p e s m below meth c ls F hr hlocks hE hX hA hP hD hS hl
  generalize va_A (wX13 g a0 a1 a2 a3 a4 a5 a6 a7 a8 uth uch ufc usv ull ubl uba uea ufa uso udn uw uun usr ube ubs uln ubu unu) s.heap.size = A at hA hD hS hX ⊢
  replace F : CF p m c cX13_loadOf 8 s _ RX13 := F
  replace hl : lv_has ls 8 [(0, .ref a0), (1, .int p1), (2, .int p2)] := hl
  rw [fX13_loadOf] at h
  refine lv_iload_n F.1 F.2.1 dX13_loadOf_0 rfl (lv_at hl 2 rfl) ?_
  refine lv_aload_n F.1 F.2.1 dX13_loadOf_1 rfl (lv_at hl 0 rfl) ?_
  refine gF (v := .ref a1) F hE hP 0 rfl rfl inX13 1 (by decide) q1685 rfl dX13_loadOf_2 ?_
  refine lv_iconst (v := 5) F.1 F.2.1 dX13_loadOf_5 (by decide) ?_
  refine aLi (k := 5) F hE hP 1 0 rfl rfl (by decide) (by decide) dX13_loadOf_6 ?_
  refine lv_iadd F.1 F.2.1 dX13_loadOf_7 ?_
  refine lv_istore_n (lv' := [(3, .int (p2 + (uw 5))), (0, .ref a0), (1, .int p1), (2, .int p2)]) F.1 F.2.1 dX13_loadOf_8 rfl hl (by decide) rfl (fun ls hl => ?_)
  refine lv_iconst (v := 0) F.1 F.2.1 dX13_loadOf_9 (by decide) ?_
  refine lv_istore (lv' := [(4, .int 0), (3, .int (p2 + (uw 5))), (0, .ref a0), (1, .int p1), (2, .int p2)]) F.1 F.2.1 dX13_loadOf_10 hl (by decide) rfl (fun ls hl => ?_)
  exact tX13_loadOf_L12 F hr hlocks hE hX hA p1 (p2 + (uw 5)) uth uch ufc usv ull ubl uba uea ufa uso udn uw uun usr ube uln ubu unu FU 0 ubs h _ _ hP hD hS ls (lv_sub hl [2, 3, 1, 0] rfl)
/-! WireCutterModel.bestLoad -/
def fX13_bestLoad (uw : Nat → Int32) (ubs : Nat → Int32) (p1 : Int32) : Option (Int32 × Int32 × (Nat → Int32)) :=
  (fX13_spoolPlace uw p1).bind fun z1 =>
  if 0 ≤ z1 then
    (fX13_spoolAt uw z1 1).bind fun z4 =>
    (fX13_spoolAt uw z1 2).bind fun z6 =>
    (fX13_loadOf uw ubs z4 z6).bind fun z8 =>
    some (z8.1, 0, z8.2)
  else
    (fX13_fails 1).bind fun z10 =>
    some (z10.1, z10.2, ubs)
theorem mbX13_bestLoad : MV yX13_bestLoad cX13_bestLoad 3 (some .int) 1 := ⟨⟨q2002, q16, by decide +kernel⟩, q2000, q2001⟩
set_option maxHeartbeats 4000000 in
set_option maxRecDepth 100000 in
theorem tX13_bestLoad (l : Launch) (dC : Nat → ClassId) (dI : Nat → Nat → Nat) (g : Nat → ClassId) (a0 a1 a2 a3 a4 a5 a6 a7 a8 : Nat) (uth : Int32) (uch : Int32) (ufc : Int32) (usv : Int32) (ull : Int32) (ubl : Int32) (uba : Int32) (uea : Int32) (ufa : Int32) (uso : Int32) (udn : Int32) (uw : Nat → Int32) (uun : Nat → Int32) (usr : Nat → Int32) (ube : Nat → Int32) (ubs : Nat → Int32) (uln : Nat → Int32) (ubu : Nat → Int32) (unu : Nat → Int32) (p1 : Int32) {r : Int32 × Int32 × (Nat → Int32)} (h : fX13_bestLoad uw ubs p1 = some r) : MU l yX13_bestLoad cX13_bestLoad 3 (some .int) 2 49 0 0 dC dI g [.ref a0, .int p1] (wX13 g a0 a1 a2 a3 a4 a5 a6 a7 a8 uth uch ufc usv ull ubl uba uea ufa uso udn uw uun usr ube ubs uln ubu unu) (wX13 g a0 a1 a2 a3 a4 a5 a6 a7 a8 r.2.1 uch ufc usv ull ubl uba uea ufa uso udn uw uun usr ube r.2.2 uln ubu unu) (some (.int r.1)) := by
  refine MU_of (by decide) (Nat.le_of_ble_eq_true rfl) ?_
  intro p e s m below meth c ls F hr hlocks hE hX hA hP hD hS hl
  generalize va_A (wX13 g a0 a1 a2 a3 a4 a5 a6 a7 a8 uth uch ufc usv ull ubl uba uea ufa uso udn uw uun usr ube ubs uln ubu unu) s.heap.size = A at hA hD hS hX ⊢
  replace F : CF p m c cX13_bestLoad 3 s _ RX13 := F
  replace hl : lv_has ls 3 [(0, .ref a0), (1, .int p1)] := hl
  rw [fX13_bestLoad] at h
  refine lv_aload_n F.1 F.2.1 dX13_bestLoad_0 rfl (lv_at hl 0 rfl) ?_
  refine lv_iconst (v := 0) F.1 F.2.1 dX13_bestLoad_1 (by decide) ?_
  refine pF (v := .int 0) F hE hP hD hS 0 rfl rfl inX13 tyX13 tyX13_ok nmX13 0 (by decide) q1684 rfl rfl rfl (Nat.le_of_ble_eq_true rfl) dX13_bestLoad_2 (fun H locs hP hD hS => ?_)
  replace hP : va_P (dC, dI) vwCl (wX13 g a0 a1 a2 a3 a4 a5 a6 a7 a8 0 uch ufc usv ull ubl uba uea ufa uso udn uw uun usr ube ubs uln ubu unu) H := hP
  replace hD : va_D A (wX13 g a0 a1 a2 a3 a4 a5 a6 a7 a8 0 uch ufc usv ull ubl uba uea ufa uso udn uw uun usr ube ubs uln ubu unu) := hD
  refine lv_aload_n F.1 F.2.1 dX13_bestLoad_5 rfl (lv_at hl 0 rfl) ?_
  refine lv_iload_n F.1 F.2.1 dX13_bestLoad_6 rfl (lv_at hl 1 rfl) ?_
  obtain ⟨z1, k2, h⟩ := bd_ok h
  refine cRV (As := [.int p1]) (rest := []) F hE hX hS (tX13_spoolPlace l dC dI g a0 a1 a2 a3 a4 a5 a6 a7 a8 0 uch ufc usv ull ubl uba uea ufa uso udn uw uun usr ube ubs uln ubu unu p1 k2) mbX13_spoolPlace q1784 ⟨(Nat.le_of_ble_eq_true rfl), (Nat.le_of_ble_eq_true rfl)⟩ ⟨Nat.zero_le _, Nat.zero_le _⟩ hP [0, 1, 2, 3, 4, 5, 6, 7, 8] rfl 0 rfl rfl rfl hl.1 rfl (Nat.le_of_ble_eq_true rfl) dX13_bestLoad_7 ?_
  refine lv_istore_n (lv' := [(2, .int z1), (0, .ref a0), (1, .int p1)]) F.1 F.2.1 dX13_bestLoad_10 rfl hl (by decide) rfl (fun ls hl => ?_)
  refine lv_iload_n F.1 F.2.1 dX13_bestLoad_11 rfl (lv_at hl 0 rfl) ?_
  refine lv_if_ge (tgt := 23) F.1 F.2.1 dX13_bestLoad_12 (by decide) (fun k3 => ?_) (fun k3 => ?_)
  · replace h := it_t k3 h
    refine lv_aload_n F.1 F.2.1 dX13_bestLoad_23 rfl (lv_at hl 1 rfl) ?_
    refine lv_aload_n F.1 F.2.1 dX13_bestLoad_24 rfl (lv_at hl 1 rfl) ?_
    refine lv_iload_n F.1 F.2.1 dX13_bestLoad_25 rfl (lv_at hl 0 rfl) ?_
    refine lv_iconst (v := 1) F.1 F.2.1 dX13_bestLoad_26 (by decide) ?_
    obtain ⟨z4, k5, h⟩ := bd_ok h
    refine cRV (As := [.int z1, .int 1]) (rest := [.ref a0]) F hE hX hS (tX13_spoolAt l dC dI g a0 a1 a2 a3 a4 a5 a6 a7 a8 0 uch ufc usv ull ubl uba uea ufa uso udn uw uun usr ube ubs uln ubu unu z1 1 k5) mbX13_spoolAt q1788 ⟨(Nat.le_of_ble_eq_true rfl), (Nat.le_of_ble_eq_true rfl)⟩ ⟨Nat.zero_le _, Nat.zero_le _⟩ hP [0, 1, 2, 3, 4, 5, 6, 7, 8] rfl 0 rfl rfl rfl hl.1 rfl (Nat.le_of_ble_eq_true rfl) dX13_bestLoad_27 ?_
    refine lv_aload_n F.1 F.2.1 dX13_bestLoad_30 rfl (lv_at hl 1 rfl) ?_
    refine lv_iload_n F.1 F.2.1 dX13_bestLoad_31 rfl (lv_at hl 0 rfl) ?_
    refine lv_iconst (v := 2) F.1 F.2.1 dX13_bestLoad_32 (by decide) ?_
    obtain ⟨z6, k7, h⟩ := bd_ok h
    refine cRV (As := [.int z1, .int 2]) (rest := [.int z4, .ref a0]) F hE hX hS (tX13_spoolAt l dC dI g a0 a1 a2 a3 a4 a5 a6 a7 a8 0 uch ufc usv ull ubl uba uea ufa uso udn uw uun usr ube ubs uln ubu unu z1 2 k7) mbX13_spoolAt q1788 ⟨(Nat.le_of_ble_eq_true rfl), (Nat.le_of_ble_eq_true rfl)⟩ ⟨Nat.zero_le _, Nat.zero_le _⟩ hP [0, 1, 2, 3, 4, 5, 6, 7, 8] rfl 0 rfl rfl rfl hl.1 rfl (Nat.le_of_ble_eq_true rfl) dX13_bestLoad_33 ?_
    obtain ⟨z8, k9, h⟩ := bd_ok h
    refine cMV (As := [.int z4, .int z6]) (rest := []) (ws' := wX13 g a0 a1 a2 a3 a4 a5 a6 a7 a8 0 uch ufc usv ull ubl uba uea ufa uso udn uw uun usr ube z8.2 uln ubu unu) F hE hX (tX13_loadOf l dC dI g a0 a1 a2 a3 a4 a5 a6 a7 a8 0 uch ufc usv ull ubl uba uea ufa uso udn uw uun usr ube ubs uln ubu unu z4 z6 k9) mbX13_loadOf q2003 ⟨(Nat.le_of_ble_eq_true rfl), (Nat.le_of_ble_eq_true rfl)⟩ ⟨(Nat.le_of_ble_eq_true rfl), (Nat.le_of_ble_eq_true rfl)⟩ hP hD hS hA [0, 1, 2, 3, 4, 5, 6, 7, 8] rfl rfl rfl rfl rfl 0 rfl rfl rfl hl.1 rfl (Nat.le_of_ble_eq_true rfl) dX13_bestLoad_36 (fun H locs hP hD hS => ?_)
    cases h
    exact MU_i F hr hlocks (Nat.le_refl _) (Nat.le_refl _) hP hS dX13_bestLoad_39
  · replace h := it_f k3 h
    refine lv_aload_n F.1 F.2.1 dX13_bestLoad_15 rfl (lv_at hl 1 rfl) ?_
    refine lv_iconst (v := 1) F.1 F.2.1 dX13_bestLoad_16 (by decide) ?_
    obtain ⟨z10, k11, h⟩ := bd_ok h
    refine cMV (As := [.int 1]) (rest := []) (ws' := wX13 g a0 a1 a2 a3 a4 a5 a6 a7 a8 z10.2 uch ufc usv ull ubl uba uea ufa uso udn uw uun usr ube ubs uln ubu unu) F hE hX (tX13_fails l dC dI g a0 a1 a2 a3 a4 a5 a6 a7 a8 0 uch ufc usv ull ubl uba uea ufa uso udn uw uun usr ube ubs uln ubu unu 1 k11) mbX13_fails q1756 ⟨(Nat.le_of_ble_eq_true rfl), (Nat.le_of_ble_eq_true rfl)⟩ ⟨(Nat.le_of_ble_eq_true rfl), (Nat.le_of_ble_eq_true rfl)⟩ hP hD hS hA [0, 1, 2, 3, 4, 5, 6, 7, 8] rfl rfl rfl rfl rfl 0 rfl rfl rfl hl.1 rfl (Nat.le_of_ble_eq_true rfl) dX13_bestLoad_17 (fun H locs hP hD hS => ?_)
    refine lv_goto (tgt := 39) F.1 F.2.1 dX13_bestLoad_20 (by decide) ?_
    cases h
    exact MU_i F hr hlocks (Nat.le_refl _) (Nat.le_refl _) hP hS dX13_bestLoad_39
/-! WireCutterModel.bestLoadByRecursion -/
def fX13_bestLoadByRecursion (uw : Nat → Int32) (ubs : Nat → Int32) (p1 : Int32) : Option (Int32 × Int32 × (Nat → Int32)) :=
  (fX13_bestLoad uw ubs p1).bind fun z1 =>
  some (z1.1, z1.2.1, z1.2.2)
theorem mbX13_bestLoadByRecursion : MV yX13_bestLoadByRecursion cX13_bestLoadByRecursion 2 (some .int) 1 := ⟨⟨q2010, q16, by decide +kernel⟩, q2008, q2009⟩
set_option maxHeartbeats 4000000 in
set_option maxRecDepth 100000 in
theorem tX13_bestLoadByRecursion (l : Launch) (dC : Nat → ClassId) (dI : Nat → Nat → Nat) (g : Nat → ClassId) (a0 a1 a2 a3 a4 a5 a6 a7 a8 : Nat) (uth : Int32) (uch : Int32) (ufc : Int32) (usv : Int32) (ull : Int32) (ubl : Int32) (uba : Int32) (uea : Int32) (ufa : Int32) (uso : Int32) (udn : Int32) (uw : Nat → Int32) (uun : Nat → Int32) (usr : Nat → Int32) (ube : Nat → Int32) (ubs : Nat → Int32) (uln : Nat → Int32) (ubu : Nat → Int32) (unu : Nat → Int32) (p1 : Int32) {r : Int32 × Int32 × (Nat → Int32)} (h : fX13_bestLoadByRecursion uw ubs p1 = some r) : MU l yX13_bestLoadByRecursion cX13_bestLoadByRecursion 2 (some .int) 3 71 0 0 dC dI g [.ref a0, .int p1] (wX13 g a0 a1 a2 a3 a4 a5 a6 a7 a8 uth uch ufc usv ull ubl uba uea ufa uso udn uw uun usr ube ubs uln ubu unu) (wX13 g a0 a1 a2 a3 a4 a5 a6 a7 a8 r.2.1 uch ufc usv ull ubl uba uea ufa uso udn uw uun usr ube r.2.2 uln ubu unu) (some (.int r.1)) := by
  refine MU_of (by decide) (Nat.le_of_ble_eq_true rfl) ?_
  intro p e s m below meth c ls F hr hlocks hE hX hA hP hD hS hl
  generalize va_A (wX13 g a0 a1 a2 a3 a4 a5 a6 a7 a8 uth uch ufc usv ull ubl uba uea ufa uso udn uw uun usr ube ubs uln ubu unu) s.heap.size = A at hA hD hS hX ⊢
  replace F : CF p m c cX13_bestLoadByRecursion 2 s _ RX13 := F
  replace hl : lv_has ls 2 [(0, .ref a0), (1, .int p1)] := hl
  rw [fX13_bestLoadByRecursion] at h
  refine lv_aload_n F.1 F.2.1 dX13_bestLoadByRecursion_0 rfl (lv_at hl 0 rfl) ?_
  refine lv_iload_n F.1 F.2.1 dX13_bestLoadByRecursion_1 rfl (lv_at hl 1 rfl) ?_
  obtain ⟨z1, k2, h⟩ := bd_ok h
  refine cMV (As := [.int p1]) (rest := []) (ws' := wX13 g a0 a1 a2 a3 a4 a5 a6 a7 a8 z1.2.1 uch ufc usv ull ubl uba uea ufa uso udn uw uun usr ube z1.2.2 uln ubu unu) F hE hX (tX13_bestLoad l dC dI g a0 a1 a2 a3 a4 a5 a6 a7 a8 uth uch ufc usv ull ubl uba uea ufa uso udn uw uun usr ube ubs uln ubu unu p1 k2) mbX13_bestLoad q2011 ⟨(Nat.le_of_ble_eq_true rfl), (Nat.le_of_ble_eq_true rfl)⟩ ⟨(Nat.le_of_ble_eq_true rfl), (Nat.le_of_ble_eq_true rfl)⟩ hP hD hS hA [0, 1, 2, 3, 4, 5, 6, 7, 8] rfl rfl rfl rfl rfl 0 rfl rfl rfl hl.1 rfl (Nat.le_of_ble_eq_true rfl) dX13_bestLoadByRecursion_2 (fun H locs hP hD hS => ?_)
  cases h
  exact MU_i F hr hlocks (Nat.le_refl _) (Nat.le_refl _) hP hS dX13_bestLoadByRecursion_5
