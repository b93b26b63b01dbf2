/-! WireCutterModel.addSpool -/
def fX13_addSpool (uch : Int32) (ufc : Int32) (uw : Nat → Int32) (uun : Nat → Int32) (ube : Nat → Int32) (p1 : Int32) (p2 : Int32) : Option (Int32 × Int32 × Int32 × Int32 × (Nat → Int32) × (Nat → Int32) × (Nat → Int32)) :=
  (fX13_notSpool uw p1 p2).bind fun z1 =>
  if z1 = 0 then
    (fX13_remembers uch ufc uw uun ube).bind fun z4 =>
    (fX13_addsSpool uw p1 p2).bind fun z6 =>
    some (z6.1, 0, z4.1, z4.2.1, z6.2, z4.2.2.1, z4.2.2.2)
  else
    (fX13_fails z1).bind fun z8 =>
    some (z8.1, z8.2, uch, ufc, uw, uun, ube)
theorem mbX13_addSpool : MV yX13_addSpool cX13_addSpool 4 (some .int) 2 := ⟨⟨q1745, q16, by decide +kernel⟩, q1743, q1744⟩
set_option maxHeartbeats 4000000 in
set_option maxRecDepth 100000 in
theorem tX13_addSpool (l : Launch) (dC : Nat → ClassId) (dI : Nat → Nat → Nat) (g : Nat → ClassId) (a0 a1 a2 a3 a4 a5 a6 a7 a8 : Nat) (uth : Int32) (uch : Int32) (ufc : Int32) (usv : Int32) (ull : Int32) (ubl : Int32) (uba : Int32) (uea : Int32) (ufa : Int32) (uso : Int32) (udn : Int32) (uw : Nat → Int32) (uun : Nat → Int32) (usr : Nat → Int32) (ube : Nat → Int32) (ubs : Nat → Int32) (uln : Nat → Int32) (ubu : Nat → Int32) (unu : Nat → Int32) (p1 : Int32) (p2 : Int32) {r : Int32 × Int32 × Int32 × Int32 × (Nat → Int32) × (Nat → Int32) × (Nat → Int32)} (h : fX13_addSpool uch ufc uw uun ube p1 p2 = some r) : MU l yX13_addSpool cX13_addSpool 4 (some .int) 3 64 0 0 dC dI g [.ref a0, .int p1, .int p2] (wX13 g a0 a1 a2 a3 a4 a5 a6 a7 a8 uth uch ufc usv ull ubl uba uea ufa uso udn uw uun usr ube ubs uln ubu unu) (wX13 g a0 a1 a2 a3 a4 a5 a6 a7 a8 r.2.1 r.2.2.1 r.2.2.2.1 usv ull ubl uba uea ufa uso udn r.2.2.2.2.1 r.2.2.2.2.2.1 usr r.2.2.2.2.2.2 ubs uln ubu unu) (some (.int r.1)) := by
  refine MU_of (by decide) (Nat.le_of_ble_eq_true rfl) ?_
  intro p e s m below meth c ls F hr hlocks hE hX hA hP hD hS hl
  generalize va_A (wX13 g a0 a1 a2 a3 a4 a5 a6 a7 a8 uth uch ufc usv ull ubl uba uea ufa uso udn uw uun usr ube ubs uln ubu unu) s.heap.size = A at hA hD hS hX ⊢
  replace F : CF p m c cX13_addSpool 4 s _ RX13 := F
  replace hl : lv_has ls 4 [(0, .ref a0), (1, .int p1), (2, .int p2)] := hl
  rw [fX13_addSpool] at h
  refine lv_aload_n F.1 F.2.1 dX13_addSpool_0 rfl (lv_at hl 0 rfl) ?_
  refine lv_iconst (v := 0) F.1 F.2.1 dX13_addSpool_1 (by decide) ?_
  refine pF (v := .int 0) F hE hP hD hS 0 rfl rfl inX13 tyX13 tyX13_ok nmX13 0 (by decide) q1684 rfl rfl rfl (Nat.le_of_ble_eq_true rfl) dX13_addSpool_2 (fun H locs hP hD hS => ?_)
  replace hP : va_P (dC, dI) vwCl (wX13 g a0 a1 a2 a3 a4 a5 a6 a7 a8 0 uch ufc usv ull ubl uba uea ufa uso udn uw uun usr ube ubs uln ubu unu) H := hP
  replace hD : va_D A (wX13 g a0 a1 a2 a3 a4 a5 a6 a7 a8 0 uch ufc usv ull ubl uba uea ufa uso udn uw uun usr ube ubs uln ubu unu) := hD
  refine lv_aload_n F.1 F.2.1 dX13_addSpool_5 rfl (lv_at hl 0 rfl) ?_
  refine lv_iload_n F.1 F.2.1 dX13_addSpool_6 rfl (lv_at hl 1 rfl) ?_
  refine lv_iload_n F.1 F.2.1 dX13_addSpool_7 rfl (lv_at hl 2 rfl) ?_
  obtain ⟨z1, k2, h⟩ := bd_ok h
  refine cRV (As := [.int p1, .int p2]) (rest := []) F hE hX hS (tX13_notSpool l dC dI g a0 a1 a2 a3 a4 a5 a6 a7 a8 0 uch ufc usv ull ubl uba uea ufa uso udn uw uun usr ube ubs uln ubu unu p1 p2 k2) mbX13_notSpool q1746 ⟨(Nat.le_of_ble_eq_true rfl), (Nat.le_of_ble_eq_true rfl)⟩ ⟨Nat.zero_le _, Nat.zero_le _⟩ hP [0, 1, 2, 3, 4, 5, 6, 7, 8] rfl 0 rfl rfl rfl hl.1 rfl (Nat.le_of_ble_eq_true rfl) dX13_addSpool_8 ?_
  refine lv_istore_n (lv' := [(3, .int z1), (0, .ref a0), (1, .int p1), (2, .int p2)]) F.1 F.2.1 dX13_addSpool_11 rfl hl (by decide) rfl (fun ls hl => ?_)
  refine lv_iload_n F.1 F.2.1 dX13_addSpool_12 rfl (lv_at hl 0 rfl) ?_
  refine lv_if_eq (tgt := 22) F.1 F.2.1 dX13_addSpool_13 (by decide) (fun k3 => ?_) (fun k3 => ?_)
  · replace h := it_t k3 h
    refine lv_aload_n F.1 F.2.1 dX13_addSpool_22 rfl (lv_at hl 1 rfl) ?_
    obtain ⟨z4, k5, h⟩ := bd_ok h
    refine cMV (As := []) (rest := []) (ws' := wX13 g a0 a1 a2 a3 a4 a5 a6 a7 a8 0 z4.1 z4.2.1 usv ull ubl uba uea ufa uso udn uw z4.2.2.1 usr z4.2.2.2 ubs uln ubu unu) F hE hX (tX13_remembers l dC dI g a0 a1 a2 a3 a4 a5 a6 a7 a8 0 uch ufc usv ull ubl uba uea ufa uso udn uw uun usr ube ubs uln ubu unu k5) mbX13_remembers q1760 ⟨(Nat.le_of_ble_eq_true rfl), (Nat.le_of_ble_eq_true rfl)⟩ ⟨(Nat.le_of_ble_eq_true rfl), (Nat.le_of_ble_eq_true rfl)⟩ hP hD hS hA [0, 1, 2, 3, 4, 5, 6, 7, 8] rfl rfl rfl rfl rfl 0 rfl rfl rfl hl.1 rfl (Nat.le_of_ble_eq_true rfl) dX13_addSpool_23 (fun H locs hP hD hS => ?_)
    refine lv_aload_n F.1 F.2.1 dX13_addSpool_26 rfl (lv_at hl 1 rfl) ?_
    refine lv_iload_n F.1 F.2.1 dX13_addSpool_27 rfl (lv_at hl 2 rfl) ?_
    refine lv_iload_n F.1 F.2.1 dX13_addSpool_28 rfl (lv_at hl 3 rfl) ?_
    obtain ⟨z6, k7, h⟩ := bd_ok h
    refine cMV (As := [.int p1, .int p2]) (rest := []) (ws' := wX13 g a0 a1 a2 a3 a4 a5 a6 a7 a8 0 z4.1 z4.2.1 usv ull ubl uba uea ufa uso udn z6.2 z4.2.2.1 usr z4.2.2.2 ubs uln ubu unu) F hE hX (tX13_addsSpool l dC dI g a0 a1 a2 a3 a4 a5 a6 a7 a8 0 z4.1 z4.2.1 usv ull ubl uba uea ufa uso udn uw z4.2.2.1 usr z4.2.2.2 ubs uln ubu unu p1 p2 k7) mbX13_addsSpool q1772 ⟨(Nat.le_of_ble_eq_true rfl), (Nat.le_of_ble_eq_true rfl)⟩ ⟨(Nat.le_of_ble_eq_true rfl), (Nat.le_of_ble_eq_true rfl)⟩ hP hD hS hA [0, 1, 2, 3, 4, 5, 6, 7, 8] rfl rfl rfl rfl rfl 0 rfl rfl rfl hl.1 rfl (Nat.le_of_ble_eq_true rfl) dX13_addSpool_29 (fun H locs hP hD hS => ?_)
    cases h
    exact MU_i F hr hlocks (Nat.le_refl _) (Nat.le_refl _) hP hS dX13_addSpool_32
  · replace h := it_f k3 h
    refine lv_aload_n F.1 F.2.1 dX13_addSpool_16 rfl (lv_at hl 1 rfl) ?_
    refine lv_iload_n F.1 F.2.1 dX13_addSpool_17 rfl (lv_at hl 0 rfl) ?_
    obtain ⟨z8, k9, h⟩ := bd_ok h
    refine cMV (As := [.int z1]) (rest := []) (ws' := wX13 g a0 a1 a2 a3 a4 a5 a6 a7 a8 z8.2 uch ufc usv ull ubl uba uea ufa uso udn uw uun usr ube ubs uln ubu unu) F hE hX (tX13_fails l dC dI g a0 a1 a2 a3 a4 a5 a6 a7 a8 0 uch ufc usv ull ubl uba uea ufa uso udn uw uun usr ube ubs uln ubu unu z1 k9) mbX13_fails q1756 ⟨(Nat.le_of_ble_eq_true rfl), (Nat.le_of_ble_eq_true rfl)⟩ ⟨(Nat.le_of_ble_eq_true rfl), (Nat.le_of_ble_eq_true rfl)⟩ hP hD hS hA [0, 1, 2, 3, 4, 5, 6, 7, 8] rfl rfl rfl rfl rfl 0 rfl rfl rfl hl.1 rfl (Nat.le_of_ble_eq_true rfl) dX13_addSpool_18 (fun H locs hP hD hS => ?_)
    cases h
    exact MU_i F hr hlocks (Nat.le_refl _) (Nat.le_refl _) hP hS dX13_addSpool_21
/-! WireCutterModel.notRetire -/
def fX13_notRetire (uw : Nat → Int32) (p1 : Int32) : Option (Int32) :=
  (fX13_spoolPlace uw p1).bind fun z1 =>
  if 0 ≤ z1 then
    some (0)
  else
    some (1)
theorem mbX13_notRetire : MV yX13_notRetire cX13_notRetire 2 (some .int) 1 := ⟨⟨q1783, q16, by decide +kernel⟩, q1782, qs28⟩
set_option maxHeartbeats 4000000 in
set_option maxRecDepth 100000 in
theorem tX13_notRetire (l : Launch) (dC : Nat → ClassId) (dI : Nat → Nat → Nat) (g : Nat → ClassId) (a0 a1 a2 a3 a4 a5 a6 a7 a8 : Nat) (uth : Int32) (uch : Int32) (ufc : Int32) (usv : Int32) (ull : Int32) (ubl : Int32) (uba : Int32) (uea : Int32) (ufa : Int32) (uso : Int32) (udn : Int32) (uw : Nat → Int32) (uun : Nat → Int32) (usr : Nat → Int32) (ube : Nat → Int32) (ubs : Nat → Int32) (uln : Nat → Int32) (ubu : Nat → Int32) (unu : Nat → Int32) (p1 : Int32) {r : Int32} (h : fX13_notRetire uw p1 = some r) : RO l yX13_notRetire cX13_notRetire 2 (some .int) 2 44 dC dI g [.ref a0, .int p1] (wX13 g a0 a1 a2 a3 a4 a5 a6 a7 a8 uth uch ufc usv ull ubl uba uea ufa uso udn uw uun usr ube ubs uln ubu unu) (some (.int r)) := by
  refine RO_of (by decide) (Nat.le_of_ble_eq_true rfl) ?_
  intro p e s m below meth c ls F hr hlocks hE hX hP hl
  replace F : CF p m c cX13_notRetire 2 s _ RX13 := F
  replace hl : lv_has ls 2 [(0, .ref a0), (1, .int p1)] := hl
  rw [fX13_notRetire] at h
  refine lv_aload_n F.1 F.2.1 dX13_notRetire_0 rfl (lv_at hl 0 rfl) ?_
  refine lv_iload_n F.1 F.2.1 dX13_notRetire_1 rfl (lv_at hl 1 rfl) ?_
  obtain ⟨z1, k2, h⟩ := bd_ok h
  refine cRV (As := [.int p1]) (rest := []) F hE hX va_S.rf (tX13_spoolPlace l dC dI g a0 a1 a2 a3 a4 a5 a6 a7 a8 uth uch ufc usv ull ubl uba uea ufa uso udn uw uun usr ube ubs uln ubu unu p1 k2) mbX13_spoolPlace q1784 ⟨(Nat.le_of_ble_eq_true rfl), (Nat.le_of_ble_eq_true rfl)⟩ ⟨Nat.zero_le _, Nat.zero_le _⟩ hP [0, 1, 2, 3, 4, 5, 6, 7, 8] rfl 0 rfl rfl rfl hl.1 rfl (Nat.le_of_ble_eq_true rfl) dX13_notRetire_2 ?_
  refine lv_if_ge (tgt := 12) F.1 F.2.1 dX13_notRetire_5 (by decide) (fun k3 => ?_) (fun k3 => ?_)
  · replace h := it_t k3 h
    refine lv_iconst (v := 0) F.1 F.2.1 dX13_notRetire_12 (by decide) ?_
    cases h
    exact RO_i F hr hlocks dX13_notRetire_13
  · replace h := it_f k3 h
    refine lv_iconst (v := 1) F.1 F.2.1 dX13_notRetire_8 (by decide) ?_
    refine lv_goto (tgt := 13) F.1 F.2.1 dX13_notRetire_9 (by decide) ?_
    cases h
    exact RO_i F hr hlocks dX13_notRetire_13
/-! WireCutterModel.retires -/
def fX13_retires (uw : Nat → Int32) (p1 : Int32) : Option (Int32 × (Nat → Int32)) :=
  (fX13_spoolPlace uw p1).bind fun z1 =>
  (fX13_spoolAt uw z1 2).bind fun z3 =>
  (fX13_spoolAt uw z1 1).bind fun z5 =>
  (fX13_leavesScrap uw z5 z3).bind fun z7 =>
  (fX13_removesSpool z7 z1).bind fun z9 =>
  some (z3, z9)
theorem mbX13_retires : MV yX13_retires cX13_retires 4 (some .int) 1 := ⟨⟨q1795, q16, by decide +kernel⟩, q1794, qs31⟩
set_option maxHeartbeats 4000000 in
set_option maxRecDepth 100000 in
theorem tX13_retires (l : Launch) (dC : Nat → ClassId) (dI : Nat → Nat → Nat) (g : Nat → ClassId) (a0 a1 a2 a3 a4 a5 a6 a7 a8 : Nat) (uth : Int32) (uch : Int32) (ufc : Int32) (usv : Int32) (ull : Int32) (ubl : Int32) (uba : Int32) (uea : Int32) (ufa : Int32) (uso : Int32) (udn : Int32) (uw : Nat → Int32) (uun : Nat → Int32) (usr : Nat → Int32) (ube : Nat → Int32) (ubs : Nat → Int32) (uln : Nat → Int32) (ubu : Nat → Int32) (unu : Nat → Int32) (p1 : Int32) {r : Int32 × (Nat → Int32)} (h : fX13_retires uw p1 = some r) : MU l yX13_retires cX13_retires 4 (some .int) 2 45 0 0 dC dI g [.ref a0, .int p1] (wX13 g a0 a1 a2 a3 a4 a5 a6 a7 a8 uth uch ufc usv ull ubl uba uea ufa uso udn uw uun usr ube ubs uln ubu unu) (wX13 g a0 a1 a2 a3 a4 a5 a6 a7 a8 uth uch ufc usv ull ubl uba uea ufa uso udn r.2 uun usr ube ubs uln ubu unu) (some (.int r.1)) := by
  refine MU_of (by decide) (Nat.le_of_ble_eq_true rfl) ?_
  intro p e s m below meth c ls F hr hlocks hE hX hA hP hD hS hl
  generalize va_A (wX13 g a0 a1 a2 a3 a4 a5 a6 a7 a8 uth uch ufc usv ull ubl uba uea ufa uso udn uw uun usr ube ubs uln ubu unu) s.heap.size = A at hA hD hS hX ⊢
  replace F : CF p m c cX13_retires 4 s _ RX13 := F
  replace hl : lv_has ls 4 [(0, .ref a0), (1, .int p1)] := hl
  rw [fX13_retires] at h
  refine lv_aload_n F.1 F.2.1 dX13_retires_0 rfl (lv_at hl 0 rfl) ?_
  refine lv_iload_n F.1 F.2.1 dX13_retires_1 rfl (lv_at hl 1 rfl) ?_
  obtain ⟨z1, k2, h⟩ := bd_ok h
  refine cRV (As := [.int p1]) (rest := []) F hE hX hS (tX13_spoolPlace l dC dI g a0 a1 a2 a3 a4 a5 a6 a7 a8 uth uch ufc usv ull ubl uba uea ufa uso udn uw uun usr ube ubs uln ubu unu p1 k2) mbX13_spoolPlace q1784 ⟨(Nat.le_of_ble_eq_true rfl), (Nat.le_of_ble_eq_true rfl)⟩ ⟨Nat.zero_le _, Nat.zero_le _⟩ hP [0, 1, 2, 3, 4, 5, 6, 7, 8] rfl 0 rfl rfl rfl hl.1 rfl (Nat.le_of_ble_eq_true rfl) dX13_retires_2 ?_
  refine lv_istore_n (lv' := [(2, .int z1), (0, .ref a0), (1, .int p1)]) F.1 F.2.1 dX13_retires_5 rfl hl (by decide) rfl (fun ls hl => ?_)
  refine lv_aload_n F.1 F.2.1 dX13_retires_6 rfl (lv_at hl 1 rfl) ?_
  refine lv_iload_n F.1 F.2.1 dX13_retires_7 rfl (lv_at hl 0 rfl) ?_
  refine lv_iconst (v := 2) F.1 F.2.1 dX13_retires_8 (by decide) ?_
  obtain ⟨z3, k4, h⟩ := bd_ok h
  refine cRV (As := [.int z1, .int 2]) (rest := []) F hE hX hS (tX13_spoolAt l dC dI g a0 a1 a2 a3 a4 a5 a6 a7 a8 uth uch ufc usv ull ubl uba uea ufa uso udn uw uun usr ube ubs uln ubu unu z1 2 k4) mbX13_spoolAt q1788 ⟨(Nat.le_of_ble_eq_true rfl), (Nat.le_of_ble_eq_true rfl)⟩ ⟨Nat.zero_le _, Nat.zero_le _⟩ hP [0, 1, 2, 3, 4, 5, 6, 7, 8] rfl 0 rfl rfl rfl hl.1 rfl (Nat.le_of_ble_eq_true rfl) dX13_retires_9 ?_
  refine lv_istore_n (lv' := [(3, .int z3), (2, .int z1), (0, .ref a0), (1, .int p1)]) F.1 F.2.1 dX13_retires_12 rfl hl (by decide) rfl (fun ls hl => ?_)
  refine lv_aload_n F.1 F.2.1 dX13_retires_13 rfl (lv_at hl 2 rfl) ?_
  refine lv_aload_n F.1 F.2.1 dX13_retires_14 rfl (lv_at hl 2 rfl) ?_
  refine lv_iload_n F.1 F.2.1 dX13_retires_15 rfl (lv_at hl 1 rfl) ?_
  refine lv_iconst (v := 1) F.1 F.2.1 dX13_retires_16 (by decide) ?_
  obtain ⟨z5, k6, h⟩ := bd_ok h
  refine cRV (As := [.int z1, .int 1]) (rest := [.ref a0]) F hE hX hS (tX13_spoolAt l dC dI g a0 a1 a2 a3 a4 a5 a6 a7 a8 uth uch ufc usv ull ubl uba uea ufa uso udn uw uun usr ube ubs uln ubu unu z1 1 k6) mbX13_spoolAt q1788 ⟨(Nat.le_of_ble_eq_true rfl), (Nat.le_of_ble_eq_true rfl)⟩ ⟨Nat.zero_le _, Nat.zero_le _⟩ hP [0, 1, 2, 3, 4, 5, 6, 7, 8] rfl 0 rfl rfl rfl hl.1 rfl (Nat.le_of_ble_eq_true rfl) dX13_retires_17 ?_
  refine lv_iload_n F.1 F.2.1 dX13_retires_20 rfl (lv_at hl 0 rfl) ?_
  obtain ⟨z7, k8, h⟩ := bd_ok h
  refine cMV (As := [.int z5, .int z3]) (rest := []) (ws' := wX13 g a0 a1 a2 a3 a4 a5 a6 a7 a8 uth uch ufc usv ull ubl uba uea ufa uso udn z7 uun usr ube ubs uln ubu unu) F hE hX (tX13_leavesScrap l dC dI g a0 a1 a2 a3 a4 a5 a6 a7 a8 uth uch ufc usv ull ubl uba uea ufa uso udn uw uun usr ube ubs uln ubu unu z5 z3 k8) mbX13_leavesScrap q1796 ⟨(Nat.le_of_ble_eq_true rfl), (Nat.le_of_ble_eq_true rfl)⟩ ⟨(Nat.le_of_ble_eq_true rfl), (Nat.le_of_ble_eq_true rfl)⟩ hP hD hS hA [0, 1, 2, 3, 4, 5, 6, 7, 8] rfl rfl rfl rfl rfl 0 rfl rfl rfl hl.1 rfl (Nat.le_of_ble_eq_true rfl) dX13_retires_21 (fun H locs hP hD hS => ?_)
  refine lv_aload_n F.1 F.2.1 dX13_retires_24 rfl (lv_at hl 2 rfl) ?_
  refine lv_iload_n F.1 F.2.1 dX13_retires_25 rfl (lv_at hl 1 rfl) ?_
  obtain ⟨z9, k10, h⟩ := bd_ok h
  refine cMV (As := [.int z1]) (rest := []) (ws' := wX13 g a0 a1 a2 a3 a4 a5 a6 a7 a8 uth uch ufc usv ull ubl uba uea ufa uso udn z9 uun usr ube ubs uln ubu unu) F hE hX (tX13_removesSpool l dC dI g a0 a1 a2 a3 a4 a5 a6 a7 a8 uth uch ufc usv ull ubl uba uea ufa uso udn z7 uun usr ube ubs uln ubu unu z1 k10) mbX13_removesSpool q1800 ⟨(Nat.le_of_ble_eq_true rfl), (Nat.le_of_ble_eq_true rfl)⟩ ⟨(Nat.le_of_ble_eq_true rfl), (Nat.le_of_ble_eq_true rfl)⟩ hP hD hS hA [0, 1, 2, 3, 4, 5, 6, 7, 8] rfl rfl rfl rfl rfl 0 rfl rfl rfl hl.1 rfl (Nat.le_of_ble_eq_true rfl) dX13_retires_26 (fun H locs hP hD hS => ?_)
  refine lv_iload_n F.1 F.2.1 dX13_retires_29 rfl (lv_at hl 0 rfl) ?_
  cases h
  exact MU_i F hr hlocks (Nat.le_refl _) (Nat.le_refl _) hP hS dX13_retires_30
/-! WireCutterModel.retire -/
def fX13_retire (uch : Int32) (ufc : Int32) (uw : Nat → Int32) (uun : Nat → Int32) (ube : Nat → Int32) (p1 : Int32) : Option (Int32 × Int32 × Int32 × Int32 × (Nat → Int32) × (Nat → Int32) × (Nat → Int32)) :=
  (fX13_notRetire uw p1).bind fun z1 =>
  if z1 = 0 then
    (fX13_remembers uch ufc uw uun ube).bind fun z4 =>
    (fX13_retires uw p1).bind fun z6 =>
    some (z6.1, 0, z4.1, z4.2.1, z6.2, z4.2.2.1, z4.2.2.2)
  else
    (fX13_fails 1).bind fun z8 =>
    some (z8.1, z8.2, uch, ufc, uw, uun, ube)
theorem mbX13_retire : MV yX13_retire cX13_retire 2 (some .int) 1 := ⟨⟨q1779, q16, by decide +kernel⟩, q1777, q1778⟩
set_option maxHeartbeats 4000000 in
set_option maxRecDepth 100000 in
theorem tX13_retire (l : Launch) (dC : Nat → ClassId) (dI : Nat → Nat → Nat) (g : Nat → ClassId) (a0 a1 a2 a3 a4 a5 a6 a7 a8 : Nat) (uth : Int32) (uch : Int32) (ufc : Int32) (usv : Int32) (ull : Int32) (ubl : Int32) (uba : Int32) (uea : Int32) (ufa : Int32) (uso : Int32) (udn : Int32) (uw : Nat → Int32) (uun : Nat → Int32) (usr : Nat → Int32) (ube : Nat → Int32) (ubs : Nat → Int32) (uln : Nat → Int32) (ubu : Nat → Int32) (unu : Nat → Int32) (p1 : Int32) {r : Int32 × Int32 × Int32 × Int32 × (Nat → Int32) × (Nat → Int32) × (Nat → Int32)} (h : fX13_retire uch ufc uw uun ube p1 = some r) : MU l yX13_retire cX13_retire 2 (some .int) 3 68 0 0 dC dI g [.ref a0, .int p1] (wX13 g a0 a1 a2 a3 a4 a5 a6 a7 a8 uth uch ufc usv ull ubl uba uea ufa uso udn uw uun usr ube ubs uln ubu unu) (wX13 g a0 a1 a2 a3 a4 a5 a6 a7 a8 r.2.1 r.2.2.1 r.2.2.2.1 usv ull ubl uba uea ufa uso udn r.2.2.2.2.1 r.2.2.2.2.2.1 usr r.2.2.2.2.2.2 ubs uln ubu unu) (some (.int r.1)) := by
  refine MU_of (by decide) (Nat.le_of_ble_eq_true rfl) ?_
  intro p e s m below meth c ls F hr hlocks hE hX hA hP hD hS hl
  generalize va_A (wX13 g a0 a1 a2 a3 a4 a5 a6 a7 a8 uth uch ufc usv ull ubl uba uea ufa uso udn uw uun usr ube ubs uln ubu unu) s.heap.size = A at hA hD hS hX ⊢
  replace F : CF p m c cX13_retire 2 s _ RX13 := F
  replace hl : lv_has ls 2 [(0, .ref a0), (1, .int p1)] := hl
  rw [fX13_retire] at h
  refine lv_aload_n F.1 F.2.1 dX13_retire_0 rfl (lv_at hl 0 rfl) ?_
  refine lv_iconst (v := 0) F.1 F.2.1 dX13_retire_1 (by decide) ?_
  refine pF (v := .int 0) F hE hP hD hS 0 rfl rfl inX13 tyX13 tyX13_ok nmX13 0 (by decide) q1684 rfl rfl rfl (Nat.le_of_ble_eq_true rfl) dX13_retire_2 (fun H locs hP hD hS => ?_)
  replace hP : va_P (dC, dI) vwCl (wX13 g a0 a1 a2 a3 a4 a5 a6 a7 a8 0 uch ufc usv ull ubl uba uea ufa uso udn uw uun usr ube ubs uln ubu unu) H := hP
  replace hD : va_D A (wX13 g a0 a1 a2 a3 a4 a5 a6 a7 a8 0 uch ufc usv ull ubl uba uea ufa uso udn uw uun usr ube ubs uln ubu unu) := hD
  refine lv_aload_n F.1 F.2.1 dX13_retire_5 rfl (lv_at hl 0 rfl) ?_
  refine lv_iload_n F.1 F.2.1 dX13_retire_6 rfl (lv_at hl 1 rfl) ?_
  obtain ⟨z1, k2, h⟩ := bd_ok h
  refine cRV (As := [.int p1]) (rest := []) F hE hX hS (tX13_notRetire l dC dI g a0 a1 a2 a3 a4 a5 a6 a7 a8 0 uch ufc usv ull ubl uba uea ufa uso udn uw uun usr ube ubs uln ubu unu p1 k2) mbX13_notRetire q1780 ⟨(Nat.le_of_ble_eq_true rfl), (Nat.le_of_ble_eq_true rfl)⟩ ⟨Nat.zero_le _, Nat.zero_le _⟩ hP [0, 1, 2, 3, 4, 5, 6, 7, 8] rfl 0 rfl rfl rfl hl.1 rfl (Nat.le_of_ble_eq_true rfl) dX13_retire_7 ?_
  refine lv_if_eq (tgt := 19) F.1 F.2.1 dX13_retire_10 (by decide) (fun k3 => ?_) (fun k3 => ?_)
  · replace h := it_t k3 h
    refine lv_aload_n F.1 F.2.1 dX13_retire_19 rfl (lv_at hl 0 rfl) ?_
    obtain ⟨z4, k5, h⟩ := bd_ok h
    refine cMV (As := []) (rest := []) (ws' := wX13 g a0 a1 a2 a3 a4 a5 a6 a7 a8 0 z4.1 z4.2.1 usv ull ubl uba uea ufa uso udn uw z4.2.2.1 usr z4.2.2.2 ubs uln ubu unu) F hE hX (tX13_remembers l dC dI g a0 a1 a2 a3 a4 a5 a6 a7 a8 0 uch ufc usv ull ubl uba uea ufa uso udn uw uun usr ube ubs uln ubu unu k5) mbX13_remembers q1760 ⟨(Nat.le_of_ble_eq_true rfl), (Nat.le_of_ble_eq_true rfl)⟩ ⟨(Nat.le_of_ble_eq_true rfl), (Nat.le_of_ble_eq_true rfl)⟩ hP hD hS hA [0, 1, 2, 3, 4, 5, 6, 7, 8] rfl rfl rfl rfl rfl 0 rfl rfl rfl hl.1 rfl (Nat.le_of_ble_eq_true rfl) dX13_retire_20 (fun H locs hP hD hS => ?_)
    refine lv_aload_n F.1 F.2.1 dX13_retire_23 rfl (lv_at hl 0 rfl) ?_
    refine lv_iload_n F.1 F.2.1 dX13_retire_24 rfl (lv_at hl 1 rfl) ?_
    obtain ⟨z6, k7, h⟩ := bd_ok h
    refine cMV (As := [.int p1]) (rest := []) (ws' := wX13 g a0 a1 a2 a3 a4 a5 a6 a7 a8 0 z4.1 z4.2.1 usv ull ubl uba uea ufa uso udn z6.2 z4.2.2.1 usr z4.2.2.2 ubs uln ubu unu) F hE hX (tX13_retires l dC dI g a0 a1 a2 a3 a4 a5 a6 a7 a8 0 z4.1 z4.2.1 usv ull ubl uba uea ufa uso udn uw z4.2.2.1 usr z4.2.2.2 ubs uln ubu unu p1 k7) mbX13_retires q1792 ⟨(Nat.le_of_ble_eq_true rfl), (Nat.le_of_ble_eq_true rfl)⟩ ⟨(Nat.le_of_ble_eq_true rfl), (Nat.le_of_ble_eq_true rfl)⟩ hP hD hS hA [0, 1, 2, 3, 4, 5, 6, 7, 8] rfl rfl rfl rfl rfl 0 rfl rfl rfl hl.1 rfl (Nat.le_of_ble_eq_true rfl) dX13_retire_25 (fun H locs hP hD hS => ?_)
    cases h
    exact MU_i F hr hlocks (Nat.le_refl _) (Nat.le_refl _) hP hS dX13_retire_28
  · replace h := it_f k3 h
    refine lv_aload_n F.1 F.2.1 dX13_retire_13 rfl (lv_at hl 0 rfl) ?_
    refine lv_iconst (v := 1) F.1 F.2.1 dX13_retire_14 (by decide) ?_
    obtain ⟨z8, k9, h⟩ := bd_ok h
    refine cMV (As := [.int 1]) (rest := []) (ws' := wX13 g a0 a1 a2 a3 a4 a5 a6 a7 a8 z8.2 uch ufc usv ull ubl uba uea ufa uso udn uw uun usr ube ubs uln ubu unu) F hE hX (tX13_fails l dC dI g a0 a1 a2 a3 a4 a5 a6 a7 a8 0 uch ufc usv ull ubl uba uea ufa uso udn uw uun usr ube ubs uln ubu unu 1 k9) mbX13_fails q1756 ⟨(Nat.le_of_ble_eq_true rfl), (Nat.le_of_ble_eq_true rfl)⟩ ⟨(Nat.le_of_ble_eq_true rfl), (Nat.le_of_ble_eq_true rfl)⟩ hP hD hS hA [0, 1, 2, 3, 4, 5, 6, 7, 8] rfl rfl rfl rfl rfl 0 rfl rfl rfl hl.1 rfl (Nat.le_of_ble_eq_true rfl) dX13_retire_15 (fun H locs hP hD hS => ?_)
    cases h
    exact MU_i F hr hlocks (Nat.le_refl _) (Nat.le_refl _) hP hS dX13_retire_18
/-! WireCutterModel.clears -/
def fX13_clears_L4 (x1 : Int32) : Nat → Int32 → Int32 → (Nat → Int32) → Option (Int32 × (Nat → Int32))
  | 0, _, _, _ => none
  | k + 1, x2, x3, uw =>
    if (uw 4) ≤ x3 then
      gd (inR (27 + x1) 201) <|
      gd (inR (27 + x1) 201) <|
      some (x2, upd uw ((27 + x1).toNatClampNeg) ((uw ((27 + x1).toNatClampNeg)) + x2))
    else
      (fX13_scrapAt uw x3 0).bind fun z4 =>
      if z4 = x1 then
        (fX13_scrapAt uw x3 1).bind fun z7 =>
        (fX13_removesScrap uw x3).bind fun z9 =>
        fX13_clears_L4 x1 k (x2 + z7) x3 z9
      else
        fX13_clears_L4 x1 k x2 (x3 + 1) uw
def fX13_clears (uw : Nat → Int32) (p1 : Int32) : Option (Int32 × (Nat → Int32)) :=
  fX13_clears_L4 p1 FU 0 0 uw
theorem mbX13_clears : MV yX13_clears cX13_clears 4 (some .int) 1 := ⟨⟨q1818, q16, by decide +kernel⟩, q1817, qs35⟩
set_option maxHeartbeats 4000000 in
set_option maxRecDepth 100000 in
theorem tX13_clears_L4 {p : Program} {l : Launch} {e : Env} {s : State} {m : MethodId} {args : Array Value} {below : List Frame} {meth : Method} {c : Code} {dC : Nat → ClassId} {dI : Nat → Nat → Nat} {g : Nat → ClassId} {a0 a1 a2 a3 a4 a5 a6 a7 a8 : Nat} {r : Int32 × (Nat → Int32)} {A : Nat → Prop} (F : CF p m c cX13_clears 4 s args RX13) (hr : meth.sig.returnType = (some .int)) (hlocks : meth.locks = false) (hE : EK dC dI g s) (hX : EX g A s s.heap) (hA : ∀ q : Nat, s.heap.size ≤ q → A q) (x1 : Int32) (uth : Int32) (uch : Int32) (ufc : Int32) (usv : Int32) (ull : Int32) (ubl : Int32) (uba : Int32) (uea : Int32) (ufa : Int32) (uso : Int32) (udn : Int32) (uun : Nat → Int32) (usr : Nat → Int32) (ube : Nat → Int32) (ubs : Nat → Int32) (uln : Nat → Int32) (ubu : Nat → Int32) (unu : Nat → Int32) : ∀ (k : Nat) (x2 : Int32) (x3 : Int32) (uw : Nat → Int32), fX13_clears_L4 x1 k x2 x3 uw = some r → ∀ (H : Heap) (locs : List Loc), va_P (dC, dI) vwCl (wX13 g a0 a1 a2 a3 a4 a5 a6 a7 a8 uth uch ufc usv ull ubl uba uea ufa uso udn uw uun usr ube ubs uln ubu unu) H → va_D A (wX13 g a0 a1 a2 a3 a4 a5 a6 a7 a8 uth uch ufc usv ull ubl uba uea ufa uso udn uw uun usr ube ubs uln ubu unu) → va_S A s.heap H locs → ∀ (ls : Array Slot), lv_has ls 4 [(0, .ref a0), (1, .int x1), (2, .int x2), (3, .int x3)] → W p l e { frames := 2, cells := 0, slots := 0, locals := 45 } s m args below meth c H locs 0 0 (MQ below (fun _ st o t => o = .returned (some (.int r.1)) ∧ va_P (dC, dI) vwCl (wX13 g a0 a1 a2 a3 a4 a5 a6 a7 a8 uth uch ufc usv ull ubl uba uea ufa uso udn r.2 uun usr ube ubs uln ubu unu) t.heap ∧ va_F A st t) args s 0 0 A) (F0 m 4 ls []) := by
  intro k
  induction k with
  | zero =>
    intro x2 x3 uw h
    exact absurd h (by simp [fX13_clears_L4])
  | succ k ih =>
    intro x2 x3 uw h H locs hP hD hS ls hl
    rw [fX13_clears_L4] at h
    refine lv_iload_n F.1 F.2.1 dX13_clears_4 rfl (lv_at hl 3 rfl) ?_
    refine lv_aload_n F.1 F.2.1 dX13_clears_5 rfl (lv_at hl 0 rfl) ?_
    refine gF (v := .ref a1) F hE hP 0 rfl rfl inX13 1 (by decide) q1685 rfl dX13_clears_6 ?_
    refine lv_iconst (v := 4) F.1 F.2.1 dX13_clears_9 (by decide) ?_
    refine aLi (k := 4) F hE hP 1 0 rfl rfl (by decide) (by decide) dX13_clears_10 ?_
    refine lv_icmp_ge (tgt := 47) F.1 F.2.1 dX13_clears_11 (by decide) (fun k1 => ?_) (fun k1 => ?_)
    · replace h := it_t k1 h
      refine lv_aload_n F.1 F.2.1 dX13_clears_47 rfl (lv_at hl 0 rfl) ?_
      refine gF (v := .ref a1) F hE hP 0 rfl rfl inX13 1 (by decide) q1685 rfl dX13_clears_48 ?_
      refine lv_bipush (v := 27) F.1 F.2.1 dX13_clears_51 (by decide) ?_
      refine lv_iload_n F.1 F.2.1 dX13_clears_53 rfl (lv_at hl 1 rfl) ?_
      refine lv_iadd F.1 F.2.1 dX13_clears_54 ?_
      refine lv_dup2_11 F.1 F.2.1 dX13_clears_55 rfl rfl ?_
      obtain ⟨k2, h⟩ := gd_ok h
      refine aLi (k := (27 + x1).toNatClampNeg) F hE hP 1 0 rfl rfl k2 rfl dX13_clears_56 ?_
      refine lv_iload_n F.1 F.2.1 dX13_clears_57 rfl (lv_at hl 2 rfl) ?_
      refine lv_iadd F.1 F.2.1 dX13_clears_58 ?_
      obtain ⟨k3, h⟩ := gd_ok h
      refine aSi (k := (27 + x1).toNatClampNeg) F hE hP hD hS 1 0 rfl rfl k3 rfl dX13_clears_59 (fun H locs hP hD hS => ?_)
      replace hP : va_P (dC, dI) vwCl (wX13 g a0 a1 a2 a3 a4 a5 a6 a7 a8 uth uch ufc usv ull ubl uba uea ufa uso udn (upd uw ((27 + x1).toNatClampNeg) ((uw ((27 + x1).toNatClampNeg)) + x2)) uun usr ube ubs uln ubu unu) H := hP
      replace hD : va_D A (wX13 g a0 a1 a2 a3 a4 a5 a6 a7 a8 uth uch ufc usv ull ubl uba uea ufa uso udn (upd uw ((27 + x1).toNatClampNeg) ((uw ((27 + x1).toNatClampNeg)) + x2)) uun usr ube ubs uln ubu unu) := hD
      refine lv_iload_n F.1 F.2.1 dX13_clears_60 rfl (lv_at hl 2 rfl) ?_
      cases h
      exact MU_i F hr hlocks (Nat.le_refl _) (Nat.le_refl _) hP hS dX13_clears_61
    · replace h := it_f k1 h
      refine lv_aload_n F.1 F.2.1 dX13_clears_14 rfl (lv_at hl 0 rfl) ?_
      refine lv_iload_n F.1 F.2.1 dX13_clears_15 rfl (lv_at hl 3 rfl) ?_
      refine lv_iconst (v := 0) F.1 F.2.1 dX13_clears_16 (by decide) ?_
      obtain ⟨z4, k5, h⟩ := bd_ok h
      refine cRV (As := [.int x3, .int 0]) (rest := []) F hE hX hS (tX13_scrapAt l dC dI g a0 a1 a2 a3 a4 a5 a6 a7 a8 uth uch ufc usv ull ubl uba uea ufa uso udn uw uun usr ube ubs uln ubu unu x3 0 k5) mbX13_scrapAt q1819 ⟨(Nat.le_of_ble_eq_true rfl), (Nat.le_of_ble_eq_true rfl)⟩ ⟨Nat.zero_le _, Nat.zero_le _⟩ hP [0, 1, 2, 3, 4, 5, 6, 7, 8] rfl 0 rfl rfl rfl hl.1 rfl (Nat.le_of_ble_eq_true rfl) dX13_clears_17 ?_
      refine lv_iload_n F.1 F.2.1 dX13_clears_20 rfl (lv_at hl 1 rfl) ?_
      refine lv_icmp_ne (tgt := 41) F.1 F.2.1 dX13_clears_21 (by decide) (fun k6 => ?_) (fun k6 => ?_)
      · replace h := it_f k6 h
        refine lv_iinc (v := x3 + 1) (lv' := [(3, .int (x3 + 1)), (0, .ref a0), (1, .int x1), (2, .int x2)]) F.1 F.2.1 dX13_clears_41 hl (k := 3) rfl (by rfl) (by decide) rfl (fun ls hl => ?_)
        refine lv_goto (tgt := 4) F.1 F.2.1 dX13_clears_44 (by decide) ?_
        exact ih x2 (x3 + 1) uw h _ _ hP hD hS ls (lv_sub hl [1, 2, 3, 0] rfl)
      · replace h := it_t k6 h
        refine lv_iload_n F.1 F.2.1 dX13_clears_24 rfl (lv_at hl 2 rfl) ?_
        refine lv_aload_n F.1 F.2.1 dX13_clears_25 rfl (lv_at hl 0 rfl) ?_
        refine lv_iload_n F.1 F.2.1 dX13_clears_26 rfl (lv_at hl 3 rfl) ?_
        refine lv_iconst (v := 1) F.1 F.2.1 dX13_clears_27 (by decide) ?_
        obtain ⟨z7, k8, h⟩ := bd_ok h
        refine cRV (As := [.int x3, .int 1]) (rest := [.int x2]) F hE hX hS (tX13_scrapAt l dC dI g a0 a1 a2 a3 a4 a5 a6 a7 a8 uth uch ufc usv ull ubl uba uea ufa uso udn uw uun usr ube ubs uln ubu unu x3 1 k8) mbX13_scrapAt q1819 ⟨(Nat.le_of_ble_eq_true rfl), (Nat.le_of_ble_eq_true rfl)⟩ ⟨Nat.zero_le _, Nat.zero_le _⟩ hP [0, 1, 2, 3, 4, 5, 6, 7, 8] rfl 0 rfl rfl rfl hl.1 rfl (Nat.le_of_ble_eq_true rfl) dX13_clears_28 ?_
        refine lv_iadd F.1 F.2.1 dX13_clears_31 ?_
        refine lv_istore_n (lv' := [(2, .int (x2 + z7)), (0, .ref a0), (1, .int x1), (3, .int x3)]) F.1 F.2.1 dX13_clears_32 rfl hl (by decide) rfl (fun ls hl => ?_)
        refine lv_aload_n F.1 F.2.1 dX13_clears_33 rfl (lv_at hl 1 rfl) ?_
        refine lv_iload_n F.1 F.2.1 dX13_clears_34 rfl (lv_at hl 3 rfl) ?_
        obtain ⟨z9, k10, h⟩ := bd_ok h
        refine cMV (As := [.int x3]) (rest := []) (ws' := wX13 g a0 a1 a2 a3 a4 a5 a6 a7 a8 uth uch ufc usv ull ubl uba uea ufa uso udn z9 uun usr ube ubs uln ubu unu) F hE hX (tX13_removesScrap l dC dI g a0 a1 a2 a3 a4 a5 a6 a7 a8 uth uch ufc usv ull ubl uba uea ufa uso udn uw uun usr ube ubs uln ubu unu x3 k10) mbX13_removesScrap q1823 ⟨(Nat.le_of_ble_eq_true rfl), (Nat.le_of_ble_eq_true rfl)⟩ ⟨(Nat.le_of_ble_eq_true rfl), (Nat.le_of_ble_eq_true rfl)⟩ hP hD hS hA [0, 1, 2, 3, 4, 5, 6, 7, 8] rfl rfl rfl rfl rfl 0 rfl rfl rfl hl.1 rfl (Nat.le_of_ble_eq_true rfl) dX13_clears_35 (fun H locs hP hD hS => ?_)
        refine lv_goto (tgt := 4) F.1 F.2.1 dX13_clears_38 (by decide) ?_
        exact ih (x2 + z7) x3 z9 h _ _ hP hD hS ls (lv_sub hl [1, 2, 0, 3] rfl)
set_option maxHeartbeats 4000000 in
set_option maxRecDepth 100000 in
theorem tX13_clears (l : Launch) (dC : Nat → ClassId) (dI : Nat → Nat → Nat) (g : Nat → ClassId) (a0 a1 a2 a3 a4 a5 a6 a7 a8 : Nat) (uth : Int32) (uch : Int32) (ufc : Int32) (usv : Int32) (ull : Int32) (ubl : Int32) (uba : Int32) (uea : Int32) (ufa : Int32) (uso : Int32) (udn : Int32) (uw : Nat → Int32) (uun : Nat → Int32) (usr : Nat → Int32) (ube : Nat → Int32) (ubs : Nat → Int32) (uln : Nat → Int32) (ubu : Nat → Int32) (unu : Nat → Int32) (p1 : Int32) {r : Int32 × (Nat → Int32)} (h : fX13_clears uw p1 = some r) : MU l yX13_clears cX13_clears 4 (some .int) 2 45 0 0 dC dI g [.ref a0, .int p1] (wX13 g a0 a1 a2 a3 a4 a5 a6 a7 a8 uth uch ufc usv ull ubl uba uea ufa uso udn uw uun usr ube ubs uln ubu unu) (wX13 g a0 a1 a2 a3 a4 a5 a6 a7 a8 uth uch ufc usv ull ubl uba uea ufa uso udn r.2 uun usr ube ubs uln ubu unu) (some (.int r.1)) := by
  refine MU_of (by decide) (Nat.le_of_ble_eq_true rfl) ?_
  intro p e s m below meth c ls F hr hlocks hE hX hA hP hD hS hl
  generalize va_A (wX13 g a0 a1 a2 a3 a4 a5 a6 a7 a8 uth uch ufc usv ull ubl uba uea ufa uso udn uw uun usr ube ubs uln ubu unu) s.heap.size = A at hA hD hS hX ⊢
  replace F : CF p m c cX13_clears 4 s _ RX13 := F
  replace hl : lv_has ls 4 [(0, .ref a0), (1, .int p1)] := hl
  rw [fX13_clears] at h
  refine lv_iconst (v := 0) F.1 F.2.1 dX13_clears_0 (by decide) ?_
  refine lv_istore_n (lv' := [(2, .int 0), (0, .ref a0), (1, .int p1)]) F.1 F.2.1 dX13_clears_1 rfl hl (by decide) rfl (fun ls hl => ?_)
  refine lv_iconst (v := 0) F.1 F.2.1 dX13_clears_2 (by decide) ?_
  refine lv_istore_n (lv' := [(3, .int 0), (2, .int 0), (0, .ref a0), (1, .int p1)]) F.1 F.2.1 dX13_clears_3 rfl hl (by decide) rfl (fun ls hl => ?_)
  exact tX13_clears_L4 F hr hlocks hE hX hA p1 uth uch ufc usv ull ubl uba uea ufa uso udn uun usr ube ubs uln ubu unu FU 0 0 uw h _ _ hP hD hS ls (lv_sub hl [2, 3, 1, 0] rfl)
/-! WireCutterModel.notClear -/
def fX13_notClear (p0 : Int32) : Option (Int32) :=
  (fX13_isMaterial p0).bind fun z1 =>
  if z1 = 0 then
    some (1)
  else
    some (0)
theorem mbX13_notClear : MS yX13_notClear cX13_notClear 1 (some .int) 1 := ⟨⟨q1814, q16, by decide +kernel⟩, q1813⟩
set_option maxHeartbeats 4000000 in
set_option maxRecDepth 100000 in
theorem tX13_notClear (l : Launch) (dC : Nat → ClassId) (dI : Nat → Nat → Nat) (g : Nat → ClassId) (p0 : Int32) {r : Int32} (h : fX13_notClear p0 = some r) : RO l yX13_notClear cX13_notClear 1 (some .int) 2 42 dC dI g [.int p0] (([] : va_W)) (some (.int r)) := by
  refine RO_of (by decide) (Nat.le_of_ble_eq_true rfl) ?_
  intro p e s m below meth c ls F hr hlocks hE hX hP hl
  replace F : CF p m c cX13_notClear 1 s _ RX13 := F
  replace hl : lv_has ls 1 [(0, .int p0)] := hl
  rw [fX13_notClear] at h
  refine lv_iload_n F.1 F.2.1 dX13_notClear_0 rfl (lv_at hl 0 rfl) ?_
  obtain ⟨z1, k2, h⟩ := bd_ok h
  refine cRS (As := [.int p0]) (rest := []) F hE hX va_S.rf (tX13_isMaterial l dC dI g p0 k2) mbX13_isMaterial q1750 ⟨(Nat.le_of_ble_eq_true rfl), (Nat.le_of_ble_eq_true rfl)⟩ ⟨Nat.zero_le _, Nat.zero_le _⟩ hP [] rfl rfl hl.1 rfl (Nat.le_of_ble_eq_true rfl) dX13_notClear_1 ?_
  refine lv_if_eq (tgt := 11) F.1 F.2.1 dX13_notClear_4 (by decide) (fun k3 => ?_) (fun k3 => ?_)
  · replace h := it_t k3 h
    refine lv_iconst (v := 1) F.1 F.2.1 dX13_notClear_11 (by decide) ?_
    cases h
    exact RO_i F hr hlocks dX13_notClear_12
  · replace h := it_f k3 h
    refine lv_iconst (v := 0) F.1 F.2.1 dX13_notClear_7 (by decide) ?_
    refine lv_goto (tgt := 12) F.1 F.2.1 dX13_notClear_8 (by decide) ?_
    cases h
    exact RO_i F hr hlocks dX13_notClear_12
/-! WireCutterModel.throwScraps -/
def fX13_throwScraps (uch : Int32) (ufc : Int32) (uw : Nat → Int32) (uun : Nat → Int32) (ube : Nat → Int32) (p1 : Int32) : Option (Int32 × Int32 × Int32 × Int32 × (Nat → Int32) × (Nat → Int32) × (Nat → Int32)) :=
  (fX13_notClear p1).bind fun z1 =>
  if z1 = 0 then
    (fX13_remembers uch ufc uw uun ube).bind fun z4 =>
    (fX13_clears uw (p1 - 97)).bind fun z6 =>
    some (z6.1, 0, z4.1, z4.2.1, z6.2, z4.2.2.1, z4.2.2.2)
  else
    (fX13_fails 1).bind fun z8 =>
    some (z8.1, z8.2, uch, ufc, uw, uun, ube)
theorem mbX13_throwScraps : MV yX13_throwScraps cX13_throwScraps 2 (some .int) 1 := ⟨⟨q1811, q16, by decide +kernel⟩, q1809, q1810⟩
set_option maxHeartbeats 4000000 in
set_option maxRecDepth 100000 in
theorem tX13_throwScraps (l : Launch) (dC : Nat → ClassId) (dI : Nat → Nat → Nat) (g : Nat → ClassId) (a0 a1 a2 a3 a4 a5 a6 a7 a8 : Nat) (uth : Int32) (uch : Int32) (ufc : Int32) (usv : Int32) (ull : Int32) (ubl : Int32) (uba : Int32) (uea : Int32) (ufa : Int32) (uso : Int32) (udn : Int32) (uw : Nat → Int32) (uun : Nat → Int32) (usr : Nat → Int32) (ube : Nat → Int32) (ubs : Nat → Int32) (uln : Nat → Int32) (ubu : Nat → Int32) (unu : Nat → Int32) (p1 : Int32) {r : Int32 × Int32 × Int32 × Int32 × (Nat → Int32) × (Nat → Int32) × (Nat → Int32)} (h : fX13_throwScraps uch ufc uw uun ube p1 = some r) : MU l yX13_throwScraps cX13_throwScraps 2 (some .int) 3 68 0 0 dC dI g [.ref a0, .int p1] (wX13 g a0 a1 a2 a3 a4 a5 a6 a7 a8 uth uch ufc usv ull ubl uba uea ufa uso udn uw uun usr ube ubs uln ubu unu) (wX13 g a0 a1 a2 a3 a4 a5 a6 a7 a8 r.2.1 r.2.2.1 r.2.2.2.1 usv ull ubl uba uea ufa uso udn r.2.2.2.2.1 r.2.2.2.2.2.1 usr r.2.2.2.2.2.2 ubs uln ubu unu) (some (.int r.1)) := by
  refine MU_of (by decide) (Nat.le_of_ble_eq_true rfl) ?_
  intro p e s m below meth c ls F hr hlocks hE hX hA hP hD hS hl
  generalize va_A (wX13 g a0 a1 a2 a3 a4 a5 a6 a7 a8 uth uch ufc usv ull ubl uba uea ufa uso udn uw uun usr ube ubs uln ubu unu) s.heap.size = A at hA hD hS hX ⊢
  replace F : CF p m c cX13_throwScraps 2 s _ RX13 := F
  replace hl : lv_has ls 2 [(0, .ref a0), (1, .int p1)] := hl
  rw [fX13_throwScraps] at h
  refine lv_aload_n F.1 F.2.1 dX13_throwScraps_0 rfl (lv_at hl 0 rfl) ?_
  refine lv_iconst (v := 0) F.1 F.2.1 dX13_throwScraps_1 (by decide) ?_
  refine pF (v := .int 0) F hE hP hD hS 0 rfl rfl inX13 tyX13 tyX13_ok nmX13 0 (by decide) q1684 rfl rfl rfl (Nat.le_of_ble_eq_true rfl) dX13_throwScraps_2 (fun H locs hP hD hS => ?_)
  replace hP : va_P (dC, dI) vwCl (wX13 g a0 a1 a2 a3 a4 a5 a6 a7 a8 0 uch ufc usv ull ubl uba uea ufa uso udn uw uun usr ube ubs uln ubu unu) H := hP
  replace hD : va_D A (wX13 g a0 a1 a2 a3 a4 a5 a6 a7 a8 0 uch ufc usv ull ubl uba uea ufa uso udn uw uun usr ube ubs uln ubu unu) := hD
  refine lv_iload_n F.1 F.2.1 dX13_throwScraps_5 rfl (lv_at hl 1 rfl) ?_
  obtain ⟨z1, k2, h⟩ := bd_ok h
  refine cRS (As := [.int p1]) (rest := []) F hE hX hS (tX13_notClear l dC dI g p1 k2) mbX13_notClear q1812 ⟨(Nat.le_of_ble_eq_true rfl), (Nat.le_of_ble_eq_true rfl)⟩ ⟨Nat.zero_le _, Nat.zero_le _⟩ hP [] rfl rfl hl.1 rfl (Nat.le_of_ble_eq_true rfl) dX13_throwScraps_6 ?_
  refine lv_if_eq (tgt := 18) F.1 F.2.1 dX13_throwScraps_9 (by decide) (fun k3 => ?_) (fun k3 => ?_)
  · replace h := it_t k3 h
    refine lv_aload_n F.1 F.2.1 dX13_throwScraps_18 rfl (lv_at hl 0 rfl) ?_
    obtain ⟨z4, k5, h⟩ := bd_ok h
    refine cMV (As := []) (rest := []) (ws' := wX13 g a0 a1 a2 a3 a4 a5 a6 a7 a8 0 z4.1 z4.2.1 usv ull ubl uba uea ufa uso udn uw z4.2.2.1 usr z4.2.2.2 ubs uln ubu unu) F hE hX (tX13_remembers l dC dI g a0 a1 a2 a3 a4 a5 a6 a7 a8 0 uch ufc usv ull ubl uba uea ufa uso udn uw uun usr ube ubs uln ubu unu k5) mbX13_remembers q1760 ⟨(Nat.le_of_ble_eq_true rfl), (Nat.le_of_ble_eq_true rfl)⟩ ⟨(Nat.le_of_ble_eq_true rfl), (Nat.le_of_ble_eq_true rfl)⟩ hP hD hS hA [0, 1, 2, 3, 4, 5, 6, 7, 8] rfl rfl rfl rfl rfl 0 rfl rfl rfl hl.1 rfl (Nat.le_of_ble_eq_true rfl) dX13_throwScraps_19 (fun H locs hP hD hS => ?_)
    refine lv_aload_n F.1 F.2.1 dX13_throwScraps_22 rfl (lv_at hl 0 rfl) ?_
    refine lv_iload_n F.1 F.2.1 dX13_throwScraps_23 rfl (lv_at hl 1 rfl) ?_
    refine lv_bipush (v := 97) F.1 F.2.1 dX13_throwScraps_24 (by decide) ?_
    refine lv_isub F.1 F.2.1 dX13_throwScraps_26 ?_
    obtain ⟨z6, k7, h⟩ := bd_ok h
    refine cMV (As := [.int (p1 - 97)]) (rest := []) (ws' := wX13 g a0 a1 a2 a3 a4 a5 a6 a7 a8 0 z4.1 z4.2.1 usv ull ubl uba uea ufa uso udn z6.2 z4.2.2.1 usr z4.2.2.2 ubs uln ubu unu) F hE hX (tX13_clears l dC dI g a0 a1 a2 a3 a4 a5 a6 a7 a8 0 z4.1 z4.2.1 usv ull ubl uba uea ufa uso udn uw z4.2.2.1 usr z4.2.2.2 ubs uln ubu unu (p1 - 97) k7) mbX13_clears q1815 ⟨(Nat.le_of_ble_eq_true rfl), (Nat.le_of_ble_eq_true rfl)⟩ ⟨(Nat.le_of_ble_eq_true rfl), (Nat.le_of_ble_eq_true rfl)⟩ hP hD hS hA [0, 1, 2, 3, 4, 5, 6, 7, 8] rfl rfl rfl rfl rfl 0 rfl rfl rfl hl.1 rfl (Nat.le_of_ble_eq_true rfl) dX13_throwScraps_27 (fun H locs hP hD hS => ?_)
    cases h
    exact MU_i F hr hlocks (Nat.le_refl _) (Nat.le_refl _) hP hS dX13_throwScraps_30
  · replace h := it_f k3 h
    refine lv_aload_n F.1 F.2.1 dX13_throwScraps_12 rfl (lv_at hl 0 rfl) ?_
    refine lv_iconst (v := 1) F.1 F.2.1 dX13_throwScraps_13 (by decide) ?_
    obtain ⟨z8, k9, h⟩ := bd_ok h
    refine cMV (As := [.int 1]) (rest := []) (ws' := wX13 g a0 a1 a2 a3 a4 a5 a6 a7 a8 z8.2 uch ufc usv ull ubl uba uea ufa uso udn uw uun usr ube ubs uln ubu unu) F hE hX (tX13_fails l dC dI g a0 a1 a2 a3 a4 a5 a6 a7 a8 0 uch ufc usv ull ubl uba uea ufa uso udn uw uun usr ube ubs uln ubu unu 1 k9) mbX13_fails q1756 ⟨(Nat.le_of_ble_eq_true rfl), (Nat.le_of_ble_eq_true rfl)⟩ ⟨(Nat.le_of_ble_eq_true rfl), (Nat.le_of_ble_eq_true rfl)⟩ hP hD hS hA [0, 1, 2, 3, 4, 5, 6, 7, 8] rfl rfl rfl rfl rfl 0 rfl rfl rfl hl.1 rfl (Nat.le_of_ble_eq_true rfl) dX13_throwScraps_14 (fun H locs hP hD hS => ?_)
    cases h
    exact MU_i F hr hlocks (Nat.le_refl _) (Nat.le_refl _) hP hS dX13_throwScraps_17
/-! WireCutterModel.notOrder -/
def fX13_notOrder (uw : Nat → Int32) (p1 : Int32) (p2 : Int32) (p3 : Int32) : Option (Int32) :=
  (fX13_isMaterial p1).bind fun z1 =>
  if z1 = 0 then
    some (1)
  else
    (fX13_isBetween p2 1 200).bind fun z4 =>
    if z4 = 0 then
      some (1)
    else
      (fX13_isBetween p3 1 99).bind fun z7 =>
      if z7 = 0 then
        some (1)
      else
        if (uw 2) = 12 then
          some (2)
        else
          some (0)
theorem mbX13_notOrder : MV yX13_notOrder cX13_notOrder 4 (some .int) 3 := ⟨⟨q1834, q16, by decide +kernel⟩, q1833, qs38⟩
set_option maxHeartbeats 4000000 in
set_option maxRecDepth 100000 in
theorem tX13_notOrder (l : Launch) (dC : Nat → ClassId) (dI : Nat → Nat → Nat) (g : Nat → ClassId) (a0 a1 a2 a3 a4 a5 a6 a7 a8 : Nat) (uth : Int32) (uch : Int32) (ufc : Int32) (usv : Int32) (ull : Int32) (ubl : Int32) (uba : Int32) (uea : Int32) (ufa : Int32) (uso : Int32) (udn : Int32) (uw : Nat → Int32) (uun : Nat → Int32) (usr : Nat → Int32) (ube : Nat → Int32) (ubs : Nat → Int32) (uln : Nat → Int32) (ubu : Nat → Int32) (unu : Nat → Int32) (p1 : Int32) (p2 : Int32) (p3 : Int32) {r : Int32} (h : fX13_notOrder uw p1 p2 p3 = some r) : RO l yX13_notOrder cX13_notOrder 4 (some .int) 2 42 dC dI g [.ref a0, .int p1, .int p2, .int p3] (wX13 g a0 a1 a2 a3 a4 a5 a6 a7 a8 uth uch ufc usv ull ubl uba uea ufa uso udn uw uun usr ube ubs uln ubu unu) (some (.int r)) := by
  refine RO_of (by decide) (Nat.le_of_ble_eq_true rfl) ?_
  intro p e s m below meth c ls F hr hlocks hE hX hP hl
  replace F : CF p m c cX13_notOrder 4 s _ RX13 := F
  replace hl : lv_has ls 4 [(0, .ref a0), (1, .int p1), (2, .int p2), (3, .int p3)] := hl
  rw [fX13_notOrder] at h
  refine lv_iload_n F.1 F.2.1 dX13_notOrder_0 rfl (lv_at hl 1 rfl) ?_
  obtain ⟨z1, k2, h⟩ := bd_ok h
  refine cRS (As := [.int p1]) (rest := []) F hE hX va_S.rf (tX13_isMaterial l dC dI g p1 k2) mbX13_isMaterial q1750 ⟨(Nat.le_of_ble_eq_true rfl), (Nat.le_of_ble_eq_true rfl)⟩ ⟨Nat.zero_le _, Nat.zero_le _⟩ hP [] rfl rfl hl.1 rfl (Nat.le_of_ble_eq_true rfl) dX13_notOrder_1 ?_
  refine lv_if_eq (tgt := 28) F.1 F.2.1 dX13_notOrder_4 (by decide) (fun k3 => ?_) (fun k3 => ?_)
  · replace h := it_t k3 h
    refine lv_iconst (v := 1) F.1 F.2.1 dX13_notOrder_28 (by decide) ?_
    cases h
    exact RO_i F hr hlocks dX13_notOrder_29
  · replace h := it_f k3 h
    refine lv_iload_n F.1 F.2.1 dX13_notOrder_7 rfl (lv_at hl 2 rfl) ?_
    refine lv_iconst (v := 1) F.1 F.2.1 dX13_notOrder_8 (by decide) ?_
    refine lv_sipush (v := 200) F.1 F.2.1 dX13_notOrder_9 (by decide) ?_
    obtain ⟨z4, k5, h⟩ := bd_ok h
    refine cRS (As := [.int p2, .int 1, .int 200]) (rest := []) F hE hX va_S.rf (tX13_isBetween l dC dI g p2 1 200 k5) mbX13_isBetween q1753 ⟨(Nat.le_of_ble_eq_true rfl), (Nat.le_of_ble_eq_true rfl)⟩ ⟨Nat.zero_le _, Nat.zero_le _⟩ hP [] rfl rfl hl.1 rfl (Nat.le_of_ble_eq_true rfl) dX13_notOrder_12 ?_
    refine lv_if_eq (tgt := 28) F.1 F.2.1 dX13_notOrder_15 (by decide) (fun k6 => ?_) (fun k6 => ?_)
    · replace h := it_t k6 h
      refine lv_iconst (v := 1) F.1 F.2.1 dX13_notOrder_28 (by decide) ?_
      cases h
      exact RO_i F hr hlocks dX13_notOrder_29
    · replace h := it_f k6 h
      refine lv_iload_n F.1 F.2.1 dX13_notOrder_18 rfl (lv_at hl 3 rfl) ?_
      refine lv_iconst (v := 1) F.1 F.2.1 dX13_notOrder_19 (by decide) ?_
      refine lv_bipush (v := 99) F.1 F.2.1 dX13_notOrder_20 (by decide) ?_
      obtain ⟨z7, k8, h⟩ := bd_ok h
      refine cRS (As := [.int p3, .int 1, .int 99]) (rest := []) F hE hX va_S.rf (tX13_isBetween l dC dI g p3 1 99 k8) mbX13_isBetween q1753 ⟨(Nat.le_of_ble_eq_true rfl), (Nat.le_of_ble_eq_true rfl)⟩ ⟨Nat.zero_le _, Nat.zero_le _⟩ hP [] rfl rfl hl.1 rfl (Nat.le_of_ble_eq_true rfl) dX13_notOrder_22 ?_
      refine lv_if_ne (tgt := 30) F.1 F.2.1 dX13_notOrder_25 (by decide) (fun k9 => ?_) (fun k9 => ?_)
      · replace h := it_f k9 h
        refine lv_aload_n F.1 F.2.1 dX13_notOrder_30 rfl (lv_at hl 0 rfl) ?_
        refine gF (v := .ref a1) F hE hP 0 rfl rfl inX13 1 (by decide) q1685 rfl dX13_notOrder_31 ?_
        refine lv_iconst (v := 2) F.1 F.2.1 dX13_notOrder_34 (by decide) ?_
        refine aLi (k := 2) F hE hP 1 0 rfl rfl (by decide) (by decide) dX13_notOrder_35 ?_
        refine lv_bipush (v := 12) F.1 F.2.1 dX13_notOrder_36 (by decide) ?_
        refine lv_icmp_ne (tgt := 45) F.1 F.2.1 dX13_notOrder_38 (by decide) (fun k10 => ?_) (fun k10 => ?_)
        · replace h := it_f k10 h
          refine lv_iconst (v := 0) F.1 F.2.1 dX13_notOrder_45 (by decide) ?_
          cases h
          exact RO_i F hr hlocks dX13_notOrder_46
        · replace h := it_t k10 h
          refine lv_iconst (v := 2) F.1 F.2.1 dX13_notOrder_41 (by decide) ?_
          refine lv_goto (tgt := 46) F.1 F.2.1 dX13_notOrder_42 (by decide) ?_
          cases h
          exact RO_i F hr hlocks dX13_notOrder_46
      · replace h := it_t k9 h
        refine lv_iconst (v := 1) F.1 F.2.1 dX13_notOrder_28 (by decide) ?_
        cases h
        exact RO_i F hr hlocks dX13_notOrder_29
/-! WireCutterModel.addsOrder -/
def fX13_addsOrder_L29 (K8 : Int32 → (Nat → Int32) → Option (Int32 × (Nat → Int32))) (x4 : Int32) : Nat → Int32 → (Nat → Int32) → Option (Int32 × (Nat → Int32))
  | 0, _, _ => none
  | k + 1, x5, uw =>
    if 4 ≤ x5 then
      K8 (x4 + (-1)) uw
    else
      (fX13_orderOf uw (x4 - 1) x5).bind fun z14 =>
      gd (inR ((73 + (4 * x4)) + x5) 201) <|
      fX13_addsOrder_L29 K8 x4 k (x5 + 1) (upd uw (((73 + (4 * x4)) + x5).toNatClampNeg) z14)
def fX13_addsOrder_L8 (x1 : Int32) (x2 : Int32) (x3 : Int32) : Nat → Int32 → (Nat → Int32) → Option (Int32 × (Nat → Int32))
  | 0, _, _ => none
  | k + 1, x4, uw =>
    if x4 ≤ 0 then
      gd (inR ((73 + (4 * x4)) + 0) 201) <|
      gd (inR ((73 + (4 * x4)) + 1) 201) <|
      gd (inR ((73 + (4 * x4)) + 2) 201) <|
      gd (inR ((73 + (4 * x4)) + 3) 201) <|
      some (((upd (upd (upd (upd (upd (upd uw (((73 + (4 * x4)) + 0).toNatClampNeg) (uw 3)) (((73 + (4 * x4)) + 1).toNatClampNeg) (x1 - 97)) (((73 + (4 * x4)) + 2).toNatClampNeg) x2) (((73 + (4 * x4)) + 3).toNatClampNeg) x3) 2 (((upd (upd (upd (upd uw (((73 + (4 * x4)) + 0).toNatClampNeg) (uw 3)) (((73 + (4 * x4)) + 1).toNatClampNeg) (x1 - 97)) (((73 + (4 * x4)) + 2).toNatClampNeg) x2) (((73 + (4 * x4)) + 3).toNatClampNeg) x3) 2) + 1)) 3 (((upd (upd (upd (upd (upd uw (((73 + (4 * x4)) + 0).toNatClampNeg) (uw 3)) (((73 + (4 * x4)) + 1).toNatClampNeg) (x1 - 97)) (((73 + (4 * x4)) + 2).toNatClampNeg) x2) (((73 + (4 * x4)) + 3).toNatClampNeg) x3) 2 (((upd (upd (upd (upd uw (((73 + (4 * x4)) + 0).toNatClampNeg) (uw 3)) (((73 + (4 * x4)) + 1).toNatClampNeg) (x1 - 97)) (((73 + (4 * x4)) + 2).toNatClampNeg) x2) (((73 + (4 * x4)) + 3).toNatClampNeg) x3) 2) + 1)) 3) + 1)) 3) - 1, upd (upd (upd (upd (upd (upd uw (((73 + (4 * x4)) + 0).toNatClampNeg) (uw 3)) (((73 + (4 * x4)) + 1).toNatClampNeg) (x1 - 97)) (((73 + (4 * x4)) + 2).toNatClampNeg) x2) (((73 + (4 * x4)) + 3).toNatClampNeg) x3) 2 (((upd (upd (upd (upd uw (((73 + (4 * x4)) + 0).toNatClampNeg) (uw 3)) (((73 + (4 * x4)) + 1).toNatClampNeg) (x1 - 97)) (((73 + (4 * x4)) + 2).toNatClampNeg) x2) (((73 + (4 * x4)) + 3).toNatClampNeg) x3) 2) + 1)) 3 (((upd (upd (upd (upd (upd uw (((73 + (4 * x4)) + 0).toNatClampNeg) (uw 3)) (((73 + (4 * x4)) + 1).toNatClampNeg) (x1 - 97)) (((73 + (4 * x4)) + 2).toNatClampNeg) x2) (((73 + (4 * x4)) + 3).toNatClampNeg) x3) 2 (((upd (upd (upd (upd uw (((73 + (4 * x4)) + 0).toNatClampNeg) (uw 3)) (((73 + (4 * x4)) + 1).toNatClampNeg) (x1 - 97)) (((73 + (4 * x4)) + 2).toNatClampNeg) x2) (((73 + (4 * x4)) + 3).toNatClampNeg) x3) 2) + 1)) 3) + 1))
    else
      (fX13_orderOf uw (x4 - 1) 3).bind fun z6 =>
      if z6 ≤ x3 then
        gd (inR ((73 + (4 * x4)) + 0) 201) <|
        gd (inR ((73 + (4 * x4)) + 1) 201) <|
        gd (inR ((73 + (4 * x4)) + 2) 201) <|
        gd (inR ((73 + (4 * x4)) + 3) 201) <|
        some (((upd (upd (upd (upd (upd (upd uw (((73 + (4 * x4)) + 0).toNatClampNeg) (uw 3)) (((73 + (4 * x4)) + 1).toNatClampNeg) (x1 - 97)) (((73 + (4 * x4)) + 2).toNatClampNeg) x2) (((73 + (4 * x4)) + 3).toNatClampNeg) x3) 2 (((upd (upd (upd (upd uw (((73 + (4 * x4)) + 0).toNatClampNeg) (uw 3)) (((73 + (4 * x4)) + 1).toNatClampNeg) (x1 - 97)) (((73 + (4 * x4)) + 2).toNatClampNeg) x2) (((73 + (4 * x4)) + 3).toNatClampNeg) x3) 2) + 1)) 3 (((upd (upd (upd (upd (upd uw (((73 + (4 * x4)) + 0).toNatClampNeg) (uw 3)) (((73 + (4 * x4)) + 1).toNatClampNeg) (x1 - 97)) (((73 + (4 * x4)) + 2).toNatClampNeg) x2) (((73 + (4 * x4)) + 3).toNatClampNeg) x3) 2 (((upd (upd (upd (upd uw (((73 + (4 * x4)) + 0).toNatClampNeg) (uw 3)) (((73 + (4 * x4)) + 1).toNatClampNeg) (x1 - 97)) (((73 + (4 * x4)) + 2).toNatClampNeg) x2) (((73 + (4 * x4)) + 3).toNatClampNeg) x3) 2) + 1)) 3) + 1)) 3) - 1, upd (upd (upd (upd (upd (upd uw (((73 + (4 * x4)) + 0).toNatClampNeg) (uw 3)) (((73 + (4 * x4)) + 1).toNatClampNeg) (x1 - 97)) (((73 + (4 * x4)) + 2).toNatClampNeg) x2) (((73 + (4 * x4)) + 3).toNatClampNeg) x3) 2 (((upd (upd (upd (upd uw (((73 + (4 * x4)) + 0).toNatClampNeg) (uw 3)) (((73 + (4 * x4)) + 1).toNatClampNeg) (x1 - 97)) (((73 + (4 * x4)) + 2).toNatClampNeg) x2) (((73 + (4 * x4)) + 3).toNatClampNeg) x3) 2) + 1)) 3 (((upd (upd (upd (upd (upd uw (((73 + (4 * x4)) + 0).toNatClampNeg) (uw 3)) (((73 + (4 * x4)) + 1).toNatClampNeg) (x1 - 97)) (((73 + (4 * x4)) + 2).toNatClampNeg) x2) (((73 + (4 * x4)) + 3).toNatClampNeg) x3) 2 (((upd (upd (upd (upd uw (((73 + (4 * x4)) + 0).toNatClampNeg) (uw 3)) (((73 + (4 * x4)) + 1).toNatClampNeg) (x1 - 97)) (((73 + (4 * x4)) + 2).toNatClampNeg) x2) (((73 + (4 * x4)) + 3).toNatClampNeg) x3) 2) + 1)) 3) + 1))
      else
        fX13_addsOrder_L29 (fX13_addsOrder_L8 x1 x2 x3 k) x4 FU 0 uw
def fX13_addsOrder (uw : Nat → Int32) (p1 : Int32) (p2 : Int32) (p3 : Int32) : Option (Int32 × (Nat → Int32)) :=
  fX13_addsOrder_L8 p1 p2 p3 FU (uw 2) uw
theorem mbX13_addsOrder : MV yX13_addsOrder cX13_addsOrder 6 (some .int) 3 := ⟨⟨q1838, q16, by decide +kernel⟩, q1837, qs39⟩
set_option maxHeartbeats 4000000 in
set_option maxRecDepth 100000 in
theorem tX13_addsOrder_L29 {p : Program} {l : Launch} {e : Env} {s : State} {m : MethodId} {args : Array Value} {below : List Frame} {meth : Method} {c : Code} {dC : Nat → ClassId} {dI : Nat → Nat → Nat} {g : Nat → ClassId} {a0 a1 a2 a3 a4 a5 a6 a7 a8 : Nat} {r : Int32 × (Nat → Int32)} {A : Nat → Prop} (F : CF p m c cX13_addsOrder 6 s args RX13) (hr : meth.sig.returnType = (some .int)) (hlocks : meth.locks = false) (hE : EK dC dI g s) (hX : EX g A s s.heap) (hA : ∀ q : Nat, s.heap.size ≤ q → A q) (x1 : Int32) (x2 : Int32) (x3 : Int32) (x4 : Int32) (uth : Int32) (uch : Int32) (ufc : Int32) (usv : Int32) (ull : Int32) (ubl : Int32) (uba : Int32) (uea : Int32) (ufa : Int32) (uso : Int32) (udn : Int32) (uun : Nat → Int32) (usr : Nat → Int32) (ube : Nat → Int32) (ubs : Nat → Int32) (uln : Nat → Int32) (ubu : Nat → Int32) (unu : Nat → Int32) {K8 : Int32 → (Nat → Int32) → Option (Int32 × (Nat → Int32))} (hK8 : ∀ (x4 : Int32) (uw : Nat → Int32), K8 x4 uw = some r → ∀ (H : Heap) (locs : List Loc), va_P (dC, dI) vwCl (wX13 g a0 a1 a2 a3 a4 a5 a6 a7 a8 uth uch ufc usv ull ubl uba uea ufa uso udn uw uun usr ube ubs uln ubu unu) H → va_D A (wX13 g a0 a1 a2 a3 a4 a5 a6 a7 a8 uth uch ufc usv ull ubl uba uea ufa uso udn uw uun usr ube ubs uln ubu unu) → va_S A s.heap H locs → ∀ (ls : Array Slot), lv_has ls 6 [(0, .ref a0), (1, .int x1), (2, .int x2), (3, .int x3), (4, .int x4)] → W p l e { frames := 1, cells := 0, slots := 0, locals := 22 } s m args below meth c H locs 0 0 (MQ below (fun _ st o t => o = .returned (some (.int r.1)) ∧ va_P (dC, dI) vwCl (wX13 g a0 a1 a2 a3 a4 a5 a6 a7 a8 uth uch ufc usv ull ubl uba uea ufa uso udn r.2 uun usr ube ubs uln ubu unu) t.heap ∧ va_F A st t) args s 0 0 A) (F0 m 8 ls [])) : ∀ (k : Nat) (x5 : Int32) (uw : Nat → Int32), fX13_addsOrder_L29 K8 x4 k x5 uw = some r → ∀ (H : Heap) (locs : List Loc), va_P (dC, dI) vwCl (wX13 g a0 a1 a2 a3 a4 a5 a6 a7 a8 uth uch ufc usv ull ubl uba uea ufa uso udn uw uun usr ube ubs uln ubu unu) H → va_D A (wX13 g a0 a1 a2 a3 a4 a5 a6 a7 a8 uth uch ufc usv ull ubl uba uea ufa uso udn uw uun usr ube ubs uln ubu unu) → va_S A s.heap H locs → ∀ (ls : Array Slot), lv_has ls 6 [(0, .ref a0), (1, .int x1), (2, .int x2), (3, .int x3), (4, .int x4), (5, .int x5)] → W p l e { frames := 1, cells := 0, slots := 0, locals := 22 } s m args below meth c H locs 0 0 (MQ below (fun _ st o t => o = .returned (some (.int r.1)) ∧ va_P (dC, dI) vwCl (wX13 g a0 a1 a2 a3 a4 a5 a6 a7 a8 uth uch ufc usv ull ubl uba uea ufa uso udn r.2 uun usr ube ubs uln ubu unu) t.heap ∧ va_F A st t) args s 0 0 A) (F0 m 29 ls []) := by
  intro k
  induction k with
  | zero =>
    intro x5 uw h
    exact absurd h (by simp [fX13_addsOrder_L29])
  | succ k ih =>
    intro x5 uw h H locs hP hD hS ls hl
    rw [fX13_addsOrder_L29] at h
    refine lv_iload F.1 F.2.1 dX13_addsOrder_29 (lv_at hl 5 rfl) ?_
    refine lv_iconst (v := 4) F.1 F.2.1 dX13_addsOrder_31 (by decide) ?_
    refine lv_icmp_ge (tgt := 66) F.1 F.2.1 dX13_addsOrder_32 (by decide) (fun k13 => ?_) (fun k13 => ?_)
    · replace h := it_t k13 h
      refine lv_iinc (v := x4 + (-1)) (lv' := [(4, .int (x4 + (-1))), (0, .ref a0), (1, .int x1), (2, .int x2), (3, .int x3), (5, .int x5)]) F.1 F.2.1 dX13_addsOrder_66 hl (k := 4) rfl (by rfl) (by decide) rfl (fun ls hl => ?_)
      refine lv_goto (tgt := 8) F.1 F.2.1 dX13_addsOrder_69 (by decide) ?_
      exact hK8 (x4 + (-1)) uw h _ _ hP hD hS ls (lv_sub hl [1, 2, 3, 4, 0] rfl)
    · replace h := it_f k13 h
      refine lv_aload_n F.1 F.2.1 dX13_addsOrder_35 rfl (lv_at hl 0 rfl) ?_
      refine gF (v := .ref a1) F hE hP 0 rfl rfl inX13 1 (by decide) q1685 rfl dX13_addsOrder_36 ?_
      refine lv_bipush (v := 73) F.1 F.2.1 dX13_addsOrder_39 (by decide) ?_
      refine lv_iconst (v := 4) F.1 F.2.1 dX13_addsOrder_41 (by decide) ?_
      refine lv_iload F.1 F.2.1 dX13_addsOrder_42 (lv_at hl 4 rfl) ?_
      refine lv_imul F.1 F.2.1 dX13_addsOrder_44 ?_
      refine lv_iadd F.1 F.2.1 dX13_addsOrder_45 ?_
      refine lv_iload F.1 F.2.1 dX13_addsOrder_46 (lv_at hl 5 rfl) ?_
      refine lv_iadd F.1 F.2.1 dX13_addsOrder_48 ?_
      refine lv_aload_n F.1 F.2.1 dX13_addsOrder_49 rfl (lv_at hl 0 rfl) ?_
      refine lv_iload F.1 F.2.1 dX13_addsOrder_50 (lv_at hl 4 rfl) ?_
      refine lv_iconst (v := 1) F.1 F.2.1 dX13_addsOrder_52 (by decide) ?_
      refine lv_isub F.1 F.2.1 dX13_addsOrder_53 ?_
      refine lv_iload F.1 F.2.1 dX13_addsOrder_54 (lv_at hl 5 rfl) ?_
      obtain ⟨z14, k15, h⟩ := bd_ok h
      refine cRV (As := [.int (x4 - 1), .int x5]) (rest := [.int ((73 + (4 * x4)) + x5), .ref a1]) F hE hX hS (tX13_orderOf l dC dI g a0 a1 a2 a3 a4 a5 a6 a7 a8 uth uch ufc usv ull ubl uba uea ufa uso udn uw uun usr ube ubs uln ubu unu (x4 - 1) x5 k15) mbX13_orderOf q1839 ⟨(Nat.le_of_ble_eq_true rfl), (Nat.le_of_ble_eq_true rfl)⟩ ⟨Nat.zero_le _, Nat.zero_le _⟩ hP [0, 1, 2, 3, 4, 5, 6, 7, 8] rfl 0 rfl rfl rfl hl.1 rfl (Nat.le_of_ble_eq_true rfl) dX13_addsOrder_56 ?_
      obtain ⟨k16, h⟩ := gd_ok h
      refine aSi (k := ((73 + (4 * x4)) + x5).toNatClampNeg) F hE hP hD hS 1 0 rfl rfl k16 rfl dX13_addsOrder_59 (fun H locs hP hD hS => ?_)
      replace hP : va_P (dC, dI) vwCl (wX13 g a0 a1 a2 a3 a4 a5 a6 a7 a8 uth uch ufc usv ull ubl uba uea ufa uso udn (upd uw (((73 + (4 * x4)) + x5).toNatClampNeg) z14) uun usr ube ubs uln ubu unu) H := hP
      replace hD : va_D A (wX13 g a0 a1 a2 a3 a4 a5 a6 a7 a8 uth uch ufc usv ull ubl uba uea ufa uso udn (upd uw (((73 + (4 * x4)) + x5).toNatClampNeg) z14) uun usr ube ubs uln ubu unu) := hD
      refine lv_iinc (v := x5 + 1) (lv' := [(5, .int (x5 + 1)), (0, .ref a0), (1, .int x1), (2, .int x2), (3, .int x3), (4, .int x4)]) F.1 F.2.1 dX13_addsOrder_60 hl (k := 5) rfl (by rfl) (by decide) rfl (fun ls hl => ?_)
      refine lv_goto (tgt := 29) F.1 F.2.1 dX13_addsOrder_63 (by decide) ?_
      exact ih (x5 + 1) (upd uw (((73 + (4 * x4)) + x5).toNatClampNeg) z14) h _ _ hP hD hS ls (lv_sub hl [1, 2, 3, 4, 5, 0] rfl)
set_option maxHeartbeats 4000000 in
set_option maxRecDepth 100000 in
theorem tX13_addsOrder_L8 {p : Program} {l : Launch} {e : Env} {s : State} {m : MethodId} {args : Array Value} {below : List Frame} {meth : Method} {c : Code} {dC : Nat → ClassId} {dI : Nat → Nat → Nat} {g : Nat → ClassId} {a0 a1 a2 a3 a4 a5 a6 a7 a8 : Nat} {r : Int32 × (Nat → Int32)} {A : Nat → Prop} (F : CF p m c cX13_addsOrder 6 s args RX13) (hr : meth.sig.returnType = (some .int)) (hlocks : meth.locks = false) (hE : EK dC dI g s) (hX : EX g A s s.heap) (hA : ∀ q : Nat, s.heap.size ≤ q → A q) (x1 : Int32) (x2 : Int32) (x3 : Int32) (uth : Int32) (uch : Int32) (ufc : Int32) (usv : Int32) (ull : Int32) (ubl : Int32) (uba : Int32) (uea : Int32) (ufa : Int32) (uso : Int32) (udn : Int32) (uun : Nat → Int32) (usr : Nat → Int32) (ube : Nat → Int32) (ubs : Nat → Int32) (uln : Nat → Int32) (ubu : Nat → Int32) (unu : Nat → Int32) : ∀ (k : Nat) (x4 : Int32) (uw : Nat → Int32), fX13_addsOrder_L8 x1 x2 x3 k x4 uw = some r → ∀ (H : Heap) (locs : List Loc), va_P (dC, dI) vwCl (wX13 g a0 a1 a2 a3 a4 a5 a6 a7 a8 uth uch ufc usv ull ubl uba uea ufa uso udn uw uun usr ube ubs uln ubu unu) H → va_D A (wX13 g a0 a1 a2 a3 a4 a5 a6 a7 a8 uth uch ufc usv ull ubl uba uea ufa uso udn uw uun usr ube ubs uln ubu unu) → va_S A s.heap H locs → ∀ (ls : Array Slot), lv_has ls 6 [(0, .ref a0), (1, .int x1), (2, .int x2), (3, .int x3), (4, .int x4)] → W p l e { frames := 1, cells := 0, slots := 0, locals := 22 } s m args below meth c H locs 0 0 (MQ below (fun _ st o t => o = .returned (some (.int r.1)) ∧ va_P (dC, dI) vwCl (wX13 g a0 a1 a2 a3 a4 a5 a6 a7 a8 uth uch ufc usv ull ubl uba uea ufa uso udn r.2 uun usr ube ubs uln ubu unu) t.heap ∧ va_F A st t) args s 0 0 A) (F0 m 8 ls []) := by
  intro k
  induction k with
  | zero =>
    intro x4 uw h
    exact absurd h (by simp [fX13_addsOrder_L8])
  | succ k ih =>
    intro x4 uw h H locs hP hD hS ls hl
    rw [fX13_addsOrder_L8] at h
    refine lv_iload F.1 F.2.1 dX13_addsOrder_8 (lv_at hl 4 rfl) ?_
    refine lv_if_le (tgt := 72) F.1 F.2.1 dX13_addsOrder_10 (by decide) (fun k1 => ?_) (fun k1 => ?_)
    · replace h := it_t k1 h
      refine lv_bipush (v := 73) F.1 F.2.1 dX13_addsOrder_72 (by decide) ?_
      refine lv_iconst (v := 4) F.1 F.2.1 dX13_addsOrder_74 (by decide) ?_
      refine lv_iload F.1 F.2.1 dX13_addsOrder_75 (lv_at hl 4 rfl) ?_
      refine lv_imul F.1 F.2.1 dX13_addsOrder_77 ?_
      refine lv_iadd F.1 F.2.1 dX13_addsOrder_78 ?_
      refine lv_istore (lv' := [(5, .int (73 + (4 * x4))), (0, .ref a0), (1, .int x1), (2, .int x2), (3, .int x3), (4, .int x4)]) F.1 F.2.1 dX13_addsOrder_79 hl (by decide) rfl (fun ls hl => ?_)
      refine lv_aload_n F.1 F.2.1 dX13_addsOrder_81 rfl (lv_at hl 1 rfl) ?_
      refine gF (v := .ref a1) F hE hP 0 rfl rfl inX13 1 (by decide) q1685 rfl dX13_addsOrder_82 ?_
      refine lv_iload F.1 F.2.1 dX13_addsOrder_85 (lv_at hl 0 rfl) ?_
      refine lv_iconst (v := 0) F.1 F.2.1 dX13_addsOrder_87 (by decide) ?_
      refine lv_iadd F.1 F.2.1 dX13_addsOrder_88 ?_
      refine lv_aload_n F.1 F.2.1 dX13_addsOrder_89 rfl (lv_at hl 1 rfl) ?_
      refine gF (v := .ref a1) F hE hP 0 rfl rfl inX13 1 (by decide) q1685 rfl dX13_addsOrder_90 ?_
      refine lv_iconst (v := 3) F.1 F.2.1 dX13_addsOrder_93 (by decide) ?_
      refine aLi (k := 3) F hE hP 1 0 rfl rfl (by decide) (by decide) dX13_addsOrder_94 ?_
      obtain ⟨k2, h⟩ := gd_ok h
      refine aSi (k := ((73 + (4 * x4)) + 0).toNatClampNeg) F hE hP hD hS 1 0 rfl rfl k2 rfl dX13_addsOrder_95 (fun H locs hP hD hS => ?_)
      replace hP : va_P (dC, dI) vwCl (wX13 g a0 a1 a2 a3 a4 a5 a6 a7 a8 uth uch ufc usv ull ubl uba uea ufa uso udn (upd uw (((73 + (4 * x4)) + 0).toNatClampNeg) (uw 3)) uun usr ube ubs uln ubu unu) H := hP
      replace hD : va_D A (wX13 g a0 a1 a2 a3 a4 a5 a6 a7 a8 uth uch ufc usv ull ubl uba uea ufa uso udn (upd uw (((73 + (4 * x4)) + 0).toNatClampNeg) (uw 3)) uun usr ube ubs uln ubu unu) := hD
      refine lv_aload_n F.1 F.2.1 dX13_addsOrder_96 rfl (lv_at hl 1 rfl) ?_
      refine gF (v := .ref a1) F hE hP 0 rfl rfl inX13 1 (by decide) q1685 rfl dX13_addsOrder_97 ?_
      refine lv_iload F.1 F.2.1 dX13_addsOrder_100 (lv_at hl 0 rfl) ?_
      refine lv_iconst (v := 1) F.1 F.2.1 dX13_addsOrder_102 (by decide) ?_
      refine lv_iadd F.1 F.2.1 dX13_addsOrder_103 ?_
      refine lv_iload_n F.1 F.2.1 dX13_addsOrder_104 rfl (lv_at hl 2 rfl) ?_
      refine lv_bipush (v := 97) F.1 F.2.1 dX13_addsOrder_105 (by decide) ?_
      refine lv_isub F.1 F.2.1 dX13_addsOrder_107 ?_
      obtain ⟨k3, h⟩ := gd_ok h
      refine aSi (k := ((73 + (4 * x4)) + 1).toNatClampNeg) F hE hP hD hS 1 0 rfl rfl k3 rfl dX13_addsOrder_108 (fun H locs hP hD hS => ?_)
      replace hP : va_P (dC, dI) vwCl (wX13 g a0 a1 a2 a3 a4 a5 a6 a7 a8 uth uch ufc usv ull ubl uba uea ufa uso udn (upd (upd uw (((73 + (4 * x4)) + 0).toNatClampNeg) (uw 3)) (((73 + (4 * x4)) + 1).toNatClampNeg) (x1 - 97)) uun usr ube ubs uln ubu unu) H := hP
      replace hD : va_D A (wX13 g a0 a1 a2 a3 a4 a5 a6 a7 a8 uth uch ufc usv ull ubl uba uea ufa uso udn (upd (upd uw (((73 + (4 * x4)) + 0).toNatClampNeg) (uw 3)) (((73 + (4 * x4)) + 1).toNatClampNeg) (x1 - 97)) uun usr ube ubs uln ubu unu) := hD
      refine lv_aload_n F.1 F.2.1 dX13_addsOrder_109 rfl (lv_at hl 1 rfl) ?_
      refine gF (v := .ref a1) F hE hP 0 rfl rfl inX13 1 (by decide) q1685 rfl dX13_addsOrder_110 ?_
      refine lv_iload F.1 F.2.1 dX13_addsOrder_113 (lv_at hl 0 rfl) ?_
      refine lv_iconst (v := 2) F.1 F.2.1 dX13_addsOrder_115 (by decide) ?_
      refine lv_iadd F.1 F.2.1 dX13_addsOrder_116 ?_
      refine lv_iload_n F.1 F.2.1 dX13_addsOrder_117 rfl (lv_at hl 3 rfl) ?_
      obtain ⟨k4, h⟩ := gd_ok h
      refine aSi (k := ((73 + (4 * x4)) + 2).toNatClampNeg) F hE hP hD hS 1 0 rfl rfl k4 rfl dX13_addsOrder_118 (fun H locs hP hD hS => ?_)
      replace hP : va_P (dC, dI) vwCl (wX13 g a0 a1 a2 a3 a4 a5 a6 a7 a8 uth uch ufc usv ull ubl uba uea ufa uso udn (upd (upd (upd uw (((73 + (4 * x4)) + 0).toNatClampNeg) (uw 3)) (((73 + (4 * x4)) + 1).toNatClampNeg) (x1 - 97)) (((73 + (4 * x4)) + 2).toNatClampNeg) x2) uun usr ube ubs uln ubu unu) H := hP
      replace hD : va_D A (wX13 g a0 a1 a2 a3 a4 a5 a6 a7 a8 uth uch ufc usv ull ubl uba uea ufa uso udn (upd (upd (upd uw (((73 + (4 * x4)) + 0).toNatClampNeg) (uw 3)) (((73 + (4 * x4)) + 1).toNatClampNeg) (x1 - 97)) (((73 + (4 * x4)) + 2).toNatClampNeg) x2) uun usr ube ubs uln ubu unu) := hD
      refine lv_aload_n F.1 F.2.1 dX13_addsOrder_119 rfl (lv_at hl 1 rfl) ?_
      refine gF (v := .ref a1) F hE hP 0 rfl rfl inX13 1 (by decide) q1685 rfl dX13_addsOrder_120 ?_
      refine lv_iload F.1 F.2.1 dX13_addsOrder_123 (lv_at hl 0 rfl) ?_
      refine lv_iconst (v := 3) F.1 F.2.1 dX13_addsOrder_125 (by decide) ?_
      refine lv_iadd F.1 F.2.1 dX13_addsOrder_126 ?_
      refine lv_iload_n F.1 F.2.1 dX13_addsOrder_127 rfl (lv_at hl 4 rfl) ?_
      obtain ⟨k5, h⟩ := gd_ok h
      refine aSi (k := ((73 + (4 * x4)) + 3).toNatClampNeg) F hE hP hD hS 1 0 rfl rfl k5 rfl dX13_addsOrder_128 (fun H locs hP hD hS => ?_)
      replace hP : va_P (dC, dI) vwCl (wX13 g a0 a1 a2 a3 a4 a5 a6 a7 a8 uth uch ufc usv ull ubl uba uea ufa uso udn (upd (upd (upd (upd uw (((73 + (4 * x4)) + 0).toNatClampNeg) (uw 3)) (((73 + (4 * x4)) + 1).toNatClampNeg) (x1 - 97)) (((73 + (4 * x4)) + 2).toNatClampNeg) x2) (((73 + (4 * x4)) + 3).toNatClampNeg) x3) uun usr ube ubs uln ubu unu) H := hP
      replace hD : va_D A (wX13 g a0 a1 a2 a3 a4 a5 a6 a7 a8 uth uch ufc usv ull ubl uba uea ufa uso udn (upd (upd (upd (upd uw (((73 + (4 * x4)) + 0).toNatClampNeg) (uw 3)) (((73 + (4 * x4)) + 1).toNatClampNeg) (x1 - 97)) (((73 + (4 * x4)) + 2).toNatClampNeg) x2) (((73 + (4 * x4)) + 3).toNatClampNeg) x3) uun usr ube ubs uln ubu unu) := hD
      refine lv_aload_n F.1 F.2.1 dX13_addsOrder_129 rfl (lv_at hl 1 rfl) ?_
      refine gF (v := .ref a1) F hE hP 0 rfl rfl inX13 1 (by decide) q1685 rfl dX13_addsOrder_130 ?_
      refine lv_iconst (v := 2) F.1 F.2.1 dX13_addsOrder_133 (by decide) ?_
      refine lv_dup2_11 F.1 F.2.1 dX13_addsOrder_134 rfl rfl ?_
      refine aLi (k := 2) F hE hP 1 0 rfl rfl (by decide) (by decide) dX13_addsOrder_135 ?_
      refine lv_iconst (v := 1) F.1 F.2.1 dX13_addsOrder_136 (by decide) ?_
      refine lv_iadd F.1 F.2.1 dX13_addsOrder_137 ?_
      refine aSi (k := 2) F hE hP hD hS 1 0 rfl rfl (by decide) (by decide) dX13_addsOrder_138 (fun H locs hP hD hS => ?_)
      replace hP : va_P (dC, dI) vwCl (wX13 g a0 a1 a2 a3 a4 a5 a6 a7 a8 uth uch ufc usv ull ubl uba uea ufa uso udn (upd (upd (upd (upd (upd uw (((73 + (4 * x4)) + 0).toNatClampNeg) (uw 3)) (((73 + (4 * x4)) + 1).toNatClampNeg) (x1 - 97)) (((73 + (4 * x4)) + 2).toNatClampNeg) x2) (((73 + (4 * x4)) + 3).toNatClampNeg) x3) 2 (((upd (upd (upd (upd uw (((73 + (4 * x4)) + 0).toNatClampNeg) (uw 3)) (((73 + (4 * x4)) + 1).toNatClampNeg) (x1 - 97)) (((73 + (4 * x4)) + 2).toNatClampNeg) x2) (((73 + (4 * x4)) + 3).toNatClampNeg) x3) 2) + 1)) uun usr ube ubs uln ubu unu) H := hP
      replace hD : va_D A (wX13 g a0 a1 a2 a3 a4 a5 a6 a7 a8 uth uch ufc usv ull ubl uba uea ufa uso udn (upd (upd (upd (upd (upd uw (((73 + (4 * x4)) + 0).toNatClampNeg) (uw 3)) (((73 + (4 * x4)) + 1).toNatClampNeg) (x1 - 97)) (((73 + (4 * x4)) + 2).toNatClampNeg) x2) (((73 + (4 * x4)) + 3).toNatClampNeg) x3) 2 (((upd (upd (upd (upd uw (((73 + (4 * x4)) + 0).toNatClampNeg) (uw 3)) (((73 + (4 * x4)) + 1).toNatClampNeg) (x1 - 97)) (((73 + (4 * x4)) + 2).toNatClampNeg) x2) (((73 + (4 * x4)) + 3).toNatClampNeg) x3) 2) + 1)) uun usr ube ubs uln ubu unu) := hD
      refine lv_aload_n F.1 F.2.1 dX13_addsOrder_139 rfl (lv_at hl 1 rfl) ?_
      refine gF (v := .ref a1) F hE hP 0 rfl rfl inX13 1 (by decide) q1685 rfl dX13_addsOrder_140 ?_
      refine lv_iconst (v := 3) F.1 F.2.1 dX13_addsOrder_143 (by decide) ?_
      refine lv_dup2_11 F.1 F.2.1 dX13_addsOrder_144 rfl rfl ?_
      refine aLi (k := 3) F hE hP 1 0 rfl rfl (by decide) (by decide) dX13_addsOrder_145 ?_
      refine lv_iconst (v := 1) F.1 F.2.1 dX13_addsOrder_146 (by decide) ?_
      refine lv_iadd F.1 F.2.1 dX13_addsOrder_147 ?_
      refine aSi (k := 3) F hE hP hD hS 1 0 rfl rfl (by decide) (by decide) dX13_addsOrder_148 (fun H locs hP hD hS => ?_)
      replace hP : va_P (dC, dI) vwCl (wX13 g a0 a1 a2 a3 a4 a5 a6 a7 a8 uth uch ufc usv ull ubl uba uea ufa uso udn (upd (upd (upd (upd (upd (upd uw (((73 + (4 * x4)) + 0).toNatClampNeg) (uw 3)) (((73 + (4 * x4)) + 1).toNatClampNeg) (x1 - 97)) (((73 + (4 * x4)) + 2).toNatClampNeg) x2) (((73 + (4 * x4)) + 3).toNatClampNeg) x3) 2 (((upd (upd (upd (upd uw (((73 + (4 * x4)) + 0).toNatClampNeg) (uw 3)) (((73 + (4 * x4)) + 1).toNatClampNeg) (x1 - 97)) (((73 + (4 * x4)) + 2).toNatClampNeg) x2) (((73 + (4 * x4)) + 3).toNatClampNeg) x3) 2) + 1)) 3 (((upd (upd (upd (upd (upd uw (((73 + (4 * x4)) + 0).toNatClampNeg) (uw 3)) (((73 + (4 * x4)) + 1).toNatClampNeg) (x1 - 97)) (((73 + (4 * x4)) + 2).toNatClampNeg) x2) (((73 + (4 * x4)) + 3).toNatClampNeg) x3) 2 (((upd (upd (upd (upd uw (((73 + (4 * x4)) + 0).toNatClampNeg) (uw 3)) (((73 + (4 * x4)) + 1).toNatClampNeg) (x1 - 97)) (((73 + (4 * x4)) + 2).toNatClampNeg) x2) (((73 + (4 * x4)) + 3).toNatClampNeg) x3) 2) + 1)) 3) + 1)) uun usr ube ubs uln ubu unu) H := hP
      replace hD : va_D A (wX13 g a0 a1 a2 a3 a4 a5 a6 a7 a8 uth uch ufc usv ull ubl uba uea ufa uso udn (upd (upd (upd (upd (upd (upd uw (((73 + (4 * x4)) + 0).toNatClampNeg) (uw 3)) (((73 + (4 * x4)) + 1).toNatClampNeg) (x1 - 97)) (((73 + (4 * x4)) + 2).toNatClampNeg) x2) (((73 + (4 * x4)) + 3).toNatClampNeg) x3) 2 (((upd (upd (upd (upd uw (((73 + (4 * x4)) + 0).toNatClampNeg) (uw 3)) (((73 + (4 * x4)) + 1).toNatClampNeg) (x1 - 97)) (((73 + (4 * x4)) + 2).toNatClampNeg) x2) (((73 + (4 * x4)) + 3).toNatClampNeg) x3) 2) + 1)) 3 (((upd (upd (upd (upd (upd uw (((73 + (4 * x4)) + 0).toNatClampNeg) (uw 3)) (((73 + (4 * x4)) + 1).toNatClampNeg) (x1 - 97)) (((73 + (4 * x4)) + 2).toNatClampNeg) x2) (((73 + (4 * x4)) + 3).toNatClampNeg) x3) 2 (((upd (upd (upd (upd uw (((73 + (4 * x4)) + 0).toNatClampNeg) (uw 3)) (((73 + (4 * x4)) + 1).toNatClampNeg) (x1 - 97)) (((73 + (4 * x4)) + 2).toNatClampNeg) x2) (((73 + (4 * x4)) + 3).toNatClampNeg) x3) 2) + 1)) 3) + 1)) uun usr ube ubs uln ubu unu) := hD
      refine lv_aload_n F.1 F.2.1 dX13_addsOrder_149 rfl (lv_at hl 1 rfl) ?_
      refine gF (v := .ref a1) F hE hP 0 rfl rfl inX13 1 (by decide) q1685 rfl dX13_addsOrder_150 ?_
      refine lv_iconst (v := 3) F.1 F.2.1 dX13_addsOrder_153 (by decide) ?_
      refine aLi (k := 3) F hE hP 1 0 rfl rfl (by decide) (by decide) dX13_addsOrder_154 ?_
      refine lv_iconst (v := 1) F.1 F.2.1 dX13_addsOrder_155 (by decide) ?_
      refine lv_isub F.1 F.2.1 dX13_addsOrder_156 ?_
      cases h
      exact MU_i F hr hlocks (Nat.le_refl _) (Nat.le_refl _) hP hS dX13_addsOrder_157
    · replace h := it_f k1 h
      refine lv_aload_n F.1 F.2.1 dX13_addsOrder_13 rfl (lv_at hl 0 rfl) ?_
      refine lv_iload F.1 F.2.1 dX13_addsOrder_14 (lv_at hl 4 rfl) ?_
      refine lv_iconst (v := 1) F.1 F.2.1 dX13_addsOrder_16 (by decide) ?_
      refine lv_isub F.1 F.2.1 dX13_addsOrder_17 ?_
      refine lv_iconst (v := 3) F.1 F.2.1 dX13_addsOrder_18 (by decide) ?_
      obtain ⟨z6, k7, h⟩ := bd_ok h
      refine cRV (As := [.int (x4 - 1), .int 3]) (rest := []) F hE hX hS (tX13_orderOf l dC dI g a0 a1 a2 a3 a4 a5 a6 a7 a8 uth uch ufc usv ull ubl uba uea ufa uso udn uw uun usr ube ubs uln ubu unu (x4 - 1) 3 k7) mbX13_orderOf q1839 ⟨(Nat.le_of_ble_eq_true rfl), (Nat.le_of_ble_eq_true rfl)⟩ ⟨Nat.zero_le _, Nat.zero_le _⟩ hP [0, 1, 2, 3, 4, 5, 6, 7, 8] rfl 0 rfl rfl rfl hl.1 rfl (Nat.le_of_ble_eq_true rfl) dX13_addsOrder_19 ?_
      refine lv_iload_n F.1 F.2.1 dX13_addsOrder_22 rfl (lv_at hl 3 rfl) ?_
      refine lv_icmp_le (tgt := 72) F.1 F.2.1 dX13_addsOrder_23 (by decide) (fun k8 => ?_) (fun k8 => ?_)
      · replace h := it_t k8 h
        refine lv_bipush (v := 73) F.1 F.2.1 dX13_addsOrder_72 (by decide) ?_
        refine lv_iconst (v := 4) F.1 F.2.1 dX13_addsOrder_74 (by decide) ?_
        refine lv_iload F.1 F.2.1 dX13_addsOrder_75 (lv_at hl 4 rfl) ?_
        refine lv_imul F.1 F.2.1 dX13_addsOrder_77 ?_
        refine lv_iadd F.1 F.2.1 dX13_addsOrder_78 ?_
        refine lv_istore (lv' := [(5, .int (73 + (4 * x4))), (0, .ref a0), (1, .int x1), (2, .int x2), (3, .int x3), (4, .int x4)]) F.1 F.2.1 dX13_addsOrder_79 hl (by decide) rfl (fun ls hl => ?_)
        refine lv_aload_n F.1 F.2.1 dX13_addsOrder_81 rfl (lv_at hl 1 rfl) ?_
        refine gF (v := .ref a1) F hE hP 0 rfl rfl inX13 1 (by decide) q1685 rfl dX13_addsOrder_82 ?_
        refine lv_iload F.1 F.2.1 dX13_addsOrder_85 (lv_at hl 0 rfl) ?_
        refine lv_iconst (v := 0) F.1 F.2.1 dX13_addsOrder_87 (by decide) ?_
        refine lv_iadd F.1 F.2.1 dX13_addsOrder_88 ?_
        refine lv_aload_n F.1 F.2.1 dX13_addsOrder_89 rfl (lv_at hl 1 rfl) ?_
        refine gF (v := .ref a1) F hE hP 0 rfl rfl inX13 1 (by decide) q1685 rfl dX13_addsOrder_90 ?_
        refine lv_iconst (v := 3) F.1 F.2.1 dX13_addsOrder_93 (by decide) ?_
        refine aLi (k := 3) F hE hP 1 0 rfl rfl (by decide) (by decide) dX13_addsOrder_94 ?_
        obtain ⟨k9, h⟩ := gd_ok h
        refine aSi (k := ((73 + (4 * x4)) + 0).toNatClampNeg) F hE hP hD hS 1 0 rfl rfl k9 rfl dX13_addsOrder_95 (fun H locs hP hD hS => ?_)
        replace hP : va_P (dC, dI) vwCl (wX13 g a0 a1 a2 a3 a4 a5 a6 a7 a8 uth uch ufc usv ull ubl uba uea ufa uso udn (upd uw (((73 + (4 * x4)) + 0).toNatClampNeg) (uw 3)) uun usr ube ubs uln ubu unu) H := hP
        replace hD : va_D A (wX13 g a0 a1 a2 a3 a4 a5 a6 a7 a8 uth uch ufc usv ull ubl uba uea ufa uso udn (upd uw (((73 + (4 * x4)) + 0).toNatClampNeg) (uw 3)) uun usr ube ubs uln ubu unu) := hD
        refine lv_aload_n F.1 F.2.1 dX13_addsOrder_96 rfl (lv_at hl 1 rfl) ?_
        refine gF (v := .ref a1) F hE hP 0 rfl rfl inX13 1 (by decide) q1685 rfl dX13_addsOrder_97 ?_
        refine lv_iload F.1 F.2.1 dX13_addsOrder_100 (lv_at hl 0 rfl) ?_
        refine lv_iconst (v := 1) F.1 F.2.1 dX13_addsOrder_102 (by decide) ?_
        refine lv_iadd F.1 F.2.1 dX13_addsOrder_103 ?_
        refine lv_iload_n F.1 F.2.1 dX13_addsOrder_104 rfl (lv_at hl 2 rfl) ?_
        refine lv_bipush (v := 97) F.1 F.2.1 dX13_addsOrder_105 (by decide) ?_
        refine lv_isub F.1 F.2.1 dX13_addsOrder_107 ?_
        obtain ⟨k10, h⟩ := gd_ok h
        refine aSi (k := ((73 + (4 * x4)) + 1).toNatClampNeg) F hE hP hD hS 1 0 rfl rfl k10 rfl dX13_addsOrder_108 (fun H locs hP hD hS => ?_)
        replace hP : va_P (dC, dI) vwCl (wX13 g a0 a1 a2 a3 a4 a5 a6 a7 a8 uth uch ufc usv ull ubl uba uea ufa uso udn (upd (upd uw (((73 + (4 * x4)) + 0).toNatClampNeg) (uw 3)) (((73 + (4 * x4)) + 1).toNatClampNeg) (x1 - 97)) uun usr ube ubs uln ubu unu) H := hP
        replace hD : va_D A (wX13 g a0 a1 a2 a3 a4 a5 a6 a7 a8 uth uch ufc usv ull ubl uba uea ufa uso udn (upd (upd uw (((73 + (4 * x4)) + 0).toNatClampNeg) (uw 3)) (((73 + (4 * x4)) + 1).toNatClampNeg) (x1 - 97)) uun usr ube ubs uln ubu unu) := hD
        refine lv_aload_n F.1 F.2.1 dX13_addsOrder_109 rfl (lv_at hl 1 rfl) ?_
        refine gF (v := .ref a1) F hE hP 0 rfl rfl inX13 1 (by decide) q1685 rfl dX13_addsOrder_110 ?_
        refine lv_iload F.1 F.2.1 dX13_addsOrder_113 (lv_at hl 0 rfl) ?_
        refine lv_iconst (v := 2) F.1 F.2.1 dX13_addsOrder_115 (by decide) ?_
        refine lv_iadd F.1 F.2.1 dX13_addsOrder_116 ?_
        refine lv_iload_n F.1 F.2.1 dX13_addsOrder_117 rfl (lv_at hl 3 rfl) ?_
        obtain ⟨k11, h⟩ := gd_ok h
        refine aSi (k := ((73 + (4 * x4)) + 2).toNatClampNeg) F hE hP hD hS 1 0 rfl rfl k11 rfl dX13_addsOrder_118 (fun H locs hP hD hS => ?_)
        replace hP : va_P (dC, dI) vwCl (wX13 g a0 a1 a2 a3 a4 a5 a6 a7 a8 uth uch ufc usv ull ubl uba uea ufa uso udn (upd (upd (upd uw (((73 + (4 * x4)) + 0).toNatClampNeg) (uw 3)) (((73 + (4 * x4)) + 1).toNatClampNeg) (x1 - 97)) (((73 + (4 * x4)) + 2).toNatClampNeg) x2) uun usr ube ubs uln ubu unu) H := hP
        replace hD : va_D A (wX13 g a0 a1 a2 a3 a4 a5 a6 a7 a8 uth uch ufc usv ull ubl uba uea ufa uso udn (upd (upd (upd uw (((73 + (4 * x4)) + 0).toNatClampNeg) (uw 3)) (((73 + (4 * x4)) + 1).toNatClampNeg) (x1 - 97)) (((73 + (4 * x4)) + 2).toNatClampNeg) x2) uun usr ube ubs uln ubu unu) := hD
        refine lv_aload_n F.1 F.2.1 dX13_addsOrder_119 rfl (lv_at hl 1 rfl) ?_
        refine gF (v := .ref a1) F hE hP 0 rfl rfl inX13 1 (by decide) q1685 rfl dX13_addsOrder_120 ?_
        refine lv_iload F.1 F.2.1 dX13_addsOrder_123 (lv_at hl 0 rfl) ?_
        refine lv_iconst (v := 3) F.1 F.2.1 dX13_addsOrder_125 (by decide) ?_
        refine lv_iadd F.1 F.2.1 dX13_addsOrder_126 ?_
        refine lv_iload_n F.1 F.2.1 dX13_addsOrder_127 rfl (lv_at hl 4 rfl) ?_
        obtain ⟨k12, h⟩ := gd_ok h
        refine aSi (k := ((73 + (4 * x4)) + 3).toNatClampNeg) F hE hP hD hS 1 0 rfl rfl k12 rfl dX13_addsOrder_128 (fun H locs hP hD hS => ?_)
        replace hP : va_P (dC, dI) vwCl (wX13 g a0 a1 a2 a3 a4 a5 a6 a7 a8 uth uch ufc usv ull ubl uba uea ufa uso udn (upd (upd (upd (upd uw (((73 + (4 * x4)) + 0).toNatClampNeg) (uw 3)) (((73 + (4 * x4)) + 1).toNatClampNeg) (x1 - 97)) (((73 + (4 * x4)) + 2).toNatClampNeg) x2) (((73 + (4 * x4)) + 3).toNatClampNeg) x3) uun usr ube ubs uln ubu unu) H := hP
        replace hD : va_D A (wX13 g a0 a1 a2 a3 a4 a5 a6 a7 a8 uth uch ufc usv ull ubl uba uea ufa uso udn (upd (upd (upd (upd uw (((73 + (4 * x4)) + 0).toNatClampNeg) (uw 3)) (((73 + (4 * x4)) + 1).toNatClampNeg) (x1 - 97)) (((73 + (4 * x4)) + 2).toNatClampNeg) x2) (((73 + (4 * x4)) + 3).toNatClampNeg) x3) uun usr ube ubs uln ubu unu) := hD
        refine lv_aload_n F.1 F.2.1 dX13_addsOrder_129 rfl (lv_at hl 1 rfl) ?_
        refine gF (v := .ref a1) F hE hP 0 rfl rfl inX13 1 (by decide) q1685 rfl dX13_addsOrder_130 ?_
        refine lv_iconst (v := 2) F.1 F.2.1 dX13_addsOrder_133 (by decide) ?_
        refine lv_dup2_11 F.1 F.2.1 dX13_addsOrder_134 rfl rfl ?_
        refine aLi (k := 2) F hE hP 1 0 rfl rfl (by decide) (by decide) dX13_addsOrder_135 ?_
        refine lv_iconst (v := 1) F.1 F.2.1 dX13_addsOrder_136 (by decide) ?_
        refine lv_iadd F.1 F.2.1 dX13_addsOrder_137 ?_
        refine aSi (k := 2) F hE hP hD hS 1 0 rfl rfl (by decide) (by decide) dX13_addsOrder_138 (fun H locs hP hD hS => ?_)
        replace hP : va_P (dC, dI) vwCl (wX13 g a0 a1 a2 a3 a4 a5 a6 a7 a8 uth uch ufc usv ull ubl uba uea ufa uso udn (upd (upd (upd (upd (upd uw (((73 + (4 * x4)) + 0).toNatClampNeg) (uw 3)) (((73 + (4 * x4)) + 1).toNatClampNeg) (x1 - 97)) (((73 + (4 * x4)) + 2).toNatClampNeg) x2) (((73 + (4 * x4)) + 3).toNatClampNeg) x3) 2 (((upd (upd (upd (upd uw (((73 + (4 * x4)) + 0).toNatClampNeg) (uw 3)) (((73 + (4 * x4)) + 1).toNatClampNeg) (x1 - 97)) (((73 + (4 * x4)) + 2).toNatClampNeg) x2) (((73 + (4 * x4)) + 3).toNatClampNeg) x3) 2) + 1)) uun usr ube ubs uln ubu unu) H := hP
        replace hD : va_D A (wX13 g a0 a1 a2 a3 a4 a5 a6 a7 a8 uth uch ufc usv ull ubl uba uea ufa uso udn (upd (upd (upd (upd (upd uw (((73 + (4 * x4)) + 0).toNatClampNeg) (uw 3)) (((73 + (4 * x4)) + 1).toNatClampNeg) (x1 - 97)) (((73 + (4 * x4)) + 2).toNatClampNeg) x2) (((73 + (4 * x4)) + 3).toNatClampNeg) x3) 2 (((upd (upd (upd (upd uw (((73 + (4 * x4)) + 0).toNatClampNeg) (uw 3)) (((73 + (4 * x4)) + 1).toNatClampNeg) (x1 - 97)) (((73 + (4 * x4)) + 2).toNatClampNeg) x2) (((73 + (4 * x4)) + 3).toNatClampNeg) x3) 2) + 1)) uun usr ube ubs uln ubu unu) := hD
        refine lv_aload_n F.1 F.2.1 dX13_addsOrder_139 rfl (lv_at hl 1 rfl) ?_
        refine gF (v := .ref a1) F hE hP 0 rfl rfl inX13 1 (by decide) q1685 rfl dX13_addsOrder_140 ?_
        refine lv_iconst (v := 3) F.1 F.2.1 dX13_addsOrder_143 (by decide) ?_
        refine lv_dup2_11 F.1 F.2.1 dX13_addsOrder_144 rfl rfl ?_
        refine aLi (k := 3) F hE hP 1 0 rfl rfl (by decide) (by decide) dX13_addsOrder_145 ?_
        refine lv_iconst (v := 1) F.1 F.2.1 dX13_addsOrder_146 (by decide) ?_
        refine lv_iadd F.1 F.2.1 dX13_addsOrder_147 ?_
        refine aSi (k := 3) F hE hP hD hS 1 0 rfl rfl (by decide) (by decide) dX13_addsOrder_148 (fun H locs hP hD hS => ?_)
        replace hP : va_P (dC, dI) vwCl (wX13 g a0 a1 a2 a3 a4 a5 a6 a7 a8 uth uch ufc usv ull ubl uba uea ufa uso udn (upd (upd (upd (upd (upd (upd uw (((73 + (4 * x4)) + 0).toNatClampNeg) (uw 3)) (((73 + (4 * x4)) + 1).toNatClampNeg) (x1 - 97)) (((73 + (4 * x4)) + 2).toNatClampNeg) x2) (((73 + (4 * x4)) + 3).toNatClampNeg) x3) 2 (((upd (upd (upd (upd uw (((73 + (4 * x4)) + 0).toNatClampNeg) (uw 3)) (((73 + (4 * x4)) + 1).toNatClampNeg) (x1 - 97)) (((73 + (4 * x4)) + 2).toNatClampNeg) x2) (((73 + (4 * x4)) + 3).toNatClampNeg) x3) 2) + 1)) 3 (((upd (upd (upd (upd (upd uw (((73 + (4 * x4)) + 0).toNatClampNeg) (uw 3)) (((73 + (4 * x4)) + 1).toNatClampNeg) (x1 - 97)) (((73 + (4 * x4)) + 2).toNatClampNeg) x2) (((73 + (4 * x4)) + 3).toNatClampNeg) x3) 2 (((upd (upd (upd (upd uw (((73 + (4 * x4)) + 0).toNatClampNeg) (uw 3)) (((73 + (4 * x4)) + 1).toNatClampNeg) (x1 - 97)) (((73 + (4 * x4)) + 2).toNatClampNeg) x2) (((73 + (4 * x4)) + 3).toNatClampNeg) x3) 2) + 1)) 3) + 1)) uun usr ube ubs uln ubu unu) H := hP
        replace hD : va_D A (wX13 g a0 a1 a2 a3 a4 a5 a6 a7 a8 uth uch ufc usv ull ubl uba uea ufa uso udn (upd (upd (upd (upd (upd (upd uw (((73 + (4 * x4)) + 0).toNatClampNeg) (uw 3)) (((73 + (4 * x4)) + 1).toNatClampNeg) (x1 - 97)) (((73 + (4 * x4)) + 2).toNatClampNeg) x2) (((73 + (4 * x4)) + 3).toNatClampNeg) x3) 2 (((upd (upd (upd (upd uw (((73 + (4 * x4)) + 0).toNatClampNeg) (uw 3)) (((73 + (4 * x4)) + 1).toNatClampNeg) (x1 - 97)) (((73 + (4 * x4)) + 2).toNatClampNeg) x2) (((73 + (4 * x4)) + 3).toNatClampNeg) x3) 2) + 1)) 3 (((upd (upd (upd (upd (upd uw (((73 + (4 * x4)) + 0).toNatClampNeg) (uw 3)) (((73 + (4 * x4)) + 1).toNatClampNeg) (x1 - 97)) (((73 + (4 * x4)) + 2).toNatClampNeg) x2) (((73 + (4 * x4)) + 3).toNatClampNeg) x3) 2 (((upd (upd (upd (upd uw (((73 + (4 * x4)) + 0).toNatClampNeg) (uw 3)) (((73 + (4 * x4)) + 1).toNatClampNeg) (x1 - 97)) (((73 + (4 * x4)) + 2).toNatClampNeg) x2) (((73 + (4 * x4)) + 3).toNatClampNeg) x3) 2) + 1)) 3) + 1)) uun usr ube ubs uln ubu unu) := hD
        refine lv_aload_n F.1 F.2.1 dX13_addsOrder_149 rfl (lv_at hl 1 rfl) ?_
        refine gF (v := .ref a1) F hE hP 0 rfl rfl inX13 1 (by decide) q1685 rfl dX13_addsOrder_150 ?_
        refine lv_iconst (v := 3) F.1 F.2.1 dX13_addsOrder_153 (by decide) ?_
        refine aLi (k := 3) F hE hP 1 0 rfl rfl (by decide) (by decide) dX13_addsOrder_154 ?_
        refine lv_iconst (v := 1) F.1 F.2.1 dX13_addsOrder_155 (by decide) ?_
        refine lv_isub F.1 F.2.1 dX13_addsOrder_156 ?_
        cases h
        exact MU_i F hr hlocks (Nat.le_refl _) (Nat.le_refl _) hP hS dX13_addsOrder_157
      · replace h := it_f k8 h
        refine lv_iconst (v := 0) F.1 F.2.1 dX13_addsOrder_26 (by decide) ?_
        refine lv_istore (lv' := [(5, .int 0), (0, .ref a0), (1, .int x1), (2, .int x2), (3, .int x3), (4, .int x4)]) F.1 F.2.1 dX13_addsOrder_27 hl (by decide) rfl (fun ls hl => ?_)
        exact tX13_addsOrder_L29 F hr hlocks hE hX hA x1 x2 x3 x4 uth uch ufc usv ull ubl uba uea ufa uso udn uun usr ube ubs uln ubu unu ih FU 0 uw h _ _ hP hD hS ls (lv_sub hl [1, 2, 3, 4, 5, 0] rfl)
set_option maxHeartbeats 4000000 in
set_option maxRecDepth 100000 in
theorem tX13_addsOrder (l : Launch) (dC : Nat → ClassId) (dI : Nat → Nat → Nat) (g : Nat → ClassId) (a0 a1 a2 a3 a4 a5 a6 a7 a8 : Nat) (uth : Int32) (uch : Int32) (ufc : Int32) (usv : Int32) (ull : Int32) (ubl : Int32) (uba : Int32) (uea : Int32) (ufa : Int32) (uso : Int32) (udn : Int32) (uw : Nat → Int32) (uun : Nat → Int32) (usr : Nat → Int32) (ube : Nat → Int32) (ubs : Nat → Int32) (uln : Nat → Int32) (ubu : Nat → Int32) (unu : Nat → Int32) (p1 : Int32) (p2 : Int32) (p3 : Int32) {r : Int32 × (Nat → Int32)} (h : fX13_addsOrder uw p1 p2 p3 = some r) : MU l yX13_addsOrder cX13_addsOrder 6 (some .int) 1 22 0 0 dC dI g [.ref a0, .int p1, .int p2, .int p3] (wX13 g a0 a1 a2 a3 a4 a5 a6 a7 a8 uth uch ufc usv ull ubl uba uea ufa uso udn uw uun usr ube ubs uln ubu unu) (wX13 g a0 a1 a2 a3 a4 a5 a6 a7 a8 uth uch ufc usv ull ubl uba uea ufa uso udn r.2 uun usr ube ubs uln ubu unu) (some (.int r.1)) := by
  refine MU_of (by decide) (Nat.le_of_ble_eq_true rfl) ?_
  intro p e s m below meth c ls F hr hlocks hE hX hA hP hD hS hl
  generalize va_A (wX13 g a0 a1 a2 a3 a4 a5 a6 a7 a8 uth uch ufc usv ull ubl uba uea ufa uso udn uw uun usr ube ubs uln ubu unu) s.heap.size = A at hA hD hS hX ⊢
  replace F : CF p m c cX13_addsOrder 6 s _ RX13 := F
  replace hl : lv_has ls 6 [(0, .ref a0), (1, .int p1), (2, .int p2), (3, .int p3)] := hl
  rw [fX13_addsOrder] at h
  refine lv_aload_n F.1 F.2.1 dX13_addsOrder_0 rfl (lv_at hl 0 rfl) ?_
  refine gF (v := .ref a1) F hE hP 0 rfl rfl inX13 1 (by decide) q1685 rfl dX13_addsOrder_1 ?_
  refine lv_iconst (v := 2) F.1 F.2.1 dX13_addsOrder_4 (by decide) ?_
  refine aLi (k := 2) F hE hP 1 0 rfl rfl (by decide) (by decide) dX13_addsOrder_5 ?_
  refine lv_istore (lv' := [(4, .int (uw 2)), (0, .ref a0), (1, .int p1), (2, .int p2), (3, .int p3)]) F.1 F.2.1 dX13_addsOrder_6 hl (by decide) rfl (fun ls hl => ?_)
  exact tX13_addsOrder_L8 F hr hlocks hE hX hA p1 p2 p3 uth uch ufc usv ull ubl uba uea ufa uso udn uun usr ube ubs uln ubu unu FU (uw 2) uw h _ _ hP hD hS ls (lv_sub hl [1, 2, 3, 4, 0] rfl)
/-! WireCutterModel.addOrder -/
def fX13_addOrder (uch : Int32) (ufc : Int32) (uw : Nat → Int32) (uun : Nat → Int32) (ube : Nat → Int32) (p1 : Int32) (p2 : Int32) (p3 : Int32) : Option (Int32 × Int32 × Int32 × Int32 × (Nat → Int32) × (Nat → Int32) × (Nat → Int32)) :=
  (fX13_notOrder uw p1 p2 p3).bind fun z1 =>
  if z1 = 0 then
    (fX13_remembers uch ufc uw uun ube).bind fun z4 =>
    (fX13_addsOrder uw p1 p2 p3).bind fun z6 =>
    some (z6.1, 0, z4.1, z4.2.1, z6.2, z4.2.2.1, z4.2.2.2)
  else
    (fX13_fails z1).bind fun z8 =>
    some (z8.1, z8.2, uch, ufc, uw, uun, ube)
theorem mbX13_addOrder : MV yX13_addOrder cX13_addOrder 5 (some .int) 3 := ⟨⟨q1830, q16, by decide +kernel⟩, q1828, q1829⟩
set_option maxHeartbeats 4000000 in
set_option maxRecDepth 100000 in
theorem tX13_addOrder (l : Launch) (dC : Nat → ClassId) (dI : Nat → Nat → Nat) (g : Nat → ClassId) (a0 a1 a2 a3 a4 a5 a6 a7 a8 : Nat) (uth : Int32) (uch : Int32) (ufc : Int32) (usv : Int32) (ull : Int32) (ubl : Int32) (uba : Int32) (uea : Int32) (ufa : Int32) (uso : Int32) (udn : Int32) (uw : Nat → Int32) (uun : Nat → Int32) (usr : Nat → Int32) (ube : Nat → Int32) (ubs : Nat → Int32) (uln : Nat → Int32) (ubu : Nat → Int32) (unu : Nat → Int32) (p1 : Int32) (p2 : Int32) (p3 : Int32) {r : Int32 × Int32 × Int32 × Int32 × (Nat → Int32) × (Nat → Int32) × (Nat → Int32)} (h : fX13_addOrder uch ufc uw uun ube p1 p2 p3 = some r) : MU l yX13_addOrder cX13_addOrder 5 (some .int) 3 65 0 0 dC dI g [.ref a0, .int p1, .int p2, .int p3] (wX13 g a0 a1 a2 a3 a4 a5 a6 a7 a8 uth uch ufc usv ull ubl uba uea ufa uso udn uw uun usr ube ubs uln ubu unu) (wX13 g a0 a1 a2 a3 a4 a5 a6 a7 a8 r.2.1 r.2.2.1 r.2.2.2.1 usv ull ubl uba uea ufa uso udn r.2.2.2.2.1 r.2.2.2.2.2.1 usr r.2.2.2.2.2.2 ubs uln ubu unu) (some (.int r.1)) := by
  refine MU_of (by decide) (Nat.le_of_ble_eq_true rfl) ?_
  intro p e s m below meth c ls F hr hlocks hE hX hA hP hD hS hl
  generalize va_A (wX13 g a0 a1 a2 a3 a4 a5 a6 a7 a8 uth uch ufc usv ull ubl uba uea ufa uso udn uw uun usr ube ubs uln ubu unu) s.heap.size = A at hA hD hS hX ⊢
  replace F : CF p m c cX13_addOrder 5 s _ RX13 := F
  replace hl : lv_has ls 5 [(0, .ref a0), (1, .int p1), (2, .int p2), (3, .int p3)] := hl
  rw [fX13_addOrder] at h
  refine lv_aload_n F.1 F.2.1 dX13_addOrder_0 rfl (lv_at hl 0 rfl) ?_
  refine lv_iconst (v := 0) F.1 F.2.1 dX13_addOrder_1 (by decide) ?_
  refine pF (v := .int 0) F hE hP hD hS 0 rfl rfl inX13 tyX13 tyX13_ok nmX13 0 (by decide) q1684 rfl rfl rfl (Nat.le_of_ble_eq_true rfl) dX13_addOrder_2 (fun H locs hP hD hS => ?_)
  replace hP : va_P (dC, dI) vwCl (wX13 g a0 a1 a2 a3 a4 a5 a6 a7 a8 0 uch ufc usv ull ubl uba uea ufa uso udn uw uun usr ube ubs uln ubu unu) H := hP
  replace hD : va_D A (wX13 g a0 a1 a2 a3 a4 a5 a6 a7 a8 0 uch ufc usv ull ubl uba uea ufa uso udn uw uun usr ube ubs uln ubu unu) := hD
  refine lv_aload_n F.1 F.2.1 dX13_addOrder_5 rfl (lv_at hl 0 rfl) ?_
  refine lv_iload_n F.1 F.2.1 dX13_addOrder_6 rfl (lv_at hl 1 rfl) ?_
  refine lv_iload_n F.1 F.2.1 dX13_addOrder_7 rfl (lv_at hl 2 rfl) ?_
  refine lv_iload_n F.1 F.2.1 dX13_addOrder_8 rfl (lv_at hl 3 rfl) ?_
  obtain ⟨z1, k2, h⟩ := bd_ok h
  refine cRV (As := [.int p1, .int p2, .int p3]) (rest := []) F hE hX hS (tX13_notOrder l dC dI g a0 a1 a2 a3 a4 a5 a6 a7 a8 0 uch ufc usv ull ubl uba uea ufa uso udn uw uun usr ube ubs uln ubu unu p1 p2 p3 k2) mbX13_notOrder q1831 ⟨(Nat.le_of_ble_eq_true rfl), (Nat.le_of_ble_eq_true rfl)⟩ ⟨Nat.zero_le _, Nat.zero_le _⟩ hP [0, 1, 2, 3, 4, 5, 6, 7, 8] rfl 0 rfl rfl rfl hl.1 rfl (Nat.le_of_ble_eq_true rfl) dX13_addOrder_9 ?_
  refine lv_istore (lv' := [(4, .int z1), (0, .ref a0), (1, .int p1), (2, .int p2), (3, .int p3)]) F.1 F.2.1 dX13_addOrder_12 hl (by decide) rfl (fun ls hl => ?_)
  refine lv_iload F.1 F.2.1 dX13_addOrder_14 (lv_at hl 0 rfl) ?_
  refine lv_if_eq (tgt := 26) F.1 F.2.1 dX13_addOrder_16 (by decide) (fun k3 => ?_) (fun k3 => ?_)
  · replace h := it_t k3 h
    refine lv_aload_n F.1 F.2.1 dX13_addOrder_26 rfl (lv_at hl 1 rfl) ?_
    obtain ⟨z4, k5, h⟩ := bd_ok h
    refine cMV (As := []) (rest := []) (ws' := wX13 g a0 a1 a2 a3 a4 a5 a6 a7 a8 0 z4.1 z4.2.1 usv ull ubl uba uea ufa uso udn uw z4.2.2.1 usr z4.2.2.2 ubs uln ubu unu) F hE hX (tX13_remembers l dC dI g a0 a1 a2 a3 a4 a5 a6 a7 a8 0 uch ufc usv ull ubl uba uea ufa uso udn uw uun usr ube ubs uln ubu unu k5) mbX13_remembers q1760 ⟨(Nat.le_of_ble_eq_true rfl), (Nat.le_of_ble_eq_true rfl)⟩ ⟨(Nat.le_of_ble_eq_true rfl), (Nat.le_of_ble_eq_true rfl)⟩ hP hD hS hA [0, 1, 2, 3, 4, 5, 6, 7, 8] rfl rfl rfl rfl rfl 0 rfl rfl rfl hl.1 rfl (Nat.le_of_ble_eq_true rfl) dX13_addOrder_27 (fun H locs hP hD hS => ?_)
    refine lv_aload_n F.1 F.2.1 dX13_addOrder_30 rfl (lv_at hl 1 rfl) ?_
    refine lv_iload_n F.1 F.2.1 dX13_addOrder_31 rfl (lv_at hl 2 rfl) ?_
    refine lv_iload_n F.1 F.2.1 dX13_addOrder_32 rfl (lv_at hl 3 rfl) ?_
    refine lv_iload_n F.1 F.2.1 dX13_addOrder_33 rfl (lv_at hl 4 rfl) ?_
    obtain ⟨z6, k7, h⟩ := bd_ok h
    refine cMV (As := [.int p1, .int p2, .int p3]) (rest := []) (ws' := wX13 g a0 a1 a2 a3 a4 a5 a6 a7 a8 0 z4.1 z4.2.1 usv ull ubl uba uea ufa uso udn z6.2 z4.2.2.1 usr z4.2.2.2 ubs uln ubu unu) F hE hX (tX13_addsOrder l dC dI g a0 a1 a2 a3 a4 a5 a6 a7 a8 0 z4.1 z4.2.1 usv ull ubl uba uea ufa uso udn uw z4.2.2.1 usr z4.2.2.2 ubs uln ubu unu p1 p2 p3 k7) mbX13_addsOrder q1835 ⟨(Nat.le_of_ble_eq_true rfl), (Nat.le_of_ble_eq_true rfl)⟩ ⟨(Nat.le_of_ble_eq_true rfl), (Nat.le_of_ble_eq_true rfl)⟩ hP hD hS hA [0, 1, 2, 3, 4, 5, 6, 7, 8] rfl rfl rfl rfl rfl 0 rfl rfl rfl hl.1 rfl (Nat.le_of_ble_eq_true rfl) dX13_addOrder_34 (fun H locs hP hD hS => ?_)
    cases h
    exact MU_i F hr hlocks (Nat.le_refl _) (Nat.le_refl _) hP hS dX13_addOrder_37
  · replace h := it_f k3 h
    refine lv_aload_n F.1 F.2.1 dX13_addOrder_19 rfl (lv_at hl 1 rfl) ?_
    refine lv_iload F.1 F.2.1 dX13_addOrder_20 (lv_at hl 0 rfl) ?_
    obtain ⟨z8, k9, h⟩ := bd_ok h
    refine cMV (As := [.int z1]) (rest := []) (ws' := wX13 g a0 a1 a2 a3 a4 a5 a6 a7 a8 z8.2 uch ufc usv ull ubl uba uea ufa uso udn uw uun usr ube ubs uln ubu unu) F hE hX (tX13_fails l dC dI g a0 a1 a2 a3 a4 a5 a6 a7 a8 0 uch ufc usv ull ubl uba uea ufa uso udn uw uun usr ube ubs uln ubu unu z1 k9) mbX13_fails q1756 ⟨(Nat.le_of_ble_eq_true rfl), (Nat.le_of_ble_eq_true rfl)⟩ ⟨(Nat.le_of_ble_eq_true rfl), (Nat.le_of_ble_eq_true rfl)⟩ hP hD hS hA [0, 1, 2, 3, 4, 5, 6, 7, 8] rfl rfl rfl rfl rfl 0 rfl rfl rfl hl.1 rfl (Nat.le_of_ble_eq_true rfl) dX13_addOrder_22 (fun H locs hP hD hS => ?_)
    cases h
    exact MU_i F hr hlocks (Nat.le_refl _) (Nat.le_refl _) hP hS dX13_addOrder_25
/-! WireCutterModel.notCancel -/
def fX13_notCancel (uw : Nat → Int32) (p1 : Int32) : Option (Int32) :=
  (fX13_orderPlace uw p1).bind fun z1 =>
  if 0 ≤ z1 then
    some (0)
  else
    some (1)
theorem mbX13_notCancel : MV yX13_notCancel cX13_notCancel 2 (some .int) 1 := ⟨⟨q1850, q16, by decide +kernel⟩, q1849, qs41⟩
set_option maxHeartbeats 4000000 in
set_option maxRecDepth 100000 in
theorem tX13_notCancel (l : Launch) (dC : Nat → ClassId) (dI : Nat → Nat → Nat) (g : Nat → ClassId) (a0 a1 a2 a3 a4 a5 a6 a7 a8 : Nat) (uth : Int32) (uch : Int32) (ufc : Int32) (usv : Int32) (ull : Int32) (ubl : Int32) (uba : Int32) (uea : Int32) (ufa : Int32) (uso : Int32) (udn : Int32) (uw : Nat → Int32) (uun : Nat → Int32) (usr : Nat → Int32) (ube : Nat → Int32) (ubs : Nat → Int32) (uln : Nat → Int32) (ubu : Nat → Int32) (unu : Nat → Int32) (p1 : Int32) {r : Int32} (h : fX13_notCancel uw p1 = some r) : RO l yX13_notCancel cX13_notCancel 2 (some .int) 2 44 dC dI g [.ref a0, .int p1] (wX13 g a0 a1 a2 a3 a4 a5 a6 a7 a8 uth uch ufc usv ull ubl uba uea ufa uso udn uw uun usr ube ubs uln ubu unu) (some (.int r)) := by
  refine RO_of (by decide) (Nat.le_of_ble_eq_true rfl) ?_
  intro p e s m below meth c ls F hr hlocks hE hX hP hl
  replace F : CF p m c cX13_notCancel 2 s _ RX13 := F
  replace hl : lv_has ls 2 [(0, .ref a0), (1, .int p1)] := hl
  rw [fX13_notCancel] at h
  refine lv_aload_n F.1 F.2.1 dX13_notCancel_0 rfl (lv_at hl 0 rfl) ?_
  refine lv_iload_n F.1 F.2.1 dX13_notCancel_1 rfl (lv_at hl 1 rfl) ?_
  obtain ⟨z1, k2, h⟩ := bd_ok h
  refine cRV (As := [.int p1]) (rest := []) F hE hX va_S.rf (tX13_orderPlace l dC dI g a0 a1 a2 a3 a4 a5 a6 a7 a8 uth uch ufc usv ull ubl uba uea ufa uso udn uw uun usr ube ubs uln ubu unu p1 k2) mbX13_orderPlace q1851 ⟨(Nat.le_of_ble_eq_true rfl), (Nat.le_of_ble_eq_true rfl)⟩ ⟨Nat.zero_le _, Nat.zero_le _⟩ hP [0, 1, 2, 3, 4, 5, 6, 7, 8] rfl 0 rfl rfl rfl hl.1 rfl (Nat.le_of_ble_eq_true rfl) dX13_notCancel_2 ?_
  refine lv_if_ge (tgt := 12) F.1 F.2.1 dX13_notCancel_5 (by decide) (fun k3 => ?_) (fun k3 => ?_)
  · replace h := it_t k3 h
    refine lv_iconst (v := 0) F.1 F.2.1 dX13_notCancel_12 (by decide) ?_
    cases h
    exact RO_i F hr hlocks dX13_notCancel_13
  · replace h := it_f k3 h
    refine lv_iconst (v := 1) F.1 F.2.1 dX13_notCancel_8 (by decide) ?_
    refine lv_goto (tgt := 13) F.1 F.2.1 dX13_notCancel_9 (by decide) ?_
    cases h
    exact RO_i F hr hlocks dX13_notCancel_13
/-! WireCutterModel.cancels -/
def fX13_cancels (uw : Nat → Int32) (p1 : Int32) : Option (Int32 × (Nat → Int32)) :=
  (fX13_orderPlace uw p1).bind fun z1 =>
  (fX13_removesOrder uw z1).bind fun z3 =>
  some (z1, z3)
theorem mbX13_cancels : MV yX13_cancels cX13_cancels 3 (some .int) 1 := ⟨⟨q1858, q16, by decide +kernel⟩, q1857, qs43⟩
set_option maxHeartbeats 4000000 in
set_option maxRecDepth 100000 in
theorem tX13_cancels (l : Launch) (dC : Nat → ClassId) (dI : Nat → Nat → Nat) (g : Nat → ClassId) (a0 a1 a2 a3 a4 a5 a6 a7 a8 : Nat) (uth : Int32) (uch : Int32) (ufc : Int32) (usv : Int32) (ull : Int32) (ubl : Int32) (uba : Int32) (uea : Int32) (ufa : Int32) (uso : Int32) (udn : Int32) (uw : Nat → Int32) (uun : Nat → Int32) (usr : Nat → Int32) (ube : Nat → Int32) (ubs : Nat → Int32) (uln : Nat → Int32) (ubu : Nat → Int32) (unu : Nat → Int32) (p1 : Int32) {r : Int32 × (Nat → Int32)} (h : fX13_cancels uw p1 = some r) : MU l yX13_cancels cX13_cancels 3 (some .int) 2 45 0 0 dC dI g [.ref a0, .int p1] (wX13 g a0 a1 a2 a3 a4 a5 a6 a7 a8 uth uch ufc usv ull ubl uba uea ufa uso udn uw uun usr ube ubs uln ubu unu) (wX13 g a0 a1 a2 a3 a4 a5 a6 a7 a8 uth uch ufc usv ull ubl uba uea ufa uso udn r.2 uun usr ube ubs uln ubu unu) (some (.int r.1)) := by
  refine MU_of (by decide) (Nat.le_of_ble_eq_true rfl) ?_
  intro p e s m below meth c ls F hr hlocks hE hX hA hP hD hS hl
  generalize va_A (wX13 g a0 a1 a2 a3 a4 a5 a6 a7 a8 uth uch ufc usv ull ubl uba uea ufa uso udn uw uun usr ube ubs uln ubu unu) s.heap.size = A at hA hD hS hX ⊢
  replace F : CF p m c cX13_cancels 3 s _ RX13 := F
  replace hl : lv_has ls 3 [(0, .ref a0), (1, .int p1)] := hl
  rw [fX13_cancels] at h
  refine lv_aload_n F.1 F.2.1 dX13_cancels_0 rfl (lv_at hl 0 rfl) ?_
  refine lv_iload_n F.1 F.2.1 dX13_cancels_1 rfl (lv_at hl 1 rfl) ?_
  obtain ⟨z1, k2, h⟩ := bd_ok h
  refine cRV (As := [.int p1]) (rest := []) F hE hX hS (tX13_orderPlace l dC dI g a0 a1 a2 a3 a4 a5 a6 a7 a8 uth uch ufc usv ull ubl uba uea ufa uso udn uw uun usr ube ubs uln ubu unu p1 k2) mbX13_orderPlace q1851 ⟨(Nat.le_of_ble_eq_true rfl), (Nat.le_of_ble_eq_true rfl)⟩ ⟨Nat.zero_le _, Nat.zero_le _⟩ hP [0, 1, 2, 3, 4, 5, 6, 7, 8] rfl 0 rfl rfl rfl hl.1 rfl (Nat.le_of_ble_eq_true rfl) dX13_cancels_2 ?_
  refine lv_istore_n (lv' := [(2, .int z1), (0, .ref a0), (1, .int p1)]) F.1 F.2.1 dX13_cancels_5 rfl hl (by decide) rfl (fun ls hl => ?_)
  refine lv_aload_n F.1 F.2.1 dX13_cancels_6 rfl (lv_at hl 1 rfl) ?_
  refine lv_iload_n F.1 F.2.1 dX13_cancels_7 rfl (lv_at hl 0 rfl) ?_
  obtain ⟨z3, k4, h⟩ := bd_ok h
  refine cMV (As := [.int z1]) (rest := []) (ws' := wX13 g a0 a1 a2 a3 a4 a5 a6 a7 a8 uth uch ufc usv ull ubl uba uea ufa uso udn z3 uun usr ube ubs uln ubu unu) F hE hX (tX13_removesOrder l dC dI g a0 a1 a2 a3 a4 a5 a6 a7 a8 uth uch ufc usv ull ubl uba uea ufa uso udn uw uun usr ube ubs uln ubu unu z1 k4) mbX13_removesOrder q1859 ⟨(Nat.le_of_ble_eq_true rfl), (Nat.le_of_ble_eq_true rfl)⟩ ⟨(Nat.le_of_ble_eq_true rfl), (Nat.le_of_ble_eq_true rfl)⟩ hP hD hS hA [0, 1, 2, 3, 4, 5, 6, 7, 8] rfl rfl rfl rfl rfl 0 rfl rfl rfl hl.1 rfl (Nat.le_of_ble_eq_true rfl) dX13_cancels_8 (fun H locs hP hD hS => ?_)
  refine lv_iload_n F.1 F.2.1 dX13_cancels_11 rfl (lv_at hl 0 rfl) ?_
  cases h
  exact MU_i F hr hlocks (Nat.le_refl _) (Nat.le_refl _) hP hS dX13_cancels_12
/-! WireCutterModel.cancel -/
def fX13_cancel (uch : Int32) (ufc : Int32) (uw : Nat → Int32) (uun : Nat → Int32) (ube : Nat → Int32) (p1 : Int32) : Option (Int32 × Int32 × Int32 × Int32 × (Nat → Int32) × (Nat → Int32) × (Nat → Int32)) :=
  (fX13_notCancel uw p1).bind fun z1 =>
  if z1 = 0 then
    (fX13_remembers uch ufc uw uun ube).bind fun z4 =>
    (fX13_cancels uw p1).bind fun z6 =>
    some (z6.1, 0, z4.1, z4.2.1, z6.2, z4.2.2.1, z4.2.2.2)
  else
    (fX13_fails 1).bind fun z8 =>
    some (z8.1, z8.2, uch, ufc, uw, uun, ube)
theorem mbX13_cancel : MV yX13_cancel cX13_cancel 2 (some .int) 1 := ⟨⟨q1846, q16, by decide +kernel⟩, q1844, q1845⟩
set_option maxHeartbeats 4000000 in
set_option maxRecDepth 100000 in
theorem tX13_cancel (l : Launch) (dC : Nat → ClassId) (dI : Nat → Nat → Nat) (g : Nat → ClassId) (a0 a1 a2 a3 a4 a5 a6 a7 a8 : Nat) (uth : Int32) (uch : Int32) (ufc : Int32) (usv : Int32) (ull : Int32) (ubl : Int32) (uba : Int32) (uea : Int32) (ufa : Int32) (uso : Int32) (udn : Int32) (uw : Nat → Int32) (uun : Nat → Int32) (usr : Nat → Int32) (ube : Nat → Int32) (ubs : Nat → Int32) (uln : Nat → Int32) (ubu : Nat → Int32) (unu : Nat → Int32) (p1 : Int32) {r : Int32 × Int32 × Int32 × Int32 × (Nat → Int32) × (Nat → Int32) × (Nat → Int32)} (h : fX13_cancel uch ufc uw uun ube p1 = some r) : MU l yX13_cancel cX13_cancel 2 (some .int) 3 67 0 0 dC dI g [.ref a0, .int p1] (wX13 g a0 a1 a2 a3 a4 a5 a6 a7 a8 uth uch ufc usv ull ubl uba uea ufa uso udn uw uun usr ube ubs uln ubu unu) (wX13 g a0 a1 a2 a3 a4 a5 a6 a7 a8 r.2.1 r.2.2.1 r.2.2.2.1 usv ull ubl uba uea ufa uso udn r.2.2.2.2.1 r.2.2.2.2.2.1 usr r.2.2.2.2.2.2 ubs uln ubu unu) (some (.int r.1)) := by
  refine MU_of (by decide) (Nat.le_of_ble_eq_true rfl) ?_
  intro p e s m below meth c ls F hr hlocks hE hX hA hP hD hS hl
  generalize va_A (wX13 g a0 a1 a2 a3 a4 a5 a6 a7 a8 uth uch ufc usv ull ubl uba uea ufa uso udn uw uun usr ube ubs uln ubu unu) s.heap.size = A at hA hD hS hX ⊢
  replace F : CF p m c cX13_cancel 2 s _ RX13 := F
  replace hl : lv_has ls 2 [(0, .ref a0), (1, .int p1)] := hl
  rw [fX13_cancel] at h
  refine lv_aload_n F.1 F.2.1 dX13_cancel_0 rfl (lv_at hl 0 rfl) ?_
  refine lv_iconst (v := 0) F.1 F.2.1 dX13_cancel_1 (by decide) ?_
  refine pF (v := .int 0) F hE hP hD hS 0 rfl rfl inX13 tyX13 tyX13_ok nmX13 0 (by decide) q1684 rfl rfl rfl (Nat.le_of_ble_eq_true rfl) dX13_cancel_2 (fun H locs hP hD hS => ?_)
  replace hP : va_P (dC, dI) vwCl (wX13 g a0 a1 a2 a3 a4 a5 a6 a7 a8 0 uch ufc usv ull ubl uba uea ufa uso udn uw uun usr ube ubs uln ubu unu) H := hP
  replace hD : va_D A (wX13 g a0 a1 a2 a3 a4 a5 a6 a7 a8 0 uch ufc usv ull ubl uba uea ufa uso udn uw uun usr ube ubs uln ubu unu) := hD
  refine lv_aload_n F.1 F.2.1 dX13_cancel_5 rfl (lv_at hl 0 rfl) ?_
  refine lv_iload_n F.1 F.2.1 dX13_cancel_6 rfl (lv_at hl 1 rfl) ?_
  obtain ⟨z1, k2, h⟩ := bd_ok h
  refine cRV (As := [.int p1]) (rest := []) F hE hX hS (tX13_notCancel l dC dI g a0 a1 a2 a3 a4 a5 a6 a7 a8 0 uch ufc usv ull ubl uba uea ufa uso udn uw uun usr ube ubs uln ubu unu p1 k2) mbX13_notCancel q1847 ⟨(Nat.le_of_ble_eq_true rfl), (Nat.le_of_ble_eq_true rfl)⟩ ⟨Nat.zero_le _, Nat.zero_le _⟩ hP [0, 1, 2, 3, 4, 5, 6, 7, 8] rfl 0 rfl rfl rfl hl.1 rfl (Nat.le_of_ble_eq_true rfl) dX13_cancel_7 ?_
  refine lv_if_eq (tgt := 19) F.1 F.2.1 dX13_cancel_10 (by decide) (fun k3 => ?_) (fun k3 => ?_)
  · replace h := it_t k3 h
    refine lv_aload_n F.1 F.2.1 dX13_cancel_19 rfl (lv_at hl 0 rfl) ?_
    obtain ⟨z4, k5, h⟩ := bd_ok h
    refine cMV (As := []) (rest := []) (ws' := wX13 g a0 a1 a2 a3 a4 a5 a6 a7 a8 0 z4.1 z4.2.1 usv ull ubl uba uea ufa uso udn uw z4.2.2.1 usr z4.2.2.2 ubs uln ubu unu) F hE hX (tX13_remembers l dC dI g a0 a1 a2 a3 a4 a5 a6 a7 a8 0 uch ufc usv ull ubl uba uea ufa uso udn uw uun usr ube ubs uln ubu unu k5) mbX13_remembers q1760 ⟨(Nat.le_of_ble_eq_true rfl), (Nat.le_of_ble_eq_true rfl)⟩ ⟨(Nat.le_of_ble_eq_true rfl), (Nat.le_of_ble_eq_true rfl)⟩ hP hD hS hA [0, 1, 2, 3, 4, 5, 6, 7, 8] rfl rfl rfl rfl rfl 0 rfl rfl rfl hl.1 rfl (Nat.le_of_ble_eq_true rfl) dX13_cancel_20 (fun H locs hP hD hS => ?_)
    refine lv_aload_n F.1 F.2.1 dX13_cancel_23 rfl (lv_at hl 0 rfl) ?_
    refine lv_iload_n F.1 F.2.1 dX13_cancel_24 rfl (lv_at hl 1 rfl) ?_
    obtain ⟨z6, k7, h⟩ := bd_ok h
    refine cMV (As := [.int p1]) (rest := []) (ws' := wX13 g a0 a1 a2 a3 a4 a5 a6 a7 a8 0 z4.1 z4.2.1 usv ull ubl uba uea ufa uso udn z6.2 z4.2.2.1 usr z4.2.2.2 ubs uln ubu unu) F hE hX (tX13_cancels l dC dI g a0 a1 a2 a3 a4 a5 a6 a7 a8 0 z4.1 z4.2.1 usv ull ubl uba uea ufa uso udn uw z4.2.2.1 usr z4.2.2.2 ubs uln ubu unu p1 k7) mbX13_cancels q1855 ⟨(Nat.le_of_ble_eq_true rfl), (Nat.le_of_ble_eq_true rfl)⟩ ⟨(Nat.le_of_ble_eq_true rfl), (Nat.le_of_ble_eq_true rfl)⟩ hP hD hS hA [0, 1, 2, 3, 4, 5, 6, 7, 8] rfl rfl rfl rfl rfl 0 rfl rfl rfl hl.1 rfl (Nat.le_of_ble_eq_true rfl) dX13_cancel_25 (fun H locs hP hD hS => ?_)
    cases h
    exact MU_i F hr hlocks (Nat.le_refl _) (Nat.le_refl _) hP hS dX13_cancel_28
  · replace h := it_f k3 h
    refine lv_aload_n F.1 F.2.1 dX13_cancel_13 rfl (lv_at hl 0 rfl) ?_
    refine lv_iconst (v := 1) F.1 F.2.1 dX13_cancel_14 (by decide) ?_
    obtain ⟨z8, k9, h⟩ := bd_ok h
    refine cMV (As := [.int 1]) (rest := []) (ws' := wX13 g a0 a1 a2 a3 a4 a5 a6 a7 a8 z8.2 uch ufc usv ull ubl uba uea ufa uso udn uw uun usr ube ubs uln ubu unu) F hE hX (tX13_fails l dC dI g a0 a1 a2 a3 a4 a5 a6 a7 a8 0 uch ufc usv ull ubl uba uea ufa uso udn uw uun usr ube ubs uln ubu unu 1 k9) mbX13_fails q1756 ⟨(Nat.le_of_ble_eq_true rfl), (Nat.le_of_ble_eq_true rfl)⟩ ⟨(Nat.le_of_ble_eq_true rfl), (Nat.le_of_ble_eq_true rfl)⟩ hP hD hS hA [0, 1, 2, 3, 4, 5, 6, 7, 8] rfl rfl rfl rfl rfl 0 rfl rfl rfl hl.1 rfl (Nat.le_of_ble_eq_true rfl) dX13_cancel_15 (fun H locs hP hD hS => ?_)
    cases h
    exact MU_i F hr hlocks (Nat.le_refl _) (Nat.le_refl _) hP hS dX13_cancel_18
/-! WireCutterModel.scrapFor -/
def fX13_scrapFor_L4 (x1 : Int32) (uw : Nat → Int32) : Nat → Int32 → Int32 → Option (Int32)
  | 0, _, _ => none
  | k + 1, x2, x3 =>
    if (uw 4) ≤ x3 then
      some (x2)
    else
      (fX13_scrapAt uw x3 0).bind fun z2 =>
      (fX13_orderOf uw x1 1).bind fun z4 =>
      if z2 = z4 then
        (fX13_scrapAt uw x3 1).bind fun z7 =>
        (fX13_orderOf uw x1 2).bind fun z9 =>
        if z9 ≤ z7 then
          if x2 < 0 then
            fX13_scrapFor_L4 x1 uw k x3 (x3 + 1)
          else
            (fX13_scrapAt uw x3 1).bind fun z13 =>
            (fX13_scrapAt uw x2 1).bind fun z15 =>
            if z15 ≤ z13 then
              fX13_scrapFor_L4 x1 uw k x2 (x3 + 1)
            else
              fX13_scrapFor_L4 x1 uw k x3 (x3 + 1)
        else
          fX13_scrapFor_L4 x1 uw k x2 (x3 + 1)
      else
        fX13_scrapFor_L4 x1 uw k x2 (x3 + 1)
def fX13_scrapFor (uw : Nat → Int32) (p1 : Int32) : Option (Int32) :=
  fX13_scrapFor_L4 p1 uw FU (-1) 0
theorem mbX13_scrapFor : MV yX13_scrapFor cX13_scrapFor 4 (some .int) 1 := ⟨⟨q1878, q16, by decide +kernel⟩, q1877, qs47⟩
set_option maxHeartbeats 4000000 in
set_option maxRecDepth 100000 in
theorem tX13_scrapFor_L4 {p : Program} {l : Launch} {e : Env} {s : State} {m : MethodId} {args : Array Value} {below : List Frame} {meth : Method} {c : Code} {dC : Nat → ClassId} {dI : Nat → Nat → Nat} {g : Nat → ClassId} {a0 a1 a2 a3 a4 a5 a6 a7 a8 : Nat} {r : Int32} (F : CF p m c cX13_scrapFor 4 s args RX13) (hr : meth.sig.returnType = (some .int)) (hlocks : meth.locks = false) (hE : EK dC dI g s) (hX : EXr g s) (x1 : Int32) (uth : Int32) (uch : Int32) (ufc : Int32) (usv : Int32) (ull : Int32) (ubl : Int32) (uba : Int32) (uea : Int32) (ufa : Int32) (uso : Int32) (udn : Int32) (uw : Nat → Int32) (uun : Nat → Int32) (usr : Nat → Int32) (ube : Nat → Int32) (ubs : Nat → Int32) (uln : Nat → Int32) (ubu : Nat → Int32) (unu : Nat → Int32) (hP : va_P (dC, dI) vwCl (wX13 g a0 a1 a2 a3 a4 a5 a6 a7 a8 uth uch ufc usv ull ubl uba uea ufa uso udn uw uun usr ube ubs uln ubu unu) s.heap) : ∀ (k : Nat) (x2 : Int32) (x3 : Int32), fX13_scrapFor_L4 x1 uw k x2 x3 = some r → ∀ (ls : Array Slot), lv_has ls 4 [(0, .ref a0), (1, .int x1), (2, .int x2), (3, .int x3)] → W p l e { frames := 1, cells := 0, slots := 0, locals := 22 } s m args below meth c s.heap [] 0 0 (MQ below (fun _ st o t => o = .returned (some (.int r)) ∧ t.heap = st.heap) args s 0 0 (fun _ => False)) (F0 m 4 ls []) := by
  intro k
  induction k with
  | zero =>
    intro x2 x3 h
    exact absurd h (by simp [fX13_scrapFor_L4])
  | succ k ih =>
    intro x2 x3 h ls hl
    rw [fX13_scrapFor_L4] at h
    refine lv_iload_n F.1 F.2.1 dX13_scrapFor_4 rfl (lv_at hl 3 rfl) ?_
    refine lv_aload_n F.1 F.2.1 dX13_scrapFor_5 rfl (lv_at hl 0 rfl) ?_
    refine gF (v := .ref a1) F hE hP 0 rfl rfl inX13 1 (by decide) q1685 rfl dX13_scrapFor_6 ?_
    refine lv_iconst (v := 4) F.1 F.2.1 dX13_scrapFor_9 (by decide) ?_
    refine aLi (k := 4) F hE hP 1 0 rfl rfl (by decide) (by decide) dX13_scrapFor_10 ?_
    refine lv_icmp_ge (tgt := 74) F.1 F.2.1 dX13_scrapFor_11 (by decide) (fun k1 => ?_) (fun k1 => ?_)
    · replace h := it_t k1 h
      refine lv_iload_n F.1 F.2.1 dX13_scrapFor_74 rfl (lv_at hl 2 rfl) ?_
      cases h
      exact RO_i F hr hlocks dX13_scrapFor_75
    · replace h := it_f k1 h
      refine lv_aload_n F.1 F.2.1 dX13_scrapFor_14 rfl (lv_at hl 0 rfl) ?_
      refine lv_iload_n F.1 F.2.1 dX13_scrapFor_15 rfl (lv_at hl 3 rfl) ?_
      refine lv_iconst (v := 0) F.1 F.2.1 dX13_scrapFor_16 (by decide) ?_
      obtain ⟨z2, k3, h⟩ := bd_ok h
      refine cRV (As := [.int x3, .int 0]) (rest := []) F hE hX va_S.rf (tX13_scrapAt l dC dI g a0 a1 a2 a3 a4 a5 a6 a7 a8 uth uch ufc usv ull ubl uba uea ufa uso udn uw uun usr ube ubs uln ubu unu x3 0 k3) mbX13_scrapAt q1819 ⟨(Nat.le_of_ble_eq_true rfl), (Nat.le_of_ble_eq_true rfl)⟩ ⟨Nat.zero_le _, Nat.zero_le _⟩ hP [0, 1, 2, 3, 4, 5, 6, 7, 8] rfl 0 rfl rfl rfl hl.1 rfl (Nat.le_of_ble_eq_true rfl) dX13_scrapFor_17 ?_
      refine lv_aload_n F.1 F.2.1 dX13_scrapFor_20 rfl (lv_at hl 0 rfl) ?_
      refine lv_iload_n F.1 F.2.1 dX13_scrapFor_21 rfl (lv_at hl 1 rfl) ?_
      refine lv_iconst (v := 1) F.1 F.2.1 dX13_scrapFor_22 (by decide) ?_
      obtain ⟨z4, k5, h⟩ := bd_ok h
      refine cRV (As := [.int x1, .int 1]) (rest := [.int z2]) F hE hX va_S.rf (tX13_orderOf l dC dI g a0 a1 a2 a3 a4 a5 a6 a7 a8 uth uch ufc usv ull ubl uba uea ufa uso udn uw uun usr ube ubs uln ubu unu x1 1 k5) mbX13_orderOf q1839 ⟨(Nat.le_of_ble_eq_true rfl), (Nat.le_of_ble_eq_true rfl)⟩ ⟨Nat.zero_le _, Nat.zero_le _⟩ hP [0, 1, 2, 3, 4, 5, 6, 7, 8] rfl 0 rfl rfl rfl hl.1 rfl (Nat.le_of_ble_eq_true rfl) dX13_scrapFor_23 ?_
      refine lv_icmp_ne (tgt := 68) F.1 F.2.1 dX13_scrapFor_26 (by decide) (fun k6 => ?_) (fun k6 => ?_)
      · replace h := it_f k6 h
        refine lv_iinc (v := x3 + 1) (lv' := [(3, .int (x3 + 1)), (0, .ref a0), (1, .int x1), (2, .int x2)]) F.1 F.2.1 dX13_scrapFor_68 hl (k := 3) rfl (by rfl) (by decide) rfl (fun ls hl => ?_)
        refine lv_goto (tgt := 4) F.1 F.2.1 dX13_scrapFor_71 (by decide) ?_
        exact ih x2 (x3 + 1) h ls (lv_sub hl [1, 2, 3, 0] rfl)
      · replace h := it_t k6 h
        refine lv_aload_n F.1 F.2.1 dX13_scrapFor_29 rfl (lv_at hl 0 rfl) ?_
        refine lv_iload_n F.1 F.2.1 dX13_scrapFor_30 rfl (lv_at hl 3 rfl) ?_
        refine lv_iconst (v := 1) F.1 F.2.1 dX13_scrapFor_31 (by decide) ?_
        obtain ⟨z7, k8, h⟩ := bd_ok h
        refine cRV (As := [.int x3, .int 1]) (rest := []) F hE hX va_S.rf (tX13_scrapAt l dC dI g a0 a1 a2 a3 a4 a5 a6 a7 a8 uth uch ufc usv ull ubl uba uea ufa uso udn uw uun usr ube ubs uln ubu unu x3 1 k8) mbX13_scrapAt q1819 ⟨(Nat.le_of_ble_eq_true rfl), (Nat.le_of_ble_eq_true rfl)⟩ ⟨Nat.zero_le _, Nat.zero_le _⟩ hP [0, 1, 2, 3, 4, 5, 6, 7, 8] rfl 0 rfl rfl rfl hl.1 rfl (Nat.le_of_ble_eq_true rfl) dX13_scrapFor_32 ?_
        refine lv_aload_n F.1 F.2.1 dX13_scrapFor_35 rfl (lv_at hl 0 rfl) ?_
        refine lv_iload_n F.1 F.2.1 dX13_scrapFor_36 rfl (lv_at hl 1 rfl) ?_
        refine lv_iconst (v := 2) F.1 F.2.1 dX13_scrapFor_37 (by decide) ?_
        obtain ⟨z9, k10, h⟩ := bd_ok h
        refine cRV (As := [.int x1, .int 2]) (rest := [.int z7]) F hE hX va_S.rf (tX13_orderOf l dC dI g a0 a1 a2 a3 a4 a5 a6 a7 a8 uth uch ufc usv ull ubl uba uea ufa uso udn uw uun usr ube ubs uln ubu unu x1 2 k10) mbX13_orderOf q1839 ⟨(Nat.le_of_ble_eq_true rfl), (Nat.le_of_ble_eq_true rfl)⟩ ⟨Nat.zero_le _, Nat.zero_le _⟩ hP [0, 1, 2, 3, 4, 5, 6, 7, 8] rfl 0 rfl rfl rfl hl.1 rfl (Nat.le_of_ble_eq_true rfl) dX13_scrapFor_38 ?_
        refine lv_icmp_ge (tgt := 47) F.1 F.2.1 dX13_scrapFor_41 (by decide) (fun k11 => ?_) (fun k11 => ?_)
        · replace h := it_t k11 h
          refine lv_iload_n F.1 F.2.1 dX13_scrapFor_47 rfl (lv_at hl 2 rfl) ?_
          refine lv_if_lt (tgt := 66) F.1 F.2.1 dX13_scrapFor_48 (by decide) (fun k12 => ?_) (fun k12 => ?_)
          · replace h := it_t k12 h
            refine lv_iload_n F.1 F.2.1 dX13_scrapFor_66 rfl (lv_at hl 3 rfl) ?_
            refine lv_istore_n (lv' := [(2, .int x3), (0, .ref a0), (1, .int x1), (3, .int x3)]) F.1 F.2.1 dX13_scrapFor_67 rfl hl (by decide) rfl (fun ls hl => ?_)
            refine lv_iinc (v := x3 + 1) (lv' := [(3, .int (x3 + 1)), (2, .int x3), (0, .ref a0), (1, .int x1)]) F.1 F.2.1 dX13_scrapFor_68 hl (k := 3) rfl (by rfl) (by decide) rfl (fun ls hl => ?_)
            refine lv_goto (tgt := 4) F.1 F.2.1 dX13_scrapFor_71 (by decide) ?_
            exact ih x3 (x3 + 1) h ls (lv_sub hl [2, 3, 1, 0] rfl)
          · replace h := it_f k12 h
            refine lv_aload_n F.1 F.2.1 dX13_scrapFor_51 rfl (lv_at hl 0 rfl) ?_
            refine lv_iload_n F.1 F.2.1 dX13_scrapFor_52 rfl (lv_at hl 3 rfl) ?_
            refine lv_iconst (v := 1) F.1 F.2.1 dX13_scrapFor_53 (by decide) ?_
            obtain ⟨z13, k14, h⟩ := bd_ok h
            refine cRV (As := [.int x3, .int 1]) (rest := []) F hE hX va_S.rf (tX13_scrapAt l dC dI g a0 a1 a2 a3 a4 a5 a6 a7 a8 uth uch ufc usv ull ubl uba uea ufa uso udn uw uun usr ube ubs uln ubu unu x3 1 k14) mbX13_scrapAt q1819 ⟨(Nat.le_of_ble_eq_true rfl), (Nat.le_of_ble_eq_true rfl)⟩ ⟨Nat.zero_le _, Nat.zero_le _⟩ hP [0, 1, 2, 3, 4, 5, 6, 7, 8] rfl 0 rfl rfl rfl hl.1 rfl (Nat.le_of_ble_eq_true rfl) dX13_scrapFor_54 ?_
            refine lv_aload_n F.1 F.2.1 dX13_scrapFor_57 rfl (lv_at hl 0 rfl) ?_
            refine lv_iload_n F.1 F.2.1 dX13_scrapFor_58 rfl (lv_at hl 2 rfl) ?_
            refine lv_iconst (v := 1) F.1 F.2.1 dX13_scrapFor_59 (by decide) ?_
            obtain ⟨z15, k16, h⟩ := bd_ok h
            refine cRV (As := [.int x2, .int 1]) (rest := [.int z13]) F hE hX va_S.rf (tX13_scrapAt l dC dI g a0 a1 a2 a3 a4 a5 a6 a7 a8 uth uch ufc usv ull ubl uba uea ufa uso udn uw uun usr ube ubs uln ubu unu x2 1 k16) mbX13_scrapAt q1819 ⟨(Nat.le_of_ble_eq_true rfl), (Nat.le_of_ble_eq_true rfl)⟩ ⟨Nat.zero_le _, Nat.zero_le _⟩ hP [0, 1, 2, 3, 4, 5, 6, 7, 8] rfl 0 rfl rfl rfl hl.1 rfl (Nat.le_of_ble_eq_true rfl) dX13_scrapFor_60 ?_
            refine lv_icmp_ge (tgt := 68) F.1 F.2.1 dX13_scrapFor_63 (by decide) (fun k17 => ?_) (fun k17 => ?_)
            · replace h := it_t k17 h
              refine lv_iinc (v := x3 + 1) (lv' := [(3, .int (x3 + 1)), (0, .ref a0), (1, .int x1), (2, .int x2)]) F.1 F.2.1 dX13_scrapFor_68 hl (k := 3) rfl (by rfl) (by decide) rfl (fun ls hl => ?_)
              refine lv_goto (tgt := 4) F.1 F.2.1 dX13_scrapFor_71 (by decide) ?_
              exact ih x2 (x3 + 1) h ls (lv_sub hl [1, 2, 3, 0] rfl)
            · replace h := it_f k17 h
              refine lv_iload_n F.1 F.2.1 dX13_scrapFor_66 rfl (lv_at hl 3 rfl) ?_
              refine lv_istore_n (lv' := [(2, .int x3), (0, .ref a0), (1, .int x1), (3, .int x3)]) F.1 F.2.1 dX13_scrapFor_67 rfl hl (by decide) rfl (fun ls hl => ?_)
              refine lv_iinc (v := x3 + 1) (lv' := [(3, .int (x3 + 1)), (2, .int x3), (0, .ref a0), (1, .int x1)]) F.1 F.2.1 dX13_scrapFor_68 hl (k := 3) rfl (by rfl) (by decide) rfl (fun ls hl => ?_)
              refine lv_goto (tgt := 4) F.1 F.2.1 dX13_scrapFor_71 (by decide) ?_
              exact ih x3 (x3 + 1) h ls (lv_sub hl [2, 3, 1, 0] rfl)
        · replace h := it_f k11 h
          refine lv_goto (tgt := 68) F.1 F.2.1 dX13_scrapFor_44 (by decide) ?_
          refine lv_iinc (v := x3 + 1) (lv' := [(3, .int (x3 + 1)), (0, .ref a0), (1, .int x1), (2, .int x2)]) F.1 F.2.1 dX13_scrapFor_68 hl (k := 3) rfl (by rfl) (by decide) rfl (fun ls hl => ?_)
          refine lv_goto (tgt := 4) F.1 F.2.1 dX13_scrapFor_71 (by decide) ?_
          exact ih x2 (x3 + 1) h ls (lv_sub hl [1, 2, 3, 0] rfl)
set_option maxHeartbeats 4000000 in
set_option maxRecDepth 100000 in
theorem tX13_scrapFor (l : Launch) (dC : Nat → ClassId) (dI : Nat → Nat → Nat) (g : Nat → ClassId) (a0 a1 a2 a3 a4 a5 a6 a7 a8 : Nat) (uth : Int32) (uch : Int32) (ufc : Int32) (usv : Int32) (ull : Int32) (ubl : Int32) (uba : Int32) (uea : Int32) (ufa : Int32) (uso : Int32) (udn : Int32) (uw : Nat → Int32) (uun : Nat → Int32) (usr : Nat → Int32) (ube : Nat → Int32) (ubs : Nat → Int32) (uln : Nat → Int32) (ubu : Nat → Int32) (unu : Nat → Int32) (p1 : Int32) {r : Int32} (h : fX13_scrapFor uw p1 = some r) : RO l yX13_scrapFor cX13_scrapFor 4 (some .int) 1 22 dC dI g [.ref a0, .int p1] (wX13 g a0 a1 a2 a3 a4 a5 a6 a7 a8 uth uch ufc usv ull ubl uba uea ufa uso udn uw uun usr ube ubs uln ubu unu) (some (.int r)) := by
  refine RO_of (by decide) (Nat.le_of_ble_eq_true rfl) ?_
  intro p e s m below meth c ls F hr hlocks hE hX hP hl
  replace F : CF p m c cX13_scrapFor 4 s _ RX13 := F
  replace hl : lv_has ls 4 [(0, .ref a0), (1, .int p1)] := hl
  rw [fX13_scrapFor] at h
  refine lv_iconst (v := (-1)) F.1 F.2.1 dX13_scrapFor_0 (by decide) ?_
  refine lv_istore_n (lv' := [(2, .int (-1)), (0, .ref a0), (1, .int p1)]) F.1 F.2.1 dX13_scrapFor_1 rfl hl (by decide) rfl (fun ls hl => ?_)
  refine lv_iconst (v := 0) F.1 F.2.1 dX13_scrapFor_2 (by decide) ?_
  refine lv_istore_n (lv' := [(3, .int 0), (2, .int (-1)), (0, .ref a0), (1, .int p1)]) F.1 F.2.1 dX13_scrapFor_3 rfl hl (by decide) rfl (fun ls hl => ?_)
  exact tX13_scrapFor_L4 F hr hlocks hE hX p1 uth uch ufc usv ull ubl uba uea ufa uso udn uw uun usr ube ubs uln ubu unu hP FU (-1) 0 h ls (lv_sub hl [2, 3, 1, 0] rfl)
/-! WireCutterModel.isBetter -/
def fX13_isBetter (uw : Nat → Int32) (p1 : Int32) (p2 : Int32) : Option (Int32) :=
  (fX13_spoolAt uw p1 2).bind fun z1 =>
  (fX13_spoolAt uw p2 2).bind fun z3 =>
  if (uw 7) = 98 then
    if (z1 - z3) < 0 then
      some (1)
    else
      if (uw 7) = 119 then
        if (z1 - z3) ≤ 0 then
          some (0)
        else
          some (1)
      else
        some (0)
  else
    if (uw 7) = 119 then
      if (z1 - z3) ≤ 0 then
        some (0)
      else
        some (1)
    else
      some (0)
theorem mbX13_isBetter : MV yX13_isBetter cX13_isBetter 4 (some .boolean) 2 := ⟨⟨q1886, q16, by decide +kernel⟩, q1885, qs49⟩
set_option maxHeartbeats 4000000 in
set_option maxRecDepth 100000 in
theorem tX13_isBetter (l : Launch) (dC : Nat → ClassId) (dI : Nat → Nat → Nat) (g : Nat → ClassId) (a0 a1 a2 a3 a4 a5 a6 a7 a8 : Nat) (uth : Int32) (uch : Int32) (ufc : Int32) (usv : Int32) (ull : Int32) (ubl : Int32) (uba : Int32) (uea : Int32) (ufa : Int32) (uso : Int32) (udn : Int32) (uw : Nat → Int32) (uun : Nat → Int32) (usr : Nat → Int32) (ube : Nat → Int32) (ubs : Nat → Int32) (uln : Nat → Int32) (ubu : Nat → Int32) (unu : Nat → Int32) (p1 : Int32) (p2 : Int32) {r : Int32} (h : fX13_isBetter uw p1 p2 = some r) : RO l yX13_isBetter cX13_isBetter 4 (some .boolean) 1 22 dC dI g [.ref a0, .int p1, .int p2] (wX13 g a0 a1 a2 a3 a4 a5 a6 a7 a8 uth uch ufc usv ull ubl uba uea ufa uso udn uw uun usr ube ubs uln ubu unu) (some (.int r)) := by
  refine RO_of (by decide) (Nat.le_of_ble_eq_true rfl) ?_
  intro p e s m below meth c ls F hr hlocks hE hX hP hl
  replace F : CF p m c cX13_isBetter 4 s _ RX13 := F
  replace hl : lv_has ls 4 [(0, .ref a0), (1, .int p1), (2, .int p2)] := hl
  rw [fX13_isBetter] at h
  refine lv_aload_n F.1 F.2.1 dX13_isBetter_0 rfl (lv_at hl 0 rfl) ?_
  refine lv_iload_n F.1 F.2.1 dX13_isBetter_1 rfl (lv_at hl 1 rfl) ?_
  refine lv_iconst (v := 2) F.1 F.2.1 dX13_isBetter_2 (by decide) ?_
  obtain ⟨z1, k2, h⟩ := bd_ok h
  refine cRV (As := [.int p1, .int 2]) (rest := []) F hE hX va_S.rf (tX13_spoolAt l dC dI g a0 a1 a2 a3 a4 a5 a6 a7 a8 uth uch ufc usv ull ubl uba uea ufa uso udn uw uun usr ube ubs uln ubu unu p1 2 k2) mbX13_spoolAt q1788 ⟨(Nat.le_of_ble_eq_true rfl), (Nat.le_of_ble_eq_true rfl)⟩ ⟨Nat.zero_le _, Nat.zero_le _⟩ hP [0, 1, 2, 3, 4, 5, 6, 7, 8] rfl 0 rfl rfl rfl hl.1 rfl (Nat.le_of_ble_eq_true rfl) dX13_isBetter_3 ?_
  refine lv_aload_n F.1 F.2.1 dX13_isBetter_6 rfl (lv_at hl 0 rfl) ?_
  refine lv_iload_n F.1 F.2.1 dX13_isBetter_7 rfl (lv_at hl 2 rfl) ?_
  refine lv_iconst (v := 2) F.1 F.2.1 dX13_isBetter_8 (by decide) ?_
  obtain ⟨z3, k4, h⟩ := bd_ok h
  refine cRV (As := [.int p2, .int 2]) (rest := [.int z1]) F hE hX va_S.rf (tX13_spoolAt l dC dI g a0 a1 a2 a3 a4 a5 a6 a7 a8 uth uch ufc usv ull ubl uba uea ufa uso udn uw uun usr ube ubs uln ubu unu p2 2 k4) mbX13_spoolAt q1788 ⟨(Nat.le_of_ble_eq_true rfl), (Nat.le_of_ble_eq_true rfl)⟩ ⟨Nat.zero_le _, Nat.zero_le _⟩ hP [0, 1, 2, 3, 4, 5, 6, 7, 8] rfl 0 rfl rfl rfl hl.1 rfl (Nat.le_of_ble_eq_true rfl) dX13_isBetter_9 ?_
  refine lv_isub F.1 F.2.1 dX13_isBetter_12 ?_
  refine lv_istore_n (lv' := [(3, .int (z1 - z3)), (0, .ref a0), (1, .int p1), (2, .int p2)]) F.1 F.2.1 dX13_isBetter_13 rfl hl (by decide) rfl (fun ls hl => ?_)
  refine lv_aload_n F.1 F.2.1 dX13_isBetter_14 rfl (lv_at hl 1 rfl) ?_
  refine gF (v := .ref a1) F hE hP 0 rfl rfl inX13 1 (by decide) q1685 rfl dX13_isBetter_15 ?_
  refine lv_bipush (v := 7) F.1 F.2.1 dX13_isBetter_18 (by decide) ?_
  refine aLi (k := 7) F hE hP 1 0 rfl rfl (by decide) (by decide) dX13_isBetter_20 ?_
  refine lv_bipush (v := 98) F.1 F.2.1 dX13_isBetter_21 (by decide) ?_
  refine lv_icmp_ne (tgt := 30) F.1 F.2.1 dX13_isBetter_23 (by decide) (fun k5 => ?_) (fun k5 => ?_)
  · replace h := it_f k5 h
    refine lv_aload_n F.1 F.2.1 dX13_isBetter_30 rfl (lv_at hl 1 rfl) ?_
    refine gF (v := .ref a1) F hE hP 0 rfl rfl inX13 1 (by decide) q1685 rfl dX13_isBetter_31 ?_
    refine lv_bipush (v := 7) F.1 F.2.1 dX13_isBetter_34 (by decide) ?_
    refine aLi (k := 7) F hE hP 1 0 rfl rfl (by decide) (by decide) dX13_isBetter_36 ?_
    refine lv_bipush (v := 119) F.1 F.2.1 dX13_isBetter_37 (by decide) ?_
    refine lv_icmp_ne (tgt := 50) F.1 F.2.1 dX13_isBetter_39 (by decide) (fun k6 => ?_) (fun k6 => ?_)
    · replace h := it_f k6 h
      refine lv_iconst (v := 0) F.1 F.2.1 dX13_isBetter_50 (by decide) ?_
      cases h
      exact RO_z F hr hlocks rfl dX13_isBetter_51
    · replace h := it_t k6 h
      refine lv_iload_n F.1 F.2.1 dX13_isBetter_42 rfl (lv_at hl 0 rfl) ?_
      refine lv_if_le (tgt := 50) F.1 F.2.1 dX13_isBetter_43 (by decide) (fun k7 => ?_) (fun k7 => ?_)
      · replace h := it_t k7 h
        refine lv_iconst (v := 0) F.1 F.2.1 dX13_isBetter_50 (by decide) ?_
        cases h
        exact RO_z F hr hlocks rfl dX13_isBetter_51
      · replace h := it_f k7 h
        refine lv_iconst (v := 1) F.1 F.2.1 dX13_isBetter_46 (by decide) ?_
        refine lv_goto (tgt := 51) F.1 F.2.1 dX13_isBetter_47 (by decide) ?_
        cases h
        exact RO_z F hr hlocks rfl dX13_isBetter_51
  · replace h := it_t k5 h
    refine lv_iload_n F.1 F.2.1 dX13_isBetter_26 rfl (lv_at hl 0 rfl) ?_
    refine lv_if_lt (tgt := 46) F.1 F.2.1 dX13_isBetter_27 (by decide) (fun k8 => ?_) (fun k8 => ?_)
    · replace h := it_t k8 h
      refine lv_iconst (v := 1) F.1 F.2.1 dX13_isBetter_46 (by decide) ?_
      refine lv_goto (tgt := 51) F.1 F.2.1 dX13_isBetter_47 (by decide) ?_
      cases h
      exact RO_z F hr hlocks rfl dX13_isBetter_51
    · replace h := it_f k8 h
      refine lv_aload_n F.1 F.2.1 dX13_isBetter_30 rfl (lv_at hl 1 rfl) ?_
      refine gF (v := .ref a1) F hE hP 0 rfl rfl inX13 1 (by decide) q1685 rfl dX13_isBetter_31 ?_
      refine lv_bipush (v := 7) F.1 F.2.1 dX13_isBetter_34 (by decide) ?_
      refine aLi (k := 7) F hE hP 1 0 rfl rfl (by decide) (by decide) dX13_isBetter_36 ?_
      refine lv_bipush (v := 119) F.1 F.2.1 dX13_isBetter_37 (by decide) ?_
      refine lv_icmp_ne (tgt := 50) F.1 F.2.1 dX13_isBetter_39 (by decide) (fun k9 => ?_) (fun k9 => ?_)
      · replace h := it_f k9 h
        refine lv_iconst (v := 0) F.1 F.2.1 dX13_isBetter_50 (by decide) ?_
        cases h
        exact RO_z F hr hlocks rfl dX13_isBetter_51
      · replace h := it_t k9 h
        refine lv_iload_n F.1 F.2.1 dX13_isBetter_42 rfl (lv_at hl 0 rfl) ?_
        refine lv_if_le (tgt := 50) F.1 F.2.1 dX13_isBetter_43 (by decide) (fun k10 => ?_) (fun k10 => ?_)
        · replace h := it_t k10 h
          refine lv_iconst (v := 0) F.1 F.2.1 dX13_isBetter_50 (by decide) ?_
          cases h
          exact RO_z F hr hlocks rfl dX13_isBetter_51
        · replace h := it_f k10 h
          refine lv_iconst (v := 1) F.1 F.2.1 dX13_isBetter_46 (by decide) ?_
          refine lv_goto (tgt := 51) F.1 F.2.1 dX13_isBetter_47 (by decide) ?_
          cases h
          exact RO_z F hr hlocks rfl dX13_isBetter_51
