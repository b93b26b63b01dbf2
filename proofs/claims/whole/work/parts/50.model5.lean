/-! WireCutterModel.writesNumber -/
def fX13_writesNumber_L20 (x1 : Int32) : Nat → Int32 → Int32 → (Nat → Int32) → Option (Int32 × (Nat → Int32))
  | 0, _, _, _ => none
  | k + 1, x3, ull, uln =>
    if x3 ≤ 0 then
      some (ull, uln)
    else
      gd (ne0 x3) <|
      (fX13_writes ull uln (48 + ((x1 / x3) - (x1 / x3) / 10 * 10))).bind fun z5 =>
      fX13_writesNumber_L20 x1 k (x3 / 10) z5.1 z5.2
def fX13_writesNumber_L2 (x1 : Int32) (ull : Int32) (uln : Nat → Int32) : Nat → Int32 → Option (Int32 × (Nat → Int32))
  | 0, _ => none
  | k + 1, x2 =>
    gd (ne0 x2) <|
    if (x1 / x2) ≤ 9 then
      fX13_writesNumber_L20 x1 FU x2 ull uln
    else
      fX13_writesNumber_L2 x1 ull uln k (x2 * 10)
def fX13_writesNumber (ull : Int32) (uln : Nat → Int32) (p1 : Int32) : Option (Int32 × (Nat → Int32)) :=
  fX13_writesNumber_L2 p1 ull uln FU 1
theorem mbX13_writesNumber : MV yX13_writesNumber cX13_writesNumber 4 none 1 := ⟨⟨q2107, q16, by decide +kernel⟩, q2106, qs65⟩
set_option maxHeartbeats 4000000 in
set_option maxRecDepth 100000 in
theorem tX13_writesNumber_L20 {p : Program} {l : Launch} {e : Env} {s : State} {m : MethodId} {args : Array Value} {below : List Frame} {meth : Method} {c : Code} {dC : Nat → ClassId} {dI : Nat → Nat → Nat} {g : Nat → ClassId} {a0 a1 a2 a3 a4 a5 a6 a7 a8 : Nat} {r : Int32 × (Nat → Int32)} {A : Nat → Prop} (F : CF p m c cX13_writesNumber 4 s args RX13) (hr : meth.sig.returnType = none) (hlocks : meth.locks = false) (hE : EK dC dI g s) (hX : EX g A s s.heap) (hA : ∀ q : Nat, s.heap.size ≤ q → A q) (x1 : Int32) (uth : Int32) (uch : Int32) (ufc : Int32) (usv : Int32) (ubl : Int32) (uba : Int32) (uea : Int32) (ufa : Int32) (uso : Int32) (udn : Int32) (uw : Nat → Int32) (uun : Nat → Int32) (usr : Nat → Int32) (ube : Nat → Int32) (ubs : Nat → Int32) (ubu : Nat → Int32) (unu : Nat → Int32) : ∀ (k : Nat) (x3 : Int32) (ull : Int32) (uln : Nat → Int32), fX13_writesNumber_L20 x1 k x3 ull uln = some r → ∀ (H : Heap) (locs : List Loc), va_P (dC, dI) vwCl (wX13 g a0 a1 a2 a3 a4 a5 a6 a7 a8 uth uch ufc usv ull ubl uba uea ufa uso udn uw uun usr ube ubs uln ubu unu) H → va_D A (wX13 g a0 a1 a2 a3 a4 a5 a6 a7 a8 uth uch ufc usv ull ubl uba uea ufa uso udn uw uun usr ube ubs uln ubu unu) → va_S A s.heap H locs → ∀ (ls : Array Slot), lv_has ls 4 [(0, .ref a0), (1, .int x1), (3, .int x3)] → W p l e { frames := 1, cells := 0, slots := 0, locals := 21 } s m args below meth c H locs 0 0 (MQ below (fun _ st o t => o = .returned none ∧ va_P (dC, dI) vwCl (wX13 g a0 a1 a2 a3 a4 a5 a6 a7 a8 uth uch ufc usv r.1 ubl uba uea ufa uso udn uw uun usr ube ubs r.2 ubu unu) t.heap ∧ va_F A st t) args s 0 0 A) (F0 m 20 ls []) := by
  intro k
  induction k with
  | zero =>
    intro x3 ull uln h
    exact absurd h (by simp [fX13_writesNumber_L20])
  | succ k ih =>
    intro x3 ull uln h H locs hP hD hS ls hl
    rw [fX13_writesNumber_L20] at h
    refine lv_iload_n F.1 F.2.1 dX13_writesNumber_20 rfl (lv_at hl 2 rfl) ?_
    refine lv_if_le (tgt := 45) F.1 F.2.1 dX13_writesNumber_21 (by decide) (fun k3 => ?_) (fun k3 => ?_)
    · replace h := it_t k3 h
      cases h
      exact MU_v F hr hlocks (Nat.le_refl _) (Nat.le_refl _) hP hS dX13_writesNumber_45
    · replace h := it_f k3 h
      refine lv_aload_n F.1 F.2.1 dX13_writesNumber_24 rfl (lv_at hl 0 rfl) ?_
      refine lv_bipush (v := 48) F.1 F.2.1 dX13_writesNumber_25 (by decide) ?_
      refine lv_iload_n F.1 F.2.1 dX13_writesNumber_27 rfl (lv_at hl 1 rfl) ?_
      refine lv_iload_n F.1 F.2.1 dX13_writesNumber_28 rfl (lv_at hl 2 rfl) ?_
      obtain ⟨k4, h⟩ := gd_ok h
      refine lv_idiv F.1 F.2.1 dX13_writesNumber_29 (of_decide_eq_true k4) ?_
      refine lv_bipush (v := 10) F.1 F.2.1 dX13_writesNumber_30 (by decide) ?_
      refine lv_irem F.1 F.2.1 dX13_writesNumber_32 (by decide) ?_
      refine lv_iadd F.1 F.2.1 dX13_writesNumber_33 ?_
      obtain ⟨z5, k6, h⟩ := bd_ok h
      refine cMV (As := [.int (48 + ((x1 / x3) - (x1 / x3) / 10 * 10))]) (rest := []) (ws' := wX13 g a0 a1 a2 a3 a4 a5 a6 a7 a8 uth uch ufc usv z5.1 ubl uba uea ufa uso udn uw uun usr ube ubs z5.2 ubu unu) F hE hX (tX13_writes l dC dI g a0 a1 a2 a3 a4 a5 a6 a7 a8 uth uch ufc usv ull ubl uba uea ufa uso udn uw uun usr ube ubs uln ubu unu (48 + ((x1 / x3) - (x1 / x3) / 10 * 10)) k6) mbX13_writes q2108 ⟨(Nat.le_of_ble_eq_true rfl), (Nat.le_of_ble_eq_true rfl)⟩ ⟨(Nat.le_of_ble_eq_true rfl), (Nat.le_of_ble_eq_true rfl)⟩ hP hD hS hA [0, 1, 2, 3, 4, 5, 6, 7, 8] rfl rfl rfl rfl rfl 0 rfl rfl rfl hl.1 rfl (Nat.le_of_ble_eq_true rfl) dX13_writesNumber_34 (fun H locs hP hD hS => ?_)
      refine lv_iload_n F.1 F.2.1 dX13_writesNumber_37 rfl (lv_at hl 2 rfl) ?_
      refine lv_bipush (v := 10) F.1 F.2.1 dX13_writesNumber_38 (by decide) ?_
      refine lv_idiv F.1 F.2.1 dX13_writesNumber_40 (by decide) ?_
      refine lv_istore_n (lv' := [(3, .int (x3 / 10)), (0, .ref a0), (1, .int x1)]) F.1 F.2.1 dX13_writesNumber_41 rfl hl (by decide) rfl (fun ls hl => ?_)
      refine lv_goto (tgt := 20) F.1 F.2.1 dX13_writesNumber_42 (by decide) ?_
      exact ih (x3 / 10) z5.1 z5.2 h _ _ hP hD hS ls (lv_sub hl [1, 2, 0] rfl)
set_option maxHeartbeats 4000000 in
set_option maxRecDepth 100000 in
theorem tX13_writesNumber_L2 {p : Program} {l : Launch} {e : Env} {s : State} {m : MethodId} {args : Array Value} {below : List Frame} {meth : Method} {c : Code} {dC : Nat → ClassId} {dI : Nat → Nat → Nat} {g : Nat → ClassId} {a0 a1 a2 a3 a4 a5 a6 a7 a8 : Nat} {r : Int32 × (Nat → Int32)} {A : Nat → Prop} (F : CF p m c cX13_writesNumber 4 s args RX13) (hr : meth.sig.returnType = none) (hlocks : meth.locks = false) (hE : EK dC dI g s) (hX : EX g A s s.heap) (hA : ∀ q : Nat, s.heap.size ≤ q → A q) (x1 : Int32) (uth : Int32) (uch : Int32) (ufc : Int32) (usv : Int32) (ull : Int32) (ubl : Int32) (uba : Int32) (uea : Int32) (ufa : Int32) (uso : Int32) (udn : Int32) (uw : Nat → Int32) (uun : Nat → Int32) (usr : Nat → Int32) (ube : Nat → Int32) (ubs : Nat → Int32) (uln : Nat → Int32) (ubu : Nat → Int32) (unu : Nat → Int32) : ∀ (k : Nat) (x2 : Int32), fX13_writesNumber_L2 x1 ull uln k x2 = some r → ∀ (H : Heap) (locs : List Loc), va_P (dC, dI) vwCl (wX13 g a0 a1 a2 a3 a4 a5 a6 a7 a8 uth uch ufc usv ull ubl uba uea ufa uso udn uw uun usr ube ubs uln ubu unu) H → va_D A (wX13 g a0 a1 a2 a3 a4 a5 a6 a7 a8 uth uch ufc usv ull ubl uba uea ufa uso udn uw uun usr ube ubs uln ubu unu) → va_S A s.heap H locs → ∀ (ls : Array Slot), lv_has ls 4 [(0, .ref a0), (1, .int x1), (2, .int x2)] → W p l e { frames := 1, cells := 0, slots := 0, locals := 21 } s m args below meth c H locs 0 0 (MQ below (fun _ st o t => o = .returned none ∧ va_P (dC, dI) vwCl (wX13 g a0 a1 a2 a3 a4 a5 a6 a7 a8 uth uch ufc usv r.1 ubl uba uea ufa uso udn uw uun usr ube ubs r.2 ubu unu) t.heap ∧ va_F A st t) args s 0 0 A) (F0 m 2 ls []) := by
  intro k
  induction k with
  | zero =>
    intro x2 h
    exact absurd h (by simp [fX13_writesNumber_L2])
  | succ k ih =>
    intro x2 h H locs hP hD hS ls hl
    rw [fX13_writesNumber_L2] at h
    refine lv_iload_n F.1 F.2.1 dX13_writesNumber_2 rfl (lv_at hl 1 rfl) ?_
    refine lv_iload_n F.1 F.2.1 dX13_writesNumber_3 rfl (lv_at hl 2 rfl) ?_
    obtain ⟨k1, h⟩ := gd_ok h
    refine lv_idiv F.1 F.2.1 dX13_writesNumber_4 (of_decide_eq_true k1) ?_
    refine lv_bipush (v := 9) F.1 F.2.1 dX13_writesNumber_5 (by decide) ?_
    refine lv_icmp_le (tgt := 18) F.1 F.2.1 dX13_writesNumber_7 (by decide) (fun k2 => ?_) (fun k2 => ?_)
    · replace h := it_t k2 h
      refine lv_iload_n F.1 F.2.1 dX13_writesNumber_18 rfl (lv_at hl 2 rfl) ?_
      refine lv_istore_n (lv' := [(3, .int x2), (0, .ref a0), (1, .int x1), (2, .int x2)]) F.1 F.2.1 dX13_writesNumber_19 rfl hl (by decide) rfl (fun ls hl => ?_)
      exact tX13_writesNumber_L20 F hr hlocks hE hX hA x1 uth uch ufc usv ubl uba uea ufa uso udn uw uun usr ube ubs ubu unu FU x2 ull uln h _ _ hP hD hS ls (lv_sub hl [1, 2, 0] rfl)
    · replace h := it_f k2 h
      refine lv_iload_n F.1 F.2.1 dX13_writesNumber_10 rfl (lv_at hl 2 rfl) ?_
      refine lv_bipush (v := 10) F.1 F.2.1 dX13_writesNumber_11 (by decide) ?_
      refine lv_imul F.1 F.2.1 dX13_writesNumber_13 ?_
      refine lv_istore_n (lv' := [(2, .int (x2 * 10)), (0, .ref a0), (1, .int x1)]) F.1 F.2.1 dX13_writesNumber_14 rfl hl (by decide) rfl (fun ls hl => ?_)
      refine lv_goto (tgt := 2) F.1 F.2.1 dX13_writesNumber_15 (by decide) ?_
      exact ih (x2 * 10) h _ _ hP hD hS ls (lv_sub hl [1, 2, 0] rfl)
set_option maxHeartbeats 4000000 in
set_option maxRecDepth 100000 in
theorem tX13_writesNumber (l : Launch) (dC : Nat → ClassId) (dI : Nat → Nat → Nat) (g : Nat → ClassId) (a0 a1 a2 a3 a4 a5 a6 a7 a8 : Nat) (uth : Int32) (uch : Int32) (ufc : Int32) (usv : Int32) (ull : Int32) (ubl : Int32) (uba : Int32) (uea : Int32) (ufa : Int32) (uso : Int32) (udn : Int32) (uw : Nat → Int32) (uun : Nat → Int32) (usr : Nat → Int32) (ube : Nat → Int32) (ubs : Nat → Int32) (uln : Nat → Int32) (ubu : Nat → Int32) (unu : Nat → Int32) (p1 : Int32) {r : Int32 × (Nat → Int32)} (h : fX13_writesNumber ull uln p1 = some r) : MU l yX13_writesNumber cX13_writesNumber 4 none 1 21 0 0 dC dI g [.ref a0, .int p1] (wX13 g a0 a1 a2 a3 a4 a5 a6 a7 a8 uth uch ufc usv ull ubl uba uea ufa uso udn uw uun usr ube ubs uln ubu unu) (wX13 g a0 a1 a2 a3 a4 a5 a6 a7 a8 uth uch ufc usv r.1 ubl uba uea ufa uso udn uw uun usr ube ubs r.2 ubu unu) none := by
  refine MU_of (by decide) (Nat.le_of_ble_eq_true rfl) ?_
  intro p e s m below meth c ls F hr hlocks hE hX hA hP hD hS hl
  generalize va_A (wX13 g a0 a1 a2 a3 a4 a5 a6 a7 a8 uth uch ufc usv ull ubl uba uea ufa uso udn uw uun usr ube ubs uln ubu unu) s.heap.size = A at hA hD hS hX ⊢
  replace F : CF p m c cX13_writesNumber 4 s _ RX13 := F
  replace hl : lv_has ls 4 [(0, .ref a0), (1, .int p1)] := hl
  rw [fX13_writesNumber] at h
  refine lv_iconst (v := 1) F.1 F.2.1 dX13_writesNumber_0 (by decide) ?_
  refine lv_istore_n (lv' := [(2, .int 1), (0, .ref a0), (1, .int p1)]) F.1 F.2.1 dX13_writesNumber_1 rfl hl (by decide) rfl (fun ls hl => ?_)
  exact tX13_writesNumber_L2 F hr hlocks hE hX hA p1 uth uch ufc usv ull ubl uba uea ufa uso udn uw uun usr ube ubs uln ubu unu FU 1 h _ _ hP hD hS ls (lv_sub hl [1, 2, 0] rfl)
/-! WireCutterModel.writeSpool -/
def fX13_writeSpool (ull : Int32) (uw : Nat → Int32) (uln : Nat → Int32) (p1 : Int32) : Option (Int32 × Int32 × Int32 × (Nat → Int32)) :=
  (fX13_spoolPlace uw p1).bind fun z1 =>
  if 0 ≤ z1 then
    (fX13_writesNumber 0 uln p1).bind fun z4 =>
    (fX13_spoolAt uw z1 1).bind fun z6 =>
    (fX13_writes z4.1 z4.2 (97 + z6)).bind fun z8 =>
    (fX13_writes z8.1 z8.2 58).bind fun z10 =>
    (fX13_spoolAt uw z1 2).bind fun z12 =>
    (fX13_writesNumber z10.1 z10.2 z12).bind fun z14 =>
    (fX13_writes z14.1 z14.2 47).bind fun z16 =>
    (fX13_spoolAt uw z1 3).bind fun z18 =>
    (fX13_writesNumber z16.1 z16.2 z18).bind fun z20 =>
    some (z20.1, 0, z20.1, z20.2)
  else
    (fX13_fails 1).bind fun z22 =>
    some (z22.1, z22.2, ull, uln)
theorem mbX13_writeSpool : MV yX13_writeSpool cX13_writeSpool 3 (some .int) 1 := ⟨⟨q2103, q16, by decide +kernel⟩, q2101, q2102⟩
set_option maxHeartbeats 4000000 in
set_option maxRecDepth 100000 in
theorem tX13_writeSpool (l : Launch) (dC : Nat → ClassId) (dI : Nat → Nat → Nat) (g : Nat → ClassId) (a0 a1 a2 a3 a4 a5 a6 a7 a8 : Nat) (uth : Int32) (uch : Int32) (ufc : Int32) (usv : Int32) (ull : Int32) (ubl : Int32) (uba : Int32) (uea : Int32) (ufa : Int32) (uso : Int32) (udn : Int32) (uw : Nat → Int32) (uun : Nat → Int32) (usr : Nat → Int32) (ube : Nat → Int32) (ubs : Nat → Int32) (uln : Nat → Int32) (ubu : Nat → Int32) (unu : Nat → Int32) (p1 : Int32) {r : Int32 × Int32 × Int32 × (Nat → Int32)} (h : fX13_writeSpool ull uw uln p1 = some r) : MU l yX13_writeSpool cX13_writeSpool 3 (some .int) 2 44 0 0 dC dI g [.ref a0, .int p1] (wX13 g a0 a1 a2 a3 a4 a5 a6 a7 a8 uth uch ufc usv ull ubl uba uea ufa uso udn uw uun usr ube ubs uln ubu unu) (wX13 g a0 a1 a2 a3 a4 a5 a6 a7 a8 r.2.1 uch ufc usv r.2.2.1 ubl uba uea ufa uso udn uw uun usr ube ubs r.2.2.2 ubu unu) (some (.int r.1)) := by
  refine MU_of (by decide) (Nat.le_of_ble_eq_true rfl) ?_
  intro p e s m below meth c ls F hr hlocks hE hX hA hP hD hS hl
  generalize va_A (wX13 g a0 a1 a2 a3 a4 a5 a6 a7 a8 uth uch ufc usv ull ubl uba uea ufa uso udn uw uun usr ube ubs uln ubu unu) s.heap.size = A at hA hD hS hX ⊢
  replace F : CF p m c cX13_writeSpool 3 s _ RX13 := F
  replace hl : lv_has ls 3 [(0, .ref a0), (1, .int p1)] := hl
  rw [fX13_writeSpool] at h
  refine lv_aload_n F.1 F.2.1 dX13_writeSpool_0 rfl (lv_at hl 0 rfl) ?_
  refine lv_iconst (v := 0) F.1 F.2.1 dX13_writeSpool_1 (by decide) ?_
  refine pF (v := .int 0) F hE hP hD hS 0 rfl rfl inX13 tyX13 tyX13_ok nmX13 0 (by decide) q1684 rfl rfl rfl (Nat.le_of_ble_eq_true rfl) dX13_writeSpool_2 (fun H locs hP hD hS => ?_)
  replace hP : va_P (dC, dI) vwCl (wX13 g a0 a1 a2 a3 a4 a5 a6 a7 a8 0 uch ufc usv ull ubl uba uea ufa uso udn uw uun usr ube ubs uln ubu unu) H := hP
  replace hD : va_D A (wX13 g a0 a1 a2 a3 a4 a5 a6 a7 a8 0 uch ufc usv ull ubl uba uea ufa uso udn uw uun usr ube ubs uln ubu unu) := hD
  refine lv_aload_n F.1 F.2.1 dX13_writeSpool_5 rfl (lv_at hl 0 rfl) ?_
  refine lv_iload_n F.1 F.2.1 dX13_writeSpool_6 rfl (lv_at hl 1 rfl) ?_
  obtain ⟨z1, k2, h⟩ := bd_ok h
  refine cRV (As := [.int p1]) (rest := []) F hE hX hS (tX13_spoolPlace l dC dI g a0 a1 a2 a3 a4 a5 a6 a7 a8 0 uch ufc usv ull ubl uba uea ufa uso udn uw uun usr ube ubs uln ubu unu p1 k2) mbX13_spoolPlace q1784 ⟨(Nat.le_of_ble_eq_true rfl), (Nat.le_of_ble_eq_true rfl)⟩ ⟨Nat.zero_le _, Nat.zero_le _⟩ hP [0, 1, 2, 3, 4, 5, 6, 7, 8] rfl 0 rfl rfl rfl hl.1 rfl (Nat.le_of_ble_eq_true rfl) dX13_writeSpool_7 ?_
  refine lv_istore_n (lv' := [(2, .int z1), (0, .ref a0), (1, .int p1)]) F.1 F.2.1 dX13_writeSpool_10 rfl hl (by decide) rfl (fun ls hl => ?_)
  refine lv_iload_n F.1 F.2.1 dX13_writeSpool_11 rfl (lv_at hl 0 rfl) ?_
  refine lv_if_ge (tgt := 21) F.1 F.2.1 dX13_writeSpool_12 (by decide) (fun k3 => ?_) (fun k3 => ?_)
  · replace h := it_t k3 h
    refine lv_aload_n F.1 F.2.1 dX13_writeSpool_21 rfl (lv_at hl 1 rfl) ?_
    refine lv_iconst (v := 0) F.1 F.2.1 dX13_writeSpool_22 (by decide) ?_
    refine pF (v := .int 0) F hE hP hD hS 0 rfl rfl inX13 tyX13 tyX13_ok nmX13 10 (by decide) q1694 rfl rfl rfl (Nat.le_of_ble_eq_true rfl) dX13_writeSpool_23 (fun H locs hP hD hS => ?_)
    replace hP : va_P (dC, dI) vwCl (wX13 g a0 a1 a2 a3 a4 a5 a6 a7 a8 0 uch ufc usv 0 ubl uba uea ufa uso udn uw uun usr ube ubs uln ubu unu) H := hP
    replace hD : va_D A (wX13 g a0 a1 a2 a3 a4 a5 a6 a7 a8 0 uch ufc usv 0 ubl uba uea ufa uso udn uw uun usr ube ubs uln ubu unu) := hD
    refine lv_aload_n F.1 F.2.1 dX13_writeSpool_26 rfl (lv_at hl 1 rfl) ?_
    refine lv_iload_n F.1 F.2.1 dX13_writeSpool_27 rfl (lv_at hl 2 rfl) ?_
    obtain ⟨z4, k5, h⟩ := bd_ok h
    refine cMV (As := [.int p1]) (rest := []) (ws' := wX13 g a0 a1 a2 a3 a4 a5 a6 a7 a8 0 uch ufc usv z4.1 ubl uba uea ufa uso udn uw uun usr ube ubs z4.2 ubu unu) F hE hX (tX13_writesNumber l dC dI g a0 a1 a2 a3 a4 a5 a6 a7 a8 0 uch ufc usv 0 ubl uba uea ufa uso udn uw uun usr ube ubs uln ubu unu p1 k5) mbX13_writesNumber q2104 ⟨(Nat.le_of_ble_eq_true rfl), (Nat.le_of_ble_eq_true rfl)⟩ ⟨(Nat.le_of_ble_eq_true rfl), (Nat.le_of_ble_eq_true rfl)⟩ hP hD hS hA [0, 1, 2, 3, 4, 5, 6, 7, 8] rfl rfl rfl rfl rfl 0 rfl rfl rfl hl.1 rfl (Nat.le_of_ble_eq_true rfl) dX13_writeSpool_28 (fun H locs hP hD hS => ?_)
    refine lv_aload_n F.1 F.2.1 dX13_writeSpool_31 rfl (lv_at hl 1 rfl) ?_
    refine lv_bipush (v := 97) F.1 F.2.1 dX13_writeSpool_32 (by decide) ?_
    refine lv_aload_n F.1 F.2.1 dX13_writeSpool_34 rfl (lv_at hl 1 rfl) ?_
    refine lv_iload_n F.1 F.2.1 dX13_writeSpool_35 rfl (lv_at hl 0 rfl) ?_
    refine lv_iconst (v := 1) F.1 F.2.1 dX13_writeSpool_36 (by decide) ?_
    obtain ⟨z6, k7, h⟩ := bd_ok h
    refine cRV (As := [.int z1, .int 1]) (rest := [.int 97, .ref a0]) F hE hX hS (tX13_spoolAt l dC dI g a0 a1 a2 a3 a4 a5 a6 a7 a8 0 uch ufc usv z4.1 ubl uba uea ufa uso udn uw uun usr ube ubs z4.2 ubu unu z1 1 k7) mbX13_spoolAt q1788 ⟨(Nat.le_of_ble_eq_true rfl), (Nat.le_of_ble_eq_true rfl)⟩ ⟨Nat.zero_le _, Nat.zero_le _⟩ hP [0, 1, 2, 3, 4, 5, 6, 7, 8] rfl 0 rfl rfl rfl hl.1 rfl (Nat.le_of_ble_eq_true rfl) dX13_writeSpool_37 ?_
    refine lv_iadd F.1 F.2.1 dX13_writeSpool_40 ?_
    obtain ⟨z8, k9, h⟩ := bd_ok h
    refine cMV (As := [.int (97 + z6)]) (rest := []) (ws' := wX13 g a0 a1 a2 a3 a4 a5 a6 a7 a8 0 uch ufc usv z8.1 ubl uba uea ufa uso udn uw uun usr ube ubs z8.2 ubu unu) F hE hX (tX13_writes l dC dI g a0 a1 a2 a3 a4 a5 a6 a7 a8 0 uch ufc usv z4.1 ubl uba uea ufa uso udn uw uun usr ube ubs z4.2 ubu unu (97 + z6) k9) mbX13_writes q2108 ⟨(Nat.le_of_ble_eq_true rfl), (Nat.le_of_ble_eq_true rfl)⟩ ⟨(Nat.le_of_ble_eq_true rfl), (Nat.le_of_ble_eq_true rfl)⟩ hP hD hS hA [0, 1, 2, 3, 4, 5, 6, 7, 8] rfl rfl rfl rfl rfl 0 rfl rfl rfl hl.1 rfl (Nat.le_of_ble_eq_true rfl) dX13_writeSpool_41 (fun H locs hP hD hS => ?_)
    refine lv_aload_n F.1 F.2.1 dX13_writeSpool_44 rfl (lv_at hl 1 rfl) ?_
    refine lv_bipush (v := 58) F.1 F.2.1 dX13_writeSpool_45 (by decide) ?_
    obtain ⟨z10, k11, h⟩ := bd_ok h
    refine cMV (As := [.int 58]) (rest := []) (ws' := wX13 g a0 a1 a2 a3 a4 a5 a6 a7 a8 0 uch ufc usv z10.1 ubl uba uea ufa uso udn uw uun usr ube ubs z10.2 ubu unu) F hE hX (tX13_writes l dC dI g a0 a1 a2 a3 a4 a5 a6 a7 a8 0 uch ufc usv z8.1 ubl uba uea ufa uso udn uw uun usr ube ubs z8.2 ubu unu 58 k11) mbX13_writes q2108 ⟨(Nat.le_of_ble_eq_true rfl), (Nat.le_of_ble_eq_true rfl)⟩ ⟨(Nat.le_of_ble_eq_true rfl), (Nat.le_of_ble_eq_true rfl)⟩ hP hD hS hA [0, 1, 2, 3, 4, 5, 6, 7, 8] rfl rfl rfl rfl rfl 0 rfl rfl rfl hl.1 rfl (Nat.le_of_ble_eq_true rfl) dX13_writeSpool_47 (fun H locs hP hD hS => ?_)
    refine lv_aload_n F.1 F.2.1 dX13_writeSpool_50 rfl (lv_at hl 1 rfl) ?_
    refine lv_aload_n F.1 F.2.1 dX13_writeSpool_51 rfl (lv_at hl 1 rfl) ?_
    refine lv_iload_n F.1 F.2.1 dX13_writeSpool_52 rfl (lv_at hl 0 rfl) ?_
    refine lv_iconst (v := 2) F.1 F.2.1 dX13_writeSpool_53 (by decide) ?_
    obtain ⟨z12, k13, h⟩ := bd_ok h
    refine cRV (As := [.int z1, .int 2]) (rest := [.ref a0]) F hE hX hS (tX13_spoolAt l dC dI g a0 a1 a2 a3 a4 a5 a6 a7 a8 0 uch ufc usv z10.1 ubl uba uea ufa uso udn uw uun usr ube ubs z10.2 ubu unu z1 2 k13) mbX13_spoolAt q1788 ⟨(Nat.le_of_ble_eq_true rfl), (Nat.le_of_ble_eq_true rfl)⟩ ⟨Nat.zero_le _, Nat.zero_le _⟩ hP [0, 1, 2, 3, 4, 5, 6, 7, 8] rfl 0 rfl rfl rfl hl.1 rfl (Nat.le_of_ble_eq_true rfl) dX13_writeSpool_54 ?_
    obtain ⟨z14, k15, h⟩ := bd_ok h
    refine cMV (As := [.int z12]) (rest := []) (ws' := wX13 g a0 a1 a2 a3 a4 a5 a6 a7 a8 0 uch ufc usv z14.1 ubl uba uea ufa uso udn uw uun usr ube ubs z14.2 ubu unu) F hE hX (tX13_writesNumber l dC dI g a0 a1 a2 a3 a4 a5 a6 a7 a8 0 uch ufc usv z10.1 ubl uba uea ufa uso udn uw uun usr ube ubs z10.2 ubu unu z12 k15) mbX13_writesNumber q2104 ⟨(Nat.le_of_ble_eq_true rfl), (Nat.le_of_ble_eq_true rfl)⟩ ⟨(Nat.le_of_ble_eq_true rfl), (Nat.le_of_ble_eq_true rfl)⟩ hP hD hS hA [0, 1, 2, 3, 4, 5, 6, 7, 8] rfl rfl rfl rfl rfl 0 rfl rfl rfl hl.1 rfl (Nat.le_of_ble_eq_true rfl) dX13_writeSpool_57 (fun H locs hP hD hS => ?_)
    refine lv_aload_n F.1 F.2.1 dX13_writeSpool_60 rfl (lv_at hl 1 rfl) ?_
    refine lv_bipush (v := 47) F.1 F.2.1 dX13_writeSpool_61 (by decide) ?_
    obtain ⟨z16, k17, h⟩ := bd_ok h
    refine cMV (As := [.int 47]) (rest := []) (ws' := wX13 g a0 a1 a2 a3 a4 a5 a6 a7 a8 0 uch ufc usv z16.1 ubl uba uea ufa uso udn uw uun usr ube ubs z16.2 ubu unu) F hE hX (tX13_writes l dC dI g a0 a1 a2 a3 a4 a5 a6 a7 a8 0 uch ufc usv z14.1 ubl uba uea ufa uso udn uw uun usr ube ubs z14.2 ubu unu 47 k17) mbX13_writes q2108 ⟨(Nat.le_of_ble_eq_true rfl), (Nat.le_of_ble_eq_true rfl)⟩ ⟨(Nat.le_of_ble_eq_true rfl), (Nat.le_of_ble_eq_true rfl)⟩ hP hD hS hA [0, 1, 2, 3, 4, 5, 6, 7, 8] rfl rfl rfl rfl rfl 0 rfl rfl rfl hl.1 rfl (Nat.le_of_ble_eq_true rfl) dX13_writeSpool_63 (fun H locs hP hD hS => ?_)
    refine lv_aload_n F.1 F.2.1 dX13_writeSpool_66 rfl (lv_at hl 1 rfl) ?_
    refine lv_aload_n F.1 F.2.1 dX13_writeSpool_67 rfl (lv_at hl 1 rfl) ?_
    refine lv_iload_n F.1 F.2.1 dX13_writeSpool_68 rfl (lv_at hl 0 rfl) ?_
    refine lv_iconst (v := 3) F.1 F.2.1 dX13_writeSpool_69 (by decide) ?_
    obtain ⟨z18, k19, h⟩ := bd_ok h
    refine cRV (As := [.int z1, .int 3]) (rest := [.ref a0]) F hE hX hS (tX13_spoolAt l dC dI g a0 a1 a2 a3 a4 a5 a6 a7 a8 0 uch ufc usv z16.1 ubl uba uea ufa uso udn uw uun usr ube ubs z16.2 ubu unu z1 3 k19) mbX13_spoolAt q1788 ⟨(Nat.le_of_ble_eq_true rfl), (Nat.le_of_ble_eq_true rfl)⟩ ⟨Nat.zero_le _, Nat.zero_le _⟩ hP [0, 1, 2, 3, 4, 5, 6, 7, 8] rfl 0 rfl rfl rfl hl.1 rfl (Nat.le_of_ble_eq_true rfl) dX13_writeSpool_70 ?_
    obtain ⟨z20, k21, h⟩ := bd_ok h
    refine cMV (As := [.int z18]) (rest := []) (ws' := wX13 g a0 a1 a2 a3 a4 a5 a6 a7 a8 0 uch ufc usv z20.1 ubl uba uea ufa uso udn uw uun usr ube ubs z20.2 ubu unu) F hE hX (tX13_writesNumber l dC dI g a0 a1 a2 a3 a4 a5 a6 a7 a8 0 uch ufc usv z16.1 ubl uba uea ufa uso udn uw uun usr ube ubs z16.2 ubu unu z18 k21) mbX13_writesNumber q2104 ⟨(Nat.le_of_ble_eq_true rfl), (Nat.le_of_ble_eq_true rfl)⟩ ⟨(Nat.le_of_ble_eq_true rfl), (Nat.le_of_ble_eq_true rfl)⟩ hP hD hS hA [0, 1, 2, 3, 4, 5, 6, 7, 8] rfl rfl rfl rfl rfl 0 rfl rfl rfl hl.1 rfl (Nat.le_of_ble_eq_true rfl) dX13_writeSpool_73 (fun H locs hP hD hS => ?_)
    refine lv_aload_n F.1 F.2.1 dX13_writeSpool_76 rfl (lv_at hl 1 rfl) ?_
    refine gF (v := .int z20.1) F hE hP 0 rfl rfl inX13 10 (by decide) q1694 rfl dX13_writeSpool_77 ?_
    cases h
    exact MU_i F hr hlocks (Nat.le_refl _) (Nat.le_refl _) hP hS dX13_writeSpool_80
  · replace h := it_f k3 h
    refine lv_aload_n F.1 F.2.1 dX13_writeSpool_15 rfl (lv_at hl 1 rfl) ?_
    refine lv_iconst (v := 1) F.1 F.2.1 dX13_writeSpool_16 (by decide) ?_
    obtain ⟨z22, k23, h⟩ := bd_ok h
    refine cMV (As := [.int 1]) (rest := []) (ws' := wX13 g a0 a1 a2 a3 a4 a5 a6 a7 a8 z22.2 uch ufc usv ull ubl uba uea ufa uso udn uw uun usr ube ubs uln ubu unu) F hE hX (tX13_fails l dC dI g a0 a1 a2 a3 a4 a5 a6 a7 a8 0 uch ufc usv ull ubl uba uea ufa uso udn uw uun usr ube ubs uln ubu unu 1 k23) mbX13_fails q1756 ⟨(Nat.le_of_ble_eq_true rfl), (Nat.le_of_ble_eq_true rfl)⟩ ⟨(Nat.le_of_ble_eq_true rfl), (Nat.le_of_ble_eq_true rfl)⟩ hP hD hS hA [0, 1, 2, 3, 4, 5, 6, 7, 8] rfl rfl rfl rfl rfl 0 rfl rfl rfl hl.1 rfl (Nat.le_of_ble_eq_true rfl) dX13_writeSpool_17 (fun H locs hP hD hS => ?_)
    cases h
    exact MU_i F hr hlocks (Nat.le_refl _) (Nat.le_refl _) hP hS dX13_writeSpool_20
/-! WireCutterModel.writeOrders -/
def fX13_writeOrders_L12 (uth : Int32) (uw : Nat → Int32) : Nat → Int32 → Int32 → (Nat → Int32) → Option (Int32 × Int32 × Int32 × (Nat → Int32))
  | 0, _, _, _ => none
  | k + 1, x1, ull, uln =>
    if (uw 2) ≤ x1 then
      some (ull, uth, ull, uln)
    else
      if x1 ≤ 0 then
        (fX13_orderOf uw x1 0).bind fun z3 =>
        (fX13_writesNumber ull uln z3).bind fun z5 =>
        (fX13_orderOf uw x1 1).bind fun z7 =>
        (fX13_writes z5.1 z5.2 (97 + z7)).bind fun z9 =>
        (fX13_orderOf uw x1 2).bind fun z11 =>
        (fX13_writesNumber z9.1 z9.2 z11).bind fun z13 =>
        (fX13_writes z13.1 z13.2 64).bind fun z15 =>
        (fX13_orderOf uw x1 3).bind fun z17 =>
        (fX13_writesNumber z15.1 z15.2 z17).bind fun z19 =>
        fX13_writeOrders_L12 uth uw k (x1 + 1) z19.1 z19.2
      else
        (fX13_writes ull uln 32).bind fun z21 =>
        (fX13_orderOf uw x1 0).bind fun z23 =>
        (fX13_writesNumber z21.1 z21.2 z23).bind fun z25 =>
        (fX13_orderOf uw x1 1).bind fun z27 =>
        (fX13_writes z25.1 z25.2 (97 + z27)).bind fun z29 =>
        (fX13_orderOf uw x1 2).bind fun z31 =>
        (fX13_writesNumber z29.1 z29.2 z31).bind fun z33 =>
        (fX13_writes z33.1 z33.2 64).bind fun z35 =>
        (fX13_orderOf uw x1 3).bind fun z37 =>
        (fX13_writesNumber z35.1 z35.2 z37).bind fun z39 =>
        fX13_writeOrders_L12 uth uw k (x1 + 1) z39.1 z39.2
def fX13_writeOrders (uw : Nat → Int32) (uln : Nat → Int32) : Option (Int32 × Int32 × Int32 × (Nat → Int32)) :=
  fX13_writeOrders_L12 0 uw FU 0 0 uln
theorem mbX13_writeOrders : MV yX13_writeOrders cX13_writeOrders 2 (some .int) 0 := ⟨⟨q2115, q16, by decide +kernel⟩, q2113, q2114⟩
set_option maxHeartbeats 4000000 in
set_option maxRecDepth 100000 in
theorem tX13_writeOrders_L12 {p : Program} {l : Launch} {e : Env} {s : State} {m : MethodId} {args : Array Value} {below : List Frame} {meth : Method} {c : Code} {dC : Nat → ClassId} {dI : Nat → Nat → Nat} {g : Nat → ClassId} {a0 a1 a2 a3 a4 a5 a6 a7 a8 : Nat} {r : Int32 × Int32 × Int32 × (Nat → Int32)} {A : Nat → Prop} (F : CF p m c cX13_writeOrders 2 s args RX13) (hr : meth.sig.returnType = (some .int)) (hlocks : meth.locks = false) (hE : EK dC dI g s) (hX : EX g A s s.heap) (hA : ∀ q : Nat, s.heap.size ≤ q → A q) (uth : Int32) (uch : Int32) (ufc : Int32) (usv : Int32) (ubl : Int32) (uba : Int32) (uea : Int32) (ufa : Int32) (uso : Int32) (udn : Int32) (uw : Nat → Int32) (uun : Nat → Int32) (usr : Nat → Int32) (ube : Nat → Int32) (ubs : Nat → Int32) (ubu : Nat → Int32) (unu : Nat → Int32) : ∀ (k : Nat) (x1 : Int32) (ull : Int32) (uln : Nat → Int32), fX13_writeOrders_L12 uth uw k x1 ull uln = some r → ∀ (H : Heap) (locs : List Loc), va_P (dC, dI) vwCl (wX13 g a0 a1 a2 a3 a4 a5 a6 a7 a8 uth uch ufc usv ull ubl uba uea ufa uso udn uw uun usr ube ubs uln ubu unu) H → va_D A (wX13 g a0 a1 a2 a3 a4 a5 a6 a7 a8 uth uch ufc usv ull ubl uba uea ufa uso udn uw uun usr ube ubs uln ubu unu) → va_S A s.heap H locs → ∀ (ls : Array Slot), lv_has ls 2 [(0, .ref a0), (1, .int x1)] → W p l e { frames := 2, cells := 0, slots := 0, locals := 44 } s m args below meth c H locs 0 0 (MQ below (fun _ st o t => o = .returned (some (.int r.1)) ∧ va_P (dC, dI) vwCl (wX13 g a0 a1 a2 a3 a4 a5 a6 a7 a8 r.2.1 uch ufc usv r.2.2.1 ubl uba uea ufa uso udn uw uun usr ube ubs r.2.2.2 ubu unu) t.heap ∧ va_F A st t) args s 0 0 A) (F0 m 12 ls []) := by
  intro k
  induction k with
  | zero =>
    intro x1 ull uln h
    exact absurd h (by simp [fX13_writeOrders_L12])
  | succ k ih =>
    intro x1 ull uln h H locs hP hD hS ls hl
    rw [fX13_writeOrders_L12] at h
    refine lv_iload_n F.1 F.2.1 dX13_writeOrders_12 rfl (lv_at hl 1 rfl) ?_
    refine lv_aload_n F.1 F.2.1 dX13_writeOrders_13 rfl (lv_at hl 0 rfl) ?_
    refine gF (v := .ref a1) F hE hP 0 rfl rfl inX13 1 (by decide) q1685 rfl dX13_writeOrders_14 ?_
    refine lv_iconst (v := 2) F.1 F.2.1 dX13_writeOrders_17 (by decide) ?_
    refine aLi (k := 2) F hE hP 1 0 rfl rfl (by decide) (by decide) dX13_writeOrders_18 ?_
    refine lv_icmp_ge (tgt := 87) F.1 F.2.1 dX13_writeOrders_19 (by decide) (fun k1 => ?_) (fun k1 => ?_)
    · replace h := it_t k1 h
      refine lv_aload_n F.1 F.2.1 dX13_writeOrders_87 rfl (lv_at hl 0 rfl) ?_
      refine gF (v := .int ull) F hE hP 0 rfl rfl inX13 10 (by decide) q1694 rfl dX13_writeOrders_88 ?_
      cases h
      exact MU_i F hr hlocks (Nat.le_refl _) (Nat.le_refl _) hP hS dX13_writeOrders_91
    · replace h := it_f k1 h
      refine lv_iload_n F.1 F.2.1 dX13_writeOrders_22 rfl (lv_at hl 1 rfl) ?_
      refine lv_if_le (tgt := 32) F.1 F.2.1 dX13_writeOrders_23 (by decide) (fun k2 => ?_) (fun k2 => ?_)
      · replace h := it_t k2 h
        refine lv_aload_n F.1 F.2.1 dX13_writeOrders_32 rfl (lv_at hl 0 rfl) ?_
        refine lv_aload_n F.1 F.2.1 dX13_writeOrders_33 rfl (lv_at hl 0 rfl) ?_
        refine lv_iload_n F.1 F.2.1 dX13_writeOrders_34 rfl (lv_at hl 1 rfl) ?_
        refine lv_iconst (v := 0) F.1 F.2.1 dX13_writeOrders_35 (by decide) ?_
        obtain ⟨z3, k4, h⟩ := bd_ok h
        refine cRV (As := [.int x1, .int 0]) (rest := [.ref a0]) F hE hX hS (tX13_orderOf l dC dI g a0 a1 a2 a3 a4 a5 a6 a7 a8 uth uch ufc usv ull ubl uba uea ufa uso udn uw uun usr ube ubs uln ubu unu x1 0 k4) mbX13_orderOf q1839 ⟨(Nat.le_of_ble_eq_true rfl), (Nat.le_of_ble_eq_true rfl)⟩ ⟨Nat.zero_le _, Nat.zero_le _⟩ hP [0, 1, 2, 3, 4, 5, 6, 7, 8] rfl 0 rfl rfl rfl hl.1 rfl (Nat.le_of_ble_eq_true rfl) dX13_writeOrders_36 ?_
        obtain ⟨z5, k6, h⟩ := bd_ok h
        refine cMV (As := [.int z3]) (rest := []) (ws' := wX13 g a0 a1 a2 a3 a4 a5 a6 a7 a8 uth uch ufc usv z5.1 ubl uba uea ufa uso udn uw uun usr ube ubs z5.2 ubu unu) F hE hX (tX13_writesNumber l dC dI g a0 a1 a2 a3 a4 a5 a6 a7 a8 uth uch ufc usv ull ubl uba uea ufa uso udn uw uun usr ube ubs uln ubu unu z3 k6) mbX13_writesNumber q2104 ⟨(Nat.le_of_ble_eq_true rfl), (Nat.le_of_ble_eq_true rfl)⟩ ⟨(Nat.le_of_ble_eq_true rfl), (Nat.le_of_ble_eq_true rfl)⟩ hP hD hS hA [0, 1, 2, 3, 4, 5, 6, 7, 8] rfl rfl rfl rfl rfl 0 rfl rfl rfl hl.1 rfl (Nat.le_of_ble_eq_true rfl) dX13_writeOrders_39 (fun H locs hP hD hS => ?_)
        refine lv_aload_n F.1 F.2.1 dX13_writeOrders_42 rfl (lv_at hl 0 rfl) ?_
        refine lv_bipush (v := 97) F.1 F.2.1 dX13_writeOrders_43 (by decide) ?_
        refine lv_aload_n F.1 F.2.1 dX13_writeOrders_45 rfl (lv_at hl 0 rfl) ?_
        refine lv_iload_n F.1 F.2.1 dX13_writeOrders_46 rfl (lv_at hl 1 rfl) ?_
        refine lv_iconst (v := 1) F.1 F.2.1 dX13_writeOrders_47 (by decide) ?_
        obtain ⟨z7, k8, h⟩ := bd_ok h
        refine cRV (As := [.int x1, .int 1]) (rest := [.int 97, .ref a0]) F hE hX hS (tX13_orderOf l dC dI g a0 a1 a2 a3 a4 a5 a6 a7 a8 uth uch ufc usv z5.1 ubl uba uea ufa uso udn uw uun usr ube ubs z5.2 ubu unu x1 1 k8) mbX13_orderOf q1839 ⟨(Nat.le_of_ble_eq_true rfl), (Nat.le_of_ble_eq_true rfl)⟩ ⟨Nat.zero_le _, Nat.zero_le _⟩ hP [0, 1, 2, 3, 4, 5, 6, 7, 8] rfl 0 rfl rfl rfl hl.1 rfl (Nat.le_of_ble_eq_true rfl) dX13_writeOrders_48 ?_
        refine lv_iadd F.1 F.2.1 dX13_writeOrders_51 ?_
        obtain ⟨z9, k10, h⟩ := bd_ok h
        refine cMV (As := [.int (97 + z7)]) (rest := []) (ws' := wX13 g a0 a1 a2 a3 a4 a5 a6 a7 a8 uth uch ufc usv z9.1 ubl uba uea ufa uso udn uw uun usr ube ubs z9.2 ubu unu) F hE hX (tX13_writes l dC dI g a0 a1 a2 a3 a4 a5 a6 a7 a8 uth uch ufc usv z5.1 ubl uba uea ufa uso udn uw uun usr ube ubs z5.2 ubu unu (97 + z7) k10) mbX13_writes q2108 ⟨(Nat.le_of_ble_eq_true rfl), (Nat.le_of_ble_eq_true rfl)⟩ ⟨(Nat.le_of_ble_eq_true rfl), (Nat.le_of_ble_eq_true rfl)⟩ hP hD hS hA [0, 1, 2, 3, 4, 5, 6, 7, 8] rfl rfl rfl rfl rfl 0 rfl rfl rfl hl.1 rfl (Nat.le_of_ble_eq_true rfl) dX13_writeOrders_52 (fun H locs hP hD hS => ?_)
        refine lv_aload_n F.1 F.2.1 dX13_writeOrders_55 rfl (lv_at hl 0 rfl) ?_
        refine lv_aload_n F.1 F.2.1 dX13_writeOrders_56 rfl (lv_at hl 0 rfl) ?_
        refine lv_iload_n F.1 F.2.1 dX13_writeOrders_57 rfl (lv_at hl 1 rfl) ?_
        refine lv_iconst (v := 2) F.1 F.2.1 dX13_writeOrders_58 (by decide) ?_
        obtain ⟨z11, k12, h⟩ := bd_ok h
        refine cRV (As := [.int x1, .int 2]) (rest := [.ref a0]) F hE hX hS (tX13_orderOf l dC dI g a0 a1 a2 a3 a4 a5 a6 a7 a8 uth uch ufc usv z9.1 ubl uba uea ufa uso udn uw uun usr ube ubs z9.2 ubu unu x1 2 k12) mbX13_orderOf q1839 ⟨(Nat.le_of_ble_eq_true rfl), (Nat.le_of_ble_eq_true rfl)⟩ ⟨Nat.zero_le _, Nat.zero_le _⟩ hP [0, 1, 2, 3, 4, 5, 6, 7, 8] rfl 0 rfl rfl rfl hl.1 rfl (Nat.le_of_ble_eq_true rfl) dX13_writeOrders_59 ?_
        obtain ⟨z13, k14, h⟩ := bd_ok h
        refine cMV (As := [.int z11]) (rest := []) (ws' := wX13 g a0 a1 a2 a3 a4 a5 a6 a7 a8 uth uch ufc usv z13.1 ubl uba uea ufa uso udn uw uun usr ube ubs z13.2 ubu unu) F hE hX (tX13_writesNumber l dC dI g a0 a1 a2 a3 a4 a5 a6 a7 a8 uth uch ufc usv z9.1 ubl uba uea ufa uso udn uw uun usr ube ubs z9.2 ubu unu z11 k14) mbX13_writesNumber q2104 ⟨(Nat.le_of_ble_eq_true rfl), (Nat.le_of_ble_eq_true rfl)⟩ ⟨(Nat.le_of_ble_eq_true rfl), (Nat.le_of_ble_eq_true rfl)⟩ hP hD hS hA [0, 1, 2, 3, 4, 5, 6, 7, 8] rfl rfl rfl rfl rfl 0 rfl rfl rfl hl.1 rfl (Nat.le_of_ble_eq_true rfl) dX13_writeOrders_62 (fun H locs hP hD hS => ?_)
        refine lv_aload_n F.1 F.2.1 dX13_writeOrders_65 rfl (lv_at hl 0 rfl) ?_
        refine lv_bipush (v := 64) F.1 F.2.1 dX13_writeOrders_66 (by decide) ?_
        obtain ⟨z15, k16, h⟩ := bd_ok h
        refine cMV (As := [.int 64]) (rest := []) (ws' := wX13 g a0 a1 a2 a3 a4 a5 a6 a7 a8 uth uch ufc usv z15.1 ubl uba uea ufa uso udn uw uun usr ube ubs z15.2 ubu unu) F hE hX (tX13_writes l dC dI g a0 a1 a2 a3 a4 a5 a6 a7 a8 uth uch ufc usv z13.1 ubl uba uea ufa uso udn uw uun usr ube ubs z13.2 ubu unu 64 k16) mbX13_writes q2108 ⟨(Nat.le_of_ble_eq_true rfl), (Nat.le_of_ble_eq_true rfl)⟩ ⟨(Nat.le_of_ble_eq_true rfl), (Nat.le_of_ble_eq_true rfl)⟩ hP hD hS hA [0, 1, 2, 3, 4, 5, 6, 7, 8] rfl rfl rfl rfl rfl 0 rfl rfl rfl hl.1 rfl (Nat.le_of_ble_eq_true rfl) dX13_writeOrders_68 (fun H locs hP hD hS => ?_)
        refine lv_aload_n F.1 F.2.1 dX13_writeOrders_71 rfl (lv_at hl 0 rfl) ?_
        refine lv_aload_n F.1 F.2.1 dX13_writeOrders_72 rfl (lv_at hl 0 rfl) ?_
        refine lv_iload_n F.1 F.2.1 dX13_writeOrders_73 rfl (lv_at hl 1 rfl) ?_
        refine lv_iconst (v := 3) F.1 F.2.1 dX13_writeOrders_74 (by decide) ?_
        obtain ⟨z17, k18, h⟩ := bd_ok h
        refine cRV (As := [.int x1, .int 3]) (rest := [.ref a0]) F hE hX hS (tX13_orderOf l dC dI g a0 a1 a2 a3 a4 a5 a6 a7 a8 uth uch ufc usv z15.1 ubl uba uea ufa uso udn uw uun usr ube ubs z15.2 ubu unu x1 3 k18) mbX13_orderOf q1839 ⟨(Nat.le_of_ble_eq_true rfl), (Nat.le_of_ble_eq_true rfl)⟩ ⟨Nat.zero_le _, Nat.zero_le _⟩ hP [0, 1, 2, 3, 4, 5, 6, 7, 8] rfl 0 rfl rfl rfl hl.1 rfl (Nat.le_of_ble_eq_true rfl) dX13_writeOrders_75 ?_
        obtain ⟨z19, k20, h⟩ := bd_ok h
        refine cMV (As := [.int z17]) (rest := []) (ws' := wX13 g a0 a1 a2 a3 a4 a5 a6 a7 a8 uth uch ufc usv z19.1 ubl uba uea ufa uso udn uw uun usr ube ubs z19.2 ubu unu) F hE hX (tX13_writesNumber l dC dI g a0 a1 a2 a3 a4 a5 a6 a7 a8 uth uch ufc usv z15.1 ubl uba uea ufa uso udn uw uun usr ube ubs z15.2 ubu unu z17 k20) mbX13_writesNumber q2104 ⟨(Nat.le_of_ble_eq_true rfl), (Nat.le_of_ble_eq_true rfl)⟩ ⟨(Nat.le_of_ble_eq_true rfl), (Nat.le_of_ble_eq_true rfl)⟩ hP hD hS hA [0, 1, 2, 3, 4, 5, 6, 7, 8] rfl rfl rfl rfl rfl 0 rfl rfl rfl hl.1 rfl (Nat.le_of_ble_eq_true rfl) dX13_writeOrders_78 (fun H locs hP hD hS => ?_)
        refine lv_iinc (v := x1 + 1) (lv' := [(1, .int (x1 + 1)), (0, .ref a0)]) F.1 F.2.1 dX13_writeOrders_81 hl (k := 1) rfl (by rfl) (by decide) rfl (fun ls hl => ?_)
        refine lv_goto (tgt := 12) F.1 F.2.1 dX13_writeOrders_84 (by decide) ?_
        exact ih (x1 + 1) z19.1 z19.2 h _ _ hP hD hS ls (lv_sub hl [1, 0] rfl)
      · replace h := it_f k2 h
        refine lv_aload_n F.1 F.2.1 dX13_writeOrders_26 rfl (lv_at hl 0 rfl) ?_
        refine lv_bipush (v := 32) F.1 F.2.1 dX13_writeOrders_27 (by decide) ?_
        obtain ⟨z21, k22, h⟩ := bd_ok h
        refine cMV (As := [.int 32]) (rest := []) (ws' := wX13 g a0 a1 a2 a3 a4 a5 a6 a7 a8 uth uch ufc usv z21.1 ubl uba uea ufa uso udn uw uun usr ube ubs z21.2 ubu unu) F hE hX (tX13_writes l dC dI g a0 a1 a2 a3 a4 a5 a6 a7 a8 uth uch ufc usv ull ubl uba uea ufa uso udn uw uun usr ube ubs uln ubu unu 32 k22) mbX13_writes q2108 ⟨(Nat.le_of_ble_eq_true rfl), (Nat.le_of_ble_eq_true rfl)⟩ ⟨(Nat.le_of_ble_eq_true rfl), (Nat.le_of_ble_eq_true rfl)⟩ hP hD hS hA [0, 1, 2, 3, 4, 5, 6, 7, 8] rfl rfl rfl rfl rfl 0 rfl rfl rfl hl.1 rfl (Nat.le_of_ble_eq_true rfl) dX13_writeOrders_29 (fun H locs hP hD hS => ?_)
        refine lv_aload_n F.1 F.2.1 dX13_writeOrders_32 rfl (lv_at hl 0 rfl) ?_
        refine lv_aload_n F.1 F.2.1 dX13_writeOrders_33 rfl (lv_at hl 0 rfl) ?_
        refine lv_iload_n F.1 F.2.1 dX13_writeOrders_34 rfl (lv_at hl 1 rfl) ?_
        refine lv_iconst (v := 0) F.1 F.2.1 dX13_writeOrders_35 (by decide) ?_
        obtain ⟨z23, k24, h⟩ := bd_ok h
        refine cRV (As := [.int x1, .int 0]) (rest := [.ref a0]) F hE hX hS (tX13_orderOf l dC dI g a0 a1 a2 a3 a4 a5 a6 a7 a8 uth uch ufc usv z21.1 ubl uba uea ufa uso udn uw uun usr ube ubs z21.2 ubu unu x1 0 k24) mbX13_orderOf q1839 ⟨(Nat.le_of_ble_eq_true rfl), (Nat.le_of_ble_eq_true rfl)⟩ ⟨Nat.zero_le _, Nat.zero_le _⟩ hP [0, 1, 2, 3, 4, 5, 6, 7, 8] rfl 0 rfl rfl rfl hl.1 rfl (Nat.le_of_ble_eq_true rfl) dX13_writeOrders_36 ?_
        obtain ⟨z25, k26, h⟩ := bd_ok h
        refine cMV (As := [.int z23]) (rest := []) (ws' := wX13 g a0 a1 a2 a3 a4 a5 a6 a7 a8 uth uch ufc usv z25.1 ubl uba uea ufa uso udn uw uun usr ube ubs z25.2 ubu unu) F hE hX (tX13_writesNumber l dC dI g a0 a1 a2 a3 a4 a5 a6 a7 a8 uth uch ufc usv z21.1 ubl uba uea ufa uso udn uw uun usr ube ubs z21.2 ubu unu z23 k26) mbX13_writesNumber q2104 ⟨(Nat.le_of_ble_eq_true rfl), (Nat.le_of_ble_eq_true rfl)⟩ ⟨(Nat.le_of_ble_eq_true rfl), (Nat.le_of_ble_eq_true rfl)⟩ hP hD hS hA [0, 1, 2, 3, 4, 5, 6, 7, 8] rfl rfl rfl rfl rfl 0 rfl rfl rfl hl.1 rfl (Nat.le_of_ble_eq_true rfl) dX13_writeOrders_39 (fun H locs hP hD hS => ?_)
        refine lv_aload_n F.1 F.2.1 dX13_writeOrders_42 rfl (lv_at hl 0 rfl) ?_
        refine lv_bipush (v := 97) F.1 F.2.1 dX13_writeOrders_43 (by decide) ?_
        refine lv_aload_n F.1 F.2.1 dX13_writeOrders_45 rfl (lv_at hl 0 rfl) ?_
        refine lv_iload_n F.1 F.2.1 dX13_writeOrders_46 rfl (lv_at hl 1 rfl) ?_
        refine lv_iconst (v := 1) F.1 F.2.1 dX13_writeOrders_47 (by decide) ?_
        obtain ⟨z27, k28, h⟩ := bd_ok h
        refine cRV (As := [.int x1, .int 1]) (rest := [.int 97, .ref a0]) F hE hX hS (tX13_orderOf l dC dI g a0 a1 a2 a3 a4 a5 a6 a7 a8 uth uch ufc usv z25.1 ubl uba uea ufa uso udn uw uun usr ube ubs z25.2 ubu unu x1 1 k28) mbX13_orderOf q1839 ⟨(Nat.le_of_ble_eq_true rfl), (Nat.le_of_ble_eq_true rfl)⟩ ⟨Nat.zero_le _, Nat.zero_le _⟩ hP [0, 1, 2, 3, 4, 5, 6, 7, 8] rfl 0 rfl rfl rfl hl.1 rfl (Nat.le_of_ble_eq_true rfl) dX13_writeOrders_48 ?_
        refine lv_iadd F.1 F.2.1 dX13_writeOrders_51 ?_
        obtain ⟨z29, k30, h⟩ := bd_ok h
        refine cMV (As := [.int (97 + z27)]) (rest := []) (ws' := wX13 g a0 a1 a2 a3 a4 a5 a6 a7 a8 uth uch ufc usv z29.1 ubl uba uea ufa uso udn uw uun usr ube ubs z29.2 ubu unu) F hE hX (tX13_writes l dC dI g a0 a1 a2 a3 a4 a5 a6 a7 a8 uth uch ufc usv z25.1 ubl uba uea ufa uso udn uw uun usr ube ubs z25.2 ubu unu (97 + z27) k30) mbX13_writes q2108 ⟨(Nat.le_of_ble_eq_true rfl), (Nat.le_of_ble_eq_true rfl)⟩ ⟨(Nat.le_of_ble_eq_true rfl), (Nat.le_of_ble_eq_true rfl)⟩ hP hD hS hA [0, 1, 2, 3, 4, 5, 6, 7, 8] rfl rfl rfl rfl rfl 0 rfl rfl rfl hl.1 rfl (Nat.le_of_ble_eq_true rfl) dX13_writeOrders_52 (fun H locs hP hD hS => ?_)
        refine lv_aload_n F.1 F.2.1 dX13_writeOrders_55 rfl (lv_at hl 0 rfl) ?_
        refine lv_aload_n F.1 F.2.1 dX13_writeOrders_56 rfl (lv_at hl 0 rfl) ?_
        refine lv_iload_n F.1 F.2.1 dX13_writeOrders_57 rfl (lv_at hl 1 rfl) ?_
        refine lv_iconst (v := 2) F.1 F.2.1 dX13_writeOrders_58 (by decide) ?_
        obtain ⟨z31, k32, h⟩ := bd_ok h
        refine cRV (As := [.int x1, .int 2]) (rest := [.ref a0]) F hE hX hS (tX13_orderOf l dC dI g a0 a1 a2 a3 a4 a5 a6 a7 a8 uth uch ufc usv z29.1 ubl uba uea ufa uso udn uw uun usr ube ubs z29.2 ubu unu x1 2 k32) mbX13_orderOf q1839 ⟨(Nat.le_of_ble_eq_true rfl), (Nat.le_of_ble_eq_true rfl)⟩ ⟨Nat.zero_le _, Nat.zero_le _⟩ hP [0, 1, 2, 3, 4, 5, 6, 7, 8] rfl 0 rfl rfl rfl hl.1 rfl (Nat.le_of_ble_eq_true rfl) dX13_writeOrders_59 ?_
        obtain ⟨z33, k34, h⟩ := bd_ok h
        refine cMV (As := [.int z31]) (rest := []) (ws' := wX13 g a0 a1 a2 a3 a4 a5 a6 a7 a8 uth uch ufc usv z33.1 ubl uba uea ufa uso udn uw uun usr ube ubs z33.2 ubu unu) F hE hX (tX13_writesNumber l dC dI g a0 a1 a2 a3 a4 a5 a6 a7 a8 uth uch ufc usv z29.1 ubl uba uea ufa uso udn uw uun usr ube ubs z29.2 ubu unu z31 k34) mbX13_writesNumber q2104 ⟨(Nat.le_of_ble_eq_true rfl), (Nat.le_of_ble_eq_true rfl)⟩ ⟨(Nat.le_of_ble_eq_true rfl), (Nat.le_of_ble_eq_true rfl)⟩ hP hD hS hA [0, 1, 2, 3, 4, 5, 6, 7, 8] rfl rfl rfl rfl rfl 0 rfl rfl rfl hl.1 rfl (Nat.le_of_ble_eq_true rfl) dX13_writeOrders_62 (fun H locs hP hD hS => ?_)
        refine lv_aload_n F.1 F.2.1 dX13_writeOrders_65 rfl (lv_at hl 0 rfl) ?_
        refine lv_bipush (v := 64) F.1 F.2.1 dX13_writeOrders_66 (by decide) ?_
        obtain ⟨z35, k36, h⟩ := bd_ok h
        refine cMV (As := [.int 64]) (rest := []) (ws' := wX13 g a0 a1 a2 a3 a4 a5 a6 a7 a8 uth uch ufc usv z35.1 ubl uba uea ufa uso udn uw uun usr ube ubs z35.2 ubu unu) F hE hX (tX13_writes l dC dI g a0 a1 a2 a3 a4 a5 a6 a7 a8 uth uch ufc usv z33.1 ubl uba uea ufa uso udn uw uun usr ube ubs z33.2 ubu unu 64 k36) mbX13_writes q2108 ⟨(Nat.le_of_ble_eq_true rfl), (Nat.le_of_ble_eq_true rfl)⟩ ⟨(Nat.le_of_ble_eq_true rfl), (Nat.le_of_ble_eq_true rfl)⟩ hP hD hS hA [0, 1, 2, 3, 4, 5, 6, 7, 8] rfl rfl rfl rfl rfl 0 rfl rfl rfl hl.1 rfl (Nat.le_of_ble_eq_true rfl) dX13_writeOrders_68 (fun H locs hP hD hS => ?_)
        refine lv_aload_n F.1 F.2.1 dX13_writeOrders_71 rfl (lv_at hl 0 rfl) ?_
        refine lv_aload_n F.1 F.2.1 dX13_writeOrders_72 rfl (lv_at hl 0 rfl) ?_
        refine lv_iload_n F.1 F.2.1 dX13_writeOrders_73 rfl (lv_at hl 1 rfl) ?_
        refine lv_iconst (v := 3) F.1 F.2.1 dX13_writeOrders_74 (by decide) ?_
        obtain ⟨z37, k38, h⟩ := bd_ok h
        refine cRV (As := [.int x1, .int 3]) (rest := [.ref a0]) F hE hX hS (tX13_orderOf l dC dI g a0 a1 a2 a3 a4 a5 a6 a7 a8 uth uch ufc usv z35.1 ubl uba uea ufa uso udn uw uun usr ube ubs z35.2 ubu unu x1 3 k38) mbX13_orderOf q1839 ⟨(Nat.le_of_ble_eq_true rfl), (Nat.le_of_ble_eq_true rfl)⟩ ⟨Nat.zero_le _, Nat.zero_le _⟩ hP [0, 1, 2, 3, 4, 5, 6, 7, 8] rfl 0 rfl rfl rfl hl.1 rfl (Nat.le_of_ble_eq_true rfl) dX13_writeOrders_75 ?_
        obtain ⟨z39, k40, h⟩ := bd_ok h
        refine cMV (As := [.int z37]) (rest := []) (ws' := wX13 g a0 a1 a2 a3 a4 a5 a6 a7 a8 uth uch ufc usv z39.1 ubl uba uea ufa uso udn uw uun usr ube ubs z39.2 ubu unu) F hE hX (tX13_writesNumber l dC dI g a0 a1 a2 a3 a4 a5 a6 a7 a8 uth uch ufc usv z35.1 ubl uba uea ufa uso udn uw uun usr ube ubs z35.2 ubu unu z37 k40) mbX13_writesNumber q2104 ⟨(Nat.le_of_ble_eq_true rfl), (Nat.le_of_ble_eq_true rfl)⟩ ⟨(Nat.le_of_ble_eq_true rfl), (Nat.le_of_ble_eq_true rfl)⟩ hP hD hS hA [0, 1, 2, 3, 4, 5, 6, 7, 8] rfl rfl rfl rfl rfl 0 rfl rfl rfl hl.1 rfl (Nat.le_of_ble_eq_true rfl) dX13_writeOrders_78 (fun H locs hP hD hS => ?_)
        refine lv_iinc (v := x1 + 1) (lv' := [(1, .int (x1 + 1)), (0, .ref a0)]) F.1 F.2.1 dX13_writeOrders_81 hl (k := 1) rfl (by rfl) (by decide) rfl (fun ls hl => ?_)
        refine lv_goto (tgt := 12) F.1 F.2.1 dX13_writeOrders_84 (by decide) ?_
        exact ih (x1 + 1) z39.1 z39.2 h _ _ hP hD hS ls (lv_sub hl [1, 0] rfl)
set_option maxHeartbeats 4000000 in
set_option maxRecDepth 100000 in
theorem tX13_writeOrders (l : Launch) (dC : Nat → ClassId) (dI : Nat → Nat → Nat) (g : Nat → ClassId) (a0 a1 a2 a3 a4 a5 a6 a7 a8 : Nat) (uth : Int32) (uch : Int32) (ufc : Int32) (usv : Int32) (ull : Int32) (ubl : Int32) (uba : Int32) (uea : Int32) (ufa : Int32) (uso : Int32) (udn : Int32) (uw : Nat → Int32) (uun : Nat → Int32) (usr : Nat → Int32) (ube : Nat → Int32) (ubs : Nat → Int32) (uln : Nat → Int32) (ubu : Nat → Int32) (unu : Nat → Int32) {r : Int32 × Int32 × Int32 × (Nat → Int32)} (h : fX13_writeOrders uw uln = some r) : MU l yX13_writeOrders cX13_writeOrders 2 (some .int) 2 44 0 0 dC dI g [.ref a0] (wX13 g a0 a1 a2 a3 a4 a5 a6 a7 a8 uth uch ufc usv ull ubl uba uea ufa uso udn uw uun usr ube ubs uln ubu unu) (wX13 g a0 a1 a2 a3 a4 a5 a6 a7 a8 r.2.1 uch ufc usv r.2.2.1 ubl uba uea ufa uso udn uw uun usr ube ubs r.2.2.2 ubu unu) (some (.int r.1)) := by
  refine MU_of (by decide) (Nat.le_of_ble_eq_true rfl) ?_
  intro p e s m below meth c ls F hr hlocks hE hX hA hP hD hS hl
  generalize va_A (wX13 g a0 a1 a2 a3 a4 a5 a6 a7 a8 uth uch ufc usv ull ubl uba uea ufa uso udn uw uun usr ube ubs uln ubu unu) s.heap.size = A at hA hD hS hX ⊢
  replace F : CF p m c cX13_writeOrders 2 s _ RX13 := F
  replace hl : lv_has ls 2 [(0, .ref a0)] := hl
  rw [fX13_writeOrders] at h
  refine lv_aload_n F.1 F.2.1 dX13_writeOrders_0 rfl (lv_at hl 0 rfl) ?_
  refine lv_iconst (v := 0) F.1 F.2.1 dX13_writeOrders_1 (by decide) ?_
  refine pF (v := .int 0) F hE hP hD hS 0 rfl rfl inX13 tyX13 tyX13_ok nmX13 0 (by decide) q1684 rfl rfl rfl (Nat.le_of_ble_eq_true rfl) dX13_writeOrders_2 (fun H locs hP hD hS => ?_)
  replace hP : va_P (dC, dI) vwCl (wX13 g a0 a1 a2 a3 a4 a5 a6 a7 a8 0 uch ufc usv ull ubl uba uea ufa uso udn uw uun usr ube ubs uln ubu unu) H := hP
  replace hD : va_D A (wX13 g a0 a1 a2 a3 a4 a5 a6 a7 a8 0 uch ufc usv ull ubl uba uea ufa uso udn uw uun usr ube ubs uln ubu unu) := hD
  refine lv_aload_n F.1 F.2.1 dX13_writeOrders_5 rfl (lv_at hl 0 rfl) ?_
  refine lv_iconst (v := 0) F.1 F.2.1 dX13_writeOrders_6 (by decide) ?_
  refine pF (v := .int 0) F hE hP hD hS 0 rfl rfl inX13 tyX13 tyX13_ok nmX13 10 (by decide) q1694 rfl rfl rfl (Nat.le_of_ble_eq_true rfl) dX13_writeOrders_7 (fun H locs hP hD hS => ?_)
  replace hP : va_P (dC, dI) vwCl (wX13 g a0 a1 a2 a3 a4 a5 a6 a7 a8 0 uch ufc usv 0 ubl uba uea ufa uso udn uw uun usr ube ubs uln ubu unu) H := hP
  replace hD : va_D A (wX13 g a0 a1 a2 a3 a4 a5 a6 a7 a8 0 uch ufc usv 0 ubl uba uea ufa uso udn uw uun usr ube ubs uln ubu unu) := hD
  refine lv_iconst (v := 0) F.1 F.2.1 dX13_writeOrders_10 (by decide) ?_
  refine lv_istore_n (lv' := [(1, .int 0), (0, .ref a0)]) F.1 F.2.1 dX13_writeOrders_11 rfl hl (by decide) rfl (fun ls hl => ?_)
  exact tX13_writeOrders_L12 F hr hlocks hE hX hA 0 uch ufc usv ubl uba uea ufa uso udn uw uun usr ube ubs ubu unu FU 0 0 uln h _ _ hP hD hS ls (lv_sub hl [1, 0] rfl)
/-! WireCutterModel.charAt -/
def fX13_charAt (ull : Int32) (uln : Nat → Int32) (p1 : Int32) : Option (Int32 × Int32) :=
  (fX13_isBetween p1 0 (ull - 1)).bind fun z1 =>
  if z1 = 0 then
    (fX13_fails 1).bind fun z4 =>
    some ((z4.1.toUInt32 % 65536).toInt32, z4.2)
  else
    gd (inR p1 200) <|
    gd (isC (uln p1.toNatClampNeg)) <|
    some (uln p1.toNatClampNeg, 0)
theorem mbX13_charAt : MV yX13_charAt cX13_charAt 2 (some .char) 1 := ⟨⟨q2119, q16, by decide +kernel⟩, q2117, q2118⟩
set_option maxHeartbeats 4000000 in
set_option maxRecDepth 100000 in
theorem tX13_charAt (l : Launch) (dC : Nat → ClassId) (dI : Nat → Nat → Nat) (g : Nat → ClassId) (a0 a1 a2 a3 a4 a5 a6 a7 a8 : Nat) (uth : Int32) (uch : Int32) (ufc : Int32) (usv : Int32) (ull : Int32) (ubl : Int32) (uba : Int32) (uea : Int32) (ufa : Int32) (uso : Int32) (udn : Int32) (uw : Nat → Int32) (uun : Nat → Int32) (usr : Nat → Int32) (ube : Nat → Int32) (ubs : Nat → Int32) (uln : Nat → Int32) (ubu : Nat → Int32) (unu : Nat → Int32) (p1 : Int32) {r : Int32 × Int32} (h : fX13_charAt ull uln p1 = some r) : MU l yX13_charAt cX13_charAt 2 (some .char) 1 22 0 0 dC dI g [.ref a0, .int p1] (wX13 g a0 a1 a2 a3 a4 a5 a6 a7 a8 uth uch ufc usv ull ubl uba uea ufa uso udn uw uun usr ube ubs uln ubu unu) (wX13 g a0 a1 a2 a3 a4 a5 a6 a7 a8 r.2 uch ufc usv ull ubl uba uea ufa uso udn uw uun usr ube ubs uln ubu unu) (some (.int r.1)) := by
  refine MU_of (by decide) (Nat.le_of_ble_eq_true rfl) ?_
  intro p e s m below meth c ls F hr hlocks hE hX hA hP hD hS hl
  generalize va_A (wX13 g a0 a1 a2 a3 a4 a5 a6 a7 a8 uth uch ufc usv ull ubl uba uea ufa uso udn uw uun usr ube ubs uln ubu unu) s.heap.size = A at hA hD hS hX ⊢
  replace F : CF p m c cX13_charAt 2 s _ RX13 := F
  replace hl : lv_has ls 2 [(0, .ref a0), (1, .int p1)] := hl
  rw [fX13_charAt] at h
  refine lv_aload_n F.1 F.2.1 dX13_charAt_0 rfl (lv_at hl 0 rfl) ?_
  refine lv_iconst (v := 0) F.1 F.2.1 dX13_charAt_1 (by decide) ?_
  refine pF (v := .int 0) F hE hP hD hS 0 rfl rfl inX13 tyX13 tyX13_ok nmX13 0 (by decide) q1684 rfl rfl rfl (Nat.le_of_ble_eq_true rfl) dX13_charAt_2 (fun H locs hP hD hS => ?_)
  replace hP : va_P (dC, dI) vwCl (wX13 g a0 a1 a2 a3 a4 a5 a6 a7 a8 0 uch ufc usv ull ubl uba uea ufa uso udn uw uun usr ube ubs uln ubu unu) H := hP
  replace hD : va_D A (wX13 g a0 a1 a2 a3 a4 a5 a6 a7 a8 0 uch ufc usv ull ubl uba uea ufa uso udn uw uun usr ube ubs uln ubu unu) := hD
  refine lv_iload_n F.1 F.2.1 dX13_charAt_5 rfl (lv_at hl 1 rfl) ?_
  refine lv_iconst (v := 0) F.1 F.2.1 dX13_charAt_6 (by decide) ?_
  refine lv_aload_n F.1 F.2.1 dX13_charAt_7 rfl (lv_at hl 0 rfl) ?_
  refine gF (v := .int ull) F hE hP 0 rfl rfl inX13 10 (by decide) q1694 rfl dX13_charAt_8 ?_
  refine lv_iconst (v := 1) F.1 F.2.1 dX13_charAt_11 (by decide) ?_
  refine lv_isub F.1 F.2.1 dX13_charAt_12 ?_
  obtain ⟨z1, k2, h⟩ := bd_ok h
  refine cRS (As := [.int p1, .int 0, .int (ull - 1)]) (rest := []) F hE hX hS (tX13_isBetween l dC dI g p1 0 (ull - 1) k2) mbX13_isBetween q1753 ⟨(Nat.le_of_ble_eq_true rfl), (Nat.le_of_ble_eq_true rfl)⟩ ⟨Nat.zero_le _, Nat.zero_le _⟩ hP [] rfl rfl hl.1 rfl (Nat.le_of_ble_eq_true rfl) dX13_charAt_13 ?_
  refine lv_if_eq (tgt := 26) F.1 F.2.1 dX13_charAt_16 (by decide) (fun k3 => ?_) (fun k3 => ?_)
  · replace h := it_t k3 h
    refine lv_aload_n F.1 F.2.1 dX13_charAt_26 rfl (lv_at hl 0 rfl) ?_
    refine lv_iconst (v := 1) F.1 F.2.1 dX13_charAt_27 (by decide) ?_
    obtain ⟨z4, k5, h⟩ := bd_ok h
    refine cMV (As := [.int 1]) (rest := []) (ws' := wX13 g a0 a1 a2 a3 a4 a5 a6 a7 a8 z4.2 uch ufc usv ull ubl uba uea ufa uso udn uw uun usr ube ubs uln ubu unu) F hE hX (tX13_fails l dC dI g a0 a1 a2 a3 a4 a5 a6 a7 a8 0 uch ufc usv ull ubl uba uea ufa uso udn uw uun usr ube ubs uln ubu unu 1 k5) mbX13_fails q1756 ⟨(Nat.le_of_ble_eq_true rfl), (Nat.le_of_ble_eq_true rfl)⟩ ⟨(Nat.le_of_ble_eq_true rfl), (Nat.le_of_ble_eq_true rfl)⟩ hP hD hS hA [0, 1, 2, 3, 4, 5, 6, 7, 8] rfl rfl rfl rfl rfl 0 rfl rfl rfl hl.1 rfl (Nat.le_of_ble_eq_true rfl) dX13_charAt_28 (fun H locs hP hD hS => ?_)
    refine lv_i2c F.1 F.2.1 dX13_charAt_31 rfl ?_
    cases h
    exact MU_z (v := ((z4.1.toUInt32 % 65536).toInt32)) F hr hlocks (Nat.le_refl _) (Nat.le_refl _) (pk_nc _) hP hS dX13_charAt_32
  · replace h := it_f k3 h
    refine lv_aload_n F.1 F.2.1 dX13_charAt_19 rfl (lv_at hl 0 rfl) ?_
    refine gF (v := .ref a6) F hE hP 0 rfl rfl inX13 9 (by decide) q1693 rfl dX13_charAt_20 ?_
    refine lv_iload_n F.1 F.2.1 dX13_charAt_23 rfl (lv_at hl 1 rfl) ?_
    obtain ⟨k6, h⟩ := gd_ok h
    refine aLc (k := p1.toNatClampNeg) F hE hP 6 1 rfl rfl k6 rfl dX13_charAt_24 ?_
    obtain ⟨k7, h⟩ := gd_ok h
    cases h
    exact MU_z (v := (uln p1.toNatClampNeg)) F hr hlocks (Nat.le_refl _) (Nat.le_refl _) (isC_n k7).1 hP hS dX13_charAt_25
/-! WireCutterModel.type -/
def fX13_type (ubl : Int32) (ubu : Nat → Int32) (p1 : Int32) : Option (Int32 × Int32 × Int32 × (Nat → Int32)) :=
  if ubl = 60 then
    (fX13_fails 1).bind fun z3 =>
    some (z3.1, z3.2, ubl, ubu)
  else
    gd (inR ubl 60) <|
    some (ubl + 1, 0, ubl + 1, upd ubu ubl.toNatClampNeg (vp_nar .char p1))
theorem mbX13_type : MV yX13_type cX13_type 2 (some .int) 1 := ⟨⟨q2123, q16, by decide +kernel⟩, q2121, q2122⟩
set_option maxHeartbeats 4000000 in
set_option maxRecDepth 100000 in
theorem tX13_type (l : Launch) (dC : Nat → ClassId) (dI : Nat → Nat → Nat) (g : Nat → ClassId) (a0 a1 a2 a3 a4 a5 a6 a7 a8 : Nat) (uth : Int32) (uch : Int32) (ufc : Int32) (usv : Int32) (ull : Int32) (ubl : Int32) (uba : Int32) (uea : Int32) (ufa : Int32) (uso : Int32) (udn : Int32) (uw : Nat → Int32) (uun : Nat → Int32) (usr : Nat → Int32) (ube : Nat → Int32) (ubs : Nat → Int32) (uln : Nat → Int32) (ubu : Nat → Int32) (unu : Nat → Int32) (p1 : Int32) {r : Int32 × Int32 × Int32 × (Nat → Int32)} (h : fX13_type ubl ubu p1 = some r) : MU l yX13_type cX13_type 2 (some .int) 1 21 0 0 dC dI g [.ref a0, .int p1] (wX13 g a0 a1 a2 a3 a4 a5 a6 a7 a8 uth uch ufc usv ull ubl uba uea ufa uso udn uw uun usr ube ubs uln ubu unu) (wX13 g a0 a1 a2 a3 a4 a5 a6 a7 a8 r.2.1 uch ufc usv ull r.2.2.1 uba uea ufa uso udn uw uun usr ube ubs uln r.2.2.2 unu) (some (.int r.1)) := by
  refine MU_of (by decide) (Nat.le_of_ble_eq_true rfl) ?_
  intro p e s m below meth c ls F hr hlocks hE hX hA hP hD hS hl
  generalize va_A (wX13 g a0 a1 a2 a3 a4 a5 a6 a7 a8 uth uch ufc usv ull ubl uba uea ufa uso udn uw uun usr ube ubs uln ubu unu) s.heap.size = A at hA hD hS hX ⊢
  replace F : CF p m c cX13_type 2 s _ RX13 := F
  replace hl : lv_has ls 2 [(0, .ref a0), (1, .int p1)] := hl
  rw [fX13_type] at h
  refine lv_aload_n F.1 F.2.1 dX13_type_0 rfl (lv_at hl 0 rfl) ?_
  refine lv_iconst (v := 0) F.1 F.2.1 dX13_type_1 (by decide) ?_
  refine pF (v := .int 0) F hE hP hD hS 0 rfl rfl inX13 tyX13 tyX13_ok nmX13 0 (by decide) q1684 rfl rfl rfl (Nat.le_of_ble_eq_true rfl) dX13_type_2 (fun H locs hP hD hS => ?_)
  replace hP : va_P (dC, dI) vwCl (wX13 g a0 a1 a2 a3 a4 a5 a6 a7 a8 0 uch ufc usv ull ubl uba uea ufa uso udn uw uun usr ube ubs uln ubu unu) H := hP
  replace hD : va_D A (wX13 g a0 a1 a2 a3 a4 a5 a6 a7 a8 0 uch ufc usv ull ubl uba uea ufa uso udn uw uun usr ube ubs uln ubu unu) := hD
  refine lv_aload_n F.1 F.2.1 dX13_type_5 rfl (lv_at hl 0 rfl) ?_
  refine gF (v := .int ubl) F hE hP 0 rfl rfl inX13 12 (by decide) q1696 rfl dX13_type_6 ?_
  refine lv_bipush (v := 60) F.1 F.2.1 dX13_type_9 (by decide) ?_
  refine lv_icmp_ne (tgt := 20) F.1 F.2.1 dX13_type_11 (by decide) (fun k1 => ?_) (fun k1 => ?_)
  · replace h := it_f k1 h
    refine lv_aload_n F.1 F.2.1 dX13_type_20 rfl (lv_at hl 0 rfl) ?_
    refine gF (v := .ref a7) F hE hP 0 rfl rfl inX13 11 (by decide) q1695 rfl dX13_type_21 ?_
    refine lv_aload_n F.1 F.2.1 dX13_type_24 rfl (lv_at hl 0 rfl) ?_
    refine gF (v := .int ubl) F hE hP 0 rfl rfl inX13 12 (by decide) q1696 rfl dX13_type_25 ?_
    refine lv_iload_n F.1 F.2.1 dX13_type_28 rfl (lv_at hl 1 rfl) ?_
    obtain ⟨k2, h⟩ := gd_ok h
    refine aSc (k := ubl.toNatClampNeg) F hE hP hD hS 7 1 rfl rfl k2 rfl dX13_type_29 (fun H locs hP hD hS => ?_)
    replace hP : va_P (dC, dI) vwCl (wX13 g a0 a1 a2 a3 a4 a5 a6 a7 a8 0 uch ufc usv ull ubl uba uea ufa uso udn uw uun usr ube ubs uln (upd ubu ubl.toNatClampNeg (vp_nar .char p1)) unu) H := hP
    replace hD : va_D A (wX13 g a0 a1 a2 a3 a4 a5 a6 a7 a8 0 uch ufc usv ull ubl uba uea ufa uso udn uw uun usr ube ubs uln (upd ubu ubl.toNatClampNeg (vp_nar .char p1)) unu) := hD
    refine lv_aload_n F.1 F.2.1 dX13_type_30 rfl (lv_at hl 0 rfl) ?_
    refine lv_dup F.1 F.2.1 dX13_type_31 rfl ?_
    refine gF (v := .int ubl) F hE hP 0 rfl rfl inX13 12 (by decide) q1696 rfl dX13_type_32 ?_
    refine lv_iconst (v := 1) F.1 F.2.1 dX13_type_35 (by decide) ?_
    refine lv_iadd F.1 F.2.1 dX13_type_36 ?_
    refine pF (v := .int (ubl + 1)) F hE hP hD hS 0 rfl rfl inX13 tyX13 tyX13_ok nmX13 12 (by decide) q1696 rfl rfl rfl (Nat.le_of_ble_eq_true rfl) dX13_type_37 (fun H locs hP hD hS => ?_)
    replace hP : va_P (dC, dI) vwCl (wX13 g a0 a1 a2 a3 a4 a5 a6 a7 a8 0 uch ufc usv ull (ubl + 1) uba uea ufa uso udn uw uun usr ube ubs uln (upd ubu ubl.toNatClampNeg (vp_nar .char p1)) unu) H := hP
    replace hD : va_D A (wX13 g a0 a1 a2 a3 a4 a5 a6 a7 a8 0 uch ufc usv ull (ubl + 1) uba uea ufa uso udn uw uun usr ube ubs uln (upd ubu ubl.toNatClampNeg (vp_nar .char p1)) unu) := hD
    refine lv_aload_n F.1 F.2.1 dX13_type_40 rfl (lv_at hl 0 rfl) ?_
    refine gF (v := .int (ubl + 1)) F hE hP 0 rfl rfl inX13 12 (by decide) q1696 rfl dX13_type_41 ?_
    cases h
    exact MU_i F hr hlocks (Nat.le_refl _) (Nat.le_refl _) hP hS dX13_type_44
  · replace h := it_t k1 h
    refine lv_aload_n F.1 F.2.1 dX13_type_14 rfl (lv_at hl 0 rfl) ?_
    refine lv_iconst (v := 1) F.1 F.2.1 dX13_type_15 (by decide) ?_
    obtain ⟨z3, k4, h⟩ := bd_ok h
    refine cMV (As := [.int 1]) (rest := []) (ws' := wX13 g a0 a1 a2 a3 a4 a5 a6 a7 a8 z3.2 uch ufc usv ull ubl uba uea ufa uso udn uw uun usr ube ubs uln ubu unu) F hE hX (tX13_fails l dC dI g a0 a1 a2 a3 a4 a5 a6 a7 a8 0 uch ufc usv ull ubl uba uea ufa uso udn uw uun usr ube ubs uln ubu unu 1 k4) mbX13_fails q1756 ⟨(Nat.le_of_ble_eq_true rfl), (Nat.le_of_ble_eq_true rfl)⟩ ⟨(Nat.le_of_ble_eq_true rfl), (Nat.le_of_ble_eq_true rfl)⟩ hP hD hS hA [0, 1, 2, 3, 4, 5, 6, 7, 8] rfl rfl rfl rfl rfl 0 rfl rfl rfl hl.1 rfl (Nat.le_of_ble_eq_true rfl) dX13_type_16 (fun H locs hP hD hS => ?_)
    cases h
    exact MU_i F hr hlocks (Nat.le_refl _) (Nat.le_refl _) hP hS dX13_type_19
/-! WireCutterModel.nextChar -/
def fX13_nextChar (ubl : Int32) (uba : Int32) (ubu : Nat → Int32) : Option (Int32) :=
  if ubl ≤ uba then
    some ((-1))
  else
    gd (inR uba 60) <|
    some (ubu uba.toNatClampNeg)
theorem mbX13_nextChar : MV yX13_nextChar cX13_nextChar 1 (some .int) 0 := ⟨⟨q2139, q16, by decide +kernel⟩, q2138, qs69⟩
set_option maxHeartbeats 4000000 in
set_option maxRecDepth 100000 in
theorem tX13_nextChar (l : Launch) (dC : Nat → ClassId) (dI : Nat → Nat → Nat) (g : Nat → ClassId) (a0 a1 a2 a3 a4 a5 a6 a7 a8 : Nat) (uth : Int32) (uch : Int32) (ufc : Int32) (usv : Int32) (ull : Int32) (ubl : Int32) (uba : Int32) (uea : Int32) (ufa : Int32) (uso : Int32) (udn : Int32) (uw : Nat → Int32) (uun : Nat → Int32) (usr : Nat → Int32) (ube : Nat → Int32) (ubs : Nat → Int32) (uln : Nat → Int32) (ubu : Nat → Int32) (unu : Nat → Int32) {r : Int32} (h : fX13_nextChar ubl uba ubu = some r) : RO l yX13_nextChar cX13_nextChar 1 (some .int) 0 0 dC dI g [.ref a0] (wX13 g a0 a1 a2 a3 a4 a5 a6 a7 a8 uth uch ufc usv ull ubl uba uea ufa uso udn uw uun usr ube ubs uln ubu unu) (some (.int r)) := by
  refine RO_of (by decide) (Nat.le_of_ble_eq_true rfl) ?_
  intro p e s m below meth c ls F hr hlocks hE hX hP hl
  replace F : CF p m c cX13_nextChar 1 s _ RX13 := F
  replace hl : lv_has ls 1 [(0, .ref a0)] := hl
  rw [fX13_nextChar] at h
  refine lv_aload_n F.1 F.2.1 dX13_nextChar_0 rfl (lv_at hl 0 rfl) ?_
  refine gF (v := .int uba) F hE hP 0 rfl rfl inX13 13 (by decide) q1697 rfl dX13_nextChar_1 ?_
  refine lv_aload_n F.1 F.2.1 dX13_nextChar_4 rfl (lv_at hl 0 rfl) ?_
  refine gF (v := .int ubl) F hE hP 0 rfl rfl inX13 12 (by decide) q1696 rfl dX13_nextChar_5 ?_
  refine lv_icmp_ge (tgt := 23) F.1 F.2.1 dX13_nextChar_8 (by decide) (fun k1 => ?_) (fun k1 => ?_)
  · replace h := it_t k1 h
    refine lv_iconst (v := (-1)) F.1 F.2.1 dX13_nextChar_23 (by decide) ?_
    cases h
    exact RO_i F hr hlocks dX13_nextChar_24
  · replace h := it_f k1 h
    refine lv_aload_n F.1 F.2.1 dX13_nextChar_11 rfl (lv_at hl 0 rfl) ?_
    refine gF (v := .ref a7) F hE hP 0 rfl rfl inX13 11 (by decide) q1695 rfl dX13_nextChar_12 ?_
    refine lv_aload_n F.1 F.2.1 dX13_nextChar_15 rfl (lv_at hl 0 rfl) ?_
    refine gF (v := .int uba) F hE hP 0 rfl rfl inX13 13 (by decide) q1697 rfl dX13_nextChar_16 ?_
    obtain ⟨k2, h⟩ := gd_ok h
    refine aLc (k := uba.toNatClampNeg) F hE hP 7 1 rfl rfl k2 rfl dX13_nextChar_19 ?_
    refine lv_goto (tgt := 24) F.1 F.2.1 dX13_nextChar_20 (by decide) ?_
    cases h
    exact RO_i F hr hlocks dX13_nextChar_24
/-! WireCutterModel.reads -/
def fX13_reads (ubl : Int32) (uba : Int32) (ubu : Nat → Int32) (p1 : Int32) : Option (Int32 × Int32) :=
  (fX13_nextChar ubl uba ubu).bind fun z1 =>
  if z1 = p1 then
    some (1, uba + 1)
  else
    some (0, uba)
theorem mbX13_reads : MV yX13_reads cX13_reads 2 (some .boolean) 1 := ⟨⟨q2143, q16, by decide +kernel⟩, q2142, qs70⟩
set_option maxHeartbeats 4000000 in
set_option maxRecDepth 100000 in
theorem tX13_reads (l : Launch) (dC : Nat → ClassId) (dI : Nat → Nat → Nat) (g : Nat → ClassId) (a0 a1 a2 a3 a4 a5 a6 a7 a8 : Nat) (uth : Int32) (uch : Int32) (ufc : Int32) (usv : Int32) (ull : Int32) (ubl : Int32) (uba : Int32) (uea : Int32) (ufa : Int32) (uso : Int32) (udn : Int32) (uw : Nat → Int32) (uun : Nat → Int32) (usr : Nat → Int32) (ube : Nat → Int32) (ubs : Nat → Int32) (uln : Nat → Int32) (ubu : Nat → Int32) (unu : Nat → Int32) (p1 : Int32) {r : Int32 × Int32} (h : fX13_reads ubl uba ubu p1 = some r) : MU l yX13_reads cX13_reads 2 (some .boolean) 1 20 0 0 dC dI g [.ref a0, .int p1] (wX13 g a0 a1 a2 a3 a4 a5 a6 a7 a8 uth uch ufc usv ull ubl uba uea ufa uso udn uw uun usr ube ubs uln ubu unu) (wX13 g a0 a1 a2 a3 a4 a5 a6 a7 a8 uth uch ufc usv ull ubl r.2 uea ufa uso udn uw uun usr ube ubs uln ubu unu) (some (.int r.1)) := by
  refine MU_of (by decide) (Nat.le_of_ble_eq_true rfl) ?_
  intro p e s m below meth c ls F hr hlocks hE hX hA hP hD hS hl
  generalize va_A (wX13 g a0 a1 a2 a3 a4 a5 a6 a7 a8 uth uch ufc usv ull ubl uba uea ufa uso udn uw uun usr ube ubs uln ubu unu) s.heap.size = A at hA hD hS hX ⊢
  replace F : CF p m c cX13_reads 2 s _ RX13 := F
  replace hl : lv_has ls 2 [(0, .ref a0), (1, .int p1)] := hl
  rw [fX13_reads] at h
  refine lv_aload_n F.1 F.2.1 dX13_reads_0 rfl (lv_at hl 0 rfl) ?_
  obtain ⟨z1, k2, h⟩ := bd_ok h
  refine cRV (As := []) (rest := []) F hE hX hS (tX13_nextChar l dC dI g a0 a1 a2 a3 a4 a5 a6 a7 a8 uth uch ufc usv ull ubl uba uea ufa uso udn uw uun usr ube ubs uln ubu unu k2) mbX13_nextChar q2136 ⟨(Nat.le_of_ble_eq_true rfl), (Nat.le_of_ble_eq_true rfl)⟩ ⟨Nat.zero_le _, Nat.zero_le _⟩ hP [0, 1, 2, 3, 4, 5, 6, 7, 8] rfl 0 rfl rfl rfl hl.1 rfl (Nat.le_of_ble_eq_true rfl) dX13_reads_1 ?_
  refine lv_iload_n F.1 F.2.1 dX13_reads_4 rfl (lv_at hl 1 rfl) ?_
  refine lv_icmp_eq (tgt := 10) F.1 F.2.1 dX13_reads_5 (by decide) (fun k3 => ?_) (fun k3 => ?_)
  · replace h := it_t k3 h
    refine lv_aload_n F.1 F.2.1 dX13_reads_10 rfl (lv_at hl 0 rfl) ?_
    refine lv_dup F.1 F.2.1 dX13_reads_11 rfl ?_
    refine gF (v := .int uba) F hE hP 0 rfl rfl inX13 13 (by decide) q1697 rfl dX13_reads_12 ?_
    refine lv_iconst (v := 1) F.1 F.2.1 dX13_reads_15 (by decide) ?_
    refine lv_iadd F.1 F.2.1 dX13_reads_16 ?_
    refine pF (v := .int (uba + 1)) F hE hP hD hS 0 rfl rfl inX13 tyX13 tyX13_ok nmX13 13 (by decide) q1697 rfl rfl rfl (Nat.le_of_ble_eq_true rfl) dX13_reads_17 (fun H locs hP hD hS => ?_)
    replace hP : va_P (dC, dI) vwCl (wX13 g a0 a1 a2 a3 a4 a5 a6 a7 a8 uth uch ufc usv ull ubl (uba + 1) uea ufa uso udn uw uun usr ube ubs uln ubu unu) H := hP
    replace hD : va_D A (wX13 g a0 a1 a2 a3 a4 a5 a6 a7 a8 uth uch ufc usv ull ubl (uba + 1) uea ufa uso udn uw uun usr ube ubs uln ubu unu) := hD
    refine lv_iconst (v := 1) F.1 F.2.1 dX13_reads_20 (by decide) ?_
    cases h
    exact MU_z (v := 1) F hr hlocks (Nat.le_refl _) (Nat.le_refl _) rfl hP hS dX13_reads_21
  · replace h := it_f k3 h
    refine lv_iconst (v := 0) F.1 F.2.1 dX13_reads_8 (by decide) ?_
    cases h
    exact MU_z (v := 0) F hr hlocks (Nat.le_refl _) (Nat.le_refl _) rfl hP hS dX13_reads_9
/-! WireCutterModel.isDigitNext -/
def fX13_isDigitNext (ubl : Int32) (uba : Int32) (ubu : Nat → Int32) : Option (Int32) :=
  (fX13_nextChar ubl uba ubu).bind fun z1 =>
  (fX13_isBetween z1 48 57).bind fun z3 =>
  gd (isB z3) <|
  some (z3)
theorem mbX13_isDigitNext : MV yX13_isDigitNext cX13_isDigitNext 1 (some .boolean) 0 := ⟨⟨q2159, q16, by decide +kernel⟩, q2158, qs74⟩
set_option maxHeartbeats 4000000 in
set_option maxRecDepth 100000 in
theorem tX13_isDigitNext (l : Launch) (dC : Nat → ClassId) (dI : Nat → Nat → Nat) (g : Nat → ClassId) (a0 a1 a2 a3 a4 a5 a6 a7 a8 : Nat) (uth : Int32) (uch : Int32) (ufc : Int32) (usv : Int32) (ull : Int32) (ubl : Int32) (uba : Int32) (uea : Int32) (ufa : Int32) (uso : Int32) (udn : Int32) (uw : Nat → Int32) (uun : Nat → Int32) (usr : Nat → Int32) (ube : Nat → Int32) (ubs : Nat → Int32) (uln : Nat → Int32) (ubu : Nat → Int32) (unu : Nat → Int32) {r : Int32} (h : fX13_isDigitNext ubl uba ubu = some r) : RO l yX13_isDigitNext cX13_isDigitNext 1 (some .boolean) 1 22 dC dI g [.ref a0] (wX13 g a0 a1 a2 a3 a4 a5 a6 a7 a8 uth uch ufc usv ull ubl uba uea ufa uso udn uw uun usr ube ubs uln ubu unu) (some (.int r)) := by
  refine RO_of (by decide) (Nat.le_of_ble_eq_true rfl) ?_
  intro p e s m below meth c ls F hr hlocks hE hX hP hl
  replace F : CF p m c cX13_isDigitNext 1 s _ RX13 := F
  replace hl : lv_has ls 1 [(0, .ref a0)] := hl
  rw [fX13_isDigitNext] at h
  refine lv_aload_n F.1 F.2.1 dX13_isDigitNext_0 rfl (lv_at hl 0 rfl) ?_
  obtain ⟨z1, k2, h⟩ := bd_ok h
  refine cRV (As := []) (rest := []) F hE hX va_S.rf (tX13_nextChar l dC dI g a0 a1 a2 a3 a4 a5 a6 a7 a8 uth uch ufc usv ull ubl uba uea ufa uso udn uw uun usr ube ubs uln ubu unu k2) mbX13_nextChar q2136 ⟨(Nat.le_of_ble_eq_true rfl), (Nat.le_of_ble_eq_true rfl)⟩ ⟨Nat.zero_le _, Nat.zero_le _⟩ hP [0, 1, 2, 3, 4, 5, 6, 7, 8] rfl 0 rfl rfl rfl hl.1 rfl (Nat.le_of_ble_eq_true rfl) dX13_isDigitNext_1 ?_
  refine lv_bipush (v := 48) F.1 F.2.1 dX13_isDigitNext_4 (by decide) ?_
  refine lv_bipush (v := 57) F.1 F.2.1 dX13_isDigitNext_6 (by decide) ?_
  obtain ⟨z3, k4, h⟩ := bd_ok h
  refine cRS (As := [.int z1, .int 48, .int 57]) (rest := []) F hE hX va_S.rf (tX13_isBetween l dC dI g z1 48 57 k4) mbX13_isBetween q1753 ⟨(Nat.le_of_ble_eq_true rfl), (Nat.le_of_ble_eq_true rfl)⟩ ⟨Nat.zero_le _, Nat.zero_le _⟩ hP [] rfl rfl hl.1 rfl (Nat.le_of_ble_eq_true rfl) dX13_isDigitNext_8 ?_
  obtain ⟨k5, h⟩ := gd_ok h
  cases h
  exact RO_z F hr hlocks (isB_n k5).1 dX13_isDigitNext_11
/-! WireCutterModel.readsDigit -/
def fX13_readsDigit (ubl : Int32) (uba : Int32) (ubu : Nat → Int32) (unu : Nat → Int32) (p1 : Int32) : Option (Int32 × Int32 × (Nat → Int32)) :=
  (fX13_isDigitNext ubl uba ubu).bind fun z1 =>
  if z1 = 0 then
    some (0, uba, unu)
  else
    (fX13_nextChar ubl uba ubu).bind fun z4 =>
    gd (inR p1 3) <|
    some (1, uba + 1, upd unu p1.toNatClampNeg (z4 - 48))
theorem mbX13_readsDigit : MV yX13_readsDigit cX13_readsDigit 2 (some .boolean) 1 := ⟨⟨q2155, q16, by decide +kernel⟩, q2154, qs73⟩
set_option maxHeartbeats 4000000 in
set_option maxRecDepth 100000 in
theorem tX13_readsDigit (l : Launch) (dC : Nat → ClassId) (dI : Nat → Nat → Nat) (g : Nat → ClassId) (a0 a1 a2 a3 a4 a5 a6 a7 a8 : Nat) (uth : Int32) (uch : Int32) (ufc : Int32) (usv : Int32) (ull : Int32) (ubl : Int32) (uba : Int32) (uea : Int32) (ufa : Int32) (uso : Int32) (udn : Int32) (uw : Nat → Int32) (uun : Nat → Int32) (usr : Nat → Int32) (ube : Nat → Int32) (ubs : Nat → Int32) (uln : Nat → Int32) (ubu : Nat → Int32) (unu : Nat → Int32) (p1 : Int32) {r : Int32 × Int32 × (Nat → Int32)} (h : fX13_readsDigit ubl uba ubu unu p1 = some r) : MU l yX13_readsDigit cX13_readsDigit 2 (some .boolean) 2 42 0 0 dC dI g [.ref a0, .int p1] (wX13 g a0 a1 a2 a3 a4 a5 a6 a7 a8 uth uch ufc usv ull ubl uba uea ufa uso udn uw uun usr ube ubs uln ubu unu) (wX13 g a0 a1 a2 a3 a4 a5 a6 a7 a8 uth uch ufc usv ull ubl r.2.1 uea ufa uso udn uw uun usr ube ubs uln ubu r.2.2) (some (.int r.1)) := by
  refine MU_of (by decide) (Nat.le_of_ble_eq_true rfl) ?_
  intro p e s m below meth c ls F hr hlocks hE hX hA hP hD hS hl
  generalize va_A (wX13 g a0 a1 a2 a3 a4 a5 a6 a7 a8 uth uch ufc usv ull ubl uba uea ufa uso udn uw uun usr ube ubs uln ubu unu) s.heap.size = A at hA hD hS hX ⊢
  replace F : CF p m c cX13_readsDigit 2 s _ RX13 := F
  replace hl : lv_has ls 2 [(0, .ref a0), (1, .int p1)] := hl
  rw [fX13_readsDigit] at h
  refine lv_aload_n F.1 F.2.1 dX13_readsDigit_0 rfl (lv_at hl 0 rfl) ?_
  obtain ⟨z1, k2, h⟩ := bd_ok h
  refine cRV (As := []) (rest := []) F hE hX hS (tX13_isDigitNext l dC dI g a0 a1 a2 a3 a4 a5 a6 a7 a8 uth uch ufc usv ull ubl uba uea ufa uso udn uw uun usr ube ubs uln ubu unu k2) mbX13_isDigitNext q2156 ⟨(Nat.le_of_ble_eq_true rfl), (Nat.le_of_ble_eq_true rfl)⟩ ⟨Nat.zero_le _, Nat.zero_le _⟩ hP [0, 1, 2, 3, 4, 5, 6, 7, 8] rfl 0 rfl rfl rfl hl.1 rfl (Nat.le_of_ble_eq_true rfl) dX13_readsDigit_1 ?_
  refine lv_if_ne (tgt := 9) F.1 F.2.1 dX13_readsDigit_4 (by decide) (fun k3 => ?_) (fun k3 => ?_)
  · replace h := it_f k3 h
    refine lv_aload_n F.1 F.2.1 dX13_readsDigit_9 rfl (lv_at hl 0 rfl) ?_
    refine gF (v := .ref a8) F hE hP 0 rfl rfl inX13 16 (by decide) q1700 rfl dX13_readsDigit_10 ?_
    refine lv_iload_n F.1 F.2.1 dX13_readsDigit_13 rfl (lv_at hl 1 rfl) ?_
    refine lv_aload_n F.1 F.2.1 dX13_readsDigit_14 rfl (lv_at hl 0 rfl) ?_
    obtain ⟨z4, k5, h⟩ := bd_ok h
    refine cRV (As := []) (rest := [.int p1, .ref a8]) F hE hX hS (tX13_nextChar l dC dI g a0 a1 a2 a3 a4 a5 a6 a7 a8 uth uch ufc usv ull ubl uba uea ufa uso udn uw uun usr ube ubs uln ubu unu k5) mbX13_nextChar q2136 ⟨(Nat.le_of_ble_eq_true rfl), (Nat.le_of_ble_eq_true rfl)⟩ ⟨Nat.zero_le _, Nat.zero_le _⟩ hP [0, 1, 2, 3, 4, 5, 6, 7, 8] rfl 0 rfl rfl rfl hl.1 rfl (Nat.le_of_ble_eq_true rfl) dX13_readsDigit_15 ?_
    refine lv_bipush (v := 48) F.1 F.2.1 dX13_readsDigit_18 (by decide) ?_
    refine lv_isub F.1 F.2.1 dX13_readsDigit_20 ?_
    obtain ⟨k6, h⟩ := gd_ok h
    refine aSi (k := p1.toNatClampNeg) F hE hP hD hS 8 0 rfl rfl k6 rfl dX13_readsDigit_21 (fun H locs hP hD hS => ?_)
    replace hP : va_P (dC, dI) vwCl (wX13 g a0 a1 a2 a3 a4 a5 a6 a7 a8 uth uch ufc usv ull ubl uba uea ufa uso udn uw uun usr ube ubs uln ubu (upd unu p1.toNatClampNeg (z4 - 48))) H := hP
    replace hD : va_D A (wX13 g a0 a1 a2 a3 a4 a5 a6 a7 a8 uth uch ufc usv ull ubl uba uea ufa uso udn uw uun usr ube ubs uln ubu (upd unu p1.toNatClampNeg (z4 - 48))) := hD
    refine lv_aload_n F.1 F.2.1 dX13_readsDigit_22 rfl (lv_at hl 0 rfl) ?_
    refine lv_dup F.1 F.2.1 dX13_readsDigit_23 rfl ?_
    refine gF (v := .int uba) F hE hP 0 rfl rfl inX13 13 (by decide) q1697 rfl dX13_readsDigit_24 ?_
    refine lv_iconst (v := 1) F.1 F.2.1 dX13_readsDigit_27 (by decide) ?_
    refine lv_iadd F.1 F.2.1 dX13_readsDigit_28 ?_
    refine pF (v := .int (uba + 1)) F hE hP hD hS 0 rfl rfl inX13 tyX13 tyX13_ok nmX13 13 (by decide) q1697 rfl rfl rfl (Nat.le_of_ble_eq_true rfl) dX13_readsDigit_29 (fun H locs hP hD hS => ?_)
    replace hP : va_P (dC, dI) vwCl (wX13 g a0 a1 a2 a3 a4 a5 a6 a7 a8 uth uch ufc usv ull ubl (uba + 1) uea ufa uso udn uw uun usr ube ubs uln ubu (upd unu p1.toNatClampNeg (z4 - 48))) H := hP
    replace hD : va_D A (wX13 g a0 a1 a2 a3 a4 a5 a6 a7 a8 uth uch ufc usv ull ubl (uba + 1) uea ufa uso udn uw uun usr ube ubs uln ubu (upd unu p1.toNatClampNeg (z4 - 48))) := hD
    refine lv_iconst (v := 1) F.1 F.2.1 dX13_readsDigit_32 (by decide) ?_
    cases h
    exact MU_z (v := 1) F hr hlocks (Nat.le_refl _) (Nat.le_refl _) rfl hP hS dX13_readsDigit_33
  · replace h := it_t k3 h
    refine lv_iconst (v := 0) F.1 F.2.1 dX13_readsDigit_7 (by decide) ?_
    cases h
    exact MU_z (v := 0) F hr hlocks (Nat.le_refl _) (Nat.le_refl _) rfl hP hS dX13_readsDigit_8
/-! WireCutterModel.readsNumber -/
def fX13_readsNumber_L12 (x1 : Int32) (ubl : Int32) (ubu : Nat → Int32) : Nat → Int32 → Int32 → (Nat → Int32) → Option (Int32 × Int32 × (Nat → Int32))
  | 0, _, _, _ => none
  | k + 1, x2, uba, unu =>
    if 2 ≤ x2 then
      some (1, uba, unu)
    else
      (fX13_isDigitNext ubl uba ubu).bind fun z5 =>
      if z5 = 0 then
        some (1, uba, unu)
      else
        gd (inR x1 3) <|
        (fX13_nextChar ubl uba ubu).bind fun z9 =>
        gd (inR x1 3) <|
        fX13_readsNumber_L12 x1 ubl ubu k (x2 + 1) (uba + 1) (upd unu x1.toNatClampNeg (((10 * (unu x1.toNatClampNeg)) + z9) - 48))
def fX13_readsNumber (ubl : Int32) (uba : Int32) (ubu : Nat → Int32) (unu : Nat → Int32) (p1 : Int32) : Option (Int32 × Int32 × (Nat → Int32)) :=
  (fX13_readsDigit ubl uba ubu unu p1).bind fun z1 =>
  if z1.1 = 0 then
    some (0, z1.2.1, z1.2.2)
  else
    fX13_readsNumber_L12 p1 ubl ubu FU 0 z1.2.1 z1.2.2
theorem mbX13_readsNumber : MV yX13_readsNumber cX13_readsNumber 3 (some .boolean) 1 := ⟨⟨q2151, q16, by decide +kernel⟩, q2150, qs72⟩
set_option maxHeartbeats 4000000 in
set_option maxRecDepth 100000 in
theorem tX13_readsNumber_L12 {p : Program} {l : Launch} {e : Env} {s : State} {m : MethodId} {args : Array Value} {below : List Frame} {meth : Method} {c : Code} {dC : Nat → ClassId} {dI : Nat → Nat → Nat} {g : Nat → ClassId} {a0 a1 a2 a3 a4 a5 a6 a7 a8 : Nat} {r : Int32 × Int32 × (Nat → Int32)} {A : Nat → Prop} (F : CF p m c cX13_readsNumber 3 s args RX13) (hr : meth.sig.returnType = (some .boolean)) (hlocks : meth.locks = false) (hE : EK dC dI g s) (hX : EX g A s s.heap) (hA : ∀ q : Nat, s.heap.size ≤ q → A q) (x1 : Int32) (uth : Int32) (uch : Int32) (ufc : Int32) (usv : Int32) (ull : Int32) (ubl : Int32) (uea : Int32) (ufa : Int32) (uso : Int32) (udn : Int32) (uw : Nat → Int32) (uun : Nat → Int32) (usr : Nat → Int32) (ube : Nat → Int32) (ubs : Nat → Int32) (uln : Nat → Int32) (ubu : Nat → Int32) : ∀ (k : Nat) (x2 : Int32) (uba : Int32) (unu : Nat → Int32), fX13_readsNumber_L12 x1 ubl ubu k x2 uba unu = some r → ∀ (H : Heap) (locs : List Loc), va_P (dC, dI) vwCl (wX13 g a0 a1 a2 a3 a4 a5 a6 a7 a8 uth uch ufc usv ull ubl uba uea ufa uso udn uw uun usr ube ubs uln ubu unu) H → va_D A (wX13 g a0 a1 a2 a3 a4 a5 a6 a7 a8 uth uch ufc usv ull ubl uba uea ufa uso udn uw uun usr ube ubs uln ubu unu) → va_S A s.heap H locs → ∀ (ls : Array Slot), lv_has ls 3 [(0, .ref a0), (1, .int x1), (2, .int x2)] → W p l e { frames := 3, cells := 0, slots := 0, locals := 63 } s m args below meth c H locs 0 0 (MQ below (fun _ st o t => o = .returned (some (.int r.1)) ∧ va_P (dC, dI) vwCl (wX13 g a0 a1 a2 a3 a4 a5 a6 a7 a8 uth uch ufc usv ull ubl r.2.1 uea ufa uso udn uw uun usr ube ubs uln ubu r.2.2) t.heap ∧ va_F A st t) args s 0 0 A) (F0 m 12 ls []) := by
  intro k
  induction k with
  | zero =>
    intro x2 uba unu h
    exact absurd h (by simp [fX13_readsNumber_L12])
  | succ k ih =>
    intro x2 uba unu h H locs hP hD hS ls hl
    rw [fX13_readsNumber_L12] at h
    refine lv_iload_n F.1 F.2.1 dX13_readsNumber_12 rfl (lv_at hl 2 rfl) ?_
    refine lv_iconst (v := 2) F.1 F.2.1 dX13_readsNumber_13 (by decide) ?_
    refine lv_icmp_ge (tgt := 63) F.1 F.2.1 dX13_readsNumber_14 (by decide) (fun k4 => ?_) (fun k4 => ?_)
    · replace h := it_t k4 h
      refine lv_iconst (v := 1) F.1 F.2.1 dX13_readsNumber_63 (by decide) ?_
      cases h
      exact MU_z (v := 1) F hr hlocks (Nat.le_refl _) (Nat.le_refl _) rfl hP hS dX13_readsNumber_64
    · replace h := it_f k4 h
      refine lv_aload_n F.1 F.2.1 dX13_readsNumber_17 rfl (lv_at hl 0 rfl) ?_
      obtain ⟨z5, k6, h⟩ := bd_ok h
      refine cRV (As := []) (rest := []) F hE hX hS (tX13_isDigitNext l dC dI g a0 a1 a2 a3 a4 a5 a6 a7 a8 uth uch ufc usv ull ubl uba uea ufa uso udn uw uun usr ube ubs uln ubu unu k6) mbX13_isDigitNext q2156 ⟨(Nat.le_of_ble_eq_true rfl), (Nat.le_of_ble_eq_true rfl)⟩ ⟨Nat.zero_le _, Nat.zero_le _⟩ hP [0, 1, 2, 3, 4, 5, 6, 7, 8] rfl 0 rfl rfl rfl hl.1 rfl (Nat.le_of_ble_eq_true rfl) dX13_readsNumber_18 ?_
      refine lv_if_eq (tgt := 63) F.1 F.2.1 dX13_readsNumber_21 (by decide) (fun k7 => ?_) (fun k7 => ?_)
      · replace h := it_t k7 h
        refine lv_iconst (v := 1) F.1 F.2.1 dX13_readsNumber_63 (by decide) ?_
        cases h
        exact MU_z (v := 1) F hr hlocks (Nat.le_refl _) (Nat.le_refl _) rfl hP hS dX13_readsNumber_64
      · replace h := it_f k7 h
        refine lv_aload_n F.1 F.2.1 dX13_readsNumber_24 rfl (lv_at hl 0 rfl) ?_
        refine gF (v := .ref a8) F hE hP 0 rfl rfl inX13 16 (by decide) q1700 rfl dX13_readsNumber_25 ?_
        refine lv_iload_n F.1 F.2.1 dX13_readsNumber_28 rfl (lv_at hl 1 rfl) ?_
        refine lv_bipush (v := 10) F.1 F.2.1 dX13_readsNumber_29 (by decide) ?_
        refine lv_aload_n F.1 F.2.1 dX13_readsNumber_31 rfl (lv_at hl 0 rfl) ?_
        refine gF (v := .ref a8) F hE hP 0 rfl rfl inX13 16 (by decide) q1700 rfl dX13_readsNumber_32 ?_
        refine lv_iload_n F.1 F.2.1 dX13_readsNumber_35 rfl (lv_at hl 1 rfl) ?_
        obtain ⟨k8, h⟩ := gd_ok h
        refine aLi (k := x1.toNatClampNeg) F hE hP 8 0 rfl rfl k8 rfl dX13_readsNumber_36 ?_
        refine lv_imul F.1 F.2.1 dX13_readsNumber_37 ?_
        refine lv_aload_n F.1 F.2.1 dX13_readsNumber_38 rfl (lv_at hl 0 rfl) ?_
        obtain ⟨z9, k10, h⟩ := bd_ok h
        refine cRV (As := []) (rest := [.int (10 * (unu x1.toNatClampNeg)), .int x1, .ref a8]) F hE hX hS (tX13_nextChar l dC dI g a0 a1 a2 a3 a4 a5 a6 a7 a8 uth uch ufc usv ull ubl uba uea ufa uso udn uw uun usr ube ubs uln ubu unu k10) mbX13_nextChar q2136 ⟨(Nat.le_of_ble_eq_true rfl), (Nat.le_of_ble_eq_true rfl)⟩ ⟨Nat.zero_le _, Nat.zero_le _⟩ hP [0, 1, 2, 3, 4, 5, 6, 7, 8] rfl 0 rfl rfl rfl hl.1 rfl (Nat.le_of_ble_eq_true rfl) dX13_readsNumber_39 ?_
        refine lv_iadd F.1 F.2.1 dX13_readsNumber_42 ?_
        refine lv_bipush (v := 48) F.1 F.2.1 dX13_readsNumber_43 (by decide) ?_
        refine lv_isub F.1 F.2.1 dX13_readsNumber_45 ?_
        obtain ⟨k11, h⟩ := gd_ok h
        refine aSi (k := x1.toNatClampNeg) F hE hP hD hS 8 0 rfl rfl k11 rfl dX13_readsNumber_46 (fun H locs hP hD hS => ?_)
        replace hP : va_P (dC, dI) vwCl (wX13 g a0 a1 a2 a3 a4 a5 a6 a7 a8 uth uch ufc usv ull ubl uba uea ufa uso udn uw uun usr ube ubs uln ubu (upd unu x1.toNatClampNeg (((10 * (unu x1.toNatClampNeg)) + z9) - 48))) H := hP
        replace hD : va_D A (wX13 g a0 a1 a2 a3 a4 a5 a6 a7 a8 uth uch ufc usv ull ubl uba uea ufa uso udn uw uun usr ube ubs uln ubu (upd unu x1.toNatClampNeg (((10 * (unu x1.toNatClampNeg)) + z9) - 48))) := hD
        refine lv_aload_n F.1 F.2.1 dX13_readsNumber_47 rfl (lv_at hl 0 rfl) ?_
        refine lv_dup F.1 F.2.1 dX13_readsNumber_48 rfl ?_
        refine gF (v := .int uba) F hE hP 0 rfl rfl inX13 13 (by decide) q1697 rfl dX13_readsNumber_49 ?_
        refine lv_iconst (v := 1) F.1 F.2.1 dX13_readsNumber_52 (by decide) ?_
        refine lv_iadd F.1 F.2.1 dX13_readsNumber_53 ?_
        refine pF (v := .int (uba + 1)) F hE hP hD hS 0 rfl rfl inX13 tyX13 tyX13_ok nmX13 13 (by decide) q1697 rfl rfl rfl (Nat.le_of_ble_eq_true rfl) dX13_readsNumber_54 (fun H locs hP hD hS => ?_)
        replace hP : va_P (dC, dI) vwCl (wX13 g a0 a1 a2 a3 a4 a5 a6 a7 a8 uth uch ufc usv ull ubl (uba + 1) uea ufa uso udn uw uun usr ube ubs uln ubu (upd unu x1.toNatClampNeg (((10 * (unu x1.toNatClampNeg)) + z9) - 48))) H := hP
        replace hD : va_D A (wX13 g a0 a1 a2 a3 a4 a5 a6 a7 a8 uth uch ufc usv ull ubl (uba + 1) uea ufa uso udn uw uun usr ube ubs uln ubu (upd unu x1.toNatClampNeg (((10 * (unu x1.toNatClampNeg)) + z9) - 48))) := hD
        refine lv_iinc (v := x2 + 1) (lv' := [(2, .int (x2 + 1)), (0, .ref a0), (1, .int x1)]) F.1 F.2.1 dX13_readsNumber_57 hl (k := 2) rfl (by rfl) (by decide) rfl (fun ls hl => ?_)
        refine lv_goto (tgt := 12) F.1 F.2.1 dX13_readsNumber_60 (by decide) ?_
        exact ih (x2 + 1) (uba + 1) (upd unu x1.toNatClampNeg (((10 * (unu x1.toNatClampNeg)) + z9) - 48)) h _ _ hP hD hS ls (lv_sub hl [1, 2, 0] rfl)
set_option maxHeartbeats 4000000 in
set_option maxRecDepth 100000 in
theorem tX13_readsNumber (l : Launch) (dC : Nat → ClassId) (dI : Nat → Nat → Nat) (g : Nat → ClassId) (a0 a1 a2 a3 a4 a5 a6 a7 a8 : Nat) (uth : Int32) (uch : Int32) (ufc : Int32) (usv : Int32) (ull : Int32) (ubl : Int32) (uba : Int32) (uea : Int32) (ufa : Int32) (uso : Int32) (udn : Int32) (uw : Nat → Int32) (uun : Nat → Int32) (usr : Nat → Int32) (ube : Nat → Int32) (ubs : Nat → Int32) (uln : Nat → Int32) (ubu : Nat → Int32) (unu : Nat → Int32) (p1 : Int32) {r : Int32 × Int32 × (Nat → Int32)} (h : fX13_readsNumber ubl uba ubu unu p1 = some r) : MU l yX13_readsNumber cX13_readsNumber 3 (some .boolean) 3 63 0 0 dC dI g [.ref a0, .int p1] (wX13 g a0 a1 a2 a3 a4 a5 a6 a7 a8 uth uch ufc usv ull ubl uba uea ufa uso udn uw uun usr ube ubs uln ubu unu) (wX13 g a0 a1 a2 a3 a4 a5 a6 a7 a8 uth uch ufc usv ull ubl r.2.1 uea ufa uso udn uw uun usr ube ubs uln ubu r.2.2) (some (.int r.1)) := by
  refine MU_of (by decide) (Nat.le_of_ble_eq_true rfl) ?_
  intro p e s m below meth c ls F hr hlocks hE hX hA hP hD hS hl
  generalize va_A (wX13 g a0 a1 a2 a3 a4 a5 a6 a7 a8 uth uch ufc usv ull ubl uba uea ufa uso udn uw uun usr ube ubs uln ubu unu) s.heap.size = A at hA hD hS hX ⊢
  replace F : CF p m c cX13_readsNumber 3 s _ RX13 := F
  replace hl : lv_has ls 3 [(0, .ref a0), (1, .int p1)] := hl
  rw [fX13_readsNumber] at h
  refine lv_aload_n F.1 F.2.1 dX13_readsNumber_0 rfl (lv_at hl 0 rfl) ?_
  refine lv_iload_n F.1 F.2.1 dX13_readsNumber_1 rfl (lv_at hl 1 rfl) ?_
  obtain ⟨z1, k2, h⟩ := bd_ok h
  refine cMV (As := [.int p1]) (rest := []) (ws' := wX13 g a0 a1 a2 a3 a4 a5 a6 a7 a8 uth uch ufc usv ull ubl z1.2.1 uea ufa uso udn uw uun usr ube ubs uln ubu z1.2.2) F hE hX (tX13_readsDigit l dC dI g a0 a1 a2 a3 a4 a5 a6 a7 a8 uth uch ufc usv ull ubl uba uea ufa uso udn uw uun usr ube ubs uln ubu unu p1 k2) mbX13_readsDigit q2152 ⟨(Nat.le_of_ble_eq_true rfl), (Nat.le_of_ble_eq_true rfl)⟩ ⟨(Nat.le_of_ble_eq_true rfl), (Nat.le_of_ble_eq_true rfl)⟩ hP hD hS hA [0, 1, 2, 3, 4, 5, 6, 7, 8] rfl rfl rfl rfl rfl 0 rfl rfl rfl hl.1 rfl (Nat.le_of_ble_eq_true rfl) dX13_readsNumber_2 (fun H locs hP hD hS => ?_)
  refine lv_if_ne (tgt := 10) F.1 F.2.1 dX13_readsNumber_5 (by decide) (fun k3 => ?_) (fun k3 => ?_)
  · replace h := it_f k3 h
    refine lv_iconst (v := 0) F.1 F.2.1 dX13_readsNumber_10 (by decide) ?_
    refine lv_istore_n (lv' := [(2, .int 0), (0, .ref a0), (1, .int p1)]) F.1 F.2.1 dX13_readsNumber_11 rfl hl (by decide) rfl (fun ls hl => ?_)
    exact tX13_readsNumber_L12 F hr hlocks hE hX hA p1 uth uch ufc usv ull ubl uea ufa uso udn uw uun usr ube ubs uln ubu FU 0 z1.2.1 z1.2.2 h _ _ hP hD hS ls (lv_sub hl [1, 2, 0] rfl)
  · replace h := it_t k3 h
    refine lv_iconst (v := 0) F.1 F.2.1 dX13_readsNumber_8 (by decide) ?_
    cases h
    exact MU_z (v := 0) F hr hlocks (Nat.le_refl _) (Nat.le_refl _) rfl hP hS dX13_readsNumber_9
/-! WireCutterModel.readsMaterial -/
def fX13_readsMaterial (ubl : Int32) (uba : Int32) (ubu : Nat → Int32) (unu : Nat → Int32) : Option (Int32 × Int32 × (Nat → Int32)) :=
  (fX13_nextChar ubl uba ubu).bind fun z1 =>
  (fX13_isMaterial ((upd unu 0 z1) 0)).bind fun z3 =>
  if z3 = 0 then
    some (0, uba, upd unu 0 z1)
  else
    (fX13_reads ubl uba ubu ((upd unu 0 z1) 0)).bind fun z6 =>
    if z6.1 = 0 then
      some (0, z6.2, upd unu 0 z1)
    else
      some (1, z6.2, upd unu 0 z1)
theorem mbX13_readsMaterial : MV yX13_readsMaterial cX13_readsMaterial 1 (some .boolean) 0 := ⟨⟨q2147, q16, by decide +kernel⟩, q2146, qs71⟩
set_option maxHeartbeats 4000000 in
set_option maxRecDepth 100000 in
theorem tX13_readsMaterial (l : Launch) (dC : Nat → ClassId) (dI : Nat → Nat → Nat) (g : Nat → ClassId) (a0 a1 a2 a3 a4 a5 a6 a7 a8 : Nat) (uth : Int32) (uch : Int32) (ufc : Int32) (usv : Int32) (ull : Int32) (ubl : Int32) (uba : Int32) (uea : Int32) (ufa : Int32) (uso : Int32) (udn : Int32) (uw : Nat → Int32) (uun : Nat → Int32) (usr : Nat → Int32) (ube : Nat → Int32) (ubs : Nat → Int32) (uln : Nat → Int32) (ubu : Nat → Int32) (unu : Nat → Int32) {r : Int32 × Int32 × (Nat → Int32)} (h : fX13_readsMaterial ubl uba ubu unu = some r) : MU l yX13_readsMaterial cX13_readsMaterial 1 (some .boolean) 2 42 0 0 dC dI g [.ref a0] (wX13 g a0 a1 a2 a3 a4 a5 a6 a7 a8 uth uch ufc usv ull ubl uba uea ufa uso udn uw uun usr ube ubs uln ubu unu) (wX13 g a0 a1 a2 a3 a4 a5 a6 a7 a8 uth uch ufc usv ull ubl r.2.1 uea ufa uso udn uw uun usr ube ubs uln ubu r.2.2) (some (.int r.1)) := by
  refine MU_of (by decide) (Nat.le_of_ble_eq_true rfl) ?_
  intro p e s m below meth c ls F hr hlocks hE hX hA hP hD hS hl
  generalize va_A (wX13 g a0 a1 a2 a3 a4 a5 a6 a7 a8 uth uch ufc usv ull ubl uba uea ufa uso udn uw uun usr ube ubs uln ubu unu) s.heap.size = A at hA hD hS hX ⊢
  replace F : CF p m c cX13_readsMaterial 1 s _ RX13 := F
  replace hl : lv_has ls 1 [(0, .ref a0)] := hl
  rw [fX13_readsMaterial] at h
  refine lv_aload_n F.1 F.2.1 dX13_readsMaterial_0 rfl (lv_at hl 0 rfl) ?_
  refine gF (v := .ref a8) F hE hP 0 rfl rfl inX13 16 (by decide) q1700 rfl dX13_readsMaterial_1 ?_
  refine lv_iconst (v := 0) F.1 F.2.1 dX13_readsMaterial_4 (by decide) ?_
  refine lv_aload_n F.1 F.2.1 dX13_readsMaterial_5 rfl (lv_at hl 0 rfl) ?_
  obtain ⟨z1, k2, h⟩ := bd_ok h
  refine cRV (As := []) (rest := [.int 0, .ref a8]) F hE hX hS (tX13_nextChar l dC dI g a0 a1 a2 a3 a4 a5 a6 a7 a8 uth uch ufc usv ull ubl uba uea ufa uso udn uw uun usr ube ubs uln ubu unu k2) mbX13_nextChar q2136 ⟨(Nat.le_of_ble_eq_true rfl), (Nat.le_of_ble_eq_true rfl)⟩ ⟨Nat.zero_le _, Nat.zero_le _⟩ hP [0, 1, 2, 3, 4, 5, 6, 7, 8] rfl 0 rfl rfl rfl hl.1 rfl (Nat.le_of_ble_eq_true rfl) dX13_readsMaterial_6 ?_
  refine aSi (k := 0) F hE hP hD hS 8 0 rfl rfl (by decide) (by decide) dX13_readsMaterial_9 (fun H locs hP hD hS => ?_)
  replace hP : va_P (dC, dI) vwCl (wX13 g a0 a1 a2 a3 a4 a5 a6 a7 a8 uth uch ufc usv ull ubl uba uea ufa uso udn uw uun usr ube ubs uln ubu (upd unu 0 z1)) H := hP
  replace hD : va_D A (wX13 g a0 a1 a2 a3 a4 a5 a6 a7 a8 uth uch ufc usv ull ubl uba uea ufa uso udn uw uun usr ube ubs uln ubu (upd unu 0 z1)) := hD
  refine lv_aload_n F.1 F.2.1 dX13_readsMaterial_10 rfl (lv_at hl 0 rfl) ?_
  refine gF (v := .ref a8) F hE hP 0 rfl rfl inX13 16 (by decide) q1700 rfl dX13_readsMaterial_11 ?_
  refine lv_iconst (v := 0) F.1 F.2.1 dX13_readsMaterial_14 (by decide) ?_
  refine aLi (k := 0) F hE hP 8 0 rfl rfl (by decide) (by decide) dX13_readsMaterial_15 ?_
  obtain ⟨z3, k4, h⟩ := bd_ok h
  refine cRS (As := [.int ((upd unu 0 z1) 0)]) (rest := []) F hE hX hS (tX13_isMaterial l dC dI g ((upd unu 0 z1) 0) k4) mbX13_isMaterial q1750 ⟨(Nat.le_of_ble_eq_true rfl), (Nat.le_of_ble_eq_true rfl)⟩ ⟨Nat.zero_le _, Nat.zero_le _⟩ hP [] rfl rfl hl.1 rfl (Nat.le_of_ble_eq_true rfl) dX13_readsMaterial_16 ?_
  refine lv_if_eq (tgt := 39) F.1 F.2.1 dX13_readsMaterial_19 (by decide) (fun k5 => ?_) (fun k5 => ?_)
  · replace h := it_t k5 h
    refine lv_iconst (v := 0) F.1 F.2.1 dX13_readsMaterial_39 (by decide) ?_
    cases h
    exact MU_z (v := 0) F hr hlocks (Nat.le_refl _) (Nat.le_refl _) rfl hP hS dX13_readsMaterial_40
  · replace h := it_f k5 h
    refine lv_aload_n F.1 F.2.1 dX13_readsMaterial_22 rfl (lv_at hl 0 rfl) ?_
    refine lv_aload_n F.1 F.2.1 dX13_readsMaterial_23 rfl (lv_at hl 0 rfl) ?_
    refine gF (v := .ref a8) F hE hP 0 rfl rfl inX13 16 (by decide) q1700 rfl dX13_readsMaterial_24 ?_
    refine lv_iconst (v := 0) F.1 F.2.1 dX13_readsMaterial_27 (by decide) ?_
    refine aLi (k := 0) F hE hP 8 0 rfl rfl (by decide) (by decide) dX13_readsMaterial_28 ?_
    obtain ⟨z6, k7, h⟩ := bd_ok h
    refine cMV (As := [.int ((upd unu 0 z1) 0)]) (rest := []) (ws' := wX13 g a0 a1 a2 a3 a4 a5 a6 a7 a8 uth uch ufc usv ull ubl z6.2 uea ufa uso udn uw uun usr ube ubs uln ubu (upd unu 0 z1)) F hE hX (tX13_reads l dC dI g a0 a1 a2 a3 a4 a5 a6 a7 a8 uth uch ufc usv ull ubl uba uea ufa uso udn uw uun usr ube ubs uln ubu (upd unu 0 z1) ((upd unu 0 z1) 0) k7) mbX13_reads q2140 ⟨(Nat.le_of_ble_eq_true rfl), (Nat.le_of_ble_eq_true rfl)⟩ ⟨(Nat.le_of_ble_eq_true rfl), (Nat.le_of_ble_eq_true rfl)⟩ hP hD hS hA [0, 1, 2, 3, 4, 5, 6, 7, 8] rfl rfl rfl rfl rfl 0 rfl rfl rfl hl.1 rfl (Nat.le_of_ble_eq_true rfl) dX13_readsMaterial_29 (fun H locs hP hD hS => ?_)
    refine lv_if_eq (tgt := 39) F.1 F.2.1 dX13_readsMaterial_32 (by decide) (fun k8 => ?_) (fun k8 => ?_)
    · replace h := it_t k8 h
      refine lv_iconst (v := 0) F.1 F.2.1 dX13_readsMaterial_39 (by decide) ?_
      cases h
      exact MU_z (v := 0) F hr hlocks (Nat.le_refl _) (Nat.le_refl _) rfl hP hS dX13_readsMaterial_40
    · replace h := it_f k8 h
      refine lv_iconst (v := 1) F.1 F.2.1 dX13_readsMaterial_35 (by decide) ?_
      refine lv_goto (tgt := 40) F.1 F.2.1 dX13_readsMaterial_36 (by decide) ?_
      cases h
      exact MU_z (v := 1) F hr hlocks (Nat.le_refl _) (Nat.le_refl _) rfl hP hS dX13_readsMaterial_40
/-! WireCutterModel.readsOrder -/
def fX13_readsOrder (ubl : Int32) (uba : Int32) (ubu : Nat → Int32) (unu : Nat → Int32) : Option (Int32 × Int32 × (Nat → Int32)) :=
  (fX13_reads ubl uba ubu 114).bind fun z1 =>
  if z1.1 = 0 then
    some (0, z1.2, unu)
  else
    (fX13_reads ubl z1.2 ubu 100).bind fun z4 =>
    if z4.1 = 0 then
      some (0, z4.2, unu)
    else
      (fX13_reads ubl z4.2 ubu 101).bind fun z7 =>
      if z7.1 = 0 then
        some (0, z7.2, unu)
      else
        (fX13_reads ubl z7.2 ubu 114).bind fun z10 =>
        if z10.1 = 0 then
          some (0, z10.2, unu)
        else
          (fX13_reads ubl z10.2 ubu 32).bind fun z13 =>
          if z13.1 = 0 then
            some (0, z13.2, unu)
          else
            (fX13_readsMaterial ubl z13.2 ubu unu).bind fun z16 =>
            if z16.1 = 0 then
              some (0, z16.2.1, z16.2.2)
            else
              (fX13_readsNumber ubl z16.2.1 ubu z16.2.2 1).bind fun z19 =>
              if z19.1 = 0 then
                some (0, z19.2.1, z19.2.2)
              else
                (fX13_reads ubl z19.2.1 ubu 64).bind fun z22 =>
                if z22.1 = 0 then
                  some (0, z22.2, z19.2.2)
                else
                  (fX13_readsNumber ubl z22.2 ubu z19.2.2 2).bind fun z25 =>
                  if z25.1 = 0 then
                    some (0, z25.2.1, z25.2.2)
                  else
                    some (1, z25.2.1, z25.2.2)
theorem mbX13_readsOrder : MV yX13_readsOrder cX13_readsOrder 1 (some .boolean) 0 := ⟨⟨q2163, q16, by decide +kernel⟩, q2162, qs75⟩
set_option maxHeartbeats 4000000 in
set_option maxRecDepth 100000 in
theorem tX13_readsOrder (l : Launch) (dC : Nat → ClassId) (dI : Nat → Nat → Nat) (g : Nat → ClassId) (a0 a1 a2 a3 a4 a5 a6 a7 a8 : Nat) (uth : Int32) (uch : Int32) (ufc : Int32) (usv : Int32) (ull : Int32) (ubl : Int32) (uba : Int32) (uea : Int32) (ufa : Int32) (uso : Int32) (udn : Int32) (uw : Nat → Int32) (uun : Nat → Int32) (usr : Nat → Int32) (ube : Nat → Int32) (ubs : Nat → Int32) (uln : Nat → Int32) (ubu : Nat → Int32) (unu : Nat → Int32) {r : Int32 × Int32 × (Nat → Int32)} (h : fX13_readsOrder ubl uba ubu unu = some r) : MU l yX13_readsOrder cX13_readsOrder 1 (some .boolean) 4 85 0 0 dC dI g [.ref a0] (wX13 g a0 a1 a2 a3 a4 a5 a6 a7 a8 uth uch ufc usv ull ubl uba uea ufa uso udn uw uun usr ube ubs uln ubu unu) (wX13 g a0 a1 a2 a3 a4 a5 a6 a7 a8 uth uch ufc usv ull ubl r.2.1 uea ufa uso udn uw uun usr ube ubs uln ubu r.2.2) (some (.int r.1)) := by
  refine MU_of (by decide) (Nat.le_of_ble_eq_true rfl) ?_
  intro p e s m below meth c ls F hr hlocks hE hX hA hP hD hS hl
  generalize va_A (wX13 g a0 a1 a2 a3 a4 a5 a6 a7 a8 uth uch ufc usv ull ubl uba uea ufa uso udn uw uun usr ube ubs uln ubu unu) s.heap.size = A at hA hD hS hX ⊢
  replace F : CF p m c cX13_readsOrder 1 s _ RX13 := F
  replace hl : lv_has ls 1 [(0, .ref a0)] := hl
  rw [fX13_readsOrder] at h
  refine lv_aload_n F.1 F.2.1 dX13_readsOrder_0 rfl (lv_at hl 0 rfl) ?_
  refine lv_bipush (v := 114) F.1 F.2.1 dX13_readsOrder_1 (by decide) ?_
  obtain ⟨z1, k2, h⟩ := bd_ok h
  refine cMV (As := [.int 114]) (rest := []) (ws' := wX13 g a0 a1 a2 a3 a4 a5 a6 a7 a8 uth uch ufc usv ull ubl z1.2 uea ufa uso udn uw uun usr ube ubs uln ubu unu) F hE hX (tX13_reads l dC dI g a0 a1 a2 a3 a4 a5 a6 a7 a8 uth uch ufc usv ull ubl uba uea ufa uso udn uw uun usr ube ubs uln ubu unu 114 k2) mbX13_reads q2140 ⟨(Nat.le_of_ble_eq_true rfl), (Nat.le_of_ble_eq_true rfl)⟩ ⟨(Nat.le_of_ble_eq_true rfl), (Nat.le_of_ble_eq_true rfl)⟩ hP hD hS hA [0, 1, 2, 3, 4, 5, 6, 7, 8] rfl rfl rfl rfl rfl 0 rfl rfl rfl hl.1 rfl (Nat.le_of_ble_eq_true rfl) dX13_readsOrder_3 (fun H locs hP hD hS => ?_)
  refine lv_if_eq (tgt := 45) F.1 F.2.1 dX13_readsOrder_6 (by decide) (fun k3 => ?_) (fun k3 => ?_)
  · replace h := it_t k3 h
    refine lv_iconst (v := 0) F.1 F.2.1 dX13_readsOrder_45 (by decide) ?_
    cases h
    exact MU_z (v := 0) F hr hlocks (Nat.le_refl _) (Nat.le_refl _) rfl hP hS dX13_readsOrder_46
  · replace h := it_f k3 h
    refine lv_aload_n F.1 F.2.1 dX13_readsOrder_9 rfl (lv_at hl 0 rfl) ?_
    refine lv_bipush (v := 100) F.1 F.2.1 dX13_readsOrder_10 (by decide) ?_
    obtain ⟨z4, k5, h⟩ := bd_ok h
    refine cMV (As := [.int 100]) (rest := []) (ws' := wX13 g a0 a1 a2 a3 a4 a5 a6 a7 a8 uth uch ufc usv ull ubl z4.2 uea ufa uso udn uw uun usr ube ubs uln ubu unu) F hE hX (tX13_reads l dC dI g a0 a1 a2 a3 a4 a5 a6 a7 a8 uth uch ufc usv ull ubl z1.2 uea ufa uso udn uw uun usr ube ubs uln ubu unu 100 k5) mbX13_reads q2140 ⟨(Nat.le_of_ble_eq_true rfl), (Nat.le_of_ble_eq_true rfl)⟩ ⟨(Nat.le_of_ble_eq_true rfl), (Nat.le_of_ble_eq_true rfl)⟩ hP hD hS hA [0, 1, 2, 3, 4, 5, 6, 7, 8] rfl rfl rfl rfl rfl 0 rfl rfl rfl hl.1 rfl (Nat.le_of_ble_eq_true rfl) dX13_readsOrder_12 (fun H locs hP hD hS => ?_)
    refine lv_if_eq (tgt := 45) F.1 F.2.1 dX13_readsOrder_15 (by decide) (fun k6 => ?_) (fun k6 => ?_)
    · replace h := it_t k6 h
      refine lv_iconst (v := 0) F.1 F.2.1 dX13_readsOrder_45 (by decide) ?_
      cases h
      exact MU_z (v := 0) F hr hlocks (Nat.le_refl _) (Nat.le_refl _) rfl hP hS dX13_readsOrder_46
    · replace h := it_f k6 h
      refine lv_aload_n F.1 F.2.1 dX13_readsOrder_18 rfl (lv_at hl 0 rfl) ?_
      refine lv_bipush (v := 101) F.1 F.2.1 dX13_readsOrder_19 (by decide) ?_
      obtain ⟨z7, k8, h⟩ := bd_ok h
      refine cMV (As := [.int 101]) (rest := []) (ws' := wX13 g a0 a1 a2 a3 a4 a5 a6 a7 a8 uth uch ufc usv ull ubl z7.2 uea ufa uso udn uw uun usr ube ubs uln ubu unu) F hE hX (tX13_reads l dC dI g a0 a1 a2 a3 a4 a5 a6 a7 a8 uth uch ufc usv ull ubl z4.2 uea ufa uso udn uw uun usr ube ubs uln ubu unu 101 k8) mbX13_reads q2140 ⟨(Nat.le_of_ble_eq_true rfl), (Nat.le_of_ble_eq_true rfl)⟩ ⟨(Nat.le_of_ble_eq_true rfl), (Nat.le_of_ble_eq_true rfl)⟩ hP hD hS hA [0, 1, 2, 3, 4, 5, 6, 7, 8] rfl rfl rfl rfl rfl 0 rfl rfl rfl hl.1 rfl (Nat.le_of_ble_eq_true rfl) dX13_readsOrder_21 (fun H locs hP hD hS => ?_)
      refine lv_if_eq (tgt := 45) F.1 F.2.1 dX13_readsOrder_24 (by decide) (fun k9 => ?_) (fun k9 => ?_)
      · replace h := it_t k9 h
        refine lv_iconst (v := 0) F.1 F.2.1 dX13_readsOrder_45 (by decide) ?_
        cases h
        exact MU_z (v := 0) F hr hlocks (Nat.le_refl _) (Nat.le_refl _) rfl hP hS dX13_readsOrder_46
      · replace h := it_f k9 h
        refine lv_aload_n F.1 F.2.1 dX13_readsOrder_27 rfl (lv_at hl 0 rfl) ?_
        refine lv_bipush (v := 114) F.1 F.2.1 dX13_readsOrder_28 (by decide) ?_
        obtain ⟨z10, k11, h⟩ := bd_ok h
        refine cMV (As := [.int 114]) (rest := []) (ws' := wX13 g a0 a1 a2 a3 a4 a5 a6 a7 a8 uth uch ufc usv ull ubl z10.2 uea ufa uso udn uw uun usr ube ubs uln ubu unu) F hE hX (tX13_reads l dC dI g a0 a1 a2 a3 a4 a5 a6 a7 a8 uth uch ufc usv ull ubl z7.2 uea ufa uso udn uw uun usr ube ubs uln ubu unu 114 k11) mbX13_reads q2140 ⟨(Nat.le_of_ble_eq_true rfl), (Nat.le_of_ble_eq_true rfl)⟩ ⟨(Nat.le_of_ble_eq_true rfl), (Nat.le_of_ble_eq_true rfl)⟩ hP hD hS hA [0, 1, 2, 3, 4, 5, 6, 7, 8] rfl rfl rfl rfl rfl 0 rfl rfl rfl hl.1 rfl (Nat.le_of_ble_eq_true rfl) dX13_readsOrder_30 (fun H locs hP hD hS => ?_)
        refine lv_if_eq (tgt := 45) F.1 F.2.1 dX13_readsOrder_33 (by decide) (fun k12 => ?_) (fun k12 => ?_)
        · replace h := it_t k12 h
          refine lv_iconst (v := 0) F.1 F.2.1 dX13_readsOrder_45 (by decide) ?_
          cases h
          exact MU_z (v := 0) F hr hlocks (Nat.le_refl _) (Nat.le_refl _) rfl hP hS dX13_readsOrder_46
        · replace h := it_f k12 h
          refine lv_aload_n F.1 F.2.1 dX13_readsOrder_36 rfl (lv_at hl 0 rfl) ?_
          refine lv_bipush (v := 32) F.1 F.2.1 dX13_readsOrder_37 (by decide) ?_
          obtain ⟨z13, k14, h⟩ := bd_ok h
          refine cMV (As := [.int 32]) (rest := []) (ws' := wX13 g a0 a1 a2 a3 a4 a5 a6 a7 a8 uth uch ufc usv ull ubl z13.2 uea ufa uso udn uw uun usr ube ubs uln ubu unu) F hE hX (tX13_reads l dC dI g a0 a1 a2 a3 a4 a5 a6 a7 a8 uth uch ufc usv ull ubl z10.2 uea ufa uso udn uw uun usr ube ubs uln ubu unu 32 k14) mbX13_reads q2140 ⟨(Nat.le_of_ble_eq_true rfl), (Nat.le_of_ble_eq_true rfl)⟩ ⟨(Nat.le_of_ble_eq_true rfl), (Nat.le_of_ble_eq_true rfl)⟩ hP hD hS hA [0, 1, 2, 3, 4, 5, 6, 7, 8] rfl rfl rfl rfl rfl 0 rfl rfl rfl hl.1 rfl (Nat.le_of_ble_eq_true rfl) dX13_readsOrder_39 (fun H locs hP hD hS => ?_)
          refine lv_if_ne (tgt := 47) F.1 F.2.1 dX13_readsOrder_42 (by decide) (fun k15 => ?_) (fun k15 => ?_)
          · replace h := it_f k15 h
            refine lv_aload_n F.1 F.2.1 dX13_readsOrder_47 rfl (lv_at hl 0 rfl) ?_
            obtain ⟨z16, k17, h⟩ := bd_ok h
            refine cMV (As := []) (rest := []) (ws' := wX13 g a0 a1 a2 a3 a4 a5 a6 a7 a8 uth uch ufc usv ull ubl z16.2.1 uea ufa uso udn uw uun usr ube ubs uln ubu z16.2.2) F hE hX (tX13_readsMaterial l dC dI g a0 a1 a2 a3 a4 a5 a6 a7 a8 uth uch ufc usv ull ubl z13.2 uea ufa uso udn uw uun usr ube ubs uln ubu unu k17) mbX13_readsMaterial q2144 ⟨(Nat.le_of_ble_eq_true rfl), (Nat.le_of_ble_eq_true rfl)⟩ ⟨(Nat.le_of_ble_eq_true rfl), (Nat.le_of_ble_eq_true rfl)⟩ hP hD hS hA [0, 1, 2, 3, 4, 5, 6, 7, 8] rfl rfl rfl rfl rfl 0 rfl rfl rfl hl.1 rfl (Nat.le_of_ble_eq_true rfl) dX13_readsOrder_48 (fun H locs hP hD hS => ?_)
            refine lv_if_eq (tgt := 83) F.1 F.2.1 dX13_readsOrder_51 (by decide) (fun k18 => ?_) (fun k18 => ?_)
            · replace h := it_t k18 h
              refine lv_iconst (v := 0) F.1 F.2.1 dX13_readsOrder_83 (by decide) ?_
              cases h
              exact MU_z (v := 0) F hr hlocks (Nat.le_refl _) (Nat.le_refl _) rfl hP hS dX13_readsOrder_84
            · replace h := it_f k18 h
              refine lv_aload_n F.1 F.2.1 dX13_readsOrder_54 rfl (lv_at hl 0 rfl) ?_
              refine lv_iconst (v := 1) F.1 F.2.1 dX13_readsOrder_55 (by decide) ?_
              obtain ⟨z19, k20, h⟩ := bd_ok h
              refine cMV (As := [.int 1]) (rest := []) (ws' := wX13 g a0 a1 a2 a3 a4 a5 a6 a7 a8 uth uch ufc usv ull ubl z19.2.1 uea ufa uso udn uw uun usr ube ubs uln ubu z19.2.2) F hE hX (tX13_readsNumber l dC dI g a0 a1 a2 a3 a4 a5 a6 a7 a8 uth uch ufc usv ull ubl z16.2.1 uea ufa uso udn uw uun usr ube ubs uln ubu z16.2.2 1 k20) mbX13_readsNumber q2148 ⟨(Nat.le_of_ble_eq_true rfl), (Nat.le_of_ble_eq_true rfl)⟩ ⟨(Nat.le_of_ble_eq_true rfl), (Nat.le_of_ble_eq_true rfl)⟩ hP hD hS hA [0, 1, 2, 3, 4, 5, 6, 7, 8] rfl rfl rfl rfl rfl 0 rfl rfl rfl hl.1 rfl (Nat.le_of_ble_eq_true rfl) dX13_readsOrder_56 (fun H locs hP hD hS => ?_)
              refine lv_if_eq (tgt := 83) F.1 F.2.1 dX13_readsOrder_59 (by decide) (fun k21 => ?_) (fun k21 => ?_)
              · replace h := it_t k21 h
                refine lv_iconst (v := 0) F.1 F.2.1 dX13_readsOrder_83 (by decide) ?_
                cases h
                exact MU_z (v := 0) F hr hlocks (Nat.le_refl _) (Nat.le_refl _) rfl hP hS dX13_readsOrder_84
              · replace h := it_f k21 h
                refine lv_aload_n F.1 F.2.1 dX13_readsOrder_62 rfl (lv_at hl 0 rfl) ?_
                refine lv_bipush (v := 64) F.1 F.2.1 dX13_readsOrder_63 (by decide) ?_
                obtain ⟨z22, k23, h⟩ := bd_ok h
                refine cMV (As := [.int 64]) (rest := []) (ws' := wX13 g a0 a1 a2 a3 a4 a5 a6 a7 a8 uth uch ufc usv ull ubl z22.2 uea ufa uso udn uw uun usr ube ubs uln ubu z19.2.2) F hE hX (tX13_reads l dC dI g a0 a1 a2 a3 a4 a5 a6 a7 a8 uth uch ufc usv ull ubl z19.2.1 uea ufa uso udn uw uun usr ube ubs uln ubu z19.2.2 64 k23) mbX13_reads q2140 ⟨(Nat.le_of_ble_eq_true rfl), (Nat.le_of_ble_eq_true rfl)⟩ ⟨(Nat.le_of_ble_eq_true rfl), (Nat.le_of_ble_eq_true rfl)⟩ hP hD hS hA [0, 1, 2, 3, 4, 5, 6, 7, 8] rfl rfl rfl rfl rfl 0 rfl rfl rfl hl.1 rfl (Nat.le_of_ble_eq_true rfl) dX13_readsOrder_65 (fun H locs hP hD hS => ?_)
                refine lv_if_eq (tgt := 83) F.1 F.2.1 dX13_readsOrder_68 (by decide) (fun k24 => ?_) (fun k24 => ?_)
                · replace h := it_t k24 h
                  refine lv_iconst (v := 0) F.1 F.2.1 dX13_readsOrder_83 (by decide) ?_
                  cases h
                  exact MU_z (v := 0) F hr hlocks (Nat.le_refl _) (Nat.le_refl _) rfl hP hS dX13_readsOrder_84
                · replace h := it_f k24 h
                  refine lv_aload_n F.1 F.2.1 dX13_readsOrder_71 rfl (lv_at hl 0 rfl) ?_
                  refine lv_iconst (v := 2) F.1 F.2.1 dX13_readsOrder_72 (by decide) ?_
                  obtain ⟨z25, k26, h⟩ := bd_ok h
                  refine cMV (As := [.int 2]) (rest := []) (ws' := wX13 g a0 a1 a2 a3 a4 a5 a6 a7 a8 uth uch ufc usv ull ubl z25.2.1 uea ufa uso udn uw uun usr ube ubs uln ubu z25.2.2) F hE hX (tX13_readsNumber l dC dI g a0 a1 a2 a3 a4 a5 a6 a7 a8 uth uch ufc usv ull ubl z22.2 uea ufa uso udn uw uun usr ube ubs uln ubu z19.2.2 2 k26) mbX13_readsNumber q2148 ⟨(Nat.le_of_ble_eq_true rfl), (Nat.le_of_ble_eq_true rfl)⟩ ⟨(Nat.le_of_ble_eq_true rfl), (Nat.le_of_ble_eq_true rfl)⟩ hP hD hS hA [0, 1, 2, 3, 4, 5, 6, 7, 8] rfl rfl rfl rfl rfl 0 rfl rfl rfl hl.1 rfl (Nat.le_of_ble_eq_true rfl) dX13_readsOrder_73 (fun H locs hP hD hS => ?_)
                  refine lv_if_eq (tgt := 83) F.1 F.2.1 dX13_readsOrder_76 (by decide) (fun k27 => ?_) (fun k27 => ?_)
                  · replace h := it_t k27 h
                    refine lv_iconst (v := 0) F.1 F.2.1 dX13_readsOrder_83 (by decide) ?_
                    cases h
                    exact MU_z (v := 0) F hr hlocks (Nat.le_refl _) (Nat.le_refl _) rfl hP hS dX13_readsOrder_84
                  · replace h := it_f k27 h
                    refine lv_iconst (v := 1) F.1 F.2.1 dX13_readsOrder_79 (by decide) ?_
                    refine lv_goto (tgt := 84) F.1 F.2.1 dX13_readsOrder_80 (by decide) ?_
                    cases h
                    exact MU_z (v := 1) F hr hlocks (Nat.le_refl _) (Nat.le_refl _) rfl hP hS dX13_readsOrder_84
          · replace h := it_t k15 h
            refine lv_iconst (v := 0) F.1 F.2.1 dX13_readsOrder_45 (by decide) ?_
            cases h
            exact MU_z (v := 0) F hr hlocks (Nat.le_refl _) (Nat.le_refl _) rfl hP hS dX13_readsOrder_46
