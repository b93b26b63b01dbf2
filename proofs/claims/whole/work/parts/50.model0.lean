abbrev wX13 (g : Nat → ClassId) (a0 a1 a2 a3 a4 a5 a6 a7 a8 : Nat) (uth : Int32) (uch : Int32) (ufc : Int32) (usv : Int32) (ull : Int32) (ubl : Int32) (uba : Int32) (uea : Int32) (ufa : Int32) (uso : Int32) (udn : Int32) (uw : Nat → Int32) (uun : Nat → Int32) (usr : Nat → Int32) (ube : Nat → Int32) (ubs : Nat → Int32) (uln : Nat → Int32) (ubu : Nat → Int32) (unu : Nat → Int32) : va_W := [(a0, .inr (15, [.int uth, .ref a1, .ref a2, .ref a3, .ref a4, .int uch, .int ufc, .int usv, .ref a5, .ref a6, .int ull, .ref a7, .int ubl, .int uba, .int uea, .int ufa, .ref a8, .int uso, .int udn])), (a1, .inl (g 0, 201, .inl uw)), (a2, .inl (g 0, 1608, .inl uun)), (a3, .inl (g 0, 201, .inl usr)), (a4, .inl (g 0, 201, .inl ube)), (a5, .inl (g 0, 1010, .inl ubs)), (a6, .inl (g 1, 200, .inl uln)), (a7, .inl (g 1, 60, .inl ubu)), (a8, .inl (g 0, 3, .inl unu))]
/-! WireCutterModel.thrown -/
def fX13_thrown (uth : Int32) : Option (Int32) :=
  some (uth)
theorem mbX13_thrown : MV yX13_thrown cX13_thrown 1 (some .int) 0 := ⟨⟨q1677, q16, by decide +kernel⟩, q1675, q1676⟩
set_option maxHeartbeats 4000000 in
set_option maxRecDepth 100000 in
theorem tX13_thrown (l : Launch) (dC : Nat → ClassId) (dI : Nat → Nat → Nat) (g : Nat → ClassId) (a0 a1 a2 a3 a4 a5 a6 a7 a8 : Nat) (uth : Int32) (uch : Int32) (ufc : Int32) (usv : Int32) (ull : Int32) (ubl : Int32) (uba : Int32) (uea : Int32) (ufa : Int32) (uso : Int32) (udn : Int32) (uw : Nat → Int32) (uun : Nat → Int32) (usr : Nat → Int32) (ube : Nat → Int32) (ubs : Nat → Int32) (uln : Nat → Int32) (ubu : Nat → Int32) (unu : Nat → Int32) {r : Int32} (h : fX13_thrown uth = some r) : RO l yX13_thrown cX13_thrown 1 (some .int) 0 0 dC dI g [.ref a0] (wX13 g a0 a1 a2 a3 a4 a5 a6 a7 a8 uth uch ufc usv ull ubl uba uea ufa uso udn uw uun usr ube ubs uln ubu unu) (some (.int r)) := by
  refine RO_of (by decide) (Nat.le_of_ble_eq_true rfl) ?_
  intro p e s m below meth c ls F hr hlocks hE hX hP hl
  replace F : CF p m c cX13_thrown 1 s _ RX13 := F
  replace hl : lv_has ls 1 [(0, .ref a0)] := hl
  rw [fX13_thrown] at h
  refine lv_aload_n F.1 F.2.1 dX13_thrown_0 rfl (lv_at hl 0 rfl) ?_
  refine gF (v := .int uth) F hE hP 0 rfl rfl inX13 0 (by decide) q1684 rfl dX13_thrown_1 ?_
  cases h
  exact RO_i F hr hlocks dX13_thrown_4
/-! WireCutterModel.fails -/
def fX13_fails (p1 : Int32) : Option (Int32 × Int32) :=
  some (0, p1)
theorem mbX13_fails : MV yX13_fails cX13_fails 2 (some .int) 1 := ⟨⟨q1759, q16, by decide +kernel⟩, q1758, qs23⟩
set_option maxHeartbeats 4000000 in
set_option maxRecDepth 100000 in
theorem tX13_fails (l : Launch) (dC : Nat → ClassId) (dI : Nat → Nat → Nat) (g : Nat → ClassId) (a0 a1 a2 a3 a4 a5 a6 a7 a8 : Nat) (uth : Int32) (uch : Int32) (ufc : Int32) (usv : Int32) (ull : Int32) (ubl : Int32) (uba : Int32) (uea : Int32) (ufa : Int32) (uso : Int32) (udn : Int32) (uw : Nat → Int32) (uun : Nat → Int32) (usr : Nat → Int32) (ube : Nat → Int32) (ubs : Nat → Int32) (uln : Nat → Int32) (ubu : Nat → Int32) (unu : Nat → Int32) (p1 : Int32) {r : Int32 × Int32} (h : fX13_fails p1 = some r) : MU l yX13_fails cX13_fails 2 (some .int) 0 0 0 0 dC dI g [.ref a0, .int p1] (wX13 g a0 a1 a2 a3 a4 a5 a6 a7 a8 uth uch ufc usv ull ubl uba uea ufa uso udn uw uun usr ube ubs uln ubu unu) (wX13 g a0 a1 a2 a3 a4 a5 a6 a7 a8 r.2 uch ufc usv ull ubl uba uea ufa uso udn uw uun usr ube ubs uln ubu unu) (some (.int r.1)) := by
  refine MU_of (by decide) (Nat.le_of_ble_eq_true rfl) ?_
  intro p e s m below meth c ls F hr hlocks hE hX hA hP hD hS hl
  generalize va_A (wX13 g a0 a1 a2 a3 a4 a5 a6 a7 a8 uth uch ufc usv ull ubl uba uea ufa uso udn uw uun usr ube ubs uln ubu unu) s.heap.size = A at hA hD hS hX ⊢
  replace F : CF p m c cX13_fails 2 s _ RX13 := F
  replace hl : lv_has ls 2 [(0, .ref a0), (1, .int p1)] := hl
  rw [fX13_fails] at h
  refine lv_aload_n F.1 F.2.1 dX13_fails_0 rfl (lv_at hl 0 rfl) ?_
  refine lv_iload_n F.1 F.2.1 dX13_fails_1 rfl (lv_at hl 1 rfl) ?_
  refine pF (v := .int p1) F hE hP hD hS 0 rfl rfl inX13 tyX13 tyX13_ok nmX13 0 (by decide) q1684 rfl rfl rfl (Nat.le_of_ble_eq_true rfl) dX13_fails_2 (fun H locs hP hD hS => ?_)
  replace hP : va_P (dC, dI) vwCl (wX13 g a0 a1 a2 a3 a4 a5 a6 a7 a8 p1 uch ufc usv ull ubl uba uea ufa uso udn uw uun usr ube ubs uln ubu unu) H := hP
  replace hD : va_D A (wX13 g a0 a1 a2 a3 a4 a5 a6 a7 a8 p1 uch ufc usv ull ubl uba uea ufa uso udn uw uun usr ube ubs uln ubu unu) := hD
  refine lv_iconst (v := 0) F.1 F.2.1 dX13_fails_5 (by decide) ?_
  cases h
  exact MU_i F hr hlocks (Nat.le_refl _) (Nat.le_refl _) hP hS dX13_fails_6
/-! WireCutterModel.isBetween -/
def fX13_isBetween (p0 : Int32) (p1 : Int32) (p2 : Int32) : Option (Int32) :=
  if p0 < p1 then
    some (0)
  else
    if p2 < p0 then
      some (0)
    else
      some (1)
theorem mbX13_isBetween : MS yX13_isBetween cX13_isBetween 3 (some .boolean) 3 := ⟨⟨q1755, q16, by decide +kernel⟩, q1754⟩
set_option maxHeartbeats 4000000 in
set_option maxRecDepth 100000 in
theorem tX13_isBetween (l : Launch) (dC : Nat → ClassId) (dI : Nat → Nat → Nat) (g : Nat → ClassId) (p0 : Int32) (p1 : Int32) (p2 : Int32) {r : Int32} (h : fX13_isBetween p0 p1 p2 = some r) : RO l yX13_isBetween cX13_isBetween 3 (some .boolean) 0 0 dC dI g [.int p0, .int p1, .int p2] (([] : va_W)) (some (.int r)) := by
  refine RO_of (by decide) (Nat.le_of_ble_eq_true rfl) ?_
  intro p e s m below meth c ls F hr hlocks hE hX hP hl
  replace F : CF p m c cX13_isBetween 3 s _ RX13 := F
  replace hl : lv_has ls 3 [(0, .int p0), (1, .int p1), (2, .int p2)] := hl
  rw [fX13_isBetween] at h
  refine lv_iload_n F.1 F.2.1 dX13_isBetween_0 rfl (lv_at hl 1 rfl) ?_
  refine lv_iload_n F.1 F.2.1 dX13_isBetween_1 rfl (lv_at hl 0 rfl) ?_
  refine lv_icmp_gt (tgt := 14) F.1 F.2.1 dX13_isBetween_2 (by decide) (fun k1 => ?_) (fun k1 => ?_)
  · replace h := it_t k1 h
    refine lv_iconst (v := 0) F.1 F.2.1 dX13_isBetween_14 (by decide) ?_
    cases h
    exact RO_z F hr hlocks rfl dX13_isBetween_15
  · replace h := it_f k1 h
    refine lv_iload_n F.1 F.2.1 dX13_isBetween_5 rfl (lv_at hl 0 rfl) ?_
    refine lv_iload_n F.1 F.2.1 dX13_isBetween_6 rfl (lv_at hl 2 rfl) ?_
    refine lv_icmp_gt (tgt := 14) F.1 F.2.1 dX13_isBetween_7 (by decide) (fun k2 => ?_) (fun k2 => ?_)
    · replace h := it_t k2 h
      refine lv_iconst (v := 0) F.1 F.2.1 dX13_isBetween_14 (by decide) ?_
      cases h
      exact RO_z F hr hlocks rfl dX13_isBetween_15
    · replace h := it_f k2 h
      refine lv_iconst (v := 1) F.1 F.2.1 dX13_isBetween_10 (by decide) ?_
      refine lv_goto (tgt := 15) F.1 F.2.1 dX13_isBetween_11 (by decide) ?_
      cases h
      exact RO_z F hr hlocks rfl dX13_isBetween_15
/-! WireCutterModel.copies -/
def fX13_copies_L2 (uw : Nat → Int32) : Nat → Int32 → (Nat → Int32) → Option ((Nat → Int32))
  | 0, _, _ => none
  | k + 1, x1, ube =>
    if 201 ≤ x1 then
      some (ube)
    else
      gd (inR x1 201) <|
      gd (inR x1 201) <|
      fX13_copies_L2 uw k (x1 + 1) (upd ube x1.toNatClampNeg (uw x1.toNatClampNeg))
def fX13_copies (uw : Nat → Int32) (ube : Nat → Int32) : Option ((Nat → Int32)) :=
  fX13_copies_L2 uw FU 0 ube
theorem mbX13_copies : MV yX13_copies cX13_copies 2 none 0 := ⟨⟨q1767, q16, by decide +kernel⟩, q1766, qs25⟩
set_option maxHeartbeats 4000000 in
set_option maxRecDepth 100000 in
theorem tX13_copies_L2 {p : Program} {l : Launch} {e : Env} {s : State} {m : MethodId} {args : Array Value} {below : List Frame} {meth : Method} {c : Code} {dC : Nat → ClassId} {dI : Nat → Nat → Nat} {g : Nat → ClassId} {a0 a1 a2 a3 a4 a5 a6 a7 a8 : Nat} {r : (Nat → Int32)} {A : Nat → Prop} (F : CF p m c cX13_copies 2 s args RX13) (hr : meth.sig.returnType = none) (hlocks : meth.locks = false) (hE : EK dC dI g s) (hX : EX g A s s.heap) (hA : ∀ q : Nat, s.heap.size ≤ q → A q) (uth : Int32) (uch : Int32) (ufc : Int32) (usv : Int32) (ull : Int32) (ubl : Int32) (uba : Int32) (uea : Int32) (ufa : Int32) (uso : Int32) (udn : Int32) (uw : Nat → Int32) (uun : Nat → Int32) (usr : Nat → Int32) (ubs : Nat → Int32) (uln : Nat → Int32) (ubu : Nat → Int32) (unu : Nat → Int32) : ∀ (k : Nat) (x1 : Int32) (ube : Nat → Int32), fX13_copies_L2 uw k x1 ube = some r → ∀ (H : Heap) (locs : List Loc), va_P (dC, dI) vwCl (wX13 g a0 a1 a2 a3 a4 a5 a6 a7 a8 uth uch ufc usv ull ubl uba uea ufa uso udn uw uun usr ube ubs uln ubu unu) H → va_D A (wX13 g a0 a1 a2 a3 a4 a5 a6 a7 a8 uth uch ufc usv ull ubl uba uea ufa uso udn uw uun usr ube ubs uln ubu unu) → va_S A s.heap H locs → ∀ (ls : Array Slot), lv_has ls 2 [(0, .ref a0), (1, .int x1)] → W p l e { frames := 0, cells := 0, slots := 0, locals := 0 } s m args below meth c H locs 0 0 (MQ below (fun _ st o t => o = .returned none ∧ va_P (dC, dI) vwCl (wX13 g a0 a1 a2 a3 a4 a5 a6 a7 a8 uth uch ufc usv ull ubl uba uea ufa uso udn uw uun usr r ubs uln ubu unu) t.heap ∧ va_F A st t) args s 0 0 A) (F0 m 2 ls []) := by
  intro k
  induction k with
  | zero =>
    intro x1 ube h
    exact absurd h (by simp [fX13_copies_L2])
  | succ k ih =>
    intro x1 ube h H locs hP hD hS ls hl
    rw [fX13_copies_L2] at h
    refine lv_iload_n F.1 F.2.1 dX13_copies_2 rfl (lv_at hl 1 rfl) ?_
    refine lv_sipush (v := 201) F.1 F.2.1 dX13_copies_3 (by decide) ?_
    refine lv_icmp_ge (tgt := 27) F.1 F.2.1 dX13_copies_6 (by decide) (fun k1 => ?_) (fun k1 => ?_)
    · replace h := it_t k1 h
      cases h
      exact MU_v F hr hlocks (Nat.le_refl _) (Nat.le_refl _) hP hS dX13_copies_27
    · replace h := it_f k1 h
      refine lv_aload_n F.1 F.2.1 dX13_copies_9 rfl (lv_at hl 0 rfl) ?_
      refine gF (v := .ref a4) F hE hP 0 rfl rfl inX13 4 (by decide) q1688 rfl dX13_copies_10 ?_
      refine lv_iload_n F.1 F.2.1 dX13_copies_13 rfl (lv_at hl 1 rfl) ?_
      refine lv_aload_n F.1 F.2.1 dX13_copies_14 rfl (lv_at hl 0 rfl) ?_
      refine gF (v := .ref a1) F hE hP 0 rfl rfl inX13 1 (by decide) q1685 rfl dX13_copies_15 ?_
      refine lv_iload_n F.1 F.2.1 dX13_copies_18 rfl (lv_at hl 1 rfl) ?_
      obtain ⟨k2, h⟩ := gd_ok h
      refine aLi (k := x1.toNatClampNeg) F hE hP 1 0 rfl rfl k2 rfl dX13_copies_19 ?_
      obtain ⟨k3, h⟩ := gd_ok h
      refine aSi (k := x1.toNatClampNeg) F hE hP hD hS 4 0 rfl rfl k3 rfl dX13_copies_20 (fun H locs hP hD hS => ?_)
      replace hP : va_P (dC, dI) vwCl (wX13 g a0 a1 a2 a3 a4 a5 a6 a7 a8 uth uch ufc usv ull ubl uba uea ufa uso udn uw uun usr (upd ube x1.toNatClampNeg (uw x1.toNatClampNeg)) ubs uln ubu unu) H := hP
      replace hD : va_D A (wX13 g a0 a1 a2 a3 a4 a5 a6 a7 a8 uth uch ufc usv ull ubl uba uea ufa uso udn uw uun usr (upd ube x1.toNatClampNeg (uw x1.toNatClampNeg)) ubs uln ubu unu) := hD
      refine lv_iinc (v := x1 + 1) (lv' := [(1, .int (x1 + 1)), (0, .ref a0)]) F.1 F.2.1 dX13_copies_21 hl (k := 1) rfl (by rfl) (by decide) rfl (fun ls hl => ?_)
      refine lv_goto (tgt := 2) F.1 F.2.1 dX13_copies_24 (by decide) ?_
      exact ih (x1 + 1) (upd ube x1.toNatClampNeg (uw x1.toNatClampNeg)) h _ _ hP hD hS ls (lv_sub hl [1, 0] rfl)
set_option maxHeartbeats 4000000 in
set_option maxRecDepth 100000 in
theorem tX13_copies (l : Launch) (dC : Nat → ClassId) (dI : Nat → Nat → Nat) (g : Nat → ClassId) (a0 a1 a2 a3 a4 a5 a6 a7 a8 : Nat) (uth : Int32) (uch : Int32) (ufc : Int32) (usv : Int32) (ull : Int32) (ubl : Int32) (uba : Int32) (uea : Int32) (ufa : Int32) (uso : Int32) (udn : Int32) (uw : Nat → Int32) (uun : Nat → Int32) (usr : Nat → Int32) (ube : Nat → Int32) (ubs : Nat → Int32) (uln : Nat → Int32) (ubu : Nat → Int32) (unu : Nat → Int32) {r : (Nat → Int32)} (h : fX13_copies uw ube = some r) : MU l yX13_copies cX13_copies 2 none 0 0 0 0 dC dI g [.ref a0] (wX13 g a0 a1 a2 a3 a4 a5 a6 a7 a8 uth uch ufc usv ull ubl uba uea ufa uso udn uw uun usr ube ubs uln ubu unu) (wX13 g a0 a1 a2 a3 a4 a5 a6 a7 a8 uth uch ufc usv ull ubl uba uea ufa uso udn uw uun usr r ubs uln ubu unu) none := by
  refine MU_of (by decide) (Nat.le_of_ble_eq_true rfl) ?_
  intro p e s m below meth c ls F hr hlocks hE hX hA hP hD hS hl
  generalize va_A (wX13 g a0 a1 a2 a3 a4 a5 a6 a7 a8 uth uch ufc usv ull ubl uba uea ufa uso udn uw uun usr ube ubs uln ubu unu) s.heap.size = A at hA hD hS hX ⊢
  replace F : CF p m c cX13_copies 2 s _ RX13 := F
  replace hl : lv_has ls 2 [(0, .ref a0)] := hl
  rw [fX13_copies] at h
  refine lv_iconst (v := 0) F.1 F.2.1 dX13_copies_0 (by decide) ?_
  refine lv_istore_n (lv' := [(1, .int 0), (0, .ref a0)]) F.1 F.2.1 dX13_copies_1 rfl hl (by decide) rfl (fun ls hl => ?_)
  exact tX13_copies_L2 F hr hlocks hE hX hA uth uch ufc usv ull ubl uba uea ufa uso udn uw uun usr ubs uln ubu unu FU 0 ube h _ _ hP hD hS ls (lv_sub hl [1, 0] rfl)
/-! WireCutterModel.goesBack -/
def fX13_goesBack_L2 (ube : Nat → Int32) : Nat → Int32 → (Nat → Int32) → Option ((Nat → Int32))
  | 0, _, _ => none
  | k + 1, x1, uw =>
    if 201 ≤ x1 then
      some (uw)
    else
      gd (inR x1 201) <|
      gd (inR x1 201) <|
      fX13_goesBack_L2 ube k (x1 + 1) (upd uw x1.toNatClampNeg (ube x1.toNatClampNeg))
def fX13_goesBack (uw : Nat → Int32) (ube : Nat → Int32) : Option ((Nat → Int32)) :=
  fX13_goesBack_L2 ube FU 0 uw
theorem mbX13_goesBack : MV yX13_goesBack cX13_goesBack 2 none 0 := ⟨⟨q2187, q16, by decide +kernel⟩, q2186, qs81⟩
set_option maxHeartbeats 4000000 in
set_option maxRecDepth 100000 in
theorem tX13_goesBack_L2 {p : Program} {l : Launch} {e : Env} {s : State} {m : MethodId} {args : Array Value} {below : List Frame} {meth : Method} {c : Code} {dC : Nat → ClassId} {dI : Nat → Nat → Nat} {g : Nat → ClassId} {a0 a1 a2 a3 a4 a5 a6 a7 a8 : Nat} {r : (Nat → Int32)} {A : Nat → Prop} (F : CF p m c cX13_goesBack 2 s args RX13) (hr : meth.sig.returnType = none) (hlocks : meth.locks = false) (hE : EK dC dI g s) (hX : EX g A s s.heap) (hA : ∀ q : Nat, s.heap.size ≤ q → A q) (uth : Int32) (uch : Int32) (ufc : Int32) (usv : Int32) (ull : Int32) (ubl : Int32) (uba : Int32) (uea : Int32) (ufa : Int32) (uso : Int32) (udn : Int32) (uun : Nat → Int32) (usr : Nat → Int32) (ube : Nat → Int32) (ubs : Nat → Int32) (uln : Nat → Int32) (ubu : Nat → Int32) (unu : Nat → Int32) : ∀ (k : Nat) (x1 : Int32) (uw : Nat → Int32), fX13_goesBack_L2 ube k x1 uw = some r → ∀ (H : Heap) (locs : List Loc), va_P (dC, dI) vwCl (wX13 g a0 a1 a2 a3 a4 a5 a6 a7 a8 uth uch ufc usv ull ubl uba uea ufa uso udn uw uun usr ube ubs uln ubu unu) H → va_D A (wX13 g a0 a1 a2 a3 a4 a5 a6 a7 a8 uth uch ufc usv ull ubl uba uea ufa uso udn uw uun usr ube ubs uln ubu unu) → va_S A s.heap H locs → ∀ (ls : Array Slot), lv_has ls 2 [(0, .ref a0), (1, .int x1)] → W p l e { frames := 0, cells := 0, slots := 0, locals := 0 } s m args below meth c H locs 0 0 (MQ below (fun _ st o t => o = .returned none ∧ va_P (dC, dI) vwCl (wX13 g a0 a1 a2 a3 a4 a5 a6 a7 a8 uth uch ufc usv ull ubl uba uea ufa uso udn r uun usr ube ubs uln ubu unu) t.heap ∧ va_F A st t) args s 0 0 A) (F0 m 2 ls []) := by
  intro k
  induction k with
  | zero =>
    intro x1 uw h
    exact absurd h (by simp [fX13_goesBack_L2])
  | succ k ih =>
    intro x1 uw h H locs hP hD hS ls hl
    rw [fX13_goesBack_L2] at h
    refine lv_iload_n F.1 F.2.1 dX13_goesBack_2 rfl (lv_at hl 1 rfl) ?_
    refine lv_sipush (v := 201) F.1 F.2.1 dX13_goesBack_3 (by decide) ?_
    refine lv_icmp_ge (tgt := 27) F.1 F.2.1 dX13_goesBack_6 (by decide) (fun k1 => ?_) (fun k1 => ?_)
    · replace h := it_t k1 h
      cases h
      exact MU_v F hr hlocks (Nat.le_refl _) (Nat.le_refl _) hP hS dX13_goesBack_27
    · replace h := it_f k1 h
      refine lv_aload_n F.1 F.2.1 dX13_goesBack_9 rfl (lv_at hl 0 rfl) ?_
      refine gF (v := .ref a1) F hE hP 0 rfl rfl inX13 1 (by decide) q1685 rfl dX13_goesBack_10 ?_
      refine lv_iload_n F.1 F.2.1 dX13_goesBack_13 rfl (lv_at hl 1 rfl) ?_
      refine lv_aload_n F.1 F.2.1 dX13_goesBack_14 rfl (lv_at hl 0 rfl) ?_
      refine gF (v := .ref a4) F hE hP 0 rfl rfl inX13 4 (by decide) q1688 rfl dX13_goesBack_15 ?_
      refine lv_iload_n F.1 F.2.1 dX13_goesBack_18 rfl (lv_at hl 1 rfl) ?_
      obtain ⟨k2, h⟩ := gd_ok h
      refine aLi (k := x1.toNatClampNeg) F hE hP 4 0 rfl rfl k2 rfl dX13_goesBack_19 ?_
      obtain ⟨k3, h⟩ := gd_ok h
      refine aSi (k := x1.toNatClampNeg) F hE hP hD hS 1 0 rfl rfl k3 rfl dX13_goesBack_20 (fun H locs hP hD hS => ?_)
      replace hP : va_P (dC, dI) vwCl (wX13 g a0 a1 a2 a3 a4 a5 a6 a7 a8 uth uch ufc usv ull ubl uba uea ufa uso udn (upd uw x1.toNatClampNeg (ube x1.toNatClampNeg)) uun usr ube ubs uln ubu unu) H := hP
      replace hD : va_D A (wX13 g a0 a1 a2 a3 a4 a5 a6 a7 a8 uth uch ufc usv ull ubl uba uea ufa uso udn (upd uw x1.toNatClampNeg (ube x1.toNatClampNeg)) uun usr ube ubs uln ubu unu) := hD
      refine lv_iinc (v := x1 + 1) (lv' := [(1, .int (x1 + 1)), (0, .ref a0)]) F.1 F.2.1 dX13_goesBack_21 hl (k := 1) rfl (by rfl) (by decide) rfl (fun ls hl => ?_)
      refine lv_goto (tgt := 2) F.1 F.2.1 dX13_goesBack_24 (by decide) ?_
      exact ih (x1 + 1) (upd uw x1.toNatClampNeg (ube x1.toNatClampNeg)) h _ _ hP hD hS ls (lv_sub hl [1, 0] rfl)
set_option maxHeartbeats 4000000 in
set_option maxRecDepth 100000 in
theorem tX13_goesBack (l : Launch) (dC : Nat → ClassId) (dI : Nat → Nat → Nat) (g : Nat → ClassId) (a0 a1 a2 a3 a4 a5 a6 a7 a8 : Nat) (uth : Int32) (uch : Int32) (ufc : Int32) (usv : Int32) (ull : Int32) (ubl : Int32) (uba : Int32) (uea : Int32) (ufa : Int32) (uso : Int32) (udn : Int32) (uw : Nat → Int32) (uun : Nat → Int32) (usr : Nat → Int32) (ube : Nat → Int32) (ubs : Nat → Int32) (uln : Nat → Int32) (ubu : Nat → Int32) (unu : Nat → Int32) {r : (Nat → Int32)} (h : fX13_goesBack uw ube = some r) : MU l yX13_goesBack cX13_goesBack 2 none 0 0 0 0 dC dI g [.ref a0] (wX13 g a0 a1 a2 a3 a4 a5 a6 a7 a8 uth uch ufc usv ull ubl uba uea ufa uso udn uw uun usr ube ubs uln ubu unu) (wX13 g a0 a1 a2 a3 a4 a5 a6 a7 a8 uth uch ufc usv ull ubl uba uea ufa uso udn r uun usr ube ubs uln ubu unu) none := by
  refine MU_of (by decide) (Nat.le_of_ble_eq_true rfl) ?_
  intro p e s m below meth c ls F hr hlocks hE hX hA hP hD hS hl
  generalize va_A (wX13 g a0 a1 a2 a3 a4 a5 a6 a7 a8 uth uch ufc usv ull ubl uba uea ufa uso udn uw uun usr ube ubs uln ubu unu) s.heap.size = A at hA hD hS hX ⊢
  replace F : CF p m c cX13_goesBack 2 s _ RX13 := F
  replace hl : lv_has ls 2 [(0, .ref a0)] := hl
  rw [fX13_goesBack] at h
  refine lv_iconst (v := 0) F.1 F.2.1 dX13_goesBack_0 (by decide) ?_
  refine lv_istore_n (lv' := [(1, .int 0), (0, .ref a0)]) F.1 F.2.1 dX13_goesBack_1 rfl hl (by decide) rfl (fun ls hl => ?_)
  exact tX13_goesBack_L2 F hr hlocks hE hX hA uth uch ufc usv ull ubl uba uea ufa uso udn uun usr ube ubs uln ubu unu FU 0 uw h _ _ hP hD hS ls (lv_sub hl [1, 0] rfl)
/-! WireCutterModel.keeps -/
def fX13_keeps_L47 (x1 : Int32) (uch : Int32) (ufc : Int32) (ube : Nat → Int32) : Nat → Int32 → (Nat → Int32) → Option (Int32 × Int32 × (Nat → Int32))
  | 0, _, _ => none
  | k + 1, x2, uun =>
    if 201 ≤ x2 then
      some (uch + 1, ufc, uun)
    else
      gd (inR x2 201) <|
      gd (inR ((201 * x1) + x2) 1608) <|
      fX13_keeps_L47 x1 uch ufc ube k (x2 + 1) (upd uun (((201 * x1) + x2).toNatClampNeg) (ube x2.toNatClampNeg))
def fX13_keeps (uch : Int32) (ufc : Int32) (uun : Nat → Int32) (ube : Nat → Int32) : Option (Int32 × Int32 × (Nat → Int32)) :=
  if uch = 8 then
    fX13_keeps_L47 ((((ufc + 1) - (ufc + 1) / 8 * 8) + (uch - 1)) - (((ufc + 1) - (ufc + 1) / 8 * 8) + (uch - 1)) / 8 * 8) (uch - 1) ((ufc + 1) - (ufc + 1) / 8 * 8) ube FU 0 uun
  else
    fX13_keeps_L47 ((ufc + uch) - (ufc + uch) / 8 * 8) uch ufc ube FU 0 uun
theorem mbX13_keeps : MV yX13_keeps cX13_keeps 3 none 0 := ⟨⟨q1771, q16, by decide +kernel⟩, q1770, qs26⟩
set_option maxHeartbeats 4000000 in
set_option maxRecDepth 100000 in
theorem tX13_keeps_L47 {p : Program} {l : Launch} {e : Env} {s : State} {m : MethodId} {args : Array Value} {below : List Frame} {meth : Method} {c : Code} {dC : Nat → ClassId} {dI : Nat → Nat → Nat} {g : Nat → ClassId} {a0 a1 a2 a3 a4 a5 a6 a7 a8 : Nat} {r : Int32 × Int32 × (Nat → Int32)} {A : Nat → Prop} (F : CF p m c cX13_keeps 3 s args RX13) (hr : meth.sig.returnType = none) (hlocks : meth.locks = false) (hE : EK dC dI g s) (hX : EX g A s s.heap) (hA : ∀ q : Nat, s.heap.size ≤ q → A q) (x1 : Int32) (uth : Int32) (uch : Int32) (ufc : Int32) (usv : Int32) (ull : Int32) (ubl : Int32) (uba : Int32) (uea : Int32) (ufa : Int32) (uso : Int32) (udn : Int32) (uw : Nat → Int32) (usr : Nat → Int32) (ube : Nat → Int32) (ubs : Nat → Int32) (uln : Nat → Int32) (ubu : Nat → Int32) (unu : Nat → Int32) : ∀ (k : Nat) (x2 : Int32) (uun : Nat → Int32), fX13_keeps_L47 x1 uch ufc ube k x2 uun = some r → ∀ (H : Heap) (locs : List Loc), va_P (dC, dI) vwCl (wX13 g a0 a1 a2 a3 a4 a5 a6 a7 a8 uth uch ufc usv ull ubl uba uea ufa uso udn uw uun usr ube ubs uln ubu unu) H → va_D A (wX13 g a0 a1 a2 a3 a4 a5 a6 a7 a8 uth uch ufc usv ull ubl uba uea ufa uso udn uw uun usr ube ubs uln ubu unu) → va_S A s.heap H locs → ∀ (ls : Array Slot), lv_has ls 3 [(0, .ref a0), (1, .int x1), (2, .int x2)] → W p l e { frames := 0, cells := 0, slots := 0, locals := 0 } s m args below meth c H locs 0 0 (MQ below (fun _ st o t => o = .returned none ∧ va_P (dC, dI) vwCl (wX13 g a0 a1 a2 a3 a4 a5 a6 a7 a8 uth r.1 r.2.1 usv ull ubl uba uea ufa uso udn uw r.2.2 usr ube ubs uln ubu unu) t.heap ∧ va_F A st t) args s 0 0 A) (F0 m 47 ls []) := by
  intro k
  induction k with
  | zero =>
    intro x2 uun h
    exact absurd h (by simp [fX13_keeps_L47])
  | succ k ih =>
    intro x2 uun h H locs hP hD hS ls hl
    rw [fX13_keeps_L47] at h
    refine lv_iload_n F.1 F.2.1 dX13_keeps_47 rfl (lv_at hl 2 rfl) ?_
    refine lv_sipush (v := 201) F.1 F.2.1 dX13_keeps_48 (by decide) ?_
    refine lv_icmp_ge (tgt := 78) F.1 F.2.1 dX13_keeps_51 (by decide) (fun k2 => ?_) (fun k2 => ?_)
    · replace h := it_t k2 h
      refine lv_aload_n F.1 F.2.1 dX13_keeps_78 rfl (lv_at hl 0 rfl) ?_
      refine lv_dup F.1 F.2.1 dX13_keeps_79 rfl ?_
      refine gF (v := .int uch) F hE hP 0 rfl rfl inX13 5 (by decide) q1689 rfl dX13_keeps_80 ?_
      refine lv_iconst (v := 1) F.1 F.2.1 dX13_keeps_83 (by decide) ?_
      refine lv_iadd F.1 F.2.1 dX13_keeps_84 ?_
      refine pF (v := .int (uch + 1)) F hE hP hD hS 0 rfl rfl inX13 tyX13 tyX13_ok nmX13 5 (by decide) q1689 rfl rfl rfl (Nat.le_of_ble_eq_true rfl) dX13_keeps_85 (fun H locs hP hD hS => ?_)
      replace hP : va_P (dC, dI) vwCl (wX13 g a0 a1 a2 a3 a4 a5 a6 a7 a8 uth (uch + 1) ufc usv ull ubl uba uea ufa uso udn uw uun usr ube ubs uln ubu unu) H := hP
      replace hD : va_D A (wX13 g a0 a1 a2 a3 a4 a5 a6 a7 a8 uth (uch + 1) ufc usv ull ubl uba uea ufa uso udn uw uun usr ube ubs uln ubu unu) := hD
      cases h
      exact MU_v F hr hlocks (Nat.le_refl _) (Nat.le_refl _) hP hS dX13_keeps_88
    · replace h := it_f k2 h
      refine lv_aload_n F.1 F.2.1 dX13_keeps_54 rfl (lv_at hl 0 rfl) ?_
      refine gF (v := .ref a2) F hE hP 0 rfl rfl inX13 2 (by decide) q1686 rfl dX13_keeps_55 ?_
      refine lv_sipush (v := 201) F.1 F.2.1 dX13_keeps_58 (by decide) ?_
      refine lv_iload_n F.1 F.2.1 dX13_keeps_61 rfl (lv_at hl 1 rfl) ?_
      refine lv_imul F.1 F.2.1 dX13_keeps_62 ?_
      refine lv_iload_n F.1 F.2.1 dX13_keeps_63 rfl (lv_at hl 2 rfl) ?_
      refine lv_iadd F.1 F.2.1 dX13_keeps_64 ?_
      refine lv_aload_n F.1 F.2.1 dX13_keeps_65 rfl (lv_at hl 0 rfl) ?_
      refine gF (v := .ref a4) F hE hP 0 rfl rfl inX13 4 (by decide) q1688 rfl dX13_keeps_66 ?_
      refine lv_iload_n F.1 F.2.1 dX13_keeps_69 rfl (lv_at hl 2 rfl) ?_
      obtain ⟨k3, h⟩ := gd_ok h
      refine aLi (k := x2.toNatClampNeg) F hE hP 4 0 rfl rfl k3 rfl dX13_keeps_70 ?_
      obtain ⟨k4, h⟩ := gd_ok h
      refine aSi (k := ((201 * x1) + x2).toNatClampNeg) F hE hP hD hS 2 0 rfl rfl k4 rfl dX13_keeps_71 (fun H locs hP hD hS => ?_)
      replace hP : va_P (dC, dI) vwCl (wX13 g a0 a1 a2 a3 a4 a5 a6 a7 a8 uth uch ufc usv ull ubl uba uea ufa uso udn uw (upd uun (((201 * x1) + x2).toNatClampNeg) (ube x2.toNatClampNeg)) usr ube ubs uln ubu unu) H := hP
      replace hD : va_D A (wX13 g a0 a1 a2 a3 a4 a5 a6 a7 a8 uth uch ufc usv ull ubl uba uea ufa uso udn uw (upd uun (((201 * x1) + x2).toNatClampNeg) (ube x2.toNatClampNeg)) usr ube ubs uln ubu unu) := hD
      refine lv_iinc (v := x2 + 1) (lv' := [(2, .int (x2 + 1)), (0, .ref a0), (1, .int x1)]) F.1 F.2.1 dX13_keeps_72 hl (k := 2) rfl (by rfl) (by decide) rfl (fun ls hl => ?_)
      refine lv_goto (tgt := 47) F.1 F.2.1 dX13_keeps_75 (by decide) ?_
      exact ih (x2 + 1) (upd uun (((201 * x1) + x2).toNatClampNeg) (ube x2.toNatClampNeg)) h _ _ hP hD hS ls (lv_sub hl [1, 2, 0] rfl)
set_option maxHeartbeats 4000000 in
set_option maxRecDepth 100000 in
theorem tX13_keeps (l : Launch) (dC : Nat → ClassId) (dI : Nat → Nat → Nat) (g : Nat → ClassId) (a0 a1 a2 a3 a4 a5 a6 a7 a8 : Nat) (uth : Int32) (uch : Int32) (ufc : Int32) (usv : Int32) (ull : Int32) (ubl : Int32) (uba : Int32) (uea : Int32) (ufa : Int32) (uso : Int32) (udn : Int32) (uw : Nat → Int32) (uun : Nat → Int32) (usr : Nat → Int32) (ube : Nat → Int32) (ubs : Nat → Int32) (uln : Nat → Int32) (ubu : Nat → Int32) (unu : Nat → Int32) {r : Int32 × Int32 × (Nat → Int32)} (h : fX13_keeps uch ufc uun ube = some r) : MU l yX13_keeps cX13_keeps 3 none 0 0 0 0 dC dI g [.ref a0] (wX13 g a0 a1 a2 a3 a4 a5 a6 a7 a8 uth uch ufc usv ull ubl uba uea ufa uso udn uw uun usr ube ubs uln ubu unu) (wX13 g a0 a1 a2 a3 a4 a5 a6 a7 a8 uth r.1 r.2.1 usv ull ubl uba uea ufa uso udn uw r.2.2 usr ube ubs uln ubu unu) none := by
  refine MU_of (by decide) (Nat.le_of_ble_eq_true rfl) ?_
  intro p e s m below meth c ls F hr hlocks hE hX hA hP hD hS hl
  generalize va_A (wX13 g a0 a1 a2 a3 a4 a5 a6 a7 a8 uth uch ufc usv ull ubl uba uea ufa uso udn uw uun usr ube ubs uln ubu unu) s.heap.size = A at hA hD hS hX ⊢
  replace F : CF p m c cX13_keeps 3 s _ RX13 := F
  replace hl : lv_has ls 3 [(0, .ref a0)] := hl
  rw [fX13_keeps] at h
  refine lv_aload_n F.1 F.2.1 dX13_keeps_0 rfl (lv_at hl 0 rfl) ?_
  refine gF (v := .int uch) F hE hP 0 rfl rfl inX13 5 (by decide) q1689 rfl dX13_keeps_1 ?_
  refine lv_bipush (v := 8) F.1 F.2.1 dX13_keeps_4 (by decide) ?_
  refine lv_icmp_ne (tgt := 32) F.1 F.2.1 dX13_keeps_6 (by decide) (fun k1 => ?_) (fun k1 => ?_)
  · replace h := it_f k1 h
    refine lv_aload_n F.1 F.2.1 dX13_keeps_32 rfl (lv_at hl 0 rfl) ?_
    refine gF (v := .int ufc) F hE hP 0 rfl rfl inX13 6 (by decide) q1690 rfl dX13_keeps_33 ?_
    refine lv_aload_n F.1 F.2.1 dX13_keeps_36 rfl (lv_at hl 0 rfl) ?_
    refine gF (v := .int uch) F hE hP 0 rfl rfl inX13 5 (by decide) q1689 rfl dX13_keeps_37 ?_
    refine lv_iadd F.1 F.2.1 dX13_keeps_40 ?_
    refine lv_bipush (v := 8) F.1 F.2.1 dX13_keeps_41 (by decide) ?_
    refine lv_irem F.1 F.2.1 dX13_keeps_43 (by decide) ?_
    refine lv_istore_n (lv' := [(1, .int ((ufc + uch) - (ufc + uch) / 8 * 8)), (0, .ref a0)]) F.1 F.2.1 dX13_keeps_44 rfl hl (by decide) rfl (fun ls hl => ?_)
    refine lv_iconst (v := 0) F.1 F.2.1 dX13_keeps_45 (by decide) ?_
    refine lv_istore_n (lv' := [(2, .int 0), (1, .int ((ufc + uch) - (ufc + uch) / 8 * 8)), (0, .ref a0)]) F.1 F.2.1 dX13_keeps_46 rfl hl (by decide) rfl (fun ls hl => ?_)
    exact tX13_keeps_L47 F hr hlocks hE hX hA ((ufc + uch) - (ufc + uch) / 8 * 8) uth uch ufc usv ull ubl uba uea ufa uso udn uw usr ube ubs uln ubu unu FU 0 uun h _ _ hP hD hS ls (lv_sub hl [2, 1, 0] rfl)
  · replace h := it_t k1 h
    refine lv_aload_n F.1 F.2.1 dX13_keeps_9 rfl (lv_at hl 0 rfl) ?_
    refine lv_aload_n F.1 F.2.1 dX13_keeps_10 rfl (lv_at hl 0 rfl) ?_
    refine gF (v := .int ufc) F hE hP 0 rfl rfl inX13 6 (by decide) q1690 rfl dX13_keeps_11 ?_
    refine lv_iconst (v := 1) F.1 F.2.1 dX13_keeps_14 (by decide) ?_
    refine lv_iadd F.1 F.2.1 dX13_keeps_15 ?_
    refine lv_bipush (v := 8) F.1 F.2.1 dX13_keeps_16 (by decide) ?_
    refine lv_irem F.1 F.2.1 dX13_keeps_18 (by decide) ?_
    refine pF (v := .int ((ufc + 1) - (ufc + 1) / 8 * 8)) F hE hP hD hS 0 rfl rfl inX13 tyX13 tyX13_ok nmX13 6 (by decide) q1690 rfl rfl rfl (Nat.le_of_ble_eq_true rfl) dX13_keeps_19 (fun H locs hP hD hS => ?_)
    replace hP : va_P (dC, dI) vwCl (wX13 g a0 a1 a2 a3 a4 a5 a6 a7 a8 uth uch ((ufc + 1) - (ufc + 1) / 8 * 8) usv ull ubl uba uea ufa uso udn uw uun usr ube ubs uln ubu unu) H := hP
    replace hD : va_D A (wX13 g a0 a1 a2 a3 a4 a5 a6 a7 a8 uth uch ((ufc + 1) - (ufc + 1) / 8 * 8) usv ull ubl uba uea ufa uso udn uw uun usr ube ubs uln ubu unu) := hD
    refine lv_aload_n F.1 F.2.1 dX13_keeps_22 rfl (lv_at hl 0 rfl) ?_
    refine lv_dup F.1 F.2.1 dX13_keeps_23 rfl ?_
    refine gF (v := .int uch) F hE hP 0 rfl rfl inX13 5 (by decide) q1689 rfl dX13_keeps_24 ?_
    refine lv_iconst (v := 1) F.1 F.2.1 dX13_keeps_27 (by decide) ?_
    refine lv_isub F.1 F.2.1 dX13_keeps_28 ?_
    refine pF (v := .int (uch - 1)) F hE hP hD hS 0 rfl rfl inX13 tyX13 tyX13_ok nmX13 5 (by decide) q1689 rfl rfl rfl (Nat.le_of_ble_eq_true rfl) dX13_keeps_29 (fun H locs hP hD hS => ?_)
    replace hP : va_P (dC, dI) vwCl (wX13 g a0 a1 a2 a3 a4 a5 a6 a7 a8 uth (uch - 1) ((ufc + 1) - (ufc + 1) / 8 * 8) usv ull ubl uba uea ufa uso udn uw uun usr ube ubs uln ubu unu) H := hP
    replace hD : va_D A (wX13 g a0 a1 a2 a3 a4 a5 a6 a7 a8 uth (uch - 1) ((ufc + 1) - (ufc + 1) / 8 * 8) usv ull ubl uba uea ufa uso udn uw uun usr ube ubs uln ubu unu) := hD
    refine lv_aload_n F.1 F.2.1 dX13_keeps_32 rfl (lv_at hl 0 rfl) ?_
    refine gF (v := .int ((ufc + 1) - (ufc + 1) / 8 * 8)) F hE hP 0 rfl rfl inX13 6 (by decide) q1690 rfl dX13_keeps_33 ?_
    refine lv_aload_n F.1 F.2.1 dX13_keeps_36 rfl (lv_at hl 0 rfl) ?_
    refine gF (v := .int (uch - 1)) F hE hP 0 rfl rfl inX13 5 (by decide) q1689 rfl dX13_keeps_37 ?_
    refine lv_iadd F.1 F.2.1 dX13_keeps_40 ?_
    refine lv_bipush (v := 8) F.1 F.2.1 dX13_keeps_41 (by decide) ?_
    refine lv_irem F.1 F.2.1 dX13_keeps_43 (by decide) ?_
    refine lv_istore_n (lv' := [(1, .int ((((ufc + 1) - (ufc + 1) / 8 * 8) + (uch - 1)) - (((ufc + 1) - (ufc + 1) / 8 * 8) + (uch - 1)) / 8 * 8)), (0, .ref a0)]) F.1 F.2.1 dX13_keeps_44 rfl hl (by decide) rfl (fun ls hl => ?_)
    refine lv_iconst (v := 0) F.1 F.2.1 dX13_keeps_45 (by decide) ?_
    refine lv_istore_n (lv' := [(2, .int 0), (1, .int ((((ufc + 1) - (ufc + 1) / 8 * 8) + (uch - 1)) - (((ufc + 1) - (ufc + 1) / 8 * 8) + (uch - 1)) / 8 * 8)), (0, .ref a0)]) F.1 F.2.1 dX13_keeps_46 rfl hl (by decide) rfl (fun ls hl => ?_)
    exact tX13_keeps_L47 F hr hlocks hE hX hA ((((ufc + 1) - (ufc + 1) / 8 * 8) + (uch - 1)) - (((ufc + 1) - (ufc + 1) / 8 * 8) + (uch - 1)) / 8 * 8) uth (uch - 1) ((ufc + 1) - (ufc + 1) / 8 * 8) usv ull ubl uba uea ufa uso udn uw usr ube ubs uln ubu unu FU 0 uun h _ _ hP hD hS ls (lv_sub hl [2, 1, 0] rfl)
/-! WireCutterModel.remembers -/
def fX13_remembers (uch : Int32) (ufc : Int32) (uw : Nat → Int32) (uun : Nat → Int32) (ube : Nat → Int32) : Option (Int32 × Int32 × (Nat → Int32) × (Nat → Int32)) :=
  (fX13_copies uw ube).bind fun z1 =>
  (fX13_keeps uch ufc uun z1).bind fun z3 =>
  some (z3.1, z3.2.1, z3.2.2, z1)
theorem mbX13_remembers : MV yX13_remembers cX13_remembers 1 none 0 := ⟨⟨q1763, q16, by decide +kernel⟩, q1762, qs24⟩
set_option maxHeartbeats 4000000 in
set_option maxRecDepth 100000 in
theorem tX13_remembers (l : Launch) (dC : Nat → ClassId) (dI : Nat → Nat → Nat) (g : Nat → ClassId) (a0 a1 a2 a3 a4 a5 a6 a7 a8 : Nat) (uth : Int32) (uch : Int32) (ufc : Int32) (usv : Int32) (ull : Int32) (ubl : Int32) (uba : Int32) (uea : Int32) (ufa : Int32) (uso : Int32) (udn : Int32) (uw : Nat → Int32) (uun : Nat → Int32) (usr : Nat → Int32) (ube : Nat → Int32) (ubs : Nat → Int32) (uln : Nat → Int32) (ubu : Nat → Int32) (unu : Nat → Int32) {r : Int32 × Int32 × (Nat → Int32) × (Nat → Int32)} (h : fX13_remembers uch ufc uw uun ube = some r) : MU l yX13_remembers cX13_remembers 1 none 1 22 0 0 dC dI g [.ref a0] (wX13 g a0 a1 a2 a3 a4 a5 a6 a7 a8 uth uch ufc usv ull ubl uba uea ufa uso udn uw uun usr ube ubs uln ubu unu) (wX13 g a0 a1 a2 a3 a4 a5 a6 a7 a8 uth r.1 r.2.1 usv ull ubl uba uea ufa uso udn uw r.2.2.1 usr r.2.2.2 ubs uln ubu unu) none := by
  refine MU_of (by decide) (Nat.le_of_ble_eq_true rfl) ?_
  intro p e s m below meth c ls F hr hlocks hE hX hA hP hD hS hl
  generalize va_A (wX13 g a0 a1 a2 a3 a4 a5 a6 a7 a8 uth uch ufc usv ull ubl uba uea ufa uso udn uw uun usr ube ubs uln ubu unu) s.heap.size = A at hA hD hS hX ⊢
  replace F : CF p m c cX13_remembers 1 s _ RX13 := F
  replace hl : lv_has ls 1 [(0, .ref a0)] := hl
  rw [fX13_remembers] at h
  refine lv_aload_n F.1 F.2.1 dX13_remembers_0 rfl (lv_at hl 0 rfl) ?_
  obtain ⟨z1, k2, h⟩ := bd_ok h
  refine cMV (As := []) (rest := []) (ws' := wX13 g a0 a1 a2 a3 a4 a5 a6 a7 a8 uth uch ufc usv ull ubl uba uea ufa uso udn uw uun usr z1 ubs uln ubu unu) F hE hX (tX13_copies l dC dI g a0 a1 a2 a3 a4 a5 a6 a7 a8 uth uch ufc usv ull ubl uba uea ufa uso udn uw uun usr ube ubs uln ubu unu k2) mbX13_copies q1764 ⟨(Nat.le_of_ble_eq_true rfl), (Nat.le_of_ble_eq_true rfl)⟩ ⟨(Nat.le_of_ble_eq_true rfl), (Nat.le_of_ble_eq_true rfl)⟩ hP hD hS hA [0, 1, 2, 3, 4, 5, 6, 7, 8] rfl rfl rfl rfl rfl 0 rfl rfl rfl hl.1 rfl (Nat.le_of_ble_eq_true rfl) dX13_remembers_1 (fun H locs hP hD hS => ?_)
  refine lv_aload_n F.1 F.2.1 dX13_remembers_4 rfl (lv_at hl 0 rfl) ?_
  obtain ⟨z3, k4, h⟩ := bd_ok h
  refine cMV (As := []) (rest := []) (ws' := wX13 g a0 a1 a2 a3 a4 a5 a6 a7 a8 uth z3.1 z3.2.1 usv ull ubl uba uea ufa uso udn uw z3.2.2 usr z1 ubs uln ubu unu) F hE hX (tX13_keeps l dC dI g a0 a1 a2 a3 a4 a5 a6 a7 a8 uth uch ufc usv ull ubl uba uea ufa uso udn uw uun usr z1 ubs uln ubu unu k4) mbX13_keeps q1768 ⟨(Nat.le_of_ble_eq_true rfl), (Nat.le_of_ble_eq_true rfl)⟩ ⟨(Nat.le_of_ble_eq_true rfl), (Nat.le_of_ble_eq_true rfl)⟩ hP hD hS hA [0, 1, 2, 3, 4, 5, 6, 7, 8] rfl rfl rfl rfl rfl 0 rfl rfl rfl hl.1 rfl (Nat.le_of_ble_eq_true rfl) dX13_remembers_5 (fun H locs hP hD hS => ?_)
  cases h
  exact MU_v F hr hlocks (Nat.le_refl _) (Nat.le_refl _) hP hS dX13_remembers_8
/-! WireCutterModel.isMaterial -/
def fX13_isMaterial (p0 : Int32) : Option (Int32) :=
  (fX13_isBetween p0 97 102).bind fun z1 =>
  gd (isB z1) <|
  some (z1)
theorem mbX13_isMaterial : MS yX13_isMaterial cX13_isMaterial 1 (some .boolean) 1 := ⟨⟨q1752, q16, by decide +kernel⟩, q1751⟩
set_option maxHeartbeats 4000000 in
set_option maxRecDepth 100000 in
theorem tX13_isMaterial (l : Launch) (dC : Nat → ClassId) (dI : Nat → Nat → Nat) (g : Nat → ClassId) (p0 : Int32) {r : Int32} (h : fX13_isMaterial p0 = some r) : RO l yX13_isMaterial cX13_isMaterial 1 (some .boolean) 1 22 dC dI g [.int p0] (([] : va_W)) (some (.int r)) := by
  refine RO_of (by decide) (Nat.le_of_ble_eq_true rfl) ?_
  intro p e s m below meth c ls F hr hlocks hE hX hP hl
  replace F : CF p m c cX13_isMaterial 1 s _ RX13 := F
  replace hl : lv_has ls 1 [(0, .int p0)] := hl
  rw [fX13_isMaterial] at h
  refine lv_iload_n F.1 F.2.1 dX13_isMaterial_0 rfl (lv_at hl 0 rfl) ?_
  refine lv_bipush (v := 97) F.1 F.2.1 dX13_isMaterial_1 (by decide) ?_
  refine lv_bipush (v := 102) F.1 F.2.1 dX13_isMaterial_3 (by decide) ?_
  obtain ⟨z1, k2, h⟩ := bd_ok h
  refine cRS (As := [.int p0, .int 97, .int 102]) (rest := []) F hE hX va_S.rf (tX13_isBetween l dC dI g p0 97 102 k2) mbX13_isBetween q1753 ⟨(Nat.le_of_ble_eq_true rfl), (Nat.le_of_ble_eq_true rfl)⟩ ⟨Nat.zero_le _, Nat.zero_le _⟩ hP [] rfl rfl hl.1 rfl (Nat.le_of_ble_eq_true rfl) dX13_isMaterial_5 ?_
  obtain ⟨k3, h⟩ := gd_ok h
  cases h
  exact RO_z F hr hlocks (isB_n k3).1 dX13_isMaterial_8
/-! WireCutterModel.spoolAt -/
def fX13_spoolAt (uw : Nat → Int32) (p1 : Int32) (p2 : Int32) : Option (Int32) :=
  gd (inR ((33 + (4 * p1)) + p2) 201) <|
  some (uw (((33 + (4 * p1)) + p2).toNatClampNeg))
theorem mbX13_spoolAt : MV yX13_spoolAt cX13_spoolAt 3 (some .int) 2 := ⟨⟨q1791, q16, by decide +kernel⟩, q1790, qs30⟩
set_option maxHeartbeats 4000000 in
set_option maxRecDepth 100000 in
theorem tX13_spoolAt (l : Launch) (dC : Nat → ClassId) (dI : Nat → Nat → Nat) (g : Nat → ClassId) (a0 a1 a2 a3 a4 a5 a6 a7 a8 : Nat) (uth : Int32) (uch : Int32) (ufc : Int32) (usv : Int32) (ull : Int32) (ubl : Int32) (uba : Int32) (uea : Int32) (ufa : Int32) (uso : Int32) (udn : Int32) (uw : Nat → Int32) (uun : Nat → Int32) (usr : Nat → Int32) (ube : Nat → Int32) (ubs : Nat → Int32) (uln : Nat → Int32) (ubu : Nat → Int32) (unu : Nat → Int32) (p1 : Int32) (p2 : Int32) {r : Int32} (h : fX13_spoolAt uw p1 p2 = some r) : RO l yX13_spoolAt cX13_spoolAt 3 (some .int) 0 0 dC dI g [.ref a0, .int p1, .int p2] (wX13 g a0 a1 a2 a3 a4 a5 a6 a7 a8 uth uch ufc usv ull ubl uba uea ufa uso udn uw uun usr ube ubs uln ubu unu) (some (.int r)) := by
  refine RO_of (by decide) (Nat.le_of_ble_eq_true rfl) ?_
  intro p e s m below meth c ls F hr hlocks hE hX hP hl
  replace F : CF p m c cX13_spoolAt 3 s _ RX13 := F
  replace hl : lv_has ls 3 [(0, .ref a0), (1, .int p1), (2, .int p2)] := hl
  rw [fX13_spoolAt] at h
  refine lv_aload_n F.1 F.2.1 dX13_spoolAt_0 rfl (lv_at hl 0 rfl) ?_
  refine gF (v := .ref a1) F hE hP 0 rfl rfl inX13 1 (by decide) q1685 rfl dX13_spoolAt_1 ?_
  refine lv_bipush (v := 33) F.1 F.2.1 dX13_spoolAt_4 (by decide) ?_
  refine lv_iconst (v := 4) F.1 F.2.1 dX13_spoolAt_6 (by decide) ?_
  refine lv_iload_n F.1 F.2.1 dX13_spoolAt_7 rfl (lv_at hl 1 rfl) ?_
  refine lv_imul F.1 F.2.1 dX13_spoolAt_8 ?_
  refine lv_iadd F.1 F.2.1 dX13_spoolAt_9 ?_
  refine lv_iload_n F.1 F.2.1 dX13_spoolAt_10 rfl (lv_at hl 2 rfl) ?_
  refine lv_iadd F.1 F.2.1 dX13_spoolAt_11 ?_
  obtain ⟨k1, h⟩ := gd_ok h
  refine aLi (k := ((33 + (4 * p1)) + p2).toNatClampNeg) F hE hP 1 0 rfl rfl k1 rfl dX13_spoolAt_12 ?_
  cases h
  exact RO_i F hr hlocks dX13_spoolAt_13
/-! WireCutterModel.orderOf -/
def fX13_orderOf (uw : Nat → Int32) (p1 : Int32) (p2 : Int32) : Option (Int32) :=
  gd (inR ((73 + (4 * p1)) + p2) 201) <|
  some (uw (((73 + (4 * p1)) + p2).toNatClampNeg))
theorem mbX13_orderOf : MV yX13_orderOf cX13_orderOf 3 (some .int) 2 := ⟨⟨q1842, q16, by decide +kernel⟩, q1841, qs40⟩
set_option maxHeartbeats 4000000 in
set_option maxRecDepth 100000 in
theorem tX13_orderOf (l : Launch) (dC : Nat → ClassId) (dI : Nat → Nat → Nat) (g : Nat → ClassId) (a0 a1 a2 a3 a4 a5 a6 a7 a8 : Nat) (uth : Int32) (uch : Int32) (ufc : Int32) (usv : Int32) (ull : Int32) (ubl : Int32) (uba : Int32) (uea : Int32) (ufa : Int32) (uso : Int32) (udn : Int32) (uw : Nat → Int32) (uun : Nat → Int32) (usr : Nat → Int32) (ube : Nat → Int32) (ubs : Nat → Int32) (uln : Nat → Int32) (ubu : Nat → Int32) (unu : Nat → Int32) (p1 : Int32) (p2 : Int32) {r : Int32} (h : fX13_orderOf uw p1 p2 = some r) : RO l yX13_orderOf cX13_orderOf 3 (some .int) 0 0 dC dI g [.ref a0, .int p1, .int p2] (wX13 g a0 a1 a2 a3 a4 a5 a6 a7 a8 uth uch ufc usv ull ubl uba uea ufa uso udn uw uun usr ube ubs uln ubu unu) (some (.int r)) := by
  refine RO_of (by decide) (Nat.le_of_ble_eq_true rfl) ?_
  intro p e s m below meth c ls F hr hlocks hE hX hP hl
  replace F : CF p m c cX13_orderOf 3 s _ RX13 := F
  replace hl : lv_has ls 3 [(0, .ref a0), (1, .int p1), (2, .int p2)] := hl
  rw [fX13_orderOf] at h
  refine lv_aload_n F.1 F.2.1 dX13_orderOf_0 rfl (lv_at hl 0 rfl) ?_
  refine gF (v := .ref a1) F hE hP 0 rfl rfl inX13 1 (by decide) q1685 rfl dX13_orderOf_1 ?_
  refine lv_bipush (v := 73) F.1 F.2.1 dX13_orderOf_4 (by decide) ?_
  refine lv_iconst (v := 4) F.1 F.2.1 dX13_orderOf_6 (by decide) ?_
  refine lv_iload_n F.1 F.2.1 dX13_orderOf_7 rfl (lv_at hl 1 rfl) ?_
  refine lv_imul F.1 F.2.1 dX13_orderOf_8 ?_
  refine lv_iadd F.1 F.2.1 dX13_orderOf_9 ?_
  refine lv_iload_n F.1 F.2.1 dX13_orderOf_10 rfl (lv_at hl 2 rfl) ?_
  refine lv_iadd F.1 F.2.1 dX13_orderOf_11 ?_
  obtain ⟨k1, h⟩ := gd_ok h
  refine aLi (k := ((73 + (4 * p1)) + p2).toNatClampNeg) F hE hP 1 0 rfl rfl k1 rfl dX13_orderOf_12 ?_
  cases h
  exact RO_i F hr hlocks dX13_orderOf_13
/-! WireCutterModel.scrapAt -/
def fX13_scrapAt (uw : Nat → Int32) (p1 : Int32) (p2 : Int32) : Option (Int32) :=
  gd (inR ((121 + (2 * p1)) + p2) 201) <|
  some (uw (((121 + (2 * p1)) + p2).toNatClampNeg))
theorem mbX13_scrapAt : MV yX13_scrapAt cX13_scrapAt 3 (some .int) 2 := ⟨⟨q1822, q16, by decide +kernel⟩, q1821, qs36⟩
set_option maxHeartbeats 4000000 in
set_option maxRecDepth 100000 in
theorem tX13_scrapAt (l : Launch) (dC : Nat → ClassId) (dI : Nat → Nat → Nat) (g : Nat → ClassId) (a0 a1 a2 a3 a4 a5 a6 a7 a8 : Nat) (uth : Int32) (uch : Int32) (ufc : Int32) (usv : Int32) (ull : Int32) (ubl : Int32) (uba : Int32) (uea : Int32) (ufa : Int32) (uso : Int32) (udn : Int32) (uw : Nat → Int32) (uun : Nat → Int32) (usr : Nat → Int32) (ube : Nat → Int32) (ubs : Nat → Int32) (uln : Nat → Int32) (ubu : Nat → Int32) (unu : Nat → Int32) (p1 : Int32) (p2 : Int32) {r : Int32} (h : fX13_scrapAt uw p1 p2 = some r) : RO l yX13_scrapAt cX13_scrapAt 3 (some .int) 0 0 dC dI g [.ref a0, .int p1, .int p2] (wX13 g a0 a1 a2 a3 a4 a5 a6 a7 a8 uth uch ufc usv ull ubl uba uea ufa uso udn uw uun usr ube ubs uln ubu unu) (some (.int r)) := by
  refine RO_of (by decide) (Nat.le_of_ble_eq_true rfl) ?_
  intro p e s m below meth c ls F hr hlocks hE hX hP hl
  replace F : CF p m c cX13_scrapAt 3 s _ RX13 := F
  replace hl : lv_has ls 3 [(0, .ref a0), (1, .int p1), (2, .int p2)] := hl
  rw [fX13_scrapAt] at h
  refine lv_aload_n F.1 F.2.1 dX13_scrapAt_0 rfl (lv_at hl 0 rfl) ?_
  refine gF (v := .ref a1) F hE hP 0 rfl rfl inX13 1 (by decide) q1685 rfl dX13_scrapAt_1 ?_
  refine lv_bipush (v := 121) F.1 F.2.1 dX13_scrapAt_4 (by decide) ?_
  refine lv_iconst (v := 2) F.1 F.2.1 dX13_scrapAt_6 (by decide) ?_
  refine lv_iload_n F.1 F.2.1 dX13_scrapAt_7 rfl (lv_at hl 1 rfl) ?_
  refine lv_imul F.1 F.2.1 dX13_scrapAt_8 ?_
  refine lv_iadd F.1 F.2.1 dX13_scrapAt_9 ?_
  refine lv_iload_n F.1 F.2.1 dX13_scrapAt_10 rfl (lv_at hl 2 rfl) ?_
  refine lv_iadd F.1 F.2.1 dX13_scrapAt_11 ?_
  obtain ⟨k1, h⟩ := gd_ok h
  refine aLi (k := ((121 + (2 * p1)) + p2).toNatClampNeg) F hE hP 1 0 rfl rfl k1 rfl dX13_scrapAt_12 ?_
  cases h
  exact RO_i F hr hlocks dX13_scrapAt_13
/-! WireCutterModel.spoolPlace -/
def fX13_spoolPlace_L2 (x1 : Int32) (uw : Nat → Int32) : Nat → Int32 → Option (Int32)
  | 0, _ => none
  | k + 1, x2 =>
    if (uw 0) ≤ x2 then
      some ((-1))
    else
      (fX13_spoolAt uw x2 0).bind fun z2 =>
      if z2 = x1 then
        some (x2)
      else
        fX13_spoolPlace_L2 x1 uw k (x2 + 1)
def fX13_spoolPlace (uw : Nat → Int32) (p1 : Int32) : Option (Int32) :=
  fX13_spoolPlace_L2 p1 uw FU 0
theorem mbX13_spoolPlace : MV yX13_spoolPlace cX13_spoolPlace 3 (some .int) 1 := ⟨⟨q1787, q16, by decide +kernel⟩, q1786, qs29⟩
set_option maxHeartbeats 4000000 in
set_option maxRecDepth 100000 in
theorem tX13_spoolPlace_L2 {p : Program} {l : Launch} {e : Env} {s : State} {m : MethodId} {args : Array Value} {below : List Frame} {meth : Method} {c : Code} {dC : Nat → ClassId} {dI : Nat → Nat → Nat} {g : Nat → ClassId} {a0 a1 a2 a3 a4 a5 a6 a7 a8 : Nat} {r : Int32} (F : CF p m c cX13_spoolPlace 3 s args RX13) (hr : meth.sig.returnType = (some .int)) (hlocks : meth.locks = false) (hE : EK dC dI g s) (hX : EXr g s) (x1 : Int32) (uth : Int32) (uch : Int32) (ufc : Int32) (usv : Int32) (ull : Int32) (ubl : Int32) (uba : Int32) (uea : Int32) (ufa : Int32) (uso : Int32) (udn : Int32) (uw : Nat → Int32) (uun : Nat → Int32) (usr : Nat → Int32) (ube : Nat → Int32) (ubs : Nat → Int32) (uln : Nat → Int32) (ubu : Nat → Int32) (unu : Nat → Int32) (hP : va_P (dC, dI) vwCl (wX13 g a0 a1 a2 a3 a4 a5 a6 a7 a8 uth uch ufc usv ull ubl uba uea ufa uso udn uw uun usr ube ubs uln ubu unu) s.heap) : ∀ (k : Nat) (x2 : Int32), fX13_spoolPlace_L2 x1 uw k x2 = some r → ∀ (ls : Array Slot), lv_has ls 3 [(0, .ref a0), (1, .int x1), (2, .int x2)] → W p l e { frames := 1, cells := 0, slots := 0, locals := 22 } s m args below meth c s.heap [] 0 0 (MQ below (fun _ st o t => o = .returned (some (.int r)) ∧ t.heap = st.heap) args s 0 0 (fun _ => False)) (F0 m 2 ls []) := by
  intro k
  induction k with
  | zero =>
    intro x2 h
    exact absurd h (by simp [fX13_spoolPlace_L2])
  | succ k ih =>
    intro x2 h ls hl
    rw [fX13_spoolPlace_L2] at h
    refine lv_iload_n F.1 F.2.1 dX13_spoolPlace_2 rfl (lv_at hl 2 rfl) ?_
    refine lv_aload_n F.1 F.2.1 dX13_spoolPlace_3 rfl (lv_at hl 0 rfl) ?_
    refine gF (v := .ref a1) F hE hP 0 rfl rfl inX13 1 (by decide) q1685 rfl dX13_spoolPlace_4 ?_
    refine lv_iconst (v := 0) F.1 F.2.1 dX13_spoolPlace_7 (by decide) ?_
    refine aLi (k := 0) F hE hP 1 0 rfl rfl (by decide) (by decide) dX13_spoolPlace_8 ?_
    refine lv_icmp_ge (tgt := 30) F.1 F.2.1 dX13_spoolPlace_9 (by decide) (fun k1 => ?_) (fun k1 => ?_)
    · replace h := it_t k1 h
      refine lv_iconst (v := (-1)) F.1 F.2.1 dX13_spoolPlace_30 (by decide) ?_
      cases h
      exact RO_i F hr hlocks dX13_spoolPlace_31
    · replace h := it_f k1 h
      refine lv_aload_n F.1 F.2.1 dX13_spoolPlace_12 rfl (lv_at hl 0 rfl) ?_
      refine lv_iload_n F.1 F.2.1 dX13_spoolPlace_13 rfl (lv_at hl 2 rfl) ?_
      refine lv_iconst (v := 0) F.1 F.2.1 dX13_spoolPlace_14 (by decide) ?_
      obtain ⟨z2, k3, h⟩ := bd_ok h
      refine cRV (As := [.int x2, .int 0]) (rest := []) F hE hX va_S.rf (tX13_spoolAt l dC dI g a0 a1 a2 a3 a4 a5 a6 a7 a8 uth uch ufc usv ull ubl uba uea ufa uso udn uw uun usr ube ubs uln ubu unu x2 0 k3) mbX13_spoolAt q1788 ⟨(Nat.le_of_ble_eq_true rfl), (Nat.le_of_ble_eq_true rfl)⟩ ⟨Nat.zero_le _, Nat.zero_le _⟩ hP [0, 1, 2, 3, 4, 5, 6, 7, 8] rfl 0 rfl rfl rfl hl.1 rfl (Nat.le_of_ble_eq_true rfl) dX13_spoolPlace_15 ?_
      refine lv_iload_n F.1 F.2.1 dX13_spoolPlace_18 rfl (lv_at hl 1 rfl) ?_
      refine lv_icmp_ne (tgt := 24) F.1 F.2.1 dX13_spoolPlace_19 (by decide) (fun k4 => ?_) (fun k4 => ?_)
      · replace h := it_f k4 h
        refine lv_iinc (v := x2 + 1) (lv' := [(2, .int (x2 + 1)), (0, .ref a0), (1, .int x1)]) F.1 F.2.1 dX13_spoolPlace_24 hl (k := 2) rfl (by rfl) (by decide) rfl (fun ls hl => ?_)
        refine lv_goto (tgt := 2) F.1 F.2.1 dX13_spoolPlace_27 (by decide) ?_
        exact ih (x2 + 1) h ls (lv_sub hl [1, 2, 0] rfl)
      · replace h := it_t k4 h
        refine lv_iload_n F.1 F.2.1 dX13_spoolPlace_22 rfl (lv_at hl 2 rfl) ?_
        cases h
        exact RO_i F hr hlocks dX13_spoolPlace_23
set_option maxHeartbeats 4000000 in
set_option maxRecDepth 100000 in
theorem tX13_spoolPlace (l : Launch) (dC : Nat → ClassId) (dI : Nat → Nat → Nat) (g : Nat → ClassId) (a0 a1 a2 a3 a4 a5 a6 a7 a8 : Nat) (uth : Int32) (uch : Int32) (ufc : Int32) (usv : Int32) (ull : Int32) (ubl : Int32) (uba : Int32) (uea : Int32) (ufa : Int32) (uso : Int32) (udn : Int32) (uw : Nat → Int32) (uun : Nat → Int32) (usr : Nat → Int32) (ube : Nat → Int32) (ubs : Nat → Int32) (uln : Nat → Int32) (ubu : Nat → Int32) (unu : Nat → Int32) (p1 : Int32) {r : Int32} (h : fX13_spoolPlace uw p1 = some r) : RO l yX13_spoolPlace cX13_spoolPlace 3 (some .int) 1 22 dC dI g [.ref a0, .int p1] (wX13 g a0 a1 a2 a3 a4 a5 a6 a7 a8 uth uch ufc usv ull ubl uba uea ufa uso udn uw uun usr ube ubs uln ubu unu) (some (.int r)) := by
  refine RO_of (by decide) (Nat.le_of_ble_eq_true rfl) ?_
  intro p e s m below meth c ls F hr hlocks hE hX hP hl
  replace F : CF p m c cX13_spoolPlace 3 s _ RX13 := F
  replace hl : lv_has ls 3 [(0, .ref a0), (1, .int p1)] := hl
  rw [fX13_spoolPlace] at h
  refine lv_iconst (v := 0) F.1 F.2.1 dX13_spoolPlace_0 (by decide) ?_
  refine lv_istore_n (lv' := [(2, .int 0), (0, .ref a0), (1, .int p1)]) F.1 F.2.1 dX13_spoolPlace_1 rfl hl (by decide) rfl (fun ls hl => ?_)
  exact tX13_spoolPlace_L2 F hr hlocks hE hX p1 uth uch ufc usv ull ubl uba uea ufa uso udn uw uun usr ube ubs uln ubu unu hP FU 0 h ls (lv_sub hl [1, 2, 0] rfl)
/-! WireCutterModel.orderPlace -/
def fX13_orderPlace_L2 (x1 : Int32) (uw : Nat → Int32) : Nat → Int32 → Option (Int32)
  | 0, _ => none
  | k + 1, x2 =>
    if (uw 2) ≤ x2 then
      some ((-1))
    else
      (fX13_orderOf uw x2 0).bind fun z2 =>
      if z2 = x1 then
        some (x2)
      else
        fX13_orderPlace_L2 x1 uw k (x2 + 1)
def fX13_orderPlace (uw : Nat → Int32) (p1 : Int32) : Option (Int32) :=
  fX13_orderPlace_L2 p1 uw FU 0
theorem mbX13_orderPlace : MV yX13_orderPlace cX13_orderPlace 3 (some .int) 1 := ⟨⟨q1854, q16, by decide +kernel⟩, q1853, qs42⟩
set_option maxHeartbeats 4000000 in
set_option maxRecDepth 100000 in
theorem tX13_orderPlace_L2 {p : Program} {l : Launch} {e : Env} {s : State} {m : MethodId} {args : Array Value} {below : List Frame} {meth : Method} {c : Code} {dC : Nat → ClassId} {dI : Nat → Nat → Nat} {g : Nat → ClassId} {a0 a1 a2 a3 a4 a5 a6 a7 a8 : Nat} {r : Int32} (F : CF p m c cX13_orderPlace 3 s args RX13) (hr : meth.sig.returnType = (some .int)) (hlocks : meth.locks = false) (hE : EK dC dI g s) (hX : EXr g s) (x1 : Int32) (uth : Int32) (uch : Int32) (ufc : Int32) (usv : Int32) (ull : Int32) (ubl : Int32) (uba : Int32) (uea : Int32) (ufa : Int32) (uso : Int32) (udn : Int32) (uw : Nat → Int32) (uun : Nat → Int32) (usr : Nat → Int32) (ube : Nat → Int32) (ubs : Nat → Int32) (uln : Nat → Int32) (ubu : Nat → Int32) (unu : Nat → Int32) (hP : va_P (dC, dI) vwCl (wX13 g a0 a1 a2 a3 a4 a5 a6 a7 a8 uth uch ufc usv ull ubl uba uea ufa uso udn uw uun usr ube ubs uln ubu unu) s.heap) : ∀ (k : Nat) (x2 : Int32), fX13_orderPlace_L2 x1 uw k x2 = some r → ∀ (ls : Array Slot), lv_has ls 3 [(0, .ref a0), (1, .int x1), (2, .int x2)] → W p l e { frames := 1, cells := 0, slots := 0, locals := 22 } s m args below meth c s.heap [] 0 0 (MQ below (fun _ st o t => o = .returned (some (.int r)) ∧ t.heap = st.heap) args s 0 0 (fun _ => False)) (F0 m 2 ls []) := by
  intro k
  induction k with
  | zero =>
    intro x2 h
    exact absurd h (by simp [fX13_orderPlace_L2])
  | succ k ih =>
    intro x2 h ls hl
    rw [fX13_orderPlace_L2] at h
    refine lv_iload_n F.1 F.2.1 dX13_orderPlace_2 rfl (lv_at hl 2 rfl) ?_
    refine lv_aload_n F.1 F.2.1 dX13_orderPlace_3 rfl (lv_at hl 0 rfl) ?_
    refine gF (v := .ref a1) F hE hP 0 rfl rfl inX13 1 (by decide) q1685 rfl dX13_orderPlace_4 ?_
    refine lv_iconst (v := 2) F.1 F.2.1 dX13_orderPlace_7 (by decide) ?_
    refine aLi (k := 2) F hE hP 1 0 rfl rfl (by decide) (by decide) dX13_orderPlace_8 ?_
    refine lv_icmp_ge (tgt := 30) F.1 F.2.1 dX13_orderPlace_9 (by decide) (fun k1 => ?_) (fun k1 => ?_)
    · replace h := it_t k1 h
      refine lv_iconst (v := (-1)) F.1 F.2.1 dX13_orderPlace_30 (by decide) ?_
      cases h
      exact RO_i F hr hlocks dX13_orderPlace_31
    · replace h := it_f k1 h
      refine lv_aload_n F.1 F.2.1 dX13_orderPlace_12 rfl (lv_at hl 0 rfl) ?_
      refine lv_iload_n F.1 F.2.1 dX13_orderPlace_13 rfl (lv_at hl 2 rfl) ?_
      refine lv_iconst (v := 0) F.1 F.2.1 dX13_orderPlace_14 (by decide) ?_
      obtain ⟨z2, k3, h⟩ := bd_ok h
      refine cRV (As := [.int x2, .int 0]) (rest := []) F hE hX va_S.rf (tX13_orderOf l dC dI g a0 a1 a2 a3 a4 a5 a6 a7 a8 uth uch ufc usv ull ubl uba uea ufa uso udn uw uun usr ube ubs uln ubu unu x2 0 k3) mbX13_orderOf q1839 ⟨(Nat.le_of_ble_eq_true rfl), (Nat.le_of_ble_eq_true rfl)⟩ ⟨Nat.zero_le _, Nat.zero_le _⟩ hP [0, 1, 2, 3, 4, 5, 6, 7, 8] rfl 0 rfl rfl rfl hl.1 rfl (Nat.le_of_ble_eq_true rfl) dX13_orderPlace_15 ?_
      refine lv_iload_n F.1 F.2.1 dX13_orderPlace_18 rfl (lv_at hl 1 rfl) ?_
      refine lv_icmp_ne (tgt := 24) F.1 F.2.1 dX13_orderPlace_19 (by decide) (fun k4 => ?_) (fun k4 => ?_)
      · replace h := it_f k4 h
        refine lv_iinc (v := x2 + 1) (lv' := [(2, .int (x2 + 1)), (0, .ref a0), (1, .int x1)]) F.1 F.2.1 dX13_orderPlace_24 hl (k := 2) rfl (by rfl) (by decide) rfl (fun ls hl => ?_)
        refine lv_goto (tgt := 2) F.1 F.2.1 dX13_orderPlace_27 (by decide) ?_
        exact ih (x2 + 1) h ls (lv_sub hl [1, 2, 0] rfl)
      · replace h := it_t k4 h
        refine lv_iload_n F.1 F.2.1 dX13_orderPlace_22 rfl (lv_at hl 2 rfl) ?_
        cases h
        exact RO_i F hr hlocks dX13_orderPlace_23
set_option maxHeartbeats 4000000 in
set_option maxRecDepth 100000 in
theorem tX13_orderPlace (l : Launch) (dC : Nat → ClassId) (dI : Nat → Nat → Nat) (g : Nat → ClassId) (a0 a1 a2 a3 a4 a5 a6 a7 a8 : Nat) (uth : Int32) (uch : Int32) (ufc : Int32) (usv : Int32) (ull : Int32) (ubl : Int32) (uba : Int32) (uea : Int32) (ufa : Int32) (uso : Int32) (udn : Int32) (uw : Nat → Int32) (uun : Nat → Int32) (usr : Nat → Int32) (ube : Nat → Int32) (ubs : Nat → Int32) (uln : Nat → Int32) (ubu : Nat → Int32) (unu : Nat → Int32) (p1 : Int32) {r : Int32} (h : fX13_orderPlace uw p1 = some r) : RO l yX13_orderPlace cX13_orderPlace 3 (some .int) 1 22 dC dI g [.ref a0, .int p1] (wX13 g a0 a1 a2 a3 a4 a5 a6 a7 a8 uth uch ufc usv ull ubl uba uea ufa uso udn uw uun usr ube ubs uln ubu unu) (some (.int r)) := by
  refine RO_of (by decide) (Nat.le_of_ble_eq_true rfl) ?_
  intro p e s m below meth c ls F hr hlocks hE hX hP hl
  replace F : CF p m c cX13_orderPlace 3 s _ RX13 := F
  replace hl : lv_has ls 3 [(0, .ref a0), (1, .int p1)] := hl
  rw [fX13_orderPlace] at h
  refine lv_iconst (v := 0) F.1 F.2.1 dX13_orderPlace_0 (by decide) ?_
  refine lv_istore_n (lv' := [(2, .int 0), (0, .ref a0), (1, .int p1)]) F.1 F.2.1 dX13_orderPlace_1 rfl hl (by decide) rfl (fun ls hl => ?_)
  exact tX13_orderPlace_L2 F hr hlocks hE hX p1 uth uch ufc usv ull ubl uba uea ufa uso udn uw uun usr ube ubs uln ubu unu hP FU 0 h ls (lv_sub hl [1, 2, 0] rfl)
/-! WireCutterModel.closes -/
def fX13_closes_L38 (x3 : Int32) : Nat → Int32 → (Nat → Int32) → Option ((Nat → Int32))
  | 0, _, _ => none
  | k + 1, x4, uw =>
    if x3 ≤ x4 then
      some (uw)
    else
      gd (inR x4 201) <|
      fX13_closes_L38 x3 k (x4 + 1) (upd uw x4.toNatClampNeg 0)
def fX13_closes_L3 (x2 : Int32) (x3 : Int32) : Nat → Int32 → (Nat → Int32) → Option ((Nat → Int32))
  | 0, _, _ => none
  | k + 1, x4, uw =>
    if (x3 - x2) ≤ x4 then
      fX13_closes_L38 x3 FU (x3 - x2) uw
    else
      gd (inR (x4 + x2) 201) <|
      gd (inR x4 201) <|
      fX13_closes_L3 x2 x3 k (x4 + 1) (upd uw x4.toNatClampNeg (uw ((x4 + x2).toNatClampNeg)))
def fX13_closes (uw : Nat → Int32) (p1 : Int32) (p2 : Int32) (p3 : Int32) : Option ((Nat → Int32)) :=
  fX13_closes_L3 p2 p3 FU p1 uw
theorem mbX13_closes : MV yX13_closes cX13_closes 5 none 3 := ⟨⟨q1807, q16, by decide +kernel⟩, q1806, qs34⟩
set_option maxHeartbeats 4000000 in
set_option maxRecDepth 100000 in
theorem tX13_closes_L38 {p : Program} {l : Launch} {e : Env} {s : State} {m : MethodId} {args : Array Value} {below : List Frame} {meth : Method} {c : Code} {dC : Nat → ClassId} {dI : Nat → Nat → Nat} {g : Nat → ClassId} {a0 a1 a2 a3 a4 a5 a6 a7 a8 : Nat} {r : (Nat → Int32)} {A : Nat → Prop} (F : CF p m c cX13_closes 5 s args RX13) (hr : meth.sig.returnType = none) (hlocks : meth.locks = false) (hE : EK dC dI g s) (hX : EX g A s s.heap) (hA : ∀ q : Nat, s.heap.size ≤ q → A q) (x3 : Int32) (uth : Int32) (uch : Int32) (ufc : Int32) (usv : Int32) (ull : Int32) (ubl : Int32) (uba : Int32) (uea : Int32) (ufa : Int32) (uso : Int32) (udn : Int32) (uun : Nat → Int32) (usr : Nat → Int32) (ube : Nat → Int32) (ubs : Nat → Int32) (uln : Nat → Int32) (ubu : Nat → Int32) (unu : Nat → Int32) : ∀ (k : Nat) (x4 : Int32) (uw : Nat → Int32), fX13_closes_L38 x3 k x4 uw = some r → ∀ (H : Heap) (locs : List Loc), va_P (dC, dI) vwCl (wX13 g a0 a1 a2 a3 a4 a5 a6 a7 a8 uth uch ufc usv ull ubl uba uea ufa uso udn uw uun usr ube ubs uln ubu unu) H → va_D A (wX13 g a0 a1 a2 a3 a4 a5 a6 a7 a8 uth uch ufc usv ull ubl uba uea ufa uso udn uw uun usr ube ubs uln ubu unu) → va_S A s.heap H locs → ∀ (ls : Array Slot), lv_has ls 5 [(0, .ref a0), (3, .int x3), (4, .int x4)] → W p l e { frames := 0, cells := 0, slots := 0, locals := 0 } s m args below meth c H locs 0 0 (MQ below (fun _ st o t => o = .returned none ∧ va_P (dC, dI) vwCl (wX13 g a0 a1 a2 a3 a4 a5 a6 a7 a8 uth uch ufc usv ull ubl uba uea ufa uso udn r uun usr ube ubs uln ubu unu) t.heap ∧ va_F A st t) args s 0 0 A) (F0 m 38 ls []) := by
  intro k
  induction k with
  | zero =>
    intro x4 uw h
    exact absurd h (by simp [fX13_closes_L38])
  | succ k ih =>
    intro x4 uw h H locs hP hD hS ls hl
    rw [fX13_closes_L38] at h
    refine lv_iload F.1 F.2.1 dX13_closes_38 (lv_at hl 2 rfl) ?_
    refine lv_iload_n F.1 F.2.1 dX13_closes_40 rfl (lv_at hl 1 rfl) ?_
    refine lv_icmp_ge (tgt := 58) F.1 F.2.1 dX13_closes_41 (by decide) (fun k2 => ?_) (fun k2 => ?_)
    · replace h := it_t k2 h
      cases h
      exact MU_v F hr hlocks (Nat.le_refl _) (Nat.le_refl _) hP hS dX13_closes_58
    · replace h := it_f k2 h
      refine lv_aload_n F.1 F.2.1 dX13_closes_44 rfl (lv_at hl 0 rfl) ?_
      refine gF (v := .ref a1) F hE hP 0 rfl rfl inX13 1 (by decide) q1685 rfl dX13_closes_45 ?_
      refine lv_iload F.1 F.2.1 dX13_closes_48 (lv_at hl 2 rfl) ?_
      refine lv_iconst (v := 0) F.1 F.2.1 dX13_closes_50 (by decide) ?_
      obtain ⟨k3, h⟩ := gd_ok h
      refine aSi (k := x4.toNatClampNeg) F hE hP hD hS 1 0 rfl rfl k3 rfl dX13_closes_51 (fun H locs hP hD hS => ?_)
      replace hP : va_P (dC, dI) vwCl (wX13 g a0 a1 a2 a3 a4 a5 a6 a7 a8 uth uch ufc usv ull ubl uba uea ufa uso udn (upd uw x4.toNatClampNeg 0) uun usr ube ubs uln ubu unu) H := hP
      replace hD : va_D A (wX13 g a0 a1 a2 a3 a4 a5 a6 a7 a8 uth uch ufc usv ull ubl uba uea ufa uso udn (upd uw x4.toNatClampNeg 0) uun usr ube ubs uln ubu unu) := hD
      refine lv_iinc (v := x4 + 1) (lv' := [(4, .int (x4 + 1)), (0, .ref a0), (3, .int x3)]) F.1 F.2.1 dX13_closes_52 hl (k := 2) rfl (by rfl) (by decide) rfl (fun ls hl => ?_)
      refine lv_goto (tgt := 38) F.1 F.2.1 dX13_closes_55 (by decide) ?_
      exact ih (x4 + 1) (upd uw x4.toNatClampNeg 0) h _ _ hP hD hS ls (lv_sub hl [1, 2, 0] rfl)
set_option maxHeartbeats 4000000 in
set_option maxRecDepth 100000 in
theorem tX13_closes_L3 {p : Program} {l : Launch} {e : Env} {s : State} {m : MethodId} {args : Array Value} {below : List Frame} {meth : Method} {c : Code} {dC : Nat → ClassId} {dI : Nat → Nat → Nat} {g : Nat → ClassId} {a0 a1 a2 a3 a4 a5 a6 a7 a8 : Nat} {r : (Nat → Int32)} {A : Nat → Prop} (F : CF p m c cX13_closes 5 s args RX13) (hr : meth.sig.returnType = none) (hlocks : meth.locks = false) (hE : EK dC dI g s) (hX : EX g A s s.heap) (hA : ∀ q : Nat, s.heap.size ≤ q → A q) (x2 : Int32) (x3 : Int32) (uth : Int32) (uch : Int32) (ufc : Int32) (usv : Int32) (ull : Int32) (ubl : Int32) (uba : Int32) (uea : Int32) (ufa : Int32) (uso : Int32) (udn : Int32) (uun : Nat → Int32) (usr : Nat → Int32) (ube : Nat → Int32) (ubs : Nat → Int32) (uln : Nat → Int32) (ubu : Nat → Int32) (unu : Nat → Int32) : ∀ (k : Nat) (x4 : Int32) (uw : Nat → Int32), fX13_closes_L3 x2 x3 k x4 uw = some r → ∀ (H : Heap) (locs : List Loc), va_P (dC, dI) vwCl (wX13 g a0 a1 a2 a3 a4 a5 a6 a7 a8 uth uch ufc usv ull ubl uba uea ufa uso udn uw uun usr ube ubs uln ubu unu) H → va_D A (wX13 g a0 a1 a2 a3 a4 a5 a6 a7 a8 uth uch ufc usv ull ubl uba uea ufa uso udn uw uun usr ube ubs uln ubu unu) → va_S A s.heap H locs → ∀ (ls : Array Slot), lv_has ls 5 [(0, .ref a0), (2, .int x2), (3, .int x3), (4, .int x4)] → W p l e { frames := 0, cells := 0, slots := 0, locals := 0 } s m args below meth c H locs 0 0 (MQ below (fun _ st o t => o = .returned none ∧ va_P (dC, dI) vwCl (wX13 g a0 a1 a2 a3 a4 a5 a6 a7 a8 uth uch ufc usv ull ubl uba uea ufa uso udn r uun usr ube ubs uln ubu unu) t.heap ∧ va_F A st t) args s 0 0 A) (F0 m 3 ls []) := by
  intro k
  induction k with
  | zero =>
    intro x4 uw h
    exact absurd h (by simp [fX13_closes_L3])
  | succ k ih =>
    intro x4 uw h H locs hP hD hS ls hl
    rw [fX13_closes_L3] at h
    refine lv_iload F.1 F.2.1 dX13_closes_3 (lv_at hl 3 rfl) ?_
    refine lv_iload_n F.1 F.2.1 dX13_closes_5 rfl (lv_at hl 2 rfl) ?_
    refine lv_iload_n F.1 F.2.1 dX13_closes_6 rfl (lv_at hl 1 rfl) ?_
    refine lv_isub F.1 F.2.1 dX13_closes_7 ?_
    refine lv_icmp_ge (tgt := 33) F.1 F.2.1 dX13_closes_8 (by decide) (fun k1 => ?_) (fun k1 => ?_)
    · replace h := it_t k1 h
      refine lv_iload_n F.1 F.2.1 dX13_closes_33 rfl (lv_at hl 2 rfl) ?_
      refine lv_iload_n F.1 F.2.1 dX13_closes_34 rfl (lv_at hl 1 rfl) ?_
      refine lv_isub F.1 F.2.1 dX13_closes_35 ?_
      refine lv_istore (lv' := [(4, .int (x3 - x2)), (0, .ref a0), (2, .int x2), (3, .int x3)]) F.1 F.2.1 dX13_closes_36 hl (by decide) rfl (fun ls hl => ?_)
      exact tX13_closes_L38 F hr hlocks hE hX hA x3 uth uch ufc usv ull ubl uba uea ufa uso udn uun usr ube ubs uln ubu unu FU (x3 - x2) uw h _ _ hP hD hS ls (lv_sub hl [1, 3, 0] rfl)
    · replace h := it_f k1 h
      refine lv_aload_n F.1 F.2.1 dX13_closes_11 rfl (lv_at hl 0 rfl) ?_
      refine gF (v := .ref a1) F hE hP 0 rfl rfl inX13 1 (by decide) q1685 rfl dX13_closes_12 ?_
      refine lv_iload F.1 F.2.1 dX13_closes_15 (lv_at hl 3 rfl) ?_
      refine lv_aload_n F.1 F.2.1 dX13_closes_17 rfl (lv_at hl 0 rfl) ?_
      refine gF (v := .ref a1) F hE hP 0 rfl rfl inX13 1 (by decide) q1685 rfl dX13_closes_18 ?_
      refine lv_iload F.1 F.2.1 dX13_closes_21 (lv_at hl 3 rfl) ?_
      refine lv_iload_n F.1 F.2.1 dX13_closes_23 rfl (lv_at hl 1 rfl) ?_
      refine lv_iadd F.1 F.2.1 dX13_closes_24 ?_
      obtain ⟨k4, h⟩ := gd_ok h
      refine aLi (k := (x4 + x2).toNatClampNeg) F hE hP 1 0 rfl rfl k4 rfl dX13_closes_25 ?_
      obtain ⟨k5, h⟩ := gd_ok h
      refine aSi (k := x4.toNatClampNeg) F hE hP hD hS 1 0 rfl rfl k5 rfl dX13_closes_26 (fun H locs hP hD hS => ?_)
      replace hP : va_P (dC, dI) vwCl (wX13 g a0 a1 a2 a3 a4 a5 a6 a7 a8 uth uch ufc usv ull ubl uba uea ufa uso udn (upd uw x4.toNatClampNeg (uw ((x4 + x2).toNatClampNeg))) uun usr ube ubs uln ubu unu) H := hP
      replace hD : va_D A (wX13 g a0 a1 a2 a3 a4 a5 a6 a7 a8 uth uch ufc usv ull ubl uba uea ufa uso udn (upd uw x4.toNatClampNeg (uw ((x4 + x2).toNatClampNeg))) uun usr ube ubs uln ubu unu) := hD
      refine lv_iinc (v := x4 + 1) (lv' := [(4, .int (x4 + 1)), (0, .ref a0), (2, .int x2), (3, .int x3)]) F.1 F.2.1 dX13_closes_27 hl (k := 3) rfl (by rfl) (by decide) rfl (fun ls hl => ?_)
      refine lv_goto (tgt := 3) F.1 F.2.1 dX13_closes_30 (by decide) ?_
      exact ih (x4 + 1) (upd uw x4.toNatClampNeg (uw ((x4 + x2).toNatClampNeg))) h _ _ hP hD hS ls (lv_sub hl [1, 2, 3, 0] rfl)
set_option maxHeartbeats 4000000 in
set_option maxRecDepth 100000 in
theorem tX13_closes (l : Launch) (dC : Nat → ClassId) (dI : Nat → Nat → Nat) (g : Nat → ClassId) (a0 a1 a2 a3 a4 a5 a6 a7 a8 : Nat) (uth : Int32) (uch : Int32) (ufc : Int32) (usv : Int32) (ull : Int32) (ubl : Int32) (uba : Int32) (uea : Int32) (ufa : Int32) (uso : Int32) (udn : Int32) (uw : Nat → Int32) (uun : Nat → Int32) (usr : Nat → Int32) (ube : Nat → Int32) (ubs : Nat → Int32) (uln : Nat → Int32) (ubu : Nat → Int32) (unu : Nat → Int32) (p1 : Int32) (p2 : Int32) (p3 : Int32) {r : (Nat → Int32)} (h : fX13_closes uw p1 p2 p3 = some r) : MU l yX13_closes cX13_closes 5 none 0 0 0 0 dC dI g [.ref a0, .int p1, .int p2, .int p3] (wX13 g a0 a1 a2 a3 a4 a5 a6 a7 a8 uth uch ufc usv ull ubl uba uea ufa uso udn uw uun usr ube ubs uln ubu unu) (wX13 g a0 a1 a2 a3 a4 a5 a6 a7 a8 uth uch ufc usv ull ubl uba uea ufa uso udn r uun usr ube ubs uln ubu unu) none := by
  refine MU_of (by decide) (Nat.le_of_ble_eq_true rfl) ?_
  intro p e s m below meth c ls F hr hlocks hE hX hA hP hD hS hl
  generalize va_A (wX13 g a0 a1 a2 a3 a4 a5 a6 a7 a8 uth uch ufc usv ull ubl uba uea ufa uso udn uw uun usr ube ubs uln ubu unu) s.heap.size = A at hA hD hS hX ⊢
  replace F : CF p m c cX13_closes 5 s _ RX13 := F
  replace hl : lv_has ls 5 [(0, .ref a0), (1, .int p1), (2, .int p2), (3, .int p3)] := hl
  rw [fX13_closes] at h
  refine lv_iload_n F.1 F.2.1 dX13_closes_0 rfl (lv_at hl 1 rfl) ?_
  refine lv_istore (lv' := [(4, .int p1), (0, .ref a0), (1, .int p1), (2, .int p2), (3, .int p3)]) F.1 F.2.1 dX13_closes_1 hl (by decide) rfl (fun ls hl => ?_)
  exact tX13_closes_L3 F hr hlocks hE hX hA p2 p3 uth uch ufc usv ull ubl uba uea ufa uso udn uun usr ube ubs uln ubu unu FU p1 uw h _ _ hP hD hS ls (lv_sub hl [1, 3, 4, 0] rfl)
/-! WireCutterModel.removesSpool -/
def fX13_removesSpool (uw : Nat → Int32) (p1 : Int32) : Option ((Nat → Int32)) :=
  (fX13_closes uw (33 + (4 * p1)) 4 (33 + (4 * (uw 0)))).bind fun z1 =>
  some (upd z1 0 ((z1 0) - 1))
theorem mbX13_removesSpool : MV yX13_removesSpool cX13_removesSpool 2 none 1 := ⟨⟨q1803, q16, by decide +kernel⟩, q1802, qs33⟩
set_option maxHeartbeats 4000000 in
set_option maxRecDepth 100000 in
theorem tX13_removesSpool (l : Launch) (dC : Nat → ClassId) (dI : Nat → Nat → Nat) (g : Nat → ClassId) (a0 a1 a2 a3 a4 a5 a6 a7 a8 : Nat) (uth : Int32) (uch : Int32) (ufc : Int32) (usv : Int32) (ull : Int32) (ubl : Int32) (uba : Int32) (uea : Int32) (ufa : Int32) (uso : Int32) (udn : Int32) (uw : Nat → Int32) (uun : Nat → Int32) (usr : Nat → Int32) (ube : Nat → Int32) (ubs : Nat → Int32) (uln : Nat → Int32) (ubu : Nat → Int32) (unu : Nat → Int32) (p1 : Int32) {r : (Nat → Int32)} (h : fX13_removesSpool uw p1 = some r) : MU l yX13_removesSpool cX13_removesSpool 2 none 1 24 0 0 dC dI g [.ref a0, .int p1] (wX13 g a0 a1 a2 a3 a4 a5 a6 a7 a8 uth uch ufc usv ull ubl uba uea ufa uso udn uw uun usr ube ubs uln ubu unu) (wX13 g a0 a1 a2 a3 a4 a5 a6 a7 a8 uth uch ufc usv ull ubl uba uea ufa uso udn r uun usr ube ubs uln ubu unu) none := by
  refine MU_of (by decide) (Nat.le_of_ble_eq_true rfl) ?_
  intro p e s m below meth c ls F hr hlocks hE hX hA hP hD hS hl
  generalize va_A (wX13 g a0 a1 a2 a3 a4 a5 a6 a7 a8 uth uch ufc usv ull ubl uba uea ufa uso udn uw uun usr ube ubs uln ubu unu) s.heap.size = A at hA hD hS hX ⊢
  replace F : CF p m c cX13_removesSpool 2 s _ RX13 := F
  replace hl : lv_has ls 2 [(0, .ref a0), (1, .int p1)] := hl
  rw [fX13_removesSpool] at h
  refine lv_aload_n F.1 F.2.1 dX13_removesSpool_0 rfl (lv_at hl 0 rfl) ?_
  refine lv_bipush (v := 33) F.1 F.2.1 dX13_removesSpool_1 (by decide) ?_
  refine lv_iconst (v := 4) F.1 F.2.1 dX13_removesSpool_3 (by decide) ?_
  refine lv_iload_n F.1 F.2.1 dX13_removesSpool_4 rfl (lv_at hl 1 rfl) ?_
  refine lv_imul F.1 F.2.1 dX13_removesSpool_5 ?_
  refine lv_iadd F.1 F.2.1 dX13_removesSpool_6 ?_
  refine lv_iconst (v := 4) F.1 F.2.1 dX13_removesSpool_7 (by decide) ?_
  refine lv_bipush (v := 33) F.1 F.2.1 dX13_removesSpool_8 (by decide) ?_
  refine lv_iconst (v := 4) F.1 F.2.1 dX13_removesSpool_10 (by decide) ?_
  refine lv_aload_n F.1 F.2.1 dX13_removesSpool_11 rfl (lv_at hl 0 rfl) ?_
  refine gF (v := .ref a1) F hE hP 0 rfl rfl inX13 1 (by decide) q1685 rfl dX13_removesSpool_12 ?_
  refine lv_iconst (v := 0) F.1 F.2.1 dX13_removesSpool_15 (by decide) ?_
  refine aLi (k := 0) F hE hP 1 0 rfl rfl (by decide) (by decide) dX13_removesSpool_16 ?_
  refine lv_imul F.1 F.2.1 dX13_removesSpool_17 ?_
  refine lv_iadd F.1 F.2.1 dX13_removesSpool_18 ?_
  obtain ⟨z1, k2, h⟩ := bd_ok h
  refine cMV (As := [.int (33 + (4 * p1)), .int 4, .int (33 + (4 * (uw 0)))]) (rest := []) (ws' := wX13 g a0 a1 a2 a3 a4 a5 a6 a7 a8 uth uch ufc usv ull ubl uba uea ufa uso udn z1 uun usr ube ubs uln ubu unu) F hE hX (tX13_closes l dC dI g a0 a1 a2 a3 a4 a5 a6 a7 a8 uth uch ufc usv ull ubl uba uea ufa uso udn uw uun usr ube ubs uln ubu unu (33 + (4 * p1)) 4 (33 + (4 * (uw 0))) k2) mbX13_closes q1804 ⟨(Nat.le_of_ble_eq_true rfl), (Nat.le_of_ble_eq_true rfl)⟩ ⟨(Nat.le_of_ble_eq_true rfl), (Nat.le_of_ble_eq_true rfl)⟩ hP hD hS hA [0, 1, 2, 3, 4, 5, 6, 7, 8] rfl rfl rfl rfl rfl 0 rfl rfl rfl hl.1 rfl (Nat.le_of_ble_eq_true rfl) dX13_removesSpool_19 (fun H locs hP hD hS => ?_)
  refine lv_aload_n F.1 F.2.1 dX13_removesSpool_22 rfl (lv_at hl 0 rfl) ?_
  refine gF (v := .ref a1) F hE hP 0 rfl rfl inX13 1 (by decide) q1685 rfl dX13_removesSpool_23 ?_
  refine lv_iconst (v := 0) F.1 F.2.1 dX13_removesSpool_26 (by decide) ?_
  refine lv_dup2_11 F.1 F.2.1 dX13_removesSpool_27 rfl rfl ?_
  refine aLi (k := 0) F hE hP 1 0 rfl rfl (by decide) (by decide) dX13_removesSpool_28 ?_
  refine lv_iconst (v := 1) F.1 F.2.1 dX13_removesSpool_29 (by decide) ?_
  refine lv_isub F.1 F.2.1 dX13_removesSpool_30 ?_
  refine aSi (k := 0) F hE hP hD hS 1 0 rfl rfl (by decide) (by decide) dX13_removesSpool_31 (fun H locs hP hD hS => ?_)
  replace hP : va_P (dC, dI) vwCl (wX13 g a0 a1 a2 a3 a4 a5 a6 a7 a8 uth uch ufc usv ull ubl uba uea ufa uso udn (upd z1 0 ((z1 0) - 1)) uun usr ube ubs uln ubu unu) H := hP
  replace hD : va_D A (wX13 g a0 a1 a2 a3 a4 a5 a6 a7 a8 uth uch ufc usv ull ubl uba uea ufa uso udn (upd z1 0 ((z1 0) - 1)) uun usr ube ubs uln ubu unu) := hD
  cases h
  exact MU_v F hr hlocks (Nat.le_refl _) (Nat.le_refl _) hP hS dX13_removesSpool_32
/-! WireCutterModel.removesOrder -/
def fX13_removesOrder (uw : Nat → Int32) (p1 : Int32) : Option ((Nat → Int32)) :=
  (fX13_closes uw (73 + (4 * p1)) 4 (73 + (4 * (uw 2)))).bind fun z1 =>
  some (upd z1 2 ((z1 2) - 1))
theorem mbX13_removesOrder : MV yX13_removesOrder cX13_removesOrder 2 none 1 := ⟨⟨q1862, q16, by decide +kernel⟩, q1861, qs44⟩
set_option maxHeartbeats 4000000 in
set_option maxRecDepth 100000 in
theorem tX13_removesOrder (l : Launch) (dC : Nat → ClassId) (dI : Nat → Nat → Nat) (g : Nat → ClassId) (a0 a1 a2 a3 a4 a5 a6 a7 a8 : Nat) (uth : Int32) (uch : Int32) (ufc : Int32) (usv : Int32) (ull : Int32) (ubl : Int32) (uba : Int32) (uea : Int32) (ufa : Int32) (uso : Int32) (udn : Int32) (uw : Nat → Int32) (uun : Nat → Int32) (usr : Nat → Int32) (ube : Nat → Int32) (ubs : Nat → Int32) (uln : Nat → Int32) (ubu : Nat → Int32) (unu : Nat → Int32) (p1 : Int32) {r : (Nat → Int32)} (h : fX13_removesOrder uw p1 = some r) : MU l yX13_removesOrder cX13_removesOrder 2 none 1 24 0 0 dC dI g [.ref a0, .int p1] (wX13 g a0 a1 a2 a3 a4 a5 a6 a7 a8 uth uch ufc usv ull ubl uba uea ufa uso udn uw uun usr ube ubs uln ubu unu) (wX13 g a0 a1 a2 a3 a4 a5 a6 a7 a8 uth uch ufc usv ull ubl uba uea ufa uso udn r uun usr ube ubs uln ubu unu) none := by
  refine MU_of (by decide) (Nat.le_of_ble_eq_true rfl) ?_
  intro p e s m below meth c ls F hr hlocks hE hX hA hP hD hS hl
  generalize va_A (wX13 g a0 a1 a2 a3 a4 a5 a6 a7 a8 uth uch ufc usv ull ubl uba uea ufa uso udn uw uun usr ube ubs uln ubu unu) s.heap.size = A at hA hD hS hX ⊢
  replace F : CF p m c cX13_removesOrder 2 s _ RX13 := F
  replace hl : lv_has ls 2 [(0, .ref a0), (1, .int p1)] := hl
  rw [fX13_removesOrder] at h
  refine lv_aload_n F.1 F.2.1 dX13_removesOrder_0 rfl (lv_at hl 0 rfl) ?_
  refine lv_bipush (v := 73) F.1 F.2.1 dX13_removesOrder_1 (by decide) ?_
  refine lv_iconst (v := 4) F.1 F.2.1 dX13_removesOrder_3 (by decide) ?_
  refine lv_iload_n F.1 F.2.1 dX13_removesOrder_4 rfl (lv_at hl 1 rfl) ?_
  refine lv_imul F.1 F.2.1 dX13_removesOrder_5 ?_
  refine lv_iadd F.1 F.2.1 dX13_removesOrder_6 ?_
  refine lv_iconst (v := 4) F.1 F.2.1 dX13_removesOrder_7 (by decide) ?_
  refine lv_bipush (v := 73) F.1 F.2.1 dX13_removesOrder_8 (by decide) ?_
  refine lv_iconst (v := 4) F.1 F.2.1 dX13_removesOrder_10 (by decide) ?_
  refine lv_aload_n F.1 F.2.1 dX13_removesOrder_11 rfl (lv_at hl 0 rfl) ?_
  refine gF (v := .ref a1) F hE hP 0 rfl rfl inX13 1 (by decide) q1685 rfl dX13_removesOrder_12 ?_
  refine lv_iconst (v := 2) F.1 F.2.1 dX13_removesOrder_15 (by decide) ?_
  refine aLi (k := 2) F hE hP 1 0 rfl rfl (by decide) (by decide) dX13_removesOrder_16 ?_
  refine lv_imul F.1 F.2.1 dX13_removesOrder_17 ?_
  refine lv_iadd F.1 F.2.1 dX13_removesOrder_18 ?_
  obtain ⟨z1, k2, h⟩ := bd_ok h
  refine cMV (As := [.int (73 + (4 * p1)), .int 4, .int (73 + (4 * (uw 2)))]) (rest := []) (ws' := wX13 g a0 a1 a2 a3 a4 a5 a6 a7 a8 uth uch ufc usv ull ubl uba uea ufa uso udn z1 uun usr ube ubs uln ubu unu) F hE hX (tX13_closes l dC dI g a0 a1 a2 a3 a4 a5 a6 a7 a8 uth uch ufc usv ull ubl uba uea ufa uso udn uw uun usr ube ubs uln ubu unu (73 + (4 * p1)) 4 (73 + (4 * (uw 2))) k2) mbX13_closes q1804 ⟨(Nat.le_of_ble_eq_true rfl), (Nat.le_of_ble_eq_true rfl)⟩ ⟨(Nat.le_of_ble_eq_true rfl), (Nat.le_of_ble_eq_true rfl)⟩ hP hD hS hA [0, 1, 2, 3, 4, 5, 6, 7, 8] rfl rfl rfl rfl rfl 0 rfl rfl rfl hl.1 rfl (Nat.le_of_ble_eq_true rfl) dX13_removesOrder_19 (fun H locs hP hD hS => ?_)
  refine lv_aload_n F.1 F.2.1 dX13_removesOrder_22 rfl (lv_at hl 0 rfl) ?_
  refine gF (v := .ref a1) F hE hP 0 rfl rfl inX13 1 (by decide) q1685 rfl dX13_removesOrder_23 ?_
  refine lv_iconst (v := 2) F.1 F.2.1 dX13_removesOrder_26 (by decide) ?_
  refine lv_dup2_11 F.1 F.2.1 dX13_removesOrder_27 rfl rfl ?_
  refine aLi (k := 2) F hE hP 1 0 rfl rfl (by decide) (by decide) dX13_removesOrder_28 ?_
  refine lv_iconst (v := 1) F.1 F.2.1 dX13_removesOrder_29 (by decide) ?_
  refine lv_isub F.1 F.2.1 dX13_removesOrder_30 ?_
  refine aSi (k := 2) F hE hP hD hS 1 0 rfl rfl (by decide) (by decide) dX13_removesOrder_31 (fun H locs hP hD hS => ?_)
  replace hP : va_P (dC, dI) vwCl (wX13 g a0 a1 a2 a3 a4 a5 a6 a7 a8 uth uch ufc usv ull ubl uba uea ufa uso udn (upd z1 2 ((z1 2) - 1)) uun usr ube ubs uln ubu unu) H := hP
  replace hD : va_D A (wX13 g a0 a1 a2 a3 a4 a5 a6 a7 a8 uth uch ufc usv ull ubl uba uea ufa uso udn (upd z1 2 ((z1 2) - 1)) uun usr ube ubs uln ubu unu) := hD
  cases h
  exact MU_v F hr hlocks (Nat.le_refl _) (Nat.le_refl _) hP hS dX13_removesOrder_32
/-! WireCutterModel.removesScrap -/
def fX13_removesScrap (uw : Nat → Int32) (p1 : Int32) : Option ((Nat → Int32)) :=
  (fX13_closes uw (121 + (2 * p1)) 2 (121 + (2 * (uw 4)))).bind fun z1 =>
  some (upd z1 4 ((z1 4) - 1))
theorem mbX13_removesScrap : MV yX13_removesScrap cX13_removesScrap 2 none 1 := ⟨⟨q1826, q16, by decide +kernel⟩, q1825, qs37⟩
set_option maxHeartbeats 4000000 in
set_option maxRecDepth 100000 in
theorem tX13_removesScrap (l : Launch) (dC : Nat → ClassId) (dI : Nat → Nat → Nat) (g : Nat → ClassId) (a0 a1 a2 a3 a4 a5 a6 a7 a8 : Nat) (uth : Int32) (uch : Int32) (ufc : Int32) (usv : Int32) (ull : Int32) (ubl : Int32) (uba : Int32) (uea : Int32) (ufa : Int32) (uso : Int32) (udn : Int32) (uw : Nat → Int32) (uun : Nat → Int32) (usr : Nat → Int32) (ube : Nat → Int32) (ubs : Nat → Int32) (uln : Nat → Int32) (ubu : Nat → Int32) (unu : Nat → Int32) (p1 : Int32) {r : (Nat → Int32)} (h : fX13_removesScrap uw p1 = some r) : MU l yX13_removesScrap cX13_removesScrap 2 none 1 24 0 0 dC dI g [.ref a0, .int p1] (wX13 g a0 a1 a2 a3 a4 a5 a6 a7 a8 uth uch ufc usv ull ubl uba uea ufa uso udn uw uun usr ube ubs uln ubu unu) (wX13 g a0 a1 a2 a3 a4 a5 a6 a7 a8 uth uch ufc usv ull ubl uba uea ufa uso udn r uun usr ube ubs uln ubu unu) none := by
  refine MU_of (by decide) (Nat.le_of_ble_eq_true rfl) ?_
  intro p e s m below meth c ls F hr hlocks hE hX hA hP hD hS hl
  generalize va_A (wX13 g a0 a1 a2 a3 a4 a5 a6 a7 a8 uth uch ufc usv ull ubl uba uea ufa uso udn uw uun usr ube ubs uln ubu unu) s.heap.size = A at hA hD hS hX ⊢
  replace F : CF p m c cX13_removesScrap 2 s _ RX13 := F
  replace hl : lv_has ls 2 [(0, .ref a0), (1, .int p1)] := hl
  rw [fX13_removesScrap] at h
  refine lv_aload_n F.1 F.2.1 dX13_removesScrap_0 rfl (lv_at hl 0 rfl) ?_
  refine lv_bipush (v := 121) F.1 F.2.1 dX13_removesScrap_1 (by decide) ?_
  refine lv_iconst (v := 2) F.1 F.2.1 dX13_removesScrap_3 (by decide) ?_
  refine lv_iload_n F.1 F.2.1 dX13_removesScrap_4 rfl (lv_at hl 1 rfl) ?_
  refine lv_imul F.1 F.2.1 dX13_removesScrap_5 ?_
  refine lv_iadd F.1 F.2.1 dX13_removesScrap_6 ?_
  refine lv_iconst (v := 2) F.1 F.2.1 dX13_removesScrap_7 (by decide) ?_
  refine lv_bipush (v := 121) F.1 F.2.1 dX13_removesScrap_8 (by decide) ?_
  refine lv_iconst (v := 2) F.1 F.2.1 dX13_removesScrap_10 (by decide) ?_
  refine lv_aload_n F.1 F.2.1 dX13_removesScrap_11 rfl (lv_at hl 0 rfl) ?_
  refine gF (v := .ref a1) F hE hP 0 rfl rfl inX13 1 (by decide) q1685 rfl dX13_removesScrap_12 ?_
  refine lv_iconst (v := 4) F.1 F.2.1 dX13_removesScrap_15 (by decide) ?_
  refine aLi (k := 4) F hE hP 1 0 rfl rfl (by decide) (by decide) dX13_removesScrap_16 ?_
  refine lv_imul F.1 F.2.1 dX13_removesScrap_17 ?_
  refine lv_iadd F.1 F.2.1 dX13_removesScrap_18 ?_
  obtain ⟨z1, k2, h⟩ := bd_ok h
  refine cMV (As := [.int (121 + (2 * p1)), .int 2, .int (121 + (2 * (uw 4)))]) (rest := []) (ws' := wX13 g a0 a1 a2 a3 a4 a5 a6 a7 a8 uth uch ufc usv ull ubl uba uea ufa uso udn z1 uun usr ube ubs uln ubu unu) F hE hX (tX13_closes l dC dI g a0 a1 a2 a3 a4 a5 a6 a7 a8 uth uch ufc usv ull ubl uba uea ufa uso udn uw uun usr ube ubs uln ubu unu (121 + (2 * p1)) 2 (121 + (2 * (uw 4))) k2) mbX13_closes q1804 ⟨(Nat.le_of_ble_eq_true rfl), (Nat.le_of_ble_eq_true rfl)⟩ ⟨(Nat.le_of_ble_eq_true rfl), (Nat.le_of_ble_eq_true rfl)⟩ hP hD hS hA [0, 1, 2, 3, 4, 5, 6, 7, 8] rfl rfl rfl rfl rfl 0 rfl rfl rfl hl.1 rfl (Nat.le_of_ble_eq_true rfl) dX13_removesScrap_19 (fun H locs hP hD hS => ?_)
  refine lv_aload_n F.1 F.2.1 dX13_removesScrap_22 rfl (lv_at hl 0 rfl) ?_
  refine gF (v := .ref a1) F hE hP 0 rfl rfl inX13 1 (by decide) q1685 rfl dX13_removesScrap_23 ?_
  refine lv_iconst (v := 4) F.1 F.2.1 dX13_removesScrap_26 (by decide) ?_
  refine lv_dup2_11 F.1 F.2.1 dX13_removesScrap_27 rfl rfl ?_
  refine aLi (k := 4) F hE hP 1 0 rfl rfl (by decide) (by decide) dX13_removesScrap_28 ?_
  refine lv_iconst (v := 1) F.1 F.2.1 dX13_removesScrap_29 (by decide) ?_
  refine lv_isub F.1 F.2.1 dX13_removesScrap_30 ?_
  refine aSi (k := 4) F hE hP hD hS 1 0 rfl rfl (by decide) (by decide) dX13_removesScrap_31 (fun H locs hP hD hS => ?_)
  replace hP : va_P (dC, dI) vwCl (wX13 g a0 a1 a2 a3 a4 a5 a6 a7 a8 uth uch ufc usv ull ubl uba uea ufa uso udn (upd z1 4 ((z1 4) - 1)) uun usr ube ubs uln ubu unu) H := hP
  replace hD : va_D A (wX13 g a0 a1 a2 a3 a4 a5 a6 a7 a8 uth uch ufc usv ull ubl uba uea ufa uso udn (upd z1 4 ((z1 4) - 1)) uun usr ube ubs uln ubu unu) := hD
  cases h
  exact MU_v F hr hlocks (Nat.le_refl _) (Nat.le_refl _) hP hS dX13_removesScrap_32
/-! WireCutterModel.leavesScrap -/
def fX13_leavesScrap (uw : Nat → Int32) (p1 : Int32) (p2 : Int32) : Option ((Nat → Int32)) :=
  if (uw 4) = 40 then
    gd (inR (27 + p1) 201) <|
    gd (inR (27 + p1) 201) <|
    some (upd uw ((27 + p1).toNatClampNeg) ((uw ((27 + p1).toNatClampNeg)) + p2))
  else
    gd (inR (121 + (2 * (uw 4))) 201) <|
    gd (inR ((121 + (2 * ((upd uw ((121 + (2 * (uw 4))).toNatClampNeg) p1) 4))) + 1) 201) <|
    some (upd (upd (upd uw ((121 + (2 * (uw 4))).toNatClampNeg) p1) (((121 + (2 * ((upd uw ((121 + (2 * (uw 4))).toNatClampNeg) p1) 4))) + 1).toNatClampNeg) p2) 4 (((upd (upd uw ((121 + (2 * (uw 4))).toNatClampNeg) p1) (((121 + (2 * ((upd uw ((121 + (2 * (uw 4))).toNatClampNeg) p1) 4))) + 1).toNatClampNeg) p2) 4) + 1))
theorem mbX13_leavesScrap : MV yX13_leavesScrap cX13_leavesScrap 3 none 2 := ⟨⟨q1799, q16, by decide +kernel⟩, q1798, qs32⟩
set_option maxHeartbeats 4000000 in
set_option maxRecDepth 100000 in
theorem tX13_leavesScrap (l : Launch) (dC : Nat → ClassId) (dI : Nat → Nat → Nat) (g : Nat → ClassId) (a0 a1 a2 a3 a4 a5 a6 a7 a8 : Nat) (uth : Int32) (uch : Int32) (ufc : Int32) (usv : Int32) (ull : Int32) (ubl : Int32) (uba : Int32) (uea : Int32) (ufa : Int32) (uso : Int32) (udn : Int32) (uw : Nat → Int32) (uun : Nat → Int32) (usr : Nat → Int32) (ube : Nat → Int32) (ubs : Nat → Int32) (uln : Nat → Int32) (ubu : Nat → Int32) (unu : Nat → Int32) (p1 : Int32) (p2 : Int32) {r : (Nat → Int32)} (h : fX13_leavesScrap uw p1 p2 = some r) : MU l yX13_leavesScrap cX13_leavesScrap 3 none 0 0 0 0 dC dI g [.ref a0, .int p1, .int p2] (wX13 g a0 a1 a2 a3 a4 a5 a6 a7 a8 uth uch ufc usv ull ubl uba uea ufa uso udn uw uun usr ube ubs uln ubu unu) (wX13 g a0 a1 a2 a3 a4 a5 a6 a7 a8 uth uch ufc usv ull ubl uba uea ufa uso udn r uun usr ube ubs uln ubu unu) none := by
  refine MU_of (by decide) (Nat.le_of_ble_eq_true rfl) ?_
  intro p e s m below meth c ls F hr hlocks hE hX hA hP hD hS hl
  generalize va_A (wX13 g a0 a1 a2 a3 a4 a5 a6 a7 a8 uth uch ufc usv ull ubl uba uea ufa uso udn uw uun usr ube ubs uln ubu unu) s.heap.size = A at hA hD hS hX ⊢
  replace F : CF p m c cX13_leavesScrap 3 s _ RX13 := F
  replace hl : lv_has ls 3 [(0, .ref a0), (1, .int p1), (2, .int p2)] := hl
  rw [fX13_leavesScrap] at h
  refine lv_aload_n F.1 F.2.1 dX13_leavesScrap_0 rfl (lv_at hl 0 rfl) ?_
  refine gF (v := .ref a1) F hE hP 0 rfl rfl inX13 1 (by decide) q1685 rfl dX13_leavesScrap_1 ?_
  refine lv_iconst (v := 4) F.1 F.2.1 dX13_leavesScrap_4 (by decide) ?_
  refine aLi (k := 4) F hE hP 1 0 rfl rfl (by decide) (by decide) dX13_leavesScrap_5 ?_
  refine lv_bipush (v := 40) F.1 F.2.1 dX13_leavesScrap_6 (by decide) ?_
  refine lv_icmp_ne (tgt := 25) F.1 F.2.1 dX13_leavesScrap_8 (by decide) (fun k1 => ?_) (fun k1 => ?_)
  · replace h := it_f k1 h
    refine lv_aload_n F.1 F.2.1 dX13_leavesScrap_25 rfl (lv_at hl 0 rfl) ?_
    refine gF (v := .ref a1) F hE hP 0 rfl rfl inX13 1 (by decide) q1685 rfl dX13_leavesScrap_26 ?_
    refine lv_bipush (v := 121) F.1 F.2.1 dX13_leavesScrap_29 (by decide) ?_
    refine lv_iconst (v := 2) F.1 F.2.1 dX13_leavesScrap_31 (by decide) ?_
    refine lv_aload_n F.1 F.2.1 dX13_leavesScrap_32 rfl (lv_at hl 0 rfl) ?_
    refine gF (v := .ref a1) F hE hP 0 rfl rfl inX13 1 (by decide) q1685 rfl dX13_leavesScrap_33 ?_
    refine lv_iconst (v := 4) F.1 F.2.1 dX13_leavesScrap_36 (by decide) ?_
    refine aLi (k := 4) F hE hP 1 0 rfl rfl (by decide) (by decide) dX13_leavesScrap_37 ?_
    refine lv_imul F.1 F.2.1 dX13_leavesScrap_38 ?_
    refine lv_iadd F.1 F.2.1 dX13_leavesScrap_39 ?_
    refine lv_iload_n F.1 F.2.1 dX13_leavesScrap_40 rfl (lv_at hl 1 rfl) ?_
    obtain ⟨k2, h⟩ := gd_ok h
    refine aSi (k := (121 + (2 * (uw 4))).toNatClampNeg) F hE hP hD hS 1 0 rfl rfl k2 rfl dX13_leavesScrap_41 (fun H locs hP hD hS => ?_)
    replace hP : va_P (dC, dI) vwCl (wX13 g a0 a1 a2 a3 a4 a5 a6 a7 a8 uth uch ufc usv ull ubl uba uea ufa uso udn (upd uw ((121 + (2 * (uw 4))).toNatClampNeg) p1) uun usr ube ubs uln ubu unu) H := hP
    replace hD : va_D A (wX13 g a0 a1 a2 a3 a4 a5 a6 a7 a8 uth uch ufc usv ull ubl uba uea ufa uso udn (upd uw ((121 + (2 * (uw 4))).toNatClampNeg) p1) uun usr ube ubs uln ubu unu) := hD
    refine lv_aload_n F.1 F.2.1 dX13_leavesScrap_42 rfl (lv_at hl 0 rfl) ?_
    refine gF (v := .ref a1) F hE hP 0 rfl rfl inX13 1 (by decide) q1685 rfl dX13_leavesScrap_43 ?_
    refine lv_bipush (v := 121) F.1 F.2.1 dX13_leavesScrap_46 (by decide) ?_
    refine lv_iconst (v := 2) F.1 F.2.1 dX13_leavesScrap_48 (by decide) ?_
    refine lv_aload_n F.1 F.2.1 dX13_leavesScrap_49 rfl (lv_at hl 0 rfl) ?_
    refine gF (v := .ref a1) F hE hP 0 rfl rfl inX13 1 (by decide) q1685 rfl dX13_leavesScrap_50 ?_
    refine lv_iconst (v := 4) F.1 F.2.1 dX13_leavesScrap_53 (by decide) ?_
    refine aLi (k := 4) F hE hP 1 0 rfl rfl (by decide) (by decide) dX13_leavesScrap_54 ?_
    refine lv_imul F.1 F.2.1 dX13_leavesScrap_55 ?_
    refine lv_iadd F.1 F.2.1 dX13_leavesScrap_56 ?_
    refine lv_iconst (v := 1) F.1 F.2.1 dX13_leavesScrap_57 (by decide) ?_
    refine lv_iadd F.1 F.2.1 dX13_leavesScrap_58 ?_
    refine lv_iload_n F.1 F.2.1 dX13_leavesScrap_59 rfl (lv_at hl 2 rfl) ?_
    obtain ⟨k3, h⟩ := gd_ok h
    refine aSi (k := ((121 + (2 * ((upd uw ((121 + (2 * (uw 4))).toNatClampNeg) p1) 4))) + 1).toNatClampNeg) F hE hP hD hS 1 0 rfl rfl k3 rfl dX13_leavesScrap_60 (fun H locs hP hD hS => ?_)
    replace hP : va_P (dC, dI) vwCl (wX13 g a0 a1 a2 a3 a4 a5 a6 a7 a8 uth uch ufc usv ull ubl uba uea ufa uso udn (upd (upd uw ((121 + (2 * (uw 4))).toNatClampNeg) p1) (((121 + (2 * ((upd uw ((121 + (2 * (uw 4))).toNatClampNeg) p1) 4))) + 1).toNatClampNeg) p2) uun usr ube ubs uln ubu unu) H := hP
    replace hD : va_D A (wX13 g a0 a1 a2 a3 a4 a5 a6 a7 a8 uth uch ufc usv ull ubl uba uea ufa uso udn (upd (upd uw ((121 + (2 * (uw 4))).toNatClampNeg) p1) (((121 + (2 * ((upd uw ((121 + (2 * (uw 4))).toNatClampNeg) p1) 4))) + 1).toNatClampNeg) p2) uun usr ube ubs uln ubu unu) := hD
    refine lv_aload_n F.1 F.2.1 dX13_leavesScrap_61 rfl (lv_at hl 0 rfl) ?_
    refine gF (v := .ref a1) F hE hP 0 rfl rfl inX13 1 (by decide) q1685 rfl dX13_leavesScrap_62 ?_
    refine lv_iconst (v := 4) F.1 F.2.1 dX13_leavesScrap_65 (by decide) ?_
    refine lv_dup2_11 F.1 F.2.1 dX13_leavesScrap_66 rfl rfl ?_
    refine aLi (k := 4) F hE hP 1 0 rfl rfl (by decide) (by decide) dX13_leavesScrap_67 ?_
    refine lv_iconst (v := 1) F.1 F.2.1 dX13_leavesScrap_68 (by decide) ?_
    refine lv_iadd F.1 F.2.1 dX13_leavesScrap_69 ?_
    refine aSi (k := 4) F hE hP hD hS 1 0 rfl rfl (by decide) (by decide) dX13_leavesScrap_70 (fun H locs hP hD hS => ?_)
    replace hP : va_P (dC, dI) vwCl (wX13 g a0 a1 a2 a3 a4 a5 a6 a7 a8 uth uch ufc usv ull ubl uba uea ufa uso udn (upd (upd (upd uw ((121 + (2 * (uw 4))).toNatClampNeg) p1) (((121 + (2 * ((upd uw ((121 + (2 * (uw 4))).toNatClampNeg) p1) 4))) + 1).toNatClampNeg) p2) 4 (((upd (upd uw ((121 + (2 * (uw 4))).toNatClampNeg) p1) (((121 + (2 * ((upd uw ((121 + (2 * (uw 4))).toNatClampNeg) p1) 4))) + 1).toNatClampNeg) p2) 4) + 1)) uun usr ube ubs uln ubu unu) H := hP
    replace hD : va_D A (wX13 g a0 a1 a2 a3 a4 a5 a6 a7 a8 uth uch ufc usv ull ubl uba uea ufa uso udn (upd (upd (upd uw ((121 + (2 * (uw 4))).toNatClampNeg) p1) (((121 + (2 * ((upd uw ((121 + (2 * (uw 4))).toNatClampNeg) p1) 4))) + 1).toNatClampNeg) p2) 4 (((upd (upd uw ((121 + (2 * (uw 4))).toNatClampNeg) p1) (((121 + (2 * ((upd uw ((121 + (2 * (uw 4))).toNatClampNeg) p1) 4))) + 1).toNatClampNeg) p2) 4) + 1)) uun usr ube ubs uln ubu unu) := hD
    cases h
    exact MU_v F hr hlocks (Nat.le_refl _) (Nat.le_refl _) hP hS dX13_leavesScrap_71
  · replace h := it_t k1 h
    refine lv_aload_n F.1 F.2.1 dX13_leavesScrap_11 rfl (lv_at hl 0 rfl) ?_
    refine gF (v := .ref a1) F hE hP 0 rfl rfl inX13 1 (by decide) q1685 rfl dX13_leavesScrap_12 ?_
    refine lv_bipush (v := 27) F.1 F.2.1 dX13_leavesScrap_15 (by decide) ?_
    refine lv_iload_n F.1 F.2.1 dX13_leavesScrap_17 rfl (lv_at hl 1 rfl) ?_
    refine lv_iadd F.1 F.2.1 dX13_leavesScrap_18 ?_
    refine lv_dup2_11 F.1 F.2.1 dX13_leavesScrap_19 rfl rfl ?_
    obtain ⟨k4, h⟩ := gd_ok h
    refine aLi (k := (27 + p1).toNatClampNeg) F hE hP 1 0 rfl rfl k4 rfl dX13_leavesScrap_20 ?_
    refine lv_iload_n F.1 F.2.1 dX13_leavesScrap_21 rfl (lv_at hl 2 rfl) ?_
    refine lv_iadd F.1 F.2.1 dX13_leavesScrap_22 ?_
    obtain ⟨k5, h⟩ := gd_ok h
    refine aSi (k := (27 + p1).toNatClampNeg) F hE hP hD hS 1 0 rfl rfl k5 rfl dX13_leavesScrap_23 (fun H locs hP hD hS => ?_)
    replace hP : va_P (dC, dI) vwCl (wX13 g a0 a1 a2 a3 a4 a5 a6 a7 a8 uth uch ufc usv ull ubl uba uea ufa uso udn (upd uw ((27 + p1).toNatClampNeg) ((uw ((27 + p1).toNatClampNeg)) + p2)) uun usr ube ubs uln ubu unu) H := hP
    replace hD : va_D A (wX13 g a0 a1 a2 a3 a4 a5 a6 a7 a8 uth uch ufc usv ull ubl uba uea ufa uso udn (upd uw ((27 + p1).toNatClampNeg) ((uw ((27 + p1).toNatClampNeg)) + p2)) uun usr ube ubs uln ubu unu) := hD
    cases h
    exact MU_v F hr hlocks (Nat.le_refl _) (Nat.le_refl _) hP hS dX13_leavesScrap_24
/-! WireCutterModel.notSpool -/
def fX13_notSpool (uw : Nat → Int32) (p1 : Int32) (p2 : Int32) : Option (Int32) :=
  (fX13_isMaterial p1).bind fun z1 =>
  if z1 = 0 then
    some (1)
  else
    (fX13_isBetween p2 10 999).bind fun z4 =>
    if z4 = 0 then
      some (1)
    else
      if (uw 0) = 10 then
        some (2)
      else
        some (0)
theorem mbX13_notSpool : MV yX13_notSpool cX13_notSpool 3 (some .int) 2 := ⟨⟨q1749, q16, by decide +kernel⟩, q1748, qs22⟩
set_option maxHeartbeats 4000000 in
set_option maxRecDepth 100000 in
theorem tX13_notSpool (l : Launch) (dC : Nat → ClassId) (dI : Nat → Nat → Nat) (g : Nat → ClassId) (a0 a1 a2 a3 a4 a5 a6 a7 a8 : Nat) (uth : Int32) (uch : Int32) (ufc : Int32) (usv : Int32) (ull : Int32) (ubl : Int32) (uba : Int32) (uea : Int32) (ufa : Int32) (uso : Int32) (udn : Int32) (uw : Nat → Int32) (uun : Nat → Int32) (usr : Nat → Int32) (ube : Nat → Int32) (ubs : Nat → Int32) (uln : Nat → Int32) (ubu : Nat → Int32) (unu : Nat → Int32) (p1 : Int32) (p2 : Int32) {r : Int32} (h : fX13_notSpool uw p1 p2 = some r) : RO l yX13_notSpool cX13_notSpool 3 (some .int) 2 42 dC dI g [.ref a0, .int p1, .int p2] (wX13 g a0 a1 a2 a3 a4 a5 a6 a7 a8 uth uch ufc usv ull ubl uba uea ufa uso udn uw uun usr ube ubs uln ubu unu) (some (.int r)) := by
  refine RO_of (by decide) (Nat.le_of_ble_eq_true rfl) ?_
  intro p e s m below meth c ls F hr hlocks hE hX hP hl
  replace F : CF p m c cX13_notSpool 3 s _ RX13 := F
  replace hl : lv_has ls 3 [(0, .ref a0), (1, .int p1), (2, .int p2)] := hl
  rw [fX13_notSpool] at h
  refine lv_iload_n F.1 F.2.1 dX13_notSpool_0 rfl (lv_at hl 1 rfl) ?_
  obtain ⟨z1, k2, h⟩ := bd_ok h
  refine cRS (As := [.int p1]) (rest := []) F hE hX va_S.rf (tX13_isMaterial l dC dI g p1 k2) mbX13_isMaterial q1750 ⟨(Nat.le_of_ble_eq_true rfl), (Nat.le_of_ble_eq_true rfl)⟩ ⟨Nat.zero_le _, Nat.zero_le _⟩ hP [] rfl rfl hl.1 rfl (Nat.le_of_ble_eq_true rfl) dX13_notSpool_1 ?_
  refine lv_if_eq (tgt := 19) F.1 F.2.1 dX13_notSpool_4 (by decide) (fun k3 => ?_) (fun k3 => ?_)
  · replace h := it_t k3 h
    refine lv_iconst (v := 1) F.1 F.2.1 dX13_notSpool_19 (by decide) ?_
    cases h
    exact RO_i F hr hlocks dX13_notSpool_20
  · replace h := it_f k3 h
    refine lv_iload_n F.1 F.2.1 dX13_notSpool_7 rfl (lv_at hl 2 rfl) ?_
    refine lv_bipush (v := 10) F.1 F.2.1 dX13_notSpool_8 (by decide) ?_
    refine lv_sipush (v := 999) F.1 F.2.1 dX13_notSpool_10 (by decide) ?_
    obtain ⟨z4, k5, h⟩ := bd_ok h
    refine cRS (As := [.int p2, .int 10, .int 999]) (rest := []) F hE hX va_S.rf (tX13_isBetween l dC dI g p2 10 999 k5) mbX13_isBetween q1753 ⟨(Nat.le_of_ble_eq_true rfl), (Nat.le_of_ble_eq_true rfl)⟩ ⟨Nat.zero_le _, Nat.zero_le _⟩ hP [] rfl rfl hl.1 rfl (Nat.le_of_ble_eq_true rfl) dX13_notSpool_13 ?_
    refine lv_if_ne (tgt := 21) F.1 F.2.1 dX13_notSpool_16 (by decide) (fun k6 => ?_) (fun k6 => ?_)
    · replace h := it_f k6 h
      refine lv_aload_n F.1 F.2.1 dX13_notSpool_21 rfl (lv_at hl 0 rfl) ?_
      refine gF (v := .ref a1) F hE hP 0 rfl rfl inX13 1 (by decide) q1685 rfl dX13_notSpool_22 ?_
      refine lv_iconst (v := 0) F.1 F.2.1 dX13_notSpool_25 (by decide) ?_
      refine aLi (k := 0) F hE hP 1 0 rfl rfl (by decide) (by decide) dX13_notSpool_26 ?_
      refine lv_bipush (v := 10) F.1 F.2.1 dX13_notSpool_27 (by decide) ?_
      refine lv_icmp_ne (tgt := 36) F.1 F.2.1 dX13_notSpool_29 (by decide) (fun k7 => ?_) (fun k7 => ?_)
      · replace h := it_f k7 h
        refine lv_iconst (v := 0) F.1 F.2.1 dX13_notSpool_36 (by decide) ?_
        cases h
        exact RO_i F hr hlocks dX13_notSpool_37
      · replace h := it_t k7 h
        refine lv_iconst (v := 2) F.1 F.2.1 dX13_notSpool_32 (by decide) ?_
        refine lv_goto (tgt := 37) F.1 F.2.1 dX13_notSpool_33 (by decide) ?_
        cases h
        exact RO_i F hr hlocks dX13_notSpool_37
    · replace h := it_t k6 h
      refine lv_iconst (v := 1) F.1 F.2.1 dX13_notSpool_19 (by decide) ?_
      cases h
      exact RO_i F hr hlocks dX13_notSpool_20
/-! WireCutterModel.addsSpool -/
def fX13_addsSpool (uw : Nat → Int32) (p1 : Int32) (p2 : Int32) : Option (Int32 × (Nat → Int32)) :=
  gd (inR ((33 + (4 * (uw 0))) + 0) 201) <|
  gd (inR ((33 + (4 * (uw 0))) + 1) 201) <|
  gd (inR ((33 + (4 * (uw 0))) + 2) 201) <|
  gd (inR ((33 + (4 * (uw 0))) + 3) 201) <|
  gd (inR ((9 + p1) - 97) 201) <|
  gd (inR ((9 + p1) - 97) 201) <|
  some (((upd (upd (upd (upd (upd (upd (upd uw (((33 + (4 * (uw 0))) + 0).toNatClampNeg) (uw 1)) (((33 + (4 * (uw 0))) + 1).toNatClampNeg) (p1 - 97)) (((33 + (4 * (uw 0))) + 2).toNatClampNeg) p2) (((33 + (4 * (uw 0))) + 3).toNatClampNeg) 0) (((9 + p1) - 97).toNatClampNeg) (((upd (upd (upd (upd uw (((33 + (4 * (uw 0))) + 0).toNatClampNeg) (uw 1)) (((33 + (4 * (uw 0))) + 1).toNatClampNeg) (p1 - 97)) (((33 + (4 * (uw 0))) + 2).toNatClampNeg) p2) (((33 + (4 * (uw 0))) + 3).toNatClampNeg) 0) (((9 + p1) - 97).toNatClampNeg)) + p2)) 0 (((upd (upd (upd (upd (upd uw (((33 + (4 * (uw 0))) + 0).toNatClampNeg) (uw 1)) (((33 + (4 * (uw 0))) + 1).toNatClampNeg) (p1 - 97)) (((33 + (4 * (uw 0))) + 2).toNatClampNeg) p2) (((33 + (4 * (uw 0))) + 3).toNatClampNeg) 0) (((9 + p1) - 97).toNatClampNeg) (((upd (upd (upd (upd uw (((33 + (4 * (uw 0))) + 0).toNatClampNeg) (uw 1)) (((33 + (4 * (uw 0))) + 1).toNatClampNeg) (p1 - 97)) (((33 + (4 * (uw 0))) + 2).toNatClampNeg) p2) (((33 + (4 * (uw 0))) + 3).toNatClampNeg) 0) (((9 + p1) - 97).toNatClampNeg)) + p2)) 0) + 1)) 1 (((upd (upd (upd (upd (upd (upd uw (((33 + (4 * (uw 0))) + 0).toNatClampNeg) (uw 1)) (((33 + (4 * (uw 0))) + 1).toNatClampNeg) (p1 - 97)) (((33 + (4 * (uw 0))) + 2).toNatClampNeg) p2) (((33 + (4 * (uw 0))) + 3).toNatClampNeg) 0) (((9 + p1) - 97).toNatClampNeg) (((upd (upd (upd (upd uw (((33 + (4 * (uw 0))) + 0).toNatClampNeg) (uw 1)) (((33 + (4 * (uw 0))) + 1).toNatClampNeg) (p1 - 97)) (((33 + (4 * (uw 0))) + 2).toNatClampNeg) p2) (((33 + (4 * (uw 0))) + 3).toNatClampNeg) 0) (((9 + p1) - 97).toNatClampNeg)) + p2)) 0 (((upd (upd (upd (upd (upd uw (((33 + (4 * (uw 0))) + 0).toNatClampNeg) (uw 1)) (((33 + (4 * (uw 0))) + 1).toNatClampNeg) (p1 - 97)) (((33 + (4 * (uw 0))) + 2).toNatClampNeg) p2) (((33 + (4 * (uw 0))) + 3).toNatClampNeg) 0) (((9 + p1) - 97).toNatClampNeg) (((upd (upd (upd (upd uw (((33 + (4 * (uw 0))) + 0).toNatClampNeg) (uw 1)) (((33 + (4 * (uw 0))) + 1).toNatClampNeg) (p1 - 97)) (((33 + (4 * (uw 0))) + 2).toNatClampNeg) p2) (((33 + (4 * (uw 0))) + 3).toNatClampNeg) 0) (((9 + p1) - 97).toNatClampNeg)) + p2)) 0) + 1)) 1) + 1)) 1) - 1, upd (upd (upd (upd (upd (upd (upd uw (((33 + (4 * (uw 0))) + 0).toNatClampNeg) (uw 1)) (((33 + (4 * (uw 0))) + 1).toNatClampNeg) (p1 - 97)) (((33 + (4 * (uw 0))) + 2).toNatClampNeg) p2) (((33 + (4 * (uw 0))) + 3).toNatClampNeg) 0) (((9 + p1) - 97).toNatClampNeg) (((upd (upd (upd (upd uw (((33 + (4 * (uw 0))) + 0).toNatClampNeg) (uw 1)) (((33 + (4 * (uw 0))) + 1).toNatClampNeg) (p1 - 97)) (((33 + (4 * (uw 0))) + 2).toNatClampNeg) p2) (((33 + (4 * (uw 0))) + 3).toNatClampNeg) 0) (((9 + p1) - 97).toNatClampNeg)) + p2)) 0 (((upd (upd (upd (upd (upd uw (((33 + (4 * (uw 0))) + 0).toNatClampNeg) (uw 1)) (((33 + (4 * (uw 0))) + 1).toNatClampNeg) (p1 - 97)) (((33 + (4 * (uw 0))) + 2).toNatClampNeg) p2) (((33 + (4 * (uw 0))) + 3).toNatClampNeg) 0) (((9 + p1) - 97).toNatClampNeg) (((upd (upd (upd (upd uw (((33 + (4 * (uw 0))) + 0).toNatClampNeg) (uw 1)) (((33 + (4 * (uw 0))) + 1).toNatClampNeg) (p1 - 97)) (((33 + (4 * (uw 0))) + 2).toNatClampNeg) p2) (((33 + (4 * (uw 0))) + 3).toNatClampNeg) 0) (((9 + p1) - 97).toNatClampNeg)) + p2)) 0) + 1)) 1 (((upd (upd (upd (upd (upd (upd uw (((33 + (4 * (uw 0))) + 0).toNatClampNeg) (uw 1)) (((33 + (4 * (uw 0))) + 1).toNatClampNeg) (p1 - 97)) (((33 + (4 * (uw 0))) + 2).toNatClampNeg) p2) (((33 + (4 * (uw 0))) + 3).toNatClampNeg) 0) (((9 + p1) - 97).toNatClampNeg) (((upd (upd (upd (upd uw (((33 + (4 * (uw 0))) + 0).toNatClampNeg) (uw 1)) (((33 + (4 * (uw 0))) + 1).toNatClampNeg) (p1 - 97)) (((33 + (4 * (uw 0))) + 2).toNatClampNeg) p2) (((33 + (4 * (uw 0))) + 3).toNatClampNeg) 0) (((9 + p1) - 97).toNatClampNeg)) + p2)) 0 (((upd (upd (upd (upd (upd uw (((33 + (4 * (uw 0))) + 0).toNatClampNeg) (uw 1)) (((33 + (4 * (uw 0))) + 1).toNatClampNeg) (p1 - 97)) (((33 + (4 * (uw 0))) + 2).toNatClampNeg) p2) (((33 + (4 * (uw 0))) + 3).toNatClampNeg) 0) (((9 + p1) - 97).toNatClampNeg) (((upd (upd (upd (upd uw (((33 + (4 * (uw 0))) + 0).toNatClampNeg) (uw 1)) (((33 + (4 * (uw 0))) + 1).toNatClampNeg) (p1 - 97)) (((33 + (4 * (uw 0))) + 2).toNatClampNeg) p2) (((33 + (4 * (uw 0))) + 3).toNatClampNeg) 0) (((9 + p1) - 97).toNatClampNeg)) + p2)) 0) + 1)) 1) + 1))
theorem mbX13_addsSpool : MV yX13_addsSpool cX13_addsSpool 4 (some .int) 2 := ⟨⟨q1775, q16, by decide +kernel⟩, q1774, qs27⟩
set_option maxHeartbeats 4000000 in
set_option maxRecDepth 100000 in
theorem tX13_addsSpool (l : Launch) (dC : Nat → ClassId) (dI : Nat → Nat → Nat) (g : Nat → ClassId) (a0 a1 a2 a3 a4 a5 a6 a7 a8 : Nat) (uth : Int32) (uch : Int32) (ufc : Int32) (usv : Int32) (ull : Int32) (ubl : Int32) (uba : Int32) (uea : Int32) (ufa : Int32) (uso : Int32) (udn : Int32) (uw : Nat → Int32) (uun : Nat → Int32) (usr : Nat → Int32) (ube : Nat → Int32) (ubs : Nat → Int32) (uln : Nat → Int32) (ubu : Nat → Int32) (unu : Nat → Int32) (p1 : Int32) (p2 : Int32) {r : Int32 × (Nat → Int32)} (h : fX13_addsSpool uw p1 p2 = some r) : MU l yX13_addsSpool cX13_addsSpool 4 (some .int) 0 0 0 0 dC dI g [.ref a0, .int p1, .int p2] (wX13 g a0 a1 a2 a3 a4 a5 a6 a7 a8 uth uch ufc usv ull ubl uba uea ufa uso udn uw uun usr ube ubs uln ubu unu) (wX13 g a0 a1 a2 a3 a4 a5 a6 a7 a8 uth uch ufc usv ull ubl uba uea ufa uso udn r.2 uun usr ube ubs uln ubu unu) (some (.int r.1)) := by
  refine MU_of (by decide) (Nat.le_of_ble_eq_true rfl) ?_
  intro p e s m below meth c ls F hr hlocks hE hX hA hP hD hS hl
  generalize va_A (wX13 g a0 a1 a2 a3 a4 a5 a6 a7 a8 uth uch ufc usv ull ubl uba uea ufa uso udn uw uun usr ube ubs uln ubu unu) s.heap.size = A at hA hD hS hX ⊢
  replace F : CF p m c cX13_addsSpool 4 s _ RX13 := F
  replace hl : lv_has ls 4 [(0, .ref a0), (1, .int p1), (2, .int p2)] := hl
  rw [fX13_addsSpool] at h
  refine lv_bipush (v := 33) F.1 F.2.1 dX13_addsSpool_0 (by decide) ?_
  refine lv_iconst (v := 4) F.1 F.2.1 dX13_addsSpool_2 (by decide) ?_
  refine lv_aload_n F.1 F.2.1 dX13_addsSpool_3 rfl (lv_at hl 0 rfl) ?_
  refine gF (v := .ref a1) F hE hP 0 rfl rfl inX13 1 (by decide) q1685 rfl dX13_addsSpool_4 ?_
  refine lv_iconst (v := 0) F.1 F.2.1 dX13_addsSpool_7 (by decide) ?_
  refine aLi (k := 0) F hE hP 1 0 rfl rfl (by decide) (by decide) dX13_addsSpool_8 ?_
  refine lv_imul F.1 F.2.1 dX13_addsSpool_9 ?_
  refine lv_iadd F.1 F.2.1 dX13_addsSpool_10 ?_
  refine lv_istore_n (lv' := [(3, .int (33 + (4 * (uw 0)))), (0, .ref a0), (1, .int p1), (2, .int p2)]) F.1 F.2.1 dX13_addsSpool_11 rfl hl (by decide) rfl (fun ls hl => ?_)
  refine lv_aload_n F.1 F.2.1 dX13_addsSpool_12 rfl (lv_at hl 1 rfl) ?_
  refine gF (v := .ref a1) F hE hP 0 rfl rfl inX13 1 (by decide) q1685 rfl dX13_addsSpool_13 ?_
  refine lv_iload_n F.1 F.2.1 dX13_addsSpool_16 rfl (lv_at hl 0 rfl) ?_
  refine lv_iconst (v := 0) F.1 F.2.1 dX13_addsSpool_17 (by decide) ?_
  refine lv_iadd F.1 F.2.1 dX13_addsSpool_18 ?_
  refine lv_aload_n F.1 F.2.1 dX13_addsSpool_19 rfl (lv_at hl 1 rfl) ?_
  refine gF (v := .ref a1) F hE hP 0 rfl rfl inX13 1 (by decide) q1685 rfl dX13_addsSpool_20 ?_
  refine lv_iconst (v := 1) F.1 F.2.1 dX13_addsSpool_23 (by decide) ?_
  refine aLi (k := 1) F hE hP 1 0 rfl rfl (by decide) (by decide) dX13_addsSpool_24 ?_
  obtain ⟨k1, h⟩ := gd_ok h
  refine aSi (k := ((33 + (4 * (uw 0))) + 0).toNatClampNeg) F hE hP hD hS 1 0 rfl rfl k1 rfl dX13_addsSpool_25 (fun H locs hP hD hS => ?_)
  replace hP : va_P (dC, dI) vwCl (wX13 g a0 a1 a2 a3 a4 a5 a6 a7 a8 uth uch ufc usv ull ubl uba uea ufa uso udn (upd uw (((33 + (4 * (uw 0))) + 0).toNatClampNeg) (uw 1)) uun usr ube ubs uln ubu unu) H := hP
  replace hD : va_D A (wX13 g a0 a1 a2 a3 a4 a5 a6 a7 a8 uth uch ufc usv ull ubl uba uea ufa uso udn (upd uw (((33 + (4 * (uw 0))) + 0).toNatClampNeg) (uw 1)) uun usr ube ubs uln ubu unu) := hD
  refine lv_aload_n F.1 F.2.1 dX13_addsSpool_26 rfl (lv_at hl 1 rfl) ?_
  refine gF (v := .ref a1) F hE hP 0 rfl rfl inX13 1 (by decide) q1685 rfl dX13_addsSpool_27 ?_
  refine lv_iload_n F.1 F.2.1 dX13_addsSpool_30 rfl (lv_at hl 0 rfl) ?_
  refine lv_iconst (v := 1) F.1 F.2.1 dX13_addsSpool_31 (by decide) ?_
  refine lv_iadd F.1 F.2.1 dX13_addsSpool_32 ?_
  refine lv_iload_n F.1 F.2.1 dX13_addsSpool_33 rfl (lv_at hl 2 rfl) ?_
  refine lv_bipush (v := 97) F.1 F.2.1 dX13_addsSpool_34 (by decide) ?_
  refine lv_isub F.1 F.2.1 dX13_addsSpool_36 ?_
  obtain ⟨k2, h⟩ := gd_ok h
  refine aSi (k := ((33 + (4 * (uw 0))) + 1).toNatClampNeg) F hE hP hD hS 1 0 rfl rfl k2 rfl dX13_addsSpool_37 (fun H locs hP hD hS => ?_)
  replace hP : va_P (dC, dI) vwCl (wX13 g a0 a1 a2 a3 a4 a5 a6 a7 a8 uth uch ufc usv ull ubl uba uea ufa uso udn (upd (upd uw (((33 + (4 * (uw 0))) + 0).toNatClampNeg) (uw 1)) (((33 + (4 * (uw 0))) + 1).toNatClampNeg) (p1 - 97)) uun usr ube ubs uln ubu unu) H := hP
  replace hD : va_D A (wX13 g a0 a1 a2 a3 a4 a5 a6 a7 a8 uth uch ufc usv ull ubl uba uea ufa uso udn (upd (upd uw (((33 + (4 * (uw 0))) + 0).toNatClampNeg) (uw 1)) (((33 + (4 * (uw 0))) + 1).toNatClampNeg) (p1 - 97)) uun usr ube ubs uln ubu unu) := hD
  refine lv_aload_n F.1 F.2.1 dX13_addsSpool_38 rfl (lv_at hl 1 rfl) ?_
  refine gF (v := .ref a1) F hE hP 0 rfl rfl inX13 1 (by decide) q1685 rfl dX13_addsSpool_39 ?_
  refine lv_iload_n F.1 F.2.1 dX13_addsSpool_42 rfl (lv_at hl 0 rfl) ?_
  refine lv_iconst (v := 2) F.1 F.2.1 dX13_addsSpool_43 (by decide) ?_
  refine lv_iadd F.1 F.2.1 dX13_addsSpool_44 ?_
  refine lv_iload_n F.1 F.2.1 dX13_addsSpool_45 rfl (lv_at hl 3 rfl) ?_
  obtain ⟨k3, h⟩ := gd_ok h
  refine aSi (k := ((33 + (4 * (uw 0))) + 2).toNatClampNeg) F hE hP hD hS 1 0 rfl rfl k3 rfl dX13_addsSpool_46 (fun H locs hP hD hS => ?_)
  replace hP : va_P (dC, dI) vwCl (wX13 g a0 a1 a2 a3 a4 a5 a6 a7 a8 uth uch ufc usv ull ubl uba uea ufa uso udn (upd (upd (upd uw (((33 + (4 * (uw 0))) + 0).toNatClampNeg) (uw 1)) (((33 + (4 * (uw 0))) + 1).toNatClampNeg) (p1 - 97)) (((33 + (4 * (uw 0))) + 2).toNatClampNeg) p2) uun usr ube ubs uln ubu unu) H := hP
  replace hD : va_D A (wX13 g a0 a1 a2 a3 a4 a5 a6 a7 a8 uth uch ufc usv ull ubl uba uea ufa uso udn (upd (upd (upd uw (((33 + (4 * (uw 0))) + 0).toNatClampNeg) (uw 1)) (((33 + (4 * (uw 0))) + 1).toNatClampNeg) (p1 - 97)) (((33 + (4 * (uw 0))) + 2).toNatClampNeg) p2) uun usr ube ubs uln ubu unu) := hD
  refine lv_aload_n F.1 F.2.1 dX13_addsSpool_47 rfl (lv_at hl 1 rfl) ?_
  refine gF (v := .ref a1) F hE hP 0 rfl rfl inX13 1 (by decide) q1685 rfl dX13_addsSpool_48 ?_
  refine lv_iload_n F.1 F.2.1 dX13_addsSpool_51 rfl (lv_at hl 0 rfl) ?_
  refine lv_iconst (v := 3) F.1 F.2.1 dX13_addsSpool_52 (by decide) ?_
  refine lv_iadd F.1 F.2.1 dX13_addsSpool_53 ?_
  refine lv_iconst (v := 0) F.1 F.2.1 dX13_addsSpool_54 (by decide) ?_
  obtain ⟨k4, h⟩ := gd_ok h
  refine aSi (k := ((33 + (4 * (uw 0))) + 3).toNatClampNeg) F hE hP hD hS 1 0 rfl rfl k4 rfl dX13_addsSpool_55 (fun H locs hP hD hS => ?_)
  replace hP : va_P (dC, dI) vwCl (wX13 g a0 a1 a2 a3 a4 a5 a6 a7 a8 uth uch ufc usv ull ubl uba uea ufa uso udn (upd (upd (upd (upd uw (((33 + (4 * (uw 0))) + 0).toNatClampNeg) (uw 1)) (((33 + (4 * (uw 0))) + 1).toNatClampNeg) (p1 - 97)) (((33 + (4 * (uw 0))) + 2).toNatClampNeg) p2) (((33 + (4 * (uw 0))) + 3).toNatClampNeg) 0) uun usr ube ubs uln ubu unu) H := hP
  replace hD : va_D A (wX13 g a0 a1 a2 a3 a4 a5 a6 a7 a8 uth uch ufc usv ull ubl uba uea ufa uso udn (upd (upd (upd (upd uw (((33 + (4 * (uw 0))) + 0).toNatClampNeg) (uw 1)) (((33 + (4 * (uw 0))) + 1).toNatClampNeg) (p1 - 97)) (((33 + (4 * (uw 0))) + 2).toNatClampNeg) p2) (((33 + (4 * (uw 0))) + 3).toNatClampNeg) 0) uun usr ube ubs uln ubu unu) := hD
  refine lv_aload_n F.1 F.2.1 dX13_addsSpool_56 rfl (lv_at hl 1 rfl) ?_
  refine gF (v := .ref a1) F hE hP 0 rfl rfl inX13 1 (by decide) q1685 rfl dX13_addsSpool_57 ?_
  refine lv_bipush (v := 9) F.1 F.2.1 dX13_addsSpool_60 (by decide) ?_
  refine lv_iload_n F.1 F.2.1 dX13_addsSpool_62 rfl (lv_at hl 2 rfl) ?_
  refine lv_iadd F.1 F.2.1 dX13_addsSpool_63 ?_
  refine lv_bipush (v := 97) F.1 F.2.1 dX13_addsSpool_64 (by decide) ?_
  refine lv_isub F.1 F.2.1 dX13_addsSpool_66 ?_
  refine lv_dup2_11 F.1 F.2.1 dX13_addsSpool_67 rfl rfl ?_
  obtain ⟨k5, h⟩ := gd_ok h
  refine aLi (k := ((9 + p1) - 97).toNatClampNeg) F hE hP 1 0 rfl rfl k5 rfl dX13_addsSpool_68 ?_
  refine lv_iload_n F.1 F.2.1 dX13_addsSpool_69 rfl (lv_at hl 3 rfl) ?_
  refine lv_iadd F.1 F.2.1 dX13_addsSpool_70 ?_
  obtain ⟨k6, h⟩ := gd_ok h
  refine aSi (k := ((9 + p1) - 97).toNatClampNeg) F hE hP hD hS 1 0 rfl rfl k6 rfl dX13_addsSpool_71 (fun H locs hP hD hS => ?_)
  replace hP : va_P (dC, dI) vwCl (wX13 g a0 a1 a2 a3 a4 a5 a6 a7 a8 uth uch ufc usv ull ubl uba uea ufa uso udn (upd (upd (upd (upd (upd uw (((33 + (4 * (uw 0))) + 0).toNatClampNeg) (uw 1)) (((33 + (4 * (uw 0))) + 1).toNatClampNeg) (p1 - 97)) (((33 + (4 * (uw 0))) + 2).toNatClampNeg) p2) (((33 + (4 * (uw 0))) + 3).toNatClampNeg) 0) (((9 + p1) - 97).toNatClampNeg) (((upd (upd (upd (upd uw (((33 + (4 * (uw 0))) + 0).toNatClampNeg) (uw 1)) (((33 + (4 * (uw 0))) + 1).toNatClampNeg) (p1 - 97)) (((33 + (4 * (uw 0))) + 2).toNatClampNeg) p2) (((33 + (4 * (uw 0))) + 3).toNatClampNeg) 0) (((9 + p1) - 97).toNatClampNeg)) + p2)) uun usr ube ubs uln ubu unu) H := hP
  replace hD : va_D A (wX13 g a0 a1 a2 a3 a4 a5 a6 a7 a8 uth uch ufc usv ull ubl uba uea ufa uso udn (upd (upd (upd (upd (upd uw (((33 + (4 * (uw 0))) + 0).toNatClampNeg) (uw 1)) (((33 + (4 * (uw 0))) + 1).toNatClampNeg) (p1 - 97)) (((33 + (4 * (uw 0))) + 2).toNatClampNeg) p2) (((33 + (4 * (uw 0))) + 3).toNatClampNeg) 0) (((9 + p1) - 97).toNatClampNeg) (((upd (upd (upd (upd uw (((33 + (4 * (uw 0))) + 0).toNatClampNeg) (uw 1)) (((33 + (4 * (uw 0))) + 1).toNatClampNeg) (p1 - 97)) (((33 + (4 * (uw 0))) + 2).toNatClampNeg) p2) (((33 + (4 * (uw 0))) + 3).toNatClampNeg) 0) (((9 + p1) - 97).toNatClampNeg)) + p2)) uun usr ube ubs uln ubu unu) := hD
  refine lv_aload_n F.1 F.2.1 dX13_addsSpool_72 rfl (lv_at hl 1 rfl) ?_
  refine gF (v := .ref a1) F hE hP 0 rfl rfl inX13 1 (by decide) q1685 rfl dX13_addsSpool_73 ?_
  refine lv_iconst (v := 0) F.1 F.2.1 dX13_addsSpool_76 (by decide) ?_
  refine lv_dup2_11 F.1 F.2.1 dX13_addsSpool_77 rfl rfl ?_
  refine aLi (k := 0) F hE hP 1 0 rfl rfl (by decide) (by decide) dX13_addsSpool_78 ?_
  refine lv_iconst (v := 1) F.1 F.2.1 dX13_addsSpool_79 (by decide) ?_
  refine lv_iadd F.1 F.2.1 dX13_addsSpool_80 ?_
  refine aSi (k := 0) F hE hP hD hS 1 0 rfl rfl (by decide) (by decide) dX13_addsSpool_81 (fun H locs hP hD hS => ?_)
  replace hP : va_P (dC, dI) vwCl (wX13 g a0 a1 a2 a3 a4 a5 a6 a7 a8 uth uch ufc usv ull ubl uba uea ufa uso udn (upd (upd (upd (upd (upd (upd uw (((33 + (4 * (uw 0))) + 0).toNatClampNeg) (uw 1)) (((33 + (4 * (uw 0))) + 1).toNatClampNeg) (p1 - 97)) (((33 + (4 * (uw 0))) + 2).toNatClampNeg) p2) (((33 + (4 * (uw 0))) + 3).toNatClampNeg) 0) (((9 + p1) - 97).toNatClampNeg) (((upd (upd (upd (upd uw (((33 + (4 * (uw 0))) + 0).toNatClampNeg) (uw 1)) (((33 + (4 * (uw 0))) + 1).toNatClampNeg) (p1 - 97)) (((33 + (4 * (uw 0))) + 2).toNatClampNeg) p2) (((33 + (4 * (uw 0))) + 3).toNatClampNeg) 0) (((9 + p1) - 97).toNatClampNeg)) + p2)) 0 (((upd (upd (upd (upd (upd uw (((33 + (4 * (uw 0))) + 0).toNatClampNeg) (uw 1)) (((33 + (4 * (uw 0))) + 1).toNatClampNeg) (p1 - 97)) (((33 + (4 * (uw 0))) + 2).toNatClampNeg) p2) (((33 + (4 * (uw 0))) + 3).toNatClampNeg) 0) (((9 + p1) - 97).toNatClampNeg) (((upd (upd (upd (upd uw (((33 + (4 * (uw 0))) + 0).toNatClampNeg) (uw 1)) (((33 + (4 * (uw 0))) + 1).toNatClampNeg) (p1 - 97)) (((33 + (4 * (uw 0))) + 2).toNatClampNeg) p2) (((33 + (4 * (uw 0))) + 3).toNatClampNeg) 0) (((9 + p1) - 97).toNatClampNeg)) + p2)) 0) + 1)) uun usr ube ubs uln ubu unu) H := hP
  replace hD : va_D A (wX13 g a0 a1 a2 a3 a4 a5 a6 a7 a8 uth uch ufc usv ull ubl uba uea ufa uso udn (upd (upd (upd (upd (upd (upd uw (((33 + (4 * (uw 0))) + 0).toNatClampNeg) (uw 1)) (((33 + (4 * (uw 0))) + 1).toNatClampNeg) (p1 - 97)) (((33 + (4 * (uw 0))) + 2).toNatClampNeg) p2) (((33 + (4 * (uw 0))) + 3).toNatClampNeg) 0) (((9 + p1) - 97).toNatClampNeg) (((upd (upd (upd (upd uw (((33 + (4 * (uw 0))) + 0).toNatClampNeg) (uw 1)) (((33 + (4 * (uw 0))) + 1).toNatClampNeg) (p1 - 97)) (((33 + (4 * (uw 0))) + 2).toNatClampNeg) p2) (((33 + (4 * (uw 0))) + 3).toNatClampNeg) 0) (((9 + p1) - 97).toNatClampNeg)) + p2)) 0 (((upd (upd (upd (upd (upd uw (((33 + (4 * (uw 0))) + 0).toNatClampNeg) (uw 1)) (((33 + (4 * (uw 0))) + 1).toNatClampNeg) (p1 - 97)) (((33 + (4 * (uw 0))) + 2).toNatClampNeg) p2) (((33 + (4 * (uw 0))) + 3).toNatClampNeg) 0) (((9 + p1) - 97).toNatClampNeg) (((upd (upd (upd (upd uw (((33 + (4 * (uw 0))) + 0).toNatClampNeg) (uw 1)) (((33 + (4 * (uw 0))) + 1).toNatClampNeg) (p1 - 97)) (((33 + (4 * (uw 0))) + 2).toNatClampNeg) p2) (((33 + (4 * (uw 0))) + 3).toNatClampNeg) 0) (((9 + p1) - 97).toNatClampNeg)) + p2)) 0) + 1)) uun usr ube ubs uln ubu unu) := hD
  refine lv_aload_n F.1 F.2.1 dX13_addsSpool_82 rfl (lv_at hl 1 rfl) ?_
  refine gF (v := .ref a1) F hE hP 0 rfl rfl inX13 1 (by decide) q1685 rfl dX13_addsSpool_83 ?_
  refine lv_iconst (v := 1) F.1 F.2.1 dX13_addsSpool_86 (by decide) ?_
  refine lv_dup2_11 F.1 F.2.1 dX13_addsSpool_87 rfl rfl ?_
  refine aLi (k := 1) F hE hP 1 0 rfl rfl (by decide) (by decide) dX13_addsSpool_88 ?_
  refine lv_iconst (v := 1) F.1 F.2.1 dX13_addsSpool_89 (by decide) ?_
  refine lv_iadd F.1 F.2.1 dX13_addsSpool_90 ?_
  refine aSi (k := 1) F hE hP hD hS 1 0 rfl rfl (by decide) (by decide) dX13_addsSpool_91 (fun H locs hP hD hS => ?_)
  replace hP : va_P (dC, dI) vwCl (wX13 g a0 a1 a2 a3 a4 a5 a6 a7 a8 uth uch ufc usv ull ubl uba uea ufa uso udn (upd (upd (upd (upd (upd (upd (upd uw (((33 + (4 * (uw 0))) + 0).toNatClampNeg) (uw 1)) (((33 + (4 * (uw 0))) + 1).toNatClampNeg) (p1 - 97)) (((33 + (4 * (uw 0))) + 2).toNatClampNeg) p2) (((33 + (4 * (uw 0))) + 3).toNatClampNeg) 0) (((9 + p1) - 97).toNatClampNeg) (((upd (upd (upd (upd uw (((33 + (4 * (uw 0))) + 0).toNatClampNeg) (uw 1)) (((33 + (4 * (uw 0))) + 1).toNatClampNeg) (p1 - 97)) (((33 + (4 * (uw 0))) + 2).toNatClampNeg) p2) (((33 + (4 * (uw 0))) + 3).toNatClampNeg) 0) (((9 + p1) - 97).toNatClampNeg)) + p2)) 0 (((upd (upd (upd (upd (upd uw (((33 + (4 * (uw 0))) + 0).toNatClampNeg) (uw 1)) (((33 + (4 * (uw 0))) + 1).toNatClampNeg) (p1 - 97)) (((33 + (4 * (uw 0))) + 2).toNatClampNeg) p2) (((33 + (4 * (uw 0))) + 3).toNatClampNeg) 0) (((9 + p1) - 97).toNatClampNeg) (((upd (upd (upd (upd uw (((33 + (4 * (uw 0))) + 0).toNatClampNeg) (uw 1)) (((33 + (4 * (uw 0))) + 1).toNatClampNeg) (p1 - 97)) (((33 + (4 * (uw 0))) + 2).toNatClampNeg) p2) (((33 + (4 * (uw 0))) + 3).toNatClampNeg) 0) (((9 + p1) - 97).toNatClampNeg)) + p2)) 0) + 1)) 1 (((upd (upd (upd (upd (upd (upd uw (((33 + (4 * (uw 0))) + 0).toNatClampNeg) (uw 1)) (((33 + (4 * (uw 0))) + 1).toNatClampNeg) (p1 - 97)) (((33 + (4 * (uw 0))) + 2).toNatClampNeg) p2) (((33 + (4 * (uw 0))) + 3).toNatClampNeg) 0) (((9 + p1) - 97).toNatClampNeg) (((upd (upd (upd (upd uw (((33 + (4 * (uw 0))) + 0).toNatClampNeg) (uw 1)) (((33 + (4 * (uw 0))) + 1).toNatClampNeg) (p1 - 97)) (((33 + (4 * (uw 0))) + 2).toNatClampNeg) p2) (((33 + (4 * (uw 0))) + 3).toNatClampNeg) 0) (((9 + p1) - 97).toNatClampNeg)) + p2)) 0 (((upd (upd (upd (upd (upd uw (((33 + (4 * (uw 0))) + 0).toNatClampNeg) (uw 1)) (((33 + (4 * (uw 0))) + 1).toNatClampNeg) (p1 - 97)) (((33 + (4 * (uw 0))) + 2).toNatClampNeg) p2) (((33 + (4 * (uw 0))) + 3).toNatClampNeg) 0) (((9 + p1) - 97).toNatClampNeg) (((upd (upd (upd (upd uw (((33 + (4 * (uw 0))) + 0).toNatClampNeg) (uw 1)) (((33 + (4 * (uw 0))) + 1).toNatClampNeg) (p1 - 97)) (((33 + (4 * (uw 0))) + 2).toNatClampNeg) p2) (((33 + (4 * (uw 0))) + 3).toNatClampNeg) 0) (((9 + p1) - 97).toNatClampNeg)) + p2)) 0) + 1)) 1) + 1)) uun usr ube ubs uln ubu unu) H := hP
  replace hD : va_D A (wX13 g a0 a1 a2 a3 a4 a5 a6 a7 a8 uth uch ufc usv ull ubl uba uea ufa uso udn (upd (upd (upd (upd (upd (upd (upd uw (((33 + (4 * (uw 0))) + 0).toNatClampNeg) (uw 1)) (((33 + (4 * (uw 0))) + 1).toNatClampNeg) (p1 - 97)) (((33 + (4 * (uw 0))) + 2).toNatClampNeg) p2) (((33 + (4 * (uw 0))) + 3).toNatClampNeg) 0) (((9 + p1) - 97).toNatClampNeg) (((upd (upd (upd (upd uw (((33 + (4 * (uw 0))) + 0).toNatClampNeg) (uw 1)) (((33 + (4 * (uw 0))) + 1).toNatClampNeg) (p1 - 97)) (((33 + (4 * (uw 0))) + 2).toNatClampNeg) p2) (((33 + (4 * (uw 0))) + 3).toNatClampNeg) 0) (((9 + p1) - 97).toNatClampNeg)) + p2)) 0 (((upd (upd (upd (upd (upd uw (((33 + (4 * (uw 0))) + 0).toNatClampNeg) (uw 1)) (((33 + (4 * (uw 0))) + 1).toNatClampNeg) (p1 - 97)) (((33 + (4 * (uw 0))) + 2).toNatClampNeg) p2) (((33 + (4 * (uw 0))) + 3).toNatClampNeg) 0) (((9 + p1) - 97).toNatClampNeg) (((upd (upd (upd (upd uw (((33 + (4 * (uw 0))) + 0).toNatClampNeg) (uw 1)) (((33 + (4 * (uw 0))) + 1).toNatClampNeg) (p1 - 97)) (((33 + (4 * (uw 0))) + 2).toNatClampNeg) p2) (((33 + (4 * (uw 0))) + 3).toNatClampNeg) 0) (((9 + p1) - 97).toNatClampNeg)) + p2)) 0) + 1)) 1 (((upd (upd (upd (upd (upd (upd uw (((33 + (4 * (uw 0))) + 0).toNatClampNeg) (uw 1)) (((33 + (4 * (uw 0))) + 1).toNatClampNeg) (p1 - 97)) (((33 + (4 * (uw 0))) + 2).toNatClampNeg) p2) (((33 + (4 * (uw 0))) + 3).toNatClampNeg) 0) (((9 + p1) - 97).toNatClampNeg) (((upd (upd (upd (upd uw (((33 + (4 * (uw 0))) + 0).toNatClampNeg) (uw 1)) (((33 + (4 * (uw 0))) + 1).toNatClampNeg) (p1 - 97)) (((33 + (4 * (uw 0))) + 2).toNatClampNeg) p2) (((33 + (4 * (uw 0))) + 3).toNatClampNeg) 0) (((9 + p1) - 97).toNatClampNeg)) + p2)) 0 (((upd (upd (upd (upd (upd uw (((33 + (4 * (uw 0))) + 0).toNatClampNeg) (uw 1)) (((33 + (4 * (uw 0))) + 1).toNatClampNeg) (p1 - 97)) (((33 + (4 * (uw 0))) + 2).toNatClampNeg) p2) (((33 + (4 * (uw 0))) + 3).toNatClampNeg) 0) (((9 + p1) - 97).toNatClampNeg) (((upd (upd (upd (upd uw (((33 + (4 * (uw 0))) + 0).toNatClampNeg) (uw 1)) (((33 + (4 * (uw 0))) + 1).toNatClampNeg) (p1 - 97)) (((33 + (4 * (uw 0))) + 2).toNatClampNeg) p2) (((33 + (4 * (uw 0))) + 3).toNatClampNeg) 0) (((9 + p1) - 97).toNatClampNeg)) + p2)) 0) + 1)) 1) + 1)) uun usr ube ubs uln ubu unu) := hD
  refine lv_aload_n F.1 F.2.1 dX13_addsSpool_92 rfl (lv_at hl 1 rfl) ?_
  refine gF (v := .ref a1) F hE hP 0 rfl rfl inX13 1 (by decide) q1685 rfl dX13_addsSpool_93 ?_
  refine lv_iconst (v := 1) F.1 F.2.1 dX13_addsSpool_96 (by decide) ?_
  refine aLi (k := 1) F hE hP 1 0 rfl rfl (by decide) (by decide) dX13_addsSpool_97 ?_
  refine lv_iconst (v := 1) F.1 F.2.1 dX13_addsSpool_98 (by decide) ?_
  refine lv_isub F.1 F.2.1 dX13_addsSpool_99 ?_
  cases h
  exact MU_i F hr hlocks (Nat.le_refl _) (Nat.le_refl _) hP hS dX13_addsSpool_100
