abbrev wX7 (g : Nat → ClassId) (a0 a1 : Nat) (ca : Nat) (un : Int32) (uf : Nat → Int32) : va_W := [(a0, .inr (10, [.ref a1, .int un])), (a1, .inl (g 0, ca, .inl uf))]
/-! WireCutter$Row.size -/
def fX7_size (un : Int32) : Option (Int32) :=
  some (un)
theorem mbX7_size : MV yX7_size cX7_size 1 (some .int) 0 := ⟨⟨q363, q4, by decide +kernel⟩, q361, q362⟩
set_option maxHeartbeats 4000000 in
set_option maxRecDepth 100000 in
theorem tX7_size (l : Launch) (dC : Nat → ClassId) (dI : Nat → Nat → Nat) (g : Nat → ClassId) (a0 a1 : Nat) (ca : Nat) (un : Int32) (uf : Nat → Int32) {r : Int32} (h : fX7_size un = some r) : RO l yX7_size cX7_size 1 (some .int) 0 0 dC dI g [.ref a0] (wX7 g a0 a1 ca un uf) (some (.int r)) := by
  refine RO_of (by decide) (Nat.le_of_ble_eq_true rfl) ?_
  intro p e s m below meth c ls F hr hlocks hE hX hP hl
  replace F : CF p m c cX7_size 1 s _ RX7 := F
  replace hl : lv_has ls 1 [(0, .ref a0)] := hl
  rw [fX7_size] at h
  refine lv_aload_n F.1 F.2.1 dX7_size_0 rfl (lv_at hl 0 rfl) ?_
  refine gF (v := .int un) F hE hP 0 rfl rfl inX7 1 (by decide) q64 rfl dX7_size_1 ?_
  cases h
  exact RO_i F hr hlocks dX7_size_4
/-! WireCutter$Row.get -/
def fX7_get (ca : Nat) (un : Int32) (uf : Nat → Int32) (p1 : Int32) : Option (Int32) :=
  if p1 < 0 then
    some (0)
  else
    if un ≤ p1 then
      some (0)
    else
      if (nI ca) ≤ p1 then
        some (0)
      else
        gd (inR p1 ca) <|
        some (uf p1.toNatClampNeg)
theorem mbX7_get : MV yX7_get cX7_get 2 (some .int) 1 := ⟨⟨q425, q4, by decide +kernel⟩, q423, q424⟩
set_option maxHeartbeats 4000000 in
set_option maxRecDepth 100000 in
theorem tX7_get (l : Launch) (dC : Nat → ClassId) (dI : Nat → Nat → Nat) (g : Nat → ClassId) (a0 a1 : Nat) (ca : Nat) (un : Int32) (uf : Nat → Int32) (p1 : Int32) {r : Int32} (h : fX7_get ca un uf p1 = some r) : RO l yX7_get cX7_get 2 (some .int) 0 0 dC dI g [.ref a0, .int p1] (wX7 g a0 a1 ca un uf) (some (.int r)) := by
  refine RO_of (by decide) (Nat.le_of_ble_eq_true rfl) ?_
  intro p e s m below meth c ls F hr hlocks hE hX hP hl
  replace F : CF p m c cX7_get 2 s _ RX7 := F
  replace hl : lv_has ls 2 [(0, .ref a0), (1, .int p1)] := hl
  rw [fX7_get] at h
  refine lv_iload_n F.1 F.2.1 dX7_get_0 rfl (lv_at hl 1 rfl) ?_
  refine lv_if_lt (tgt := 30) F.1 F.2.1 dX7_get_1 (by decide) (fun k1 => ?_) (fun k1 => ?_)
  · replace h := it_t k1 h
    refine lv_iconst (v := 0) F.1 F.2.1 dX7_get_30 (by decide) ?_
    cases h
    exact RO_i F hr hlocks dX7_get_31
  · replace h := it_f k1 h
    refine lv_iload_n F.1 F.2.1 dX7_get_4 rfl (lv_at hl 1 rfl) ?_
    refine lv_aload_n F.1 F.2.1 dX7_get_5 rfl (lv_at hl 0 rfl) ?_
    refine gF (v := .int un) F hE hP 0 rfl rfl inX7 1 (by decide) q64 rfl dX7_get_6 ?_
    refine lv_icmp_ge (tgt := 30) F.1 F.2.1 dX7_get_9 (by decide) (fun k2 => ?_) (fun k2 => ?_)
    · replace h := it_t k2 h
      refine lv_iconst (v := 0) F.1 F.2.1 dX7_get_30 (by decide) ?_
      cases h
      exact RO_i F hr hlocks dX7_get_31
    · replace h := it_f k2 h
      refine lv_iload_n F.1 F.2.1 dX7_get_12 rfl (lv_at hl 1 rfl) ?_
      refine lv_aload_n F.1 F.2.1 dX7_get_13 rfl (lv_at hl 0 rfl) ?_
      refine gF (v := .ref a1) F hE hP 0 rfl rfl inX7 0 (by decide) q63 rfl dX7_get_14 ?_
      refine va_alen (v := nI ca) F.1 F.2.1 hE.1 hP 1 0 rfl rfl rfl dX7_get_17 ?_
      refine lv_icmp_ge (tgt := 30) F.1 F.2.1 dX7_get_18 (by decide) (fun k3 => ?_) (fun k3 => ?_)
      · replace h := it_t k3 h
        refine lv_iconst (v := 0) F.1 F.2.1 dX7_get_30 (by decide) ?_
        cases h
        exact RO_i F hr hlocks dX7_get_31
      · replace h := it_f k3 h
        refine lv_aload_n F.1 F.2.1 dX7_get_21 rfl (lv_at hl 0 rfl) ?_
        refine gF (v := .ref a1) F hE hP 0 rfl rfl inX7 0 (by decide) q63 rfl dX7_get_22 ?_
        refine lv_iload_n F.1 F.2.1 dX7_get_25 rfl (lv_at hl 1 rfl) ?_
        obtain ⟨k4, h⟩ := gd_ok h
        refine aLi (k := p1.toNatClampNeg) F hE hP 1 0 rfl rfl k4 rfl dX7_get_26 ?_
        refine lv_goto (tgt := 31) F.1 F.2.1 dX7_get_27 (by decide) ?_
        cases h
        exact RO_i F hr hlocks dX7_get_31
/-! WireCutter$Row.increase -/
def fX7_increase (ca : Nat) (un : Int32) (uf : Nat → Int32) (p1 : Int32) (p2 : Int32) : Option ((Nat → Int32)) :=
  if p1 < 0 then
    some (uf)
  else
    if un ≤ p1 then
      some (uf)
    else
      if (nI ca) ≤ p1 then
        some (uf)
      else
        gd (inR p1 ca) <|
        gd (inR p1 ca) <|
        some (upd uf p1.toNatClampNeg ((uf p1.toNatClampNeg) + p2))
theorem mbX7_increase : MV yX7_increase cX7_increase 3 none 2 := ⟨⟨q969, q4, by decide +kernel⟩, q967, q968⟩
set_option maxHeartbeats 4000000 in
set_option maxRecDepth 100000 in
theorem tX7_increase (l : Launch) (dC : Nat → ClassId) (dI : Nat → Nat → Nat) (g : Nat → ClassId) (a0 a1 : Nat) (ca : Nat) (un : Int32) (uf : Nat → Int32) (p1 : Int32) (p2 : Int32) {r : (Nat → Int32)} (h : fX7_increase ca un uf p1 p2 = some r) : MU l yX7_increase cX7_increase 3 none 0 0 0 0 dC dI g [.ref a0, .int p1, .int p2] (wX7 g a0 a1 ca un uf) (wX7 g a0 a1 ca un r) none := by
  refine MU_of (by decide) (Nat.le_of_ble_eq_true rfl) ?_
  intro p e s m below meth c ls F hr hlocks hE hX hA hP hD hS hl
  generalize va_A (wX7 g a0 a1 ca un uf) s.heap.size = A at hA hD hS hX ⊢
  replace F : CF p m c cX7_increase 3 s _ RX7 := F
  replace hl : lv_has ls 3 [(0, .ref a0), (1, .int p1), (2, .int p2)] := hl
  rw [fX7_increase] at h
  refine lv_iload_n F.1 F.2.1 dX7_increase_0 rfl (lv_at hl 1 rfl) ?_
  refine lv_if_lt (tgt := 31) F.1 F.2.1 dX7_increase_1 (by decide) (fun k1 => ?_) (fun k1 => ?_)
  · replace h := it_t k1 h
    cases h
    exact MU_v F hr hlocks (Nat.le_refl _) (Nat.le_refl _) hP hS dX7_increase_31
  · replace h := it_f k1 h
    refine lv_iload_n F.1 F.2.1 dX7_increase_4 rfl (lv_at hl 1 rfl) ?_
    refine lv_aload_n F.1 F.2.1 dX7_increase_5 rfl (lv_at hl 0 rfl) ?_
    refine gF (v := .int un) F hE hP 0 rfl rfl inX7 1 (by decide) q64 rfl dX7_increase_6 ?_
    refine lv_icmp_ge (tgt := 31) F.1 F.2.1 dX7_increase_9 (by decide) (fun k2 => ?_) (fun k2 => ?_)
    · replace h := it_t k2 h
      cases h
      exact MU_v F hr hlocks (Nat.le_refl _) (Nat.le_refl _) hP hS dX7_increase_31
    · replace h := it_f k2 h
      refine lv_iload_n F.1 F.2.1 dX7_increase_12 rfl (lv_at hl 1 rfl) ?_
      refine lv_aload_n F.1 F.2.1 dX7_increase_13 rfl (lv_at hl 0 rfl) ?_
      refine gF (v := .ref a1) F hE hP 0 rfl rfl inX7 0 (by decide) q63 rfl dX7_increase_14 ?_
      refine va_alen (v := nI ca) F.1 F.2.1 hE.1 hP 1 0 rfl rfl rfl dX7_increase_17 ?_
      refine lv_icmp_ge (tgt := 31) F.1 F.2.1 dX7_increase_18 (by decide) (fun k3 => ?_) (fun k3 => ?_)
      · replace h := it_t k3 h
        cases h
        exact MU_v F hr hlocks (Nat.le_refl _) (Nat.le_refl _) hP hS dX7_increase_31
      · replace h := it_f k3 h
        refine lv_aload_n F.1 F.2.1 dX7_increase_21 rfl (lv_at hl 0 rfl) ?_
        refine gF (v := .ref a1) F hE hP 0 rfl rfl inX7 0 (by decide) q63 rfl dX7_increase_22 ?_
        refine lv_iload_n F.1 F.2.1 dX7_increase_25 rfl (lv_at hl 1 rfl) ?_
        refine lv_dup2_11 F.1 F.2.1 dX7_increase_26 rfl rfl ?_
        obtain ⟨k4, h⟩ := gd_ok h
        refine aLi (k := p1.toNatClampNeg) F hE hP 1 0 rfl rfl k4 rfl dX7_increase_27 ?_
        refine lv_iload_n F.1 F.2.1 dX7_increase_28 rfl (lv_at hl 2 rfl) ?_
        refine lv_iadd F.1 F.2.1 dX7_increase_29 ?_
        obtain ⟨k5, h⟩ := gd_ok h
        refine aSi (k := p1.toNatClampNeg) F hE hP hD hS 1 0 rfl rfl k5 rfl dX7_increase_30 (fun H locs hP hD hS => ?_)
        replace hP : va_P (dC, dI) vwCl (wX7 g a0 a1 ca un (upd uf p1.toNatClampNeg ((uf p1.toNatClampNeg) + p2))) H := hP
        replace hD : va_D A (wX7 g a0 a1 ca un (upd uf p1.toNatClampNeg ((uf p1.toNatClampNeg) + p2))) := hD
        cases h
        exact MU_v F hr hlocks (Nat.le_refl _) (Nat.le_refl _) hP hS dX7_increase_31
/-! WireCutter$Row.set -/
def fX7_set (ca : Nat) (un : Int32) (uf : Nat → Int32) (p1 : Int32) (p2 : Int32) : Option ((Nat → Int32)) :=
  if p1 < 0 then
    some (uf)
  else
    if un ≤ p1 then
      some (uf)
    else
      if (nI ca) ≤ p1 then
        some (uf)
      else
        gd (inR p1 ca) <|
        some (upd uf p1.toNatClampNeg p2)
theorem mbX7_set : MV yX7_set cX7_set 3 none 2 := ⟨⟨q1173, q4, by decide +kernel⟩, q1171, q1172⟩
set_option maxHeartbeats 4000000 in
set_option maxRecDepth 100000 in
theorem tX7_set (l : Launch) (dC : Nat → ClassId) (dI : Nat → Nat → Nat) (g : Nat → ClassId) (a0 a1 : Nat) (ca : Nat) (un : Int32) (uf : Nat → Int32) (p1 : Int32) (p2 : Int32) {r : (Nat → Int32)} (h : fX7_set ca un uf p1 p2 = some r) : MU l yX7_set cX7_set 3 none 0 0 0 0 dC dI g [.ref a0, .int p1, .int p2] (wX7 g a0 a1 ca un uf) (wX7 g a0 a1 ca un r) none := by
  refine MU_of (by decide) (Nat.le_of_ble_eq_true rfl) ?_
  intro p e s m below meth c ls F hr hlocks hE hX hA hP hD hS hl
  generalize va_A (wX7 g a0 a1 ca un uf) s.heap.size = A at hA hD hS hX ⊢
  replace F : CF p m c cX7_set 3 s _ RX7 := F
  replace hl : lv_has ls 3 [(0, .ref a0), (1, .int p1), (2, .int p2)] := hl
  rw [fX7_set] at h
  refine lv_iload_n F.1 F.2.1 dX7_set_0 rfl (lv_at hl 1 rfl) ?_
  refine lv_if_lt (tgt := 28) F.1 F.2.1 dX7_set_1 (by decide) (fun k1 => ?_) (fun k1 => ?_)
  · replace h := it_t k1 h
    cases h
    exact MU_v F hr hlocks (Nat.le_refl _) (Nat.le_refl _) hP hS dX7_set_28
  · replace h := it_f k1 h
    refine lv_iload_n F.1 F.2.1 dX7_set_4 rfl (lv_at hl 1 rfl) ?_
    refine lv_aload_n F.1 F.2.1 dX7_set_5 rfl (lv_at hl 0 rfl) ?_
    refine gF (v := .int un) F hE hP 0 rfl rfl inX7 1 (by decide) q64 rfl dX7_set_6 ?_
    refine lv_icmp_ge (tgt := 28) F.1 F.2.1 dX7_set_9 (by decide) (fun k2 => ?_) (fun k2 => ?_)
    · replace h := it_t k2 h
      cases h
      exact MU_v F hr hlocks (Nat.le_refl _) (Nat.le_refl _) hP hS dX7_set_28
    · replace h := it_f k2 h
      refine lv_iload_n F.1 F.2.1 dX7_set_12 rfl (lv_at hl 1 rfl) ?_
      refine lv_aload_n F.1 F.2.1 dX7_set_13 rfl (lv_at hl 0 rfl) ?_
      refine gF (v := .ref a1) F hE hP 0 rfl rfl inX7 0 (by decide) q63 rfl dX7_set_14 ?_
      refine va_alen (v := nI ca) F.1 F.2.1 hE.1 hP 1 0 rfl rfl rfl dX7_set_17 ?_
      refine lv_icmp_ge (tgt := 28) F.1 F.2.1 dX7_set_18 (by decide) (fun k3 => ?_) (fun k3 => ?_)
      · replace h := it_t k3 h
        cases h
        exact MU_v F hr hlocks (Nat.le_refl _) (Nat.le_refl _) hP hS dX7_set_28
      · replace h := it_f k3 h
        refine lv_aload_n F.1 F.2.1 dX7_set_21 rfl (lv_at hl 0 rfl) ?_
        refine gF (v := .ref a1) F hE hP 0 rfl rfl inX7 0 (by decide) q63 rfl dX7_set_22 ?_
        refine lv_iload_n F.1 F.2.1 dX7_set_25 rfl (lv_at hl 1 rfl) ?_
        refine lv_iload_n F.1 F.2.1 dX7_set_26 rfl (lv_at hl 2 rfl) ?_
        obtain ⟨k4, h⟩ := gd_ok h
        refine aSi (k := p1.toNatClampNeg) F hE hP hD hS 1 0 rfl rfl k4 rfl dX7_set_27 (fun H locs hP hD hS => ?_)
        replace hP : va_P (dC, dI) vwCl (wX7 g a0 a1 ca un (upd uf p1.toNatClampNeg p2)) H := hP
        replace hD : va_D A (wX7 g a0 a1 ca un (upd uf p1.toNatClampNeg p2)) := hD
        cases h
        exact MU_v F hr hlocks (Nat.le_refl _) (Nat.le_refl _) hP hS dX7_set_28
/-! WireCutter$Row.add -/
def fX7_add (ca : Nat) (un : Int32) (uf : Nat → Int32) (p1 : Int32) : Option (Int32 × (Nat → Int32)) :=
  if un < 0 then
    some (un, uf)
  else
    if (nI ca) ≤ un then
      some (un, uf)
    else
      gd (inR un ca) <|
      some (un + 1, upd uf un.toNatClampNeg p1)
theorem mbX7_add : MV yX7_add cX7_add 2 none 1 := ⟨⟨q447, q4, by decide +kernel⟩, q445, q446⟩
set_option maxHeartbeats 4000000 in
set_option maxRecDepth 100000 in
theorem tX7_add (l : Launch) (dC : Nat → ClassId) (dI : Nat → Nat → Nat) (g : Nat → ClassId) (a0 a1 : Nat) (ca : Nat) (un : Int32) (uf : Nat → Int32) (p1 : Int32) {r : Int32 × (Nat → Int32)} (h : fX7_add ca un uf p1 = some r) : MU l yX7_add cX7_add 2 none 0 0 0 0 dC dI g [.ref a0, .int p1] (wX7 g a0 a1 ca un uf) (wX7 g a0 a1 ca r.1 r.2) none := by
  refine MU_of (by decide) (Nat.le_of_ble_eq_true rfl) ?_
  intro p e s m below meth c ls F hr hlocks hE hX hA hP hD hS hl
  generalize va_A (wX7 g a0 a1 ca un uf) s.heap.size = A at hA hD hS hX ⊢
  replace F : CF p m c cX7_add 2 s _ RX7 := F
  replace hl : lv_has ls 2 [(0, .ref a0), (1, .int p1)] := hl
  rw [fX7_add] at h
  refine lv_aload_n F.1 F.2.1 dX7_add_0 rfl (lv_at hl 0 rfl) ?_
  refine gF (v := .int un) F hE hP 0 rfl rfl inX7 1 (by decide) q64 rfl dX7_add_1 ?_
  refine lv_if_lt (tgt := 39) F.1 F.2.1 dX7_add_4 (by decide) (fun k1 => ?_) (fun k1 => ?_)
  · replace h := it_t k1 h
    cases h
    exact MU_v F hr hlocks (Nat.le_refl _) (Nat.le_refl _) hP hS dX7_add_39
  · replace h := it_f k1 h
    refine lv_aload_n F.1 F.2.1 dX7_add_7 rfl (lv_at hl 0 rfl) ?_
    refine gF (v := .int un) F hE hP 0 rfl rfl inX7 1 (by decide) q64 rfl dX7_add_8 ?_
    refine lv_aload_n F.1 F.2.1 dX7_add_11 rfl (lv_at hl 0 rfl) ?_
    refine gF (v := .ref a1) F hE hP 0 rfl rfl inX7 0 (by decide) q63 rfl dX7_add_12 ?_
    refine va_alen (v := nI ca) F.1 F.2.1 hE.1 hP 1 0 rfl rfl rfl dX7_add_15 ?_
    refine lv_icmp_ge (tgt := 39) F.1 F.2.1 dX7_add_16 (by decide) (fun k2 => ?_) (fun k2 => ?_)
    · replace h := it_t k2 h
      cases h
      exact MU_v F hr hlocks (Nat.le_refl _) (Nat.le_refl _) hP hS dX7_add_39
    · replace h := it_f k2 h
      refine lv_aload_n F.1 F.2.1 dX7_add_19 rfl (lv_at hl 0 rfl) ?_
      refine gF (v := .ref a1) F hE hP 0 rfl rfl inX7 0 (by decide) q63 rfl dX7_add_20 ?_
      refine lv_aload_n F.1 F.2.1 dX7_add_23 rfl (lv_at hl 0 rfl) ?_
      refine gF (v := .int un) F hE hP 0 rfl rfl inX7 1 (by decide) q64 rfl dX7_add_24 ?_
      refine lv_iload_n F.1 F.2.1 dX7_add_27 rfl (lv_at hl 1 rfl) ?_
      obtain ⟨k3, h⟩ := gd_ok h
      refine aSi (k := un.toNatClampNeg) F hE hP hD hS 1 0 rfl rfl k3 rfl dX7_add_28 (fun H locs hP hD hS => ?_)
      replace hP : va_P (dC, dI) vwCl (wX7 g a0 a1 ca un (upd uf un.toNatClampNeg p1)) H := hP
      replace hD : va_D A (wX7 g a0 a1 ca un (upd uf un.toNatClampNeg p1)) := hD
      refine lv_aload_n F.1 F.2.1 dX7_add_29 rfl (lv_at hl 0 rfl) ?_
      refine lv_dup F.1 F.2.1 dX7_add_30 rfl ?_
      refine gF (v := .int un) F hE hP 0 rfl rfl inX7 1 (by decide) q64 rfl dX7_add_31 ?_
      refine lv_iconst (v := 1) F.1 F.2.1 dX7_add_34 (by decide) ?_
      refine lv_iadd F.1 F.2.1 dX7_add_35 ?_
      refine pF (v := .int (un + 1)) F hE hP hD hS 0 rfl rfl inX7 tyX7 tyX7_ok nmX7 1 (by decide) q64 rfl rfl rfl (Nat.le_of_ble_eq_true rfl) dX7_add_36 (fun H locs hP hD hS => ?_)
      replace hP : va_P (dC, dI) vwCl (wX7 g a0 a1 ca (un + 1) (upd uf un.toNatClampNeg p1)) H := hP
      replace hD : va_D A (wX7 g a0 a1 ca (un + 1) (upd uf un.toNatClampNeg p1)) := hD
      cases h
      exact MU_v F hr hlocks (Nat.le_refl _) (Nat.le_refl _) hP hS dX7_add_39
/-! WireCutter$Row.insert -/
def fX7_insert_L30 (ca : Nat) (x1 : Int32) (x2 : Int32) (un : Int32) : Nat → Int32 → (Nat → Int32) → Option (Int32 × (Nat → Int32))
  | 0, _, _ => none
  | k + 1, x3, uf =>
    if x3 ≤ x1 then
      gd (inR x1 ca) <|
      some (un + 1, upd uf x1.toNatClampNeg x2)
    else
      gd (inR (x3 - 1) ca) <|
      gd (inR x3 ca) <|
      fX7_insert_L30 ca x1 x2 un k (x3 + (-1)) (upd uf x3.toNatClampNeg (uf ((x3 - 1).toNatClampNeg)))
def fX7_insert (ca : Nat) (un : Int32) (uf : Nat → Int32) (p1 : Int32) (p2 : Int32) : Option (Int32 × (Nat → Int32)) :=
  if p1 < 0 then
    some (un, uf)
  else
    if un < p1 then
      some (un, uf)
    else
      if un < (nI ca) then
        fX7_insert_L30 ca p1 p2 un FU un uf
      else
        some (un, uf)
theorem mbX7_insert : MV yX7_insert cX7_insert 4 none 2 := ⟨⟨q1022, q4, by decide +kernel⟩, q1020, q1021⟩
set_option maxHeartbeats 4000000 in
set_option maxRecDepth 100000 in
theorem tX7_insert_L30 {p : Program} {l : Launch} {e : Env} {s : State} {m : MethodId} {args : Array Value} {below : List Frame} {meth : Method} {c : Code} {dC : Nat → ClassId} {dI : Nat → Nat → Nat} {g : Nat → ClassId} {a0 a1 : Nat} {ca : Nat} {r : Int32 × (Nat → Int32)} {A : Nat → Prop} (F : CF p m c cX7_insert 4 s args RX7) (hr : meth.sig.returnType = none) (hlocks : meth.locks = false) (hE : EK dC dI g s) (hX : EX g A s s.heap) (hA : ∀ q : Nat, s.heap.size ≤ q → A q) (x1 : Int32) (x2 : Int32) (un : Int32) : ∀ (k : Nat) (x3 : Int32) (uf : Nat → Int32), fX7_insert_L30 ca x1 x2 un k x3 uf = some r → ∀ (H : Heap) (locs : List Loc), va_P (dC, dI) vwCl (wX7 g a0 a1 ca un uf) H → va_D A (wX7 g a0 a1 ca un uf) → va_S A s.heap H locs → ∀ (ls : Array Slot), lv_has ls 4 [(0, .ref a0), (1, .int x1), (2, .int x2), (3, .int x3)] → W p l e { frames := 0, cells := 0, slots := 0, locals := 0 } s m args below meth c H locs 0 0 (MQ below (fun _ st o t => o = .returned none ∧ va_P (dC, dI) vwCl (wX7 g a0 a1 ca r.1 r.2) t.heap ∧ va_F A st t) args s 0 0 A) (F0 m 30 ls []) := by
  intro k
  induction k with
  | zero =>
    intro x3 uf h
    exact absurd h (by simp [fX7_insert_L30])
  | succ k ih =>
    intro x3 uf h H locs hP hD hS ls hl
    rw [fX7_insert_L30] at h
    refine lv_iload_n F.1 F.2.1 dX7_insert_30 rfl (lv_at hl 3 rfl) ?_
    refine lv_iload_n F.1 F.2.1 dX7_insert_31 rfl (lv_at hl 1 rfl) ?_
    refine lv_icmp_le (tgt := 55) F.1 F.2.1 dX7_insert_32 (by decide) (fun k4 => ?_) (fun k4 => ?_)
    · replace h := it_t k4 h
      refine lv_aload_n F.1 F.2.1 dX7_insert_55 rfl (lv_at hl 0 rfl) ?_
      refine gF (v := .ref a1) F hE hP 0 rfl rfl inX7 0 (by decide) q63 rfl dX7_insert_56 ?_
      refine lv_iload_n F.1 F.2.1 dX7_insert_59 rfl (lv_at hl 1 rfl) ?_
      refine lv_iload_n F.1 F.2.1 dX7_insert_60 rfl (lv_at hl 2 rfl) ?_
      obtain ⟨k5, h⟩ := gd_ok h
      refine aSi (k := x1.toNatClampNeg) F hE hP hD hS 1 0 rfl rfl k5 rfl dX7_insert_61 (fun H locs hP hD hS => ?_)
      replace hP : va_P (dC, dI) vwCl (wX7 g a0 a1 ca un (upd uf x1.toNatClampNeg x2)) H := hP
      replace hD : va_D A (wX7 g a0 a1 ca un (upd uf x1.toNatClampNeg x2)) := hD
      refine lv_aload_n F.1 F.2.1 dX7_insert_62 rfl (lv_at hl 0 rfl) ?_
      refine lv_dup F.1 F.2.1 dX7_insert_63 rfl ?_
      refine gF (v := .int un) F hE hP 0 rfl rfl inX7 1 (by decide) q64 rfl dX7_insert_64 ?_
      refine lv_iconst (v := 1) F.1 F.2.1 dX7_insert_67 (by decide) ?_
      refine lv_iadd F.1 F.2.1 dX7_insert_68 ?_
      refine pF (v := .int (un + 1)) F hE hP hD hS 0 rfl rfl inX7 tyX7 tyX7_ok nmX7 1 (by decide) q64 rfl rfl rfl (Nat.le_of_ble_eq_true rfl) dX7_insert_69 (fun H locs hP hD hS => ?_)
      replace hP : va_P (dC, dI) vwCl (wX7 g a0 a1 ca (un + 1) (upd uf x1.toNatClampNeg x2)) H := hP
      replace hD : va_D A (wX7 g a0 a1 ca (un + 1) (upd uf x1.toNatClampNeg x2)) := hD
      cases h
      exact MU_v F hr hlocks (Nat.le_refl _) (Nat.le_refl _) hP hS dX7_insert_72
    · replace h := it_f k4 h
      refine lv_aload_n F.1 F.2.1 dX7_insert_35 rfl (lv_at hl 0 rfl) ?_
      refine gF (v := .ref a1) F hE hP 0 rfl rfl inX7 0 (by decide) q63 rfl dX7_insert_36 ?_
      refine lv_iload_n F.1 F.2.1 dX7_insert_39 rfl (lv_at hl 3 rfl) ?_
      refine lv_aload_n F.1 F.2.1 dX7_insert_40 rfl (lv_at hl 0 rfl) ?_
      refine gF (v := .ref a1) F hE hP 0 rfl rfl inX7 0 (by decide) q63 rfl dX7_insert_41 ?_
      refine lv_iload_n F.1 F.2.1 dX7_insert_44 rfl (lv_at hl 3 rfl) ?_
      refine lv_iconst (v := 1) F.1 F.2.1 dX7_insert_45 (by decide) ?_
      refine lv_isub F.1 F.2.1 dX7_insert_46 ?_
      obtain ⟨k6, h⟩ := gd_ok h
      refine aLi (k := (x3 - 1).toNatClampNeg) F hE hP 1 0 rfl rfl k6 rfl dX7_insert_47 ?_
      obtain ⟨k7, h⟩ := gd_ok h
      refine aSi (k := x3.toNatClampNeg) F hE hP hD hS 1 0 rfl rfl k7 rfl dX7_insert_48 (fun H locs hP hD hS => ?_)
      replace hP : va_P (dC, dI) vwCl (wX7 g a0 a1 ca un (upd uf x3.toNatClampNeg (uf ((x3 - 1).toNatClampNeg)))) H := hP
      replace hD : va_D A (wX7 g a0 a1 ca un (upd uf x3.toNatClampNeg (uf ((x3 - 1).toNatClampNeg)))) := hD
      refine lv_iinc (v := x3 + (-1)) (lv' := [(3, .int (x3 + (-1))), (0, .ref a0), (1, .int x1), (2, .int x2)]) F.1 F.2.1 dX7_insert_49 hl (k := 3) rfl (by rfl) (by decide) rfl (fun ls hl => ?_)
      refine lv_goto (tgt := 30) F.1 F.2.1 dX7_insert_52 (by decide) ?_
      exact ih (x3 + (-1)) (upd uf x3.toNatClampNeg (uf ((x3 - 1).toNatClampNeg))) h _ _ hP hD hS ls (lv_sub hl [1, 2, 3, 0] rfl)
set_option maxHeartbeats 4000000 in
set_option maxRecDepth 100000 in
theorem tX7_insert (l : Launch) (dC : Nat → ClassId) (dI : Nat → Nat → Nat) (g : Nat → ClassId) (a0 a1 : Nat) (ca : Nat) (un : Int32) (uf : Nat → Int32) (p1 : Int32) (p2 : Int32) {r : Int32 × (Nat → Int32)} (h : fX7_insert ca un uf p1 p2 = some r) : MU l yX7_insert cX7_insert 4 none 0 0 0 0 dC dI g [.ref a0, .int p1, .int p2] (wX7 g a0 a1 ca un uf) (wX7 g a0 a1 ca r.1 r.2) none := by
  refine MU_of (by decide) (Nat.le_of_ble_eq_true rfl) ?_
  intro p e s m below meth c ls F hr hlocks hE hX hA hP hD hS hl
  generalize va_A (wX7 g a0 a1 ca un uf) s.heap.size = A at hA hD hS hX ⊢
  replace F : CF p m c cX7_insert 4 s _ RX7 := F
  replace hl : lv_has ls 4 [(0, .ref a0), (1, .int p1), (2, .int p2)] := hl
  rw [fX7_insert] at h
  refine lv_iload_n F.1 F.2.1 dX7_insert_0 rfl (lv_at hl 1 rfl) ?_
  refine lv_if_lt (tgt := 24) F.1 F.2.1 dX7_insert_1 (by decide) (fun k1 => ?_) (fun k1 => ?_)
  · replace h := it_t k1 h
    cases h
    exact MU_v F hr hlocks (Nat.le_refl _) (Nat.le_refl _) hP hS dX7_insert_24
  · replace h := it_f k1 h
    refine lv_iload_n F.1 F.2.1 dX7_insert_4 rfl (lv_at hl 1 rfl) ?_
    refine lv_aload_n F.1 F.2.1 dX7_insert_5 rfl (lv_at hl 0 rfl) ?_
    refine gF (v := .int un) F hE hP 0 rfl rfl inX7 1 (by decide) q64 rfl dX7_insert_6 ?_
    refine lv_icmp_gt (tgt := 24) F.1 F.2.1 dX7_insert_9 (by decide) (fun k2 => ?_) (fun k2 => ?_)
    · replace h := it_t k2 h
      cases h
      exact MU_v F hr hlocks (Nat.le_refl _) (Nat.le_refl _) hP hS dX7_insert_24
    · replace h := it_f k2 h
      refine lv_aload_n F.1 F.2.1 dX7_insert_12 rfl (lv_at hl 0 rfl) ?_
      refine gF (v := .int un) F hE hP 0 rfl rfl inX7 1 (by decide) q64 rfl dX7_insert_13 ?_
      refine lv_aload_n F.1 F.2.1 dX7_insert_16 rfl (lv_at hl 0 rfl) ?_
      refine gF (v := .ref a1) F hE hP 0 rfl rfl inX7 0 (by decide) q63 rfl dX7_insert_17 ?_
      refine va_alen (v := nI ca) F.1 F.2.1 hE.1 hP 1 0 rfl rfl rfl dX7_insert_20 ?_
      refine lv_icmp_lt (tgt := 25) F.1 F.2.1 dX7_insert_21 (by decide) (fun k3 => ?_) (fun k3 => ?_)
      · replace h := it_t k3 h
        refine lv_aload_n F.1 F.2.1 dX7_insert_25 rfl (lv_at hl 0 rfl) ?_
        refine gF (v := .int un) F hE hP 0 rfl rfl inX7 1 (by decide) q64 rfl dX7_insert_26 ?_
        refine lv_istore_n (lv' := [(3, .int un), (0, .ref a0), (1, .int p1), (2, .int p2)]) F.1 F.2.1 dX7_insert_29 rfl hl (by decide) rfl (fun ls hl => ?_)
        exact tX7_insert_L30 F hr hlocks hE hX hA p1 p2 un FU un uf h _ _ hP hD hS ls (lv_sub hl [1, 2, 3, 0] rfl)
      · replace h := it_f k3 h
        cases h
        exact MU_v F hr hlocks (Nat.le_refl _) (Nat.le_refl _) hP hS dX7_insert_24
/-! WireCutter$Row.removeAt -/
def fX7_removeAt_L29 (ca : Nat) (un : Int32) : Nat → Int32 → (Nat → Int32) → Option (Int32 × (Nat → Int32))
  | 0, _, _ => none
  | k + 1, x2, uf =>
    if un ≤ x2 then
      some (un - 1, uf)
    else
      gd (inR x2 ca) <|
      gd (inR (x2 - 1) ca) <|
      fX7_removeAt_L29 ca un k (x2 + 1) (upd uf ((x2 - 1).toNatClampNeg) (uf x2.toNatClampNeg))
def fX7_removeAt (ca : Nat) (un : Int32) (uf : Nat → Int32) (p1 : Int32) : Option (Int32 × (Nat → Int32)) :=
  if p1 < 0 then
    some (un, uf)
  else
    if un ≤ p1 then
      some (un, uf)
    else
      if un ≤ (nI ca) then
        fX7_removeAt_L29 ca un FU (p1 + 1) uf
      else
        some (un, uf)
theorem mbX7_removeAt : MV yX7_removeAt cX7_removeAt 3 none 1 := ⟨⟨q1030, q4, by decide +kernel⟩, q1028, q1029⟩
set_option maxHeartbeats 4000000 in
set_option maxRecDepth 100000 in
theorem tX7_removeAt_L29 {p : Program} {l : Launch} {e : Env} {s : State} {m : MethodId} {args : Array Value} {below : List Frame} {meth : Method} {c : Code} {dC : Nat → ClassId} {dI : Nat → Nat → Nat} {g : Nat → ClassId} {a0 a1 : Nat} {ca : Nat} {r : Int32 × (Nat → Int32)} {A : Nat → Prop} (F : CF p m c cX7_removeAt 3 s args RX7) (hr : meth.sig.returnType = none) (hlocks : meth.locks = false) (hE : EK dC dI g s) (hX : EX g A s s.heap) (hA : ∀ q : Nat, s.heap.size ≤ q → A q) (un : Int32) : ∀ (k : Nat) (x2 : Int32) (uf : Nat → Int32), fX7_removeAt_L29 ca un k x2 uf = some r → ∀ (H : Heap) (locs : List Loc), va_P (dC, dI) vwCl (wX7 g a0 a1 ca un uf) H → va_D A (wX7 g a0 a1 ca un uf) → va_S A s.heap H locs → ∀ (ls : Array Slot), lv_has ls 3 [(0, .ref a0), (2, .int x2)] → W p l e { frames := 0, cells := 0, slots := 0, locals := 0 } s m args below meth c H locs 0 0 (MQ below (fun _ st o t => o = .returned none ∧ va_P (dC, dI) vwCl (wX7 g a0 a1 ca r.1 r.2) t.heap ∧ va_F A st t) args s 0 0 A) (F0 m 29 ls []) := by
  intro k
  induction k with
  | zero =>
    intro x2 uf h
    exact absurd h (by simp [fX7_removeAt_L29])
  | succ k ih =>
    intro x2 uf h H locs hP hD hS ls hl
    rw [fX7_removeAt_L29] at h
    refine lv_iload_n F.1 F.2.1 dX7_removeAt_29 rfl (lv_at hl 1 rfl) ?_
    refine lv_aload_n F.1 F.2.1 dX7_removeAt_30 rfl (lv_at hl 0 rfl) ?_
    refine gF (v := .int un) F hE hP 0 rfl rfl inX7 1 (by decide) q64 rfl dX7_removeAt_31 ?_
    refine lv_icmp_ge (tgt := 57) F.1 F.2.1 dX7_removeAt_34 (by decide) (fun k4 => ?_) (fun k4 => ?_)
    · replace h := it_t k4 h
      refine lv_aload_n F.1 F.2.1 dX7_removeAt_57 rfl (lv_at hl 0 rfl) ?_
      refine lv_dup F.1 F.2.1 dX7_removeAt_58 rfl ?_
      refine gF (v := .int un) F hE hP 0 rfl rfl inX7 1 (by decide) q64 rfl dX7_removeAt_59 ?_
      refine lv_iconst (v := 1) F.1 F.2.1 dX7_removeAt_62 (by decide) ?_
      refine lv_isub F.1 F.2.1 dX7_removeAt_63 ?_
      refine pF (v := .int (un - 1)) F hE hP hD hS 0 rfl rfl inX7 tyX7 tyX7_ok nmX7 1 (by decide) q64 rfl rfl rfl (Nat.le_of_ble_eq_true rfl) dX7_removeAt_64 (fun H locs hP hD hS => ?_)
      replace hP : va_P (dC, dI) vwCl (wX7 g a0 a1 ca (un - 1) uf) H := hP
      replace hD : va_D A (wX7 g a0 a1 ca (un - 1) uf) := hD
      cases h
      exact MU_v F hr hlocks (Nat.le_refl _) (Nat.le_refl _) hP hS dX7_removeAt_67
    · replace h := it_f k4 h
      refine lv_aload_n F.1 F.2.1 dX7_removeAt_37 rfl (lv_at hl 0 rfl) ?_
      refine gF (v := .ref a1) F hE hP 0 rfl rfl inX7 0 (by decide) q63 rfl dX7_removeAt_38 ?_
      refine lv_iload_n F.1 F.2.1 dX7_removeAt_41 rfl (lv_at hl 1 rfl) ?_
      refine lv_iconst (v := 1) F.1 F.2.1 dX7_removeAt_42 (by decide) ?_
      refine lv_isub F.1 F.2.1 dX7_removeAt_43 ?_
      refine lv_aload_n F.1 F.2.1 dX7_removeAt_44 rfl (lv_at hl 0 rfl) ?_
      refine gF (v := .ref a1) F hE hP 0 rfl rfl inX7 0 (by decide) q63 rfl dX7_removeAt_45 ?_
      refine lv_iload_n F.1 F.2.1 dX7_removeAt_48 rfl (lv_at hl 1 rfl) ?_
      obtain ⟨k5, h⟩ := gd_ok h
      refine aLi (k := x2.toNatClampNeg) F hE hP 1 0 rfl rfl k5 rfl dX7_removeAt_49 ?_
      obtain ⟨k6, h⟩ := gd_ok h
      refine aSi (k := (x2 - 1).toNatClampNeg) F hE hP hD hS 1 0 rfl rfl k6 rfl dX7_removeAt_50 (fun H locs hP hD hS => ?_)
      replace hP : va_P (dC, dI) vwCl (wX7 g a0 a1 ca un (upd uf ((x2 - 1).toNatClampNeg) (uf x2.toNatClampNeg))) H := hP
      replace hD : va_D A (wX7 g a0 a1 ca un (upd uf ((x2 - 1).toNatClampNeg) (uf x2.toNatClampNeg))) := hD
      refine lv_iinc (v := x2 + 1) (lv' := [(2, .int (x2 + 1)), (0, .ref a0)]) F.1 F.2.1 dX7_removeAt_51 hl (k := 1) rfl (by rfl) (by decide) rfl (fun ls hl => ?_)
      refine lv_goto (tgt := 29) F.1 F.2.1 dX7_removeAt_54 (by decide) ?_
      exact ih (x2 + 1) (upd uf ((x2 - 1).toNatClampNeg) (uf x2.toNatClampNeg)) h _ _ hP hD hS ls (lv_sub hl [1, 0] rfl)
set_option maxHeartbeats 4000000 in
set_option maxRecDepth 100000 in
theorem tX7_removeAt (l : Launch) (dC : Nat → ClassId) (dI : Nat → Nat → Nat) (g : Nat → ClassId) (a0 a1 : Nat) (ca : Nat) (un : Int32) (uf : Nat → Int32) (p1 : Int32) {r : Int32 × (Nat → Int32)} (h : fX7_removeAt ca un uf p1 = some r) : MU l yX7_removeAt cX7_removeAt 3 none 0 0 0 0 dC dI g [.ref a0, .int p1] (wX7 g a0 a1 ca un uf) (wX7 g a0 a1 ca r.1 r.2) none := by
  refine MU_of (by decide) (Nat.le_of_ble_eq_true rfl) ?_
  intro p e s m below meth c ls F hr hlocks hE hX hA hP hD hS hl
  generalize va_A (wX7 g a0 a1 ca un uf) s.heap.size = A at hA hD hS hX ⊢
  replace F : CF p m c cX7_removeAt 3 s _ RX7 := F
  replace hl : lv_has ls 3 [(0, .ref a0), (1, .int p1)] := hl
  rw [fX7_removeAt] at h
  refine lv_iload_n F.1 F.2.1 dX7_removeAt_0 rfl (lv_at hl 1 rfl) ?_
  refine lv_if_lt (tgt := 24) F.1 F.2.1 dX7_removeAt_1 (by decide) (fun k1 => ?_) (fun k1 => ?_)
  · replace h := it_t k1 h
    cases h
    exact MU_v F hr hlocks (Nat.le_refl _) (Nat.le_refl _) hP hS dX7_removeAt_24
  · replace h := it_f k1 h
    refine lv_iload_n F.1 F.2.1 dX7_removeAt_4 rfl (lv_at hl 1 rfl) ?_
    refine lv_aload_n F.1 F.2.1 dX7_removeAt_5 rfl (lv_at hl 0 rfl) ?_
    refine gF (v := .int un) F hE hP 0 rfl rfl inX7 1 (by decide) q64 rfl dX7_removeAt_6 ?_
    refine lv_icmp_ge (tgt := 24) F.1 F.2.1 dX7_removeAt_9 (by decide) (fun k2 => ?_) (fun k2 => ?_)
    · replace h := it_t k2 h
      cases h
      exact MU_v F hr hlocks (Nat.le_refl _) (Nat.le_refl _) hP hS dX7_removeAt_24
    · replace h := it_f k2 h
      refine lv_aload_n F.1 F.2.1 dX7_removeAt_12 rfl (lv_at hl 0 rfl) ?_
      refine gF (v := .int un) F hE hP 0 rfl rfl inX7 1 (by decide) q64 rfl dX7_removeAt_13 ?_
      refine lv_aload_n F.1 F.2.1 dX7_removeAt_16 rfl (lv_at hl 0 rfl) ?_
      refine gF (v := .ref a1) F hE hP 0 rfl rfl inX7 0 (by decide) q63 rfl dX7_removeAt_17 ?_
      refine va_alen (v := nI ca) F.1 F.2.1 hE.1 hP 1 0 rfl rfl rfl dX7_removeAt_20 ?_
      refine lv_icmp_le (tgt := 25) F.1 F.2.1 dX7_removeAt_21 (by decide) (fun k3 => ?_) (fun k3 => ?_)
      · replace h := it_t k3 h
        refine lv_iload_n F.1 F.2.1 dX7_removeAt_25 rfl (lv_at hl 1 rfl) ?_
        refine lv_iconst (v := 1) F.1 F.2.1 dX7_removeAt_26 (by decide) ?_
        refine lv_iadd F.1 F.2.1 dX7_removeAt_27 ?_
        refine lv_istore_n (lv' := [(2, .int (p1 + 1)), (0, .ref a0), (1, .int p1)]) F.1 F.2.1 dX7_removeAt_28 rfl hl (by decide) rfl (fun ls hl => ?_)
        exact tX7_removeAt_L29 F hr hlocks hE hX hA un FU (p1 + 1) uf h _ _ hP hD hS ls (lv_sub hl [1, 0] rfl)
      · replace h := it_f k3 h
        cases h
        exact MU_v F hr hlocks (Nat.le_refl _) (Nat.le_refl _) hP hS dX7_removeAt_24
/-! WireCutter$Row.clear -/
def fX7_clear : Option (Int32) :=
  some (0)
theorem mbX7_clear : MV yX7_clear cX7_clear 1 none 0 := ⟨⟨q433, q4, by decide +kernel⟩, q431, q432⟩
set_option maxHeartbeats 4000000 in
set_option maxRecDepth 100000 in
theorem tX7_clear (l : Launch) (dC : Nat → ClassId) (dI : Nat → Nat → Nat) (g : Nat → ClassId) (a0 a1 : Nat) (ca : Nat) (un : Int32) (uf : Nat → Int32) {r : Int32} (h : fX7_clear = some r) : MU l yX7_clear cX7_clear 1 none 0 0 0 0 dC dI g [.ref a0] (wX7 g a0 a1 ca un uf) (wX7 g a0 a1 ca r uf) none := by
  refine MU_of (by decide) (Nat.le_of_ble_eq_true rfl) ?_
  intro p e s m below meth c ls F hr hlocks hE hX hA hP hD hS hl
  generalize va_A (wX7 g a0 a1 ca un uf) s.heap.size = A at hA hD hS hX ⊢
  replace F : CF p m c cX7_clear 1 s _ RX7 := F
  replace hl : lv_has ls 1 [(0, .ref a0)] := hl
  rw [fX7_clear] at h
  refine lv_aload_n F.1 F.2.1 dX7_clear_0 rfl (lv_at hl 0 rfl) ?_
  refine lv_iconst (v := 0) F.1 F.2.1 dX7_clear_1 (by decide) ?_
  refine pF (v := .int 0) F hE hP hD hS 0 rfl rfl inX7 tyX7 tyX7_ok nmX7 1 (by decide) q64 rfl rfl rfl (Nat.le_of_ble_eq_true rfl) dX7_clear_2 (fun H locs hP hD hS => ?_)
  replace hP : va_P (dC, dI) vwCl (wX7 g a0 a1 ca 0 uf) H := hP
  replace hD : va_D A (wX7 g a0 a1 ca 0 uf) := hD
  cases h
  exact MU_v F hr hlocks (Nat.le_refl _) (Nat.le_refl _) hP hS dX7_clear_5
/-! WireCutter$Row.indexOf -/
def fX7_indexOf_L2 (ca : Nat) (x1 : Int32) (un : Int32) (uf : Nat → Int32) : Nat → Int32 → Option (Int32)
  | 0, _ => none
  | k + 1, x2 =>
    if un ≤ x2 then
      some ((-1))
    else
      if (nI ca) ≤ x2 then
        some ((-1))
      else
        gd (inR x2 ca) <|
        if (uf x2.toNatClampNeg) = x1 then
          some (x2)
        else
          fX7_indexOf_L2 ca x1 un uf k (x2 + 1)
def fX7_indexOf (ca : Nat) (un : Int32) (uf : Nat → Int32) (p1 : Int32) : Option (Int32) :=
  fX7_indexOf_L2 ca p1 un uf FU 0
theorem mbX7_indexOf : MV yX7_indexOf cX7_indexOf 3 (some .int) 1 := ⟨⟨q375, q4, by decide +kernel⟩, q373, q374⟩
set_option maxHeartbeats 4000000 in
set_option maxRecDepth 100000 in
theorem tX7_indexOf_L2 {p : Program} {l : Launch} {e : Env} {s : State} {m : MethodId} {args : Array Value} {below : List Frame} {meth : Method} {c : Code} {dC : Nat → ClassId} {dI : Nat → Nat → Nat} {g : Nat → ClassId} {a0 a1 : Nat} {ca : Nat} {r : Int32} (F : CF p m c cX7_indexOf 3 s args RX7) (hr : meth.sig.returnType = (some .int)) (hlocks : meth.locks = false) (hE : EK dC dI g s) (hX : EXr g s) (x1 : Int32) (un : Int32) (uf : Nat → Int32) (hP : va_P (dC, dI) vwCl (wX7 g a0 a1 ca un uf) s.heap) : ∀ (k : Nat) (x2 : Int32), fX7_indexOf_L2 ca x1 un uf k x2 = some r → ∀ (ls : Array Slot), lv_has ls 3 [(0, .ref a0), (1, .int x1), (2, .int x2)] → W p l e { frames := 0, cells := 0, slots := 0, locals := 0 } s m args below meth c s.heap [] 0 0 (MQ below (fun _ st o t => o = .returned (some (.int r)) ∧ t.heap = st.heap) args s 0 0 (fun _ => False)) (F0 m 2 ls []) := by
  intro k
  induction k with
  | zero =>
    intro x2 h
    exact absurd h (by simp [fX7_indexOf_L2])
  | succ k ih =>
    intro x2 h ls hl
    rw [fX7_indexOf_L2] at h
    refine lv_iload_n F.1 F.2.1 dX7_indexOf_2 rfl (lv_at hl 2 rfl) ?_
    refine lv_aload_n F.1 F.2.1 dX7_indexOf_3 rfl (lv_at hl 0 rfl) ?_
    refine gF (v := .int un) F hE hP 0 rfl rfl inX7 1 (by decide) q64 rfl dX7_indexOf_4 ?_
    refine lv_icmp_ge (tgt := 37) F.1 F.2.1 dX7_indexOf_7 (by decide) (fun k1 => ?_) (fun k1 => ?_)
    · replace h := it_t k1 h
      refine lv_iconst (v := (-1)) F.1 F.2.1 dX7_indexOf_37 (by decide) ?_
      cases h
      exact RO_i F hr hlocks dX7_indexOf_38
    · replace h := it_f k1 h
      refine lv_iload_n F.1 F.2.1 dX7_indexOf_10 rfl (lv_at hl 2 rfl) ?_
      refine lv_aload_n F.1 F.2.1 dX7_indexOf_11 rfl (lv_at hl 0 rfl) ?_
      refine gF (v := .ref a1) F hE hP 0 rfl rfl inX7 0 (by decide) q63 rfl dX7_indexOf_12 ?_
      refine va_alen (v := nI ca) F.1 F.2.1 hE.1 hP 1 0 rfl rfl rfl dX7_indexOf_15 ?_
      refine lv_icmp_ge (tgt := 37) F.1 F.2.1 dX7_indexOf_16 (by decide) (fun k2 => ?_) (fun k2 => ?_)
      · replace h := it_t k2 h
        refine lv_iconst (v := (-1)) F.1 F.2.1 dX7_indexOf_37 (by decide) ?_
        cases h
        exact RO_i F hr hlocks dX7_indexOf_38
      · replace h := it_f k2 h
        refine lv_aload_n F.1 F.2.1 dX7_indexOf_19 rfl (lv_at hl 0 rfl) ?_
        refine gF (v := .ref a1) F hE hP 0 rfl rfl inX7 0 (by decide) q63 rfl dX7_indexOf_20 ?_
        refine lv_iload_n F.1 F.2.1 dX7_indexOf_23 rfl (lv_at hl 2 rfl) ?_
        obtain ⟨k3, h⟩ := gd_ok h
        refine aLi (k := x2.toNatClampNeg) F hE hP 1 0 rfl rfl k3 rfl dX7_indexOf_24 ?_
        refine lv_iload_n F.1 F.2.1 dX7_indexOf_25 rfl (lv_at hl 1 rfl) ?_
        refine lv_icmp_ne (tgt := 31) F.1 F.2.1 dX7_indexOf_26 (by decide) (fun k4 => ?_) (fun k4 => ?_)
        · replace h := it_f k4 h
          refine lv_iinc (v := x2 + 1) (lv' := [(2, .int (x2 + 1)), (0, .ref a0), (1, .int x1)]) F.1 F.2.1 dX7_indexOf_31 hl (k := 2) rfl (by rfl) (by decide) rfl (fun ls hl => ?_)
          refine lv_goto (tgt := 2) F.1 F.2.1 dX7_indexOf_34 (by decide) ?_
          exact ih (x2 + 1) h ls (lv_sub hl [1, 2, 0] rfl)
        · replace h := it_t k4 h
          refine lv_iload_n F.1 F.2.1 dX7_indexOf_29 rfl (lv_at hl 2 rfl) ?_
          cases h
          exact RO_i F hr hlocks dX7_indexOf_30
set_option maxHeartbeats 4000000 in
set_option maxRecDepth 100000 in
theorem tX7_indexOf (l : Launch) (dC : Nat → ClassId) (dI : Nat → Nat → Nat) (g : Nat → ClassId) (a0 a1 : Nat) (ca : Nat) (un : Int32) (uf : Nat → Int32) (p1 : Int32) {r : Int32} (h : fX7_indexOf ca un uf p1 = some r) : RO l yX7_indexOf cX7_indexOf 3 (some .int) 0 0 dC dI g [.ref a0, .int p1] (wX7 g a0 a1 ca un uf) (some (.int r)) := by
  refine RO_of (by decide) (Nat.le_of_ble_eq_true rfl) ?_
  intro p e s m below meth c ls F hr hlocks hE hX hP hl
  replace F : CF p m c cX7_indexOf 3 s _ RX7 := F
  replace hl : lv_has ls 3 [(0, .ref a0), (1, .int p1)] := hl
  rw [fX7_indexOf] at h
  refine lv_iconst (v := 0) F.1 F.2.1 dX7_indexOf_0 (by decide) ?_
  refine lv_istore_n (lv' := [(2, .int 0), (0, .ref a0), (1, .int p1)]) F.1 F.2.1 dX7_indexOf_1 rfl hl (by decide) rfl (fun ls hl => ?_)
  exact tX7_indexOf_L2 F hr hlocks hE hX p1 un uf hP FU 0 h ls (lv_sub hl [1, 2, 0] rfl)
/-! WireCutter$Row.sum -/
def fX7_sum_L4 (ca : Nat) (un : Int32) (uf : Nat → Int32) : Nat → Int32 → Int32 → Option (Int32)
  | 0, _, _ => none
  | k + 1, x1, x2 =>
    if un ≤ x2 then
      some (x1)
    else
      if (nI ca) ≤ x2 then
        some (x1)
      else
        gd (inR x2 ca) <|
        fX7_sum_L4 ca un uf k (x1 + (uf x2.toNatClampNeg)) (x2 + 1)
def fX7_sum (ca : Nat) (un : Int32) (uf : Nat → Int32) : Option (Int32) :=
  fX7_sum_L4 ca un uf FU 0 0
theorem mbX7_sum : MV yX7_sum cX7_sum 3 (some .int) 0 := ⟨⟨q405, q4, by decide +kernel⟩, q403, q404⟩
set_option maxHeartbeats 4000000 in
set_option maxRecDepth 100000 in
theorem tX7_sum_L4 {p : Program} {l : Launch} {e : Env} {s : State} {m : MethodId} {args : Array Value} {below : List Frame} {meth : Method} {c : Code} {dC : Nat → ClassId} {dI : Nat → Nat → Nat} {g : Nat → ClassId} {a0 a1 : Nat} {ca : Nat} {r : Int32} (F : CF p m c cX7_sum 3 s args RX7) (hr : meth.sig.returnType = (some .int)) (hlocks : meth.locks = false) (hE : EK dC dI g s) (hX : EXr g s) (un : Int32) (uf : Nat → Int32) (hP : va_P (dC, dI) vwCl (wX7 g a0 a1 ca un uf) s.heap) : ∀ (k : Nat) (x1 : Int32) (x2 : Int32), fX7_sum_L4 ca un uf k x1 x2 = some r → ∀ (ls : Array Slot), lv_has ls 3 [(0, .ref a0), (1, .int x1), (2, .int x2)] → W p l e { frames := 0, cells := 0, slots := 0, locals := 0 } s m args below meth c s.heap [] 0 0 (MQ below (fun _ st o t => o = .returned (some (.int r)) ∧ t.heap = st.heap) args s 0 0 (fun _ => False)) (F0 m 4 ls []) := by
  intro k
  induction k with
  | zero =>
    intro x1 x2 h
    exact absurd h (by simp [fX7_sum_L4])
  | succ k ih =>
    intro x1 x2 h ls hl
    rw [fX7_sum_L4] at h
    refine lv_iload_n F.1 F.2.1 dX7_sum_4 rfl (lv_at hl 2 rfl) ?_
    refine lv_aload_n F.1 F.2.1 dX7_sum_5 rfl (lv_at hl 0 rfl) ?_
    refine gF (v := .int un) F hE hP 0 rfl rfl inX7 1 (by decide) q64 rfl dX7_sum_6 ?_
    refine lv_icmp_ge (tgt := 36) F.1 F.2.1 dX7_sum_9 (by decide) (fun k1 => ?_) (fun k1 => ?_)
    · replace h := it_t k1 h
      refine lv_iload_n F.1 F.2.1 dX7_sum_36 rfl (lv_at hl 1 rfl) ?_
      cases h
      exact RO_i F hr hlocks dX7_sum_37
    · replace h := it_f k1 h
      refine lv_iload_n F.1 F.2.1 dX7_sum_12 rfl (lv_at hl 2 rfl) ?_
      refine lv_aload_n F.1 F.2.1 dX7_sum_13 rfl (lv_at hl 0 rfl) ?_
      refine gF (v := .ref a1) F hE hP 0 rfl rfl inX7 0 (by decide) q63 rfl dX7_sum_14 ?_
      refine va_alen (v := nI ca) F.1 F.2.1 hE.1 hP 1 0 rfl rfl rfl dX7_sum_17 ?_
      refine lv_icmp_ge (tgt := 36) F.1 F.2.1 dX7_sum_18 (by decide) (fun k2 => ?_) (fun k2 => ?_)
      · replace h := it_t k2 h
        refine lv_iload_n F.1 F.2.1 dX7_sum_36 rfl (lv_at hl 1 rfl) ?_
        cases h
        exact RO_i F hr hlocks dX7_sum_37
      · replace h := it_f k2 h
        refine lv_iload_n F.1 F.2.1 dX7_sum_21 rfl (lv_at hl 1 rfl) ?_
        refine lv_aload_n F.1 F.2.1 dX7_sum_22 rfl (lv_at hl 0 rfl) ?_
        refine gF (v := .ref a1) F hE hP 0 rfl rfl inX7 0 (by decide) q63 rfl dX7_sum_23 ?_
        refine lv_iload_n F.1 F.2.1 dX7_sum_26 rfl (lv_at hl 2 rfl) ?_
        obtain ⟨k3, h⟩ := gd_ok h
        refine aLi (k := x2.toNatClampNeg) F hE hP 1 0 rfl rfl k3 rfl dX7_sum_27 ?_
        refine lv_iadd F.1 F.2.1 dX7_sum_28 ?_
        refine lv_istore_n (lv' := [(1, .int (x1 + (uf x2.toNatClampNeg))), (0, .ref a0), (2, .int x2)]) F.1 F.2.1 dX7_sum_29 rfl hl (by decide) rfl (fun ls hl => ?_)
        refine lv_iinc (v := x2 + 1) (lv' := [(2, .int (x2 + 1)), (1, .int (x1 + (uf x2.toNatClampNeg))), (0, .ref a0)]) F.1 F.2.1 dX7_sum_30 hl (k := 2) rfl (by rfl) (by decide) rfl (fun ls hl => ?_)
        refine lv_goto (tgt := 4) F.1 F.2.1 dX7_sum_33 (by decide) ?_
        exact ih (x1 + (uf x2.toNatClampNeg)) (x2 + 1) h ls (lv_sub hl [2, 1, 0] rfl)
set_option maxHeartbeats 4000000 in
set_option maxRecDepth 100000 in
theorem tX7_sum (l : Launch) (dC : Nat → ClassId) (dI : Nat → Nat → Nat) (g : Nat → ClassId) (a0 a1 : Nat) (ca : Nat) (un : Int32) (uf : Nat → Int32) {r : Int32} (h : fX7_sum ca un uf = some r) : RO l yX7_sum cX7_sum 3 (some .int) 0 0 dC dI g [.ref a0] (wX7 g a0 a1 ca un uf) (some (.int r)) := by
  refine RO_of (by decide) (Nat.le_of_ble_eq_true rfl) ?_
  intro p e s m below meth c ls F hr hlocks hE hX hP hl
  replace F : CF p m c cX7_sum 3 s _ RX7 := F
  replace hl : lv_has ls 3 [(0, .ref a0)] := hl
  rw [fX7_sum] at h
  refine lv_iconst (v := 0) F.1 F.2.1 dX7_sum_0 (by decide) ?_
  refine lv_istore_n (lv' := [(1, .int 0), (0, .ref a0)]) F.1 F.2.1 dX7_sum_1 rfl hl (by decide) rfl (fun ls hl => ?_)
  refine lv_iconst (v := 0) F.1 F.2.1 dX7_sum_2 (by decide) ?_
  refine lv_istore_n (lv' := [(2, .int 0), (1, .int 0), (0, .ref a0)]) F.1 F.2.1 dX7_sum_3 rfl hl (by decide) rfl (fun ls hl => ?_)
  exact tX7_sum_L4 F hr hlocks hE hX un uf hP FU 0 0 h ls (lv_sub hl [2, 1, 0] rfl)
/-! WireCutter$Row.copyFrom -/
def fX7_copyFrom_L26 (ca : Nat) (cb : Nat) (x2 : Int32) (vf : Nat → Int32) : Nat → Int32 → (Nat → Int32) → Option (Int32 × (Nat → Int32))
  | 0, _, _ => none
  | k + 1, x3, uf =>
    if x2 ≤ x3 then
      some (x2, uf)
    else
      gd (inR x3 cb) <|
      gd (inR x3 ca) <|
      fX7_copyFrom_L26 ca cb x2 vf k (x3 + 1) (upd uf x3.toNatClampNeg (vf x3.toNatClampNeg))
def fX7_copyFrom (ca : Nat) (cb : Nat) (un : Int32) (uf : Nat → Int32) (vn : Int32) (vf : Nat → Int32) : Option (Int32 × (Nat → Int32)) :=
  if (nI cb) < vn then
    some (un, uf)
  else
    if vn ≤ (nI ca) then
      fX7_copyFrom_L26 ca cb vn vf FU 0 uf
    else
      some (un, uf)
theorem mbX7_copyFrom : MV yX7_copyFrom cX7_copyFrom 4 none 1 := ⟨⟨q903, q4, by decide +kernel⟩, q901, q902⟩
set_option maxHeartbeats 4000000 in
set_option maxRecDepth 100000 in
theorem tX7_copyFrom_L26 {p : Program} {l : Launch} {e : Env} {s : State} {m : MethodId} {args : Array Value} {below : List Frame} {meth : Method} {c : Code} {dC : Nat → ClassId} {dI : Nat → Nat → Nat} {g : Nat → ClassId} {a0 a1 b0 b1 : Nat} {ca : Nat} {cb : Nat} {r : Int32 × (Nat → Int32)} {A : Nat → Prop} (F : CF p m c cX7_copyFrom 4 s args RX7) (hr : meth.sig.returnType = none) (hlocks : meth.locks = false) (hE : EK dC dI g s) (hX : EX g A s s.heap) (hA : ∀ q : Nat, s.heap.size ≤ q → A q) (x2 : Int32) (un : Int32) (vn : Int32) (vf : Nat → Int32) : ∀ (k : Nat) (x3 : Int32) (uf : Nat → Int32), fX7_copyFrom_L26 ca cb x2 vf k x3 uf = some r → ∀ (H : Heap) (locs : List Loc), va_P (dC, dI) vwCl (wX7 g a0 a1 ca un uf ++ wX7 g b0 b1 cb vn vf) H → va_D A (wX7 g a0 a1 ca un uf ++ wX7 g b0 b1 cb vn vf) → va_S A s.heap H locs → ∀ (ls : Array Slot), lv_has ls 4 [(0, .ref a0), (1, .ref b0), (2, .int x2), (3, .int x3)] → W p l e { frames := 0, cells := 0, slots := 0, locals := 0 } s m args below meth c H locs 0 0 (MQ below (fun _ st o t => o = .returned none ∧ va_P (dC, dI) vwCl (wX7 g a0 a1 ca r.1 r.2 ++ wX7 g b0 b1 cb vn vf) t.heap ∧ va_F A st t) args s 0 0 A) (F0 m 26 ls []) := by
  intro k
  induction k with
  | zero =>
    intro x3 uf h
    exact absurd h (by simp [fX7_copyFrom_L26])
  | succ k ih =>
    intro x3 uf h H locs hP hD hS ls hl
    rw [fX7_copyFrom_L26] at h
    refine lv_iload_n F.1 F.2.1 dX7_copyFrom_26 rfl (lv_at hl 3 rfl) ?_
    refine lv_iload_n F.1 F.2.1 dX7_copyFrom_27 rfl (lv_at hl 2 rfl) ?_
    refine lv_icmp_ge (tgt := 49) F.1 F.2.1 dX7_copyFrom_28 (by decide) (fun k3 => ?_) (fun k3 => ?_)
    · replace h := it_t k3 h
      refine lv_aload_n F.1 F.2.1 dX7_copyFrom_49 rfl (lv_at hl 0 rfl) ?_
      refine lv_iload_n F.1 F.2.1 dX7_copyFrom_50 rfl (lv_at hl 2 rfl) ?_
      refine pF (v := .int x2) F hE hP hD hS 0 rfl rfl inX7 tyX7 tyX7_ok nmX7 1 (by decide) q64 rfl rfl rfl (Nat.le_of_ble_eq_true rfl) dX7_copyFrom_51 (fun H locs hP hD hS => ?_)
      replace hP : va_P (dC, dI) vwCl (wX7 g a0 a1 ca x2 uf ++ wX7 g b0 b1 cb vn vf) H := hP
      replace hD : va_D A (wX7 g a0 a1 ca x2 uf ++ wX7 g b0 b1 cb vn vf) := hD
      cases h
      exact MU_v F hr hlocks (Nat.le_refl _) (Nat.le_refl _) hP hS dX7_copyFrom_54
    · replace h := it_f k3 h
      refine lv_aload_n F.1 F.2.1 dX7_copyFrom_31 rfl (lv_at hl 0 rfl) ?_
      refine gF (v := .ref a1) F hE hP 0 rfl rfl inX7 0 (by decide) q63 rfl dX7_copyFrom_32 ?_
      refine lv_iload_n F.1 F.2.1 dX7_copyFrom_35 rfl (lv_at hl 3 rfl) ?_
      refine lv_aload_n F.1 F.2.1 dX7_copyFrom_36 rfl (lv_at hl 1 rfl) ?_
      refine gF (v := .ref b1) F hE hP 2 rfl rfl inX7 0 (by decide) q63 rfl dX7_copyFrom_37 ?_
      refine lv_iload_n F.1 F.2.1 dX7_copyFrom_40 rfl (lv_at hl 3 rfl) ?_
      obtain ⟨k4, h⟩ := gd_ok h
      refine aLi (k := x3.toNatClampNeg) F hE hP 3 0 rfl rfl k4 rfl dX7_copyFrom_41 ?_
      obtain ⟨k5, h⟩ := gd_ok h
      refine aSi (k := x3.toNatClampNeg) F hE hP hD hS 1 0 rfl rfl k5 rfl dX7_copyFrom_42 (fun H locs hP hD hS => ?_)
      replace hP : va_P (dC, dI) vwCl (wX7 g a0 a1 ca un (upd uf x3.toNatClampNeg (vf x3.toNatClampNeg)) ++ wX7 g b0 b1 cb vn vf) H := hP
      replace hD : va_D A (wX7 g a0 a1 ca un (upd uf x3.toNatClampNeg (vf x3.toNatClampNeg)) ++ wX7 g b0 b1 cb vn vf) := hD
      refine lv_iinc (v := x3 + 1) (lv' := [(3, .int (x3 + 1)), (0, .ref a0), (1, .ref b0), (2, .int x2)]) F.1 F.2.1 dX7_copyFrom_43 hl (k := 3) rfl (by rfl) (by decide) rfl (fun ls hl => ?_)
      refine lv_goto (tgt := 26) F.1 F.2.1 dX7_copyFrom_46 (by decide) ?_
      exact ih (x3 + 1) (upd uf x3.toNatClampNeg (vf x3.toNatClampNeg)) h _ _ hP hD hS ls (lv_sub hl [1, 2, 3, 0] rfl)
set_option maxHeartbeats 4000000 in
set_option maxRecDepth 100000 in
theorem tX7_copyFrom (l : Launch) (dC : Nat → ClassId) (dI : Nat → Nat → Nat) (g : Nat → ClassId) (a0 a1 b0 b1 : Nat) (ca : Nat) (cb : Nat) (un : Int32) (uf : Nat → Int32) (vn : Int32) (vf : Nat → Int32) {r : Int32 × (Nat → Int32)} (h : fX7_copyFrom ca cb un uf vn vf = some r) : MU l yX7_copyFrom cX7_copyFrom 4 none 0 0 0 0 dC dI g [.ref a0, .ref b0] (wX7 g a0 a1 ca un uf ++ wX7 g b0 b1 cb vn vf) (wX7 g a0 a1 ca r.1 r.2 ++ wX7 g b0 b1 cb vn vf) none := by
  refine MU_of (by decide) (Nat.le_of_ble_eq_true rfl) ?_
  intro p e s m below meth c ls F hr hlocks hE hX hA hP hD hS hl
  generalize va_A (wX7 g a0 a1 ca un uf ++ wX7 g b0 b1 cb vn vf) s.heap.size = A at hA hD hS hX ⊢
  replace F : CF p m c cX7_copyFrom 4 s _ RX7 := F
  replace hl : lv_has ls 4 [(0, .ref a0), (1, .ref b0)] := hl
  rw [fX7_copyFrom] at h
  refine lv_aload_n F.1 F.2.1 dX7_copyFrom_0 rfl (lv_at hl 1 rfl) ?_
  refine gF (v := .int vn) F hE hP 2 rfl rfl inX7 1 (by decide) q64 rfl dX7_copyFrom_1 ?_
  refine lv_istore_n (lv' := [(2, .int vn), (0, .ref a0), (1, .ref b0)]) F.1 F.2.1 dX7_copyFrom_4 rfl hl (by decide) rfl (fun ls hl => ?_)
  refine lv_iload_n F.1 F.2.1 dX7_copyFrom_5 rfl (lv_at hl 0 rfl) ?_
  refine lv_aload_n F.1 F.2.1 dX7_copyFrom_6 rfl (lv_at hl 2 rfl) ?_
  refine gF (v := .ref b1) F hE hP 2 rfl rfl inX7 0 (by decide) q63 rfl dX7_copyFrom_7 ?_
  refine va_alen (v := nI cb) F.1 F.2.1 hE.1 hP 3 0 rfl rfl rfl dX7_copyFrom_10 ?_
  refine lv_icmp_gt (tgt := 23) F.1 F.2.1 dX7_copyFrom_11 (by decide) (fun k1 => ?_) (fun k1 => ?_)
  · replace h := it_t k1 h
    cases h
    exact MU_v F hr hlocks (Nat.le_refl _) (Nat.le_refl _) hP hS dX7_copyFrom_23
  · replace h := it_f k1 h
    refine lv_iload_n F.1 F.2.1 dX7_copyFrom_14 rfl (lv_at hl 0 rfl) ?_
    refine lv_aload_n F.1 F.2.1 dX7_copyFrom_15 rfl (lv_at hl 1 rfl) ?_
    refine gF (v := .ref a1) F hE hP 0 rfl rfl inX7 0 (by decide) q63 rfl dX7_copyFrom_16 ?_
    refine va_alen (v := nI ca) F.1 F.2.1 hE.1 hP 1 0 rfl rfl rfl dX7_copyFrom_19 ?_
    refine lv_icmp_le (tgt := 24) F.1 F.2.1 dX7_copyFrom_20 (by decide) (fun k2 => ?_) (fun k2 => ?_)
    · replace h := it_t k2 h
      refine lv_iconst (v := 0) F.1 F.2.1 dX7_copyFrom_24 (by decide) ?_
      refine lv_istore_n (lv' := [(3, .int 0), (2, .int vn), (0, .ref a0), (1, .ref b0)]) F.1 F.2.1 dX7_copyFrom_25 rfl hl (by decide) rfl (fun ls hl => ?_)
      exact tX7_copyFrom_L26 F hr hlocks hE hX hA vn un vn vf FU 0 uf h _ _ hP hD hS ls (lv_sub hl [2, 3, 1, 0] rfl)
    · replace h := it_f k2 h
      cases h
      exact MU_v F hr hlocks (Nat.le_refl _) (Nat.le_refl _) hP hS dX7_copyFrom_23
