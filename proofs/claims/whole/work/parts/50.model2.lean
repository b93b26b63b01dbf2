/-! WireCutterModel.spoolFor -/
def fX13_spoolFor_L4 (x1 : Int32) (uw : Nat → Int32) : Nat → Int32 → Int32 → Option (Int32)
  | 0, _, _ => none
  | k + 1, x2, x3 =>
    if (uw 0) ≤ x3 then
      some (x2)
    else
      (fX13_spoolAt uw x3 1).bind fun z2 =>
      (fX13_orderOf uw x1 1).bind fun z4 =>
      if z2 = z4 then
        (fX13_spoolAt uw x3 2).bind fun z7 =>
        (fX13_orderOf uw x1 2).bind fun z9 =>
        if z9 ≤ z7 then
          if x2 < 0 then
            fX13_spoolFor_L4 x1 uw k x3 (x3 + 1)
          else
            (fX13_isBetter uw x3 x2).bind fun z13 =>
            if z13 = 0 then
              fX13_spoolFor_L4 x1 uw k x2 (x3 + 1)
            else
              fX13_spoolFor_L4 x1 uw k x3 (x3 + 1)
        else
          fX13_spoolFor_L4 x1 uw k x2 (x3 + 1)
      else
        fX13_spoolFor_L4 x1 uw k x2 (x3 + 1)
def fX13_spoolFor (uw : Nat → Int32) (p1 : Int32) : Option (Int32) :=
  fX13_spoolFor_L4 p1 uw FU (-1) 0
theorem mbX13_spoolFor : MV yX13_spoolFor cX13_spoolFor 4 (some .int) 1 := ⟨⟨q1882, q16, by decide +kernel⟩, q1881, qs48⟩
set_option maxHeartbeats 4000000 in
set_option maxRecDepth 100000 in
theorem tX13_spoolFor_L4 {p : Program} {l : Launch} {e : Env} {s : State} {m : MethodId} {args : Array Value} {below : List Frame} {meth : Method} {c : Code} {dC : Nat → ClassId} {dI : Nat → Nat → Nat} {g : Nat → ClassId} {a0 a1 a2 a3 a4 a5 a6 a7 a8 : Nat} {r : Int32} (F : CF p m c cX13_spoolFor 4 s args RX13) (hr : meth.sig.returnType = (some .int)) (hlocks : meth.locks = false) (hE : EK dC dI g s) (hX : EXr g s) (x1 : Int32) (uth : Int32) (uch : Int32) (ufc : Int32) (usv : Int32) (ull : Int32) (ubl : Int32) (uba : Int32) (uea : Int32) (ufa : Int32) (uso : Int32) (udn : Int32) (uw : Nat → Int32) (uun : Nat → Int32) (usr : Nat → Int32) (ube : Nat → Int32) (ubs : Nat → Int32) (uln : Nat → Int32) (ubu : Nat → Int32) (unu : Nat → Int32) (hP : va_P (dC, dI) vwCl (wX13 g a0 a1 a2 a3 a4 a5 a6 a7 a8 uth uch ufc usv ull ubl uba uea ufa uso udn uw uun usr ube ubs uln ubu unu) s.heap) : ∀ (k : Nat) (x2 : Int32) (x3 : Int32), fX13_spoolFor_L4 x1 uw k x2 x3 = some r → ∀ (ls : Array Slot), lv_has ls 4 [(0, .ref a0), (1, .int x1), (2, .int x2), (3, .int x3)] → W p l e { frames := 2, cells := 0, slots := 0, locals := 45 } s m args below meth c s.heap [] 0 0 (MQ below (fun _ st o t => o = .returned (some (.int r)) ∧ t.heap = st.heap) args s 0 0 (fun _ => False)) (F0 m 4 ls []) := by
  intro k
  induction k with
  | zero =>
    intro x2 x3 h
    exact absurd h (by simp [fX13_spoolFor_L4])
  | succ k ih =>
    intro x2 x3 h ls hl
    rw [fX13_spoolFor_L4] at h
    refine lv_iload_n F.1 F.2.1 dX13_spoolFor_4 rfl (lv_at hl 3 rfl) ?_
    refine lv_aload_n F.1 F.2.1 dX13_spoolFor_5 rfl (lv_at hl 0 rfl) ?_
    refine gF (v := .ref a1) F hE hP 0 rfl rfl inX13 1 (by decide) q1685 rfl dX13_spoolFor_6 ?_
    refine lv_iconst (v := 0) F.1 F.2.1 dX13_spoolFor_9 (by decide) ?_
    refine aLi (k := 0) F hE hP 1 0 rfl rfl (by decide) (by decide) dX13_spoolFor_10 ?_
    refine lv_icmp_ge (tgt := 68) F.1 F.2.1 dX13_spoolFor_11 (by decide) (fun k1 => ?_) (fun k1 => ?_)
    · replace h := it_t k1 h
      refine lv_iload_n F.1 F.2.1 dX13_spoolFor_68 rfl (lv_at hl 2 rfl) ?_
      cases h
      exact RO_i F hr hlocks dX13_spoolFor_69
    · replace h := it_f k1 h
      refine lv_aload_n F.1 F.2.1 dX13_spoolFor_14 rfl (lv_at hl 0 rfl) ?_
      refine lv_iload_n F.1 F.2.1 dX13_spoolFor_15 rfl (lv_at hl 3 rfl) ?_
      refine lv_iconst (v := 1) F.1 F.2.1 dX13_spoolFor_16 (by decide) ?_
      obtain ⟨z2, k3, h⟩ := bd_ok h
      refine cRV (As := [.int x3, .int 1]) (rest := []) F hE hX va_S.rf (tX13_spoolAt l dC dI g a0 a1 a2 a3 a4 a5 a6 a7 a8 uth uch ufc usv ull ubl uba uea ufa uso udn uw uun usr ube ubs uln ubu unu x3 1 k3) mbX13_spoolAt q1788 ⟨(Nat.le_of_ble_eq_true rfl), (Nat.le_of_ble_eq_true rfl)⟩ ⟨Nat.zero_le _, Nat.zero_le _⟩ hP [0, 1, 2, 3, 4, 5, 6, 7, 8] rfl 0 rfl rfl rfl hl.1 rfl (Nat.le_of_ble_eq_true rfl) dX13_spoolFor_17 ?_
      refine lv_aload_n F.1 F.2.1 dX13_spoolFor_20 rfl (lv_at hl 0 rfl) ?_
      refine lv_iload_n F.1 F.2.1 dX13_spoolFor_21 rfl (lv_at hl 1 rfl) ?_
      refine lv_iconst (v := 1) F.1 F.2.1 dX13_spoolFor_22 (by decide) ?_
      obtain ⟨z4, k5, h⟩ := bd_ok h
      refine cRV (As := [.int x1, .int 1]) (rest := [.int z2]) F hE hX va_S.rf (tX13_orderOf l dC dI g a0 a1 a2 a3 a4 a5 a6 a7 a8 uth uch ufc usv ull ubl uba uea ufa uso udn uw uun usr ube ubs uln ubu unu x1 1 k5) mbX13_orderOf q1839 ⟨(Nat.le_of_ble_eq_true rfl), (Nat.le_of_ble_eq_true rfl)⟩ ⟨Nat.zero_le _, Nat.zero_le _⟩ hP [0, 1, 2, 3, 4, 5, 6, 7, 8] rfl 0 rfl rfl rfl hl.1 rfl (Nat.le_of_ble_eq_true rfl) dX13_spoolFor_23 ?_
      refine lv_icmp_ne (tgt := 62) F.1 F.2.1 dX13_spoolFor_26 (by decide) (fun k6 => ?_) (fun k6 => ?_)
      · replace h := it_f k6 h
        refine lv_iinc (v := x3 + 1) (lv' := [(3, .int (x3 + 1)), (0, .ref a0), (1, .int x1), (2, .int x2)]) F.1 F.2.1 dX13_spoolFor_62 hl (k := 3) rfl (by rfl) (by decide) rfl (fun ls hl => ?_)
        refine lv_goto (tgt := 4) F.1 F.2.1 dX13_spoolFor_65 (by decide) ?_
        exact ih x2 (x3 + 1) h ls (lv_sub hl [1, 2, 3, 0] rfl)
      · replace h := it_t k6 h
        refine lv_aload_n F.1 F.2.1 dX13_spoolFor_29 rfl (lv_at hl 0 rfl) ?_
        refine lv_iload_n F.1 F.2.1 dX13_spoolFor_30 rfl (lv_at hl 3 rfl) ?_
        refine lv_iconst (v := 2) F.1 F.2.1 dX13_spoolFor_31 (by decide) ?_
        obtain ⟨z7, k8, h⟩ := bd_ok h
        refine cRV (As := [.int x3, .int 2]) (rest := []) F hE hX va_S.rf (tX13_spoolAt l dC dI g a0 a1 a2 a3 a4 a5 a6 a7 a8 uth uch ufc usv ull ubl uba uea ufa uso udn uw uun usr ube ubs uln ubu unu x3 2 k8) mbX13_spoolAt q1788 ⟨(Nat.le_of_ble_eq_true rfl), (Nat.le_of_ble_eq_true rfl)⟩ ⟨Nat.zero_le _, Nat.zero_le _⟩ hP [0, 1, 2, 3, 4, 5, 6, 7, 8] rfl 0 rfl rfl rfl hl.1 rfl (Nat.le_of_ble_eq_true rfl) dX13_spoolFor_32 ?_
        refine lv_aload_n F.1 F.2.1 dX13_spoolFor_35 rfl (lv_at hl 0 rfl) ?_
        refine lv_iload_n F.1 F.2.1 dX13_spoolFor_36 rfl (lv_at hl 1 rfl) ?_
        refine lv_iconst (v := 2) F.1 F.2.1 dX13_spoolFor_37 (by decide) ?_
        obtain ⟨z9, k10, h⟩ := bd_ok h
        refine cRV (As := [.int x1, .int 2]) (rest := [.int z7]) F hE hX va_S.rf (tX13_orderOf l dC dI g a0 a1 a2 a3 a4 a5 a6 a7 a8 uth uch ufc usv ull ubl uba uea ufa uso udn uw uun usr ube ubs uln ubu unu x1 2 k10) mbX13_orderOf q1839 ⟨(Nat.le_of_ble_eq_true rfl), (Nat.le_of_ble_eq_true rfl)⟩ ⟨Nat.zero_le _, Nat.zero_le _⟩ hP [0, 1, 2, 3, 4, 5, 6, 7, 8] rfl 0 rfl rfl rfl hl.1 rfl (Nat.le_of_ble_eq_true rfl) dX13_spoolFor_38 ?_
        refine lv_icmp_ge (tgt := 47) F.1 F.2.1 dX13_spoolFor_41 (by decide) (fun k11 => ?_) (fun k11 => ?_)
        · replace h := it_t k11 h
          refine lv_iload_n F.1 F.2.1 dX13_spoolFor_47 rfl (lv_at hl 2 rfl) ?_
          refine lv_if_lt (tgt := 60) F.1 F.2.1 dX13_spoolFor_48 (by decide) (fun k12 => ?_) (fun k12 => ?_)
          · replace h := it_t k12 h
            refine lv_iload_n F.1 F.2.1 dX13_spoolFor_60 rfl (lv_at hl 3 rfl) ?_
            refine lv_istore_n (lv' := [(2, .int x3), (0, .ref a0), (1, .int x1), (3, .int x3)]) F.1 F.2.1 dX13_spoolFor_61 rfl hl (by decide) rfl (fun ls hl => ?_)
            refine lv_iinc (v := x3 + 1) (lv' := [(3, .int (x3 + 1)), (2, .int x3), (0, .ref a0), (1, .int x1)]) F.1 F.2.1 dX13_spoolFor_62 hl (k := 3) rfl (by rfl) (by decide) rfl (fun ls hl => ?_)
            refine lv_goto (tgt := 4) F.1 F.2.1 dX13_spoolFor_65 (by decide) ?_
            exact ih x3 (x3 + 1) h ls (lv_sub hl [2, 3, 1, 0] rfl)
          · replace h := it_f k12 h
            refine lv_aload_n F.1 F.2.1 dX13_spoolFor_51 rfl (lv_at hl 0 rfl) ?_
            refine lv_iload_n F.1 F.2.1 dX13_spoolFor_52 rfl (lv_at hl 3 rfl) ?_
            refine lv_iload_n F.1 F.2.1 dX13_spoolFor_53 rfl (lv_at hl 2 rfl) ?_
            obtain ⟨z13, k14, h⟩ := bd_ok h
            refine cRV (As := [.int x3, .int x2]) (rest := []) F hE hX va_S.rf (tX13_isBetter l dC dI g a0 a1 a2 a3 a4 a5 a6 a7 a8 uth uch ufc usv ull ubl uba uea ufa uso udn uw uun usr ube ubs uln ubu unu x3 x2 k14) mbX13_isBetter q1883 ⟨(Nat.le_of_ble_eq_true rfl), (Nat.le_of_ble_eq_true rfl)⟩ ⟨Nat.zero_le _, Nat.zero_le _⟩ hP [0, 1, 2, 3, 4, 5, 6, 7, 8] rfl 0 rfl rfl rfl hl.1 rfl (Nat.le_of_ble_eq_true rfl) dX13_spoolFor_54 ?_
            refine lv_if_eq (tgt := 62) F.1 F.2.1 dX13_spoolFor_57 (by decide) (fun k15 => ?_) (fun k15 => ?_)
            · replace h := it_t k15 h
              refine lv_iinc (v := x3 + 1) (lv' := [(3, .int (x3 + 1)), (0, .ref a0), (1, .int x1), (2, .int x2)]) F.1 F.2.1 dX13_spoolFor_62 hl (k := 3) rfl (by rfl) (by decide) rfl (fun ls hl => ?_)
              refine lv_goto (tgt := 4) F.1 F.2.1 dX13_spoolFor_65 (by decide) ?_
              exact ih x2 (x3 + 1) h ls (lv_sub hl [1, 2, 3, 0] rfl)
            · replace h := it_f k15 h
              refine lv_iload_n F.1 F.2.1 dX13_spoolFor_60 rfl (lv_at hl 3 rfl) ?_
              refine lv_istore_n (lv' := [(2, .int x3), (0, .ref a0), (1, .int x1), (3, .int x3)]) F.1 F.2.1 dX13_spoolFor_61 rfl hl (by decide) rfl (fun ls hl => ?_)
              refine lv_iinc (v := x3 + 1) (lv' := [(3, .int (x3 + 1)), (2, .int x3), (0, .ref a0), (1, .int x1)]) F.1 F.2.1 dX13_spoolFor_62 hl (k := 3) rfl (by rfl) (by decide) rfl (fun ls hl => ?_)
              refine lv_goto (tgt := 4) F.1 F.2.1 dX13_spoolFor_65 (by decide) ?_
              exact ih x3 (x3 + 1) h ls (lv_sub hl [2, 3, 1, 0] rfl)
        · replace h := it_f k11 h
          refine lv_goto (tgt := 62) F.1 F.2.1 dX13_spoolFor_44 (by decide) ?_
          refine lv_iinc (v := x3 + 1) (lv' := [(3, .int (x3 + 1)), (0, .ref a0), (1, .int x1), (2, .int x2)]) F.1 F.2.1 dX13_spoolFor_62 hl (k := 3) rfl (by rfl) (by decide) rfl (fun ls hl => ?_)
          refine lv_goto (tgt := 4) F.1 F.2.1 dX13_spoolFor_65 (by decide) ?_
          exact ih x2 (x3 + 1) h ls (lv_sub hl [1, 2, 3, 0] rfl)
set_option maxHeartbeats 4000000 in
set_option maxRecDepth 100000 in
theorem tX13_spoolFor (l : Launch) (dC : Nat → ClassId) (dI : Nat → Nat → Nat) (g : Nat → ClassId) (a0 a1 a2 a3 a4 a5 a6 a7 a8 : Nat) (uth : Int32) (uch : Int32) (ufc : Int32) (usv : Int32) (ull : Int32) (ubl : Int32) (uba : Int32) (uea : Int32) (ufa : Int32) (uso : Int32) (udn : Int32) (uw : Nat → Int32) (uun : Nat → Int32) (usr : Nat → Int32) (ube : Nat → Int32) (ubs : Nat → Int32) (uln : Nat → Int32) (ubu : Nat → Int32) (unu : Nat → Int32) (p1 : Int32) {r : Int32} (h : fX13_spoolFor uw p1 = some r) : RO l yX13_spoolFor cX13_spoolFor 4 (some .int) 2 45 dC dI g [.ref a0, .int p1] (wX13 g a0 a1 a2 a3 a4 a5 a6 a7 a8 uth uch ufc usv ull ubl uba uea ufa uso udn uw uun usr ube ubs uln ubu unu) (some (.int r)) := by
  refine RO_of (by decide) (Nat.le_of_ble_eq_true rfl) ?_
  intro p e s m below meth c ls F hr hlocks hE hX hP hl
  replace F : CF p m c cX13_spoolFor 4 s _ RX13 := F
  replace hl : lv_has ls 4 [(0, .ref a0), (1, .int p1)] := hl
  rw [fX13_spoolFor] at h
  refine lv_iconst (v := (-1)) F.1 F.2.1 dX13_spoolFor_0 (by decide) ?_
  refine lv_istore_n (lv' := [(2, .int (-1)), (0, .ref a0), (1, .int p1)]) F.1 F.2.1 dX13_spoolFor_1 rfl hl (by decide) rfl (fun ls hl => ?_)
  refine lv_iconst (v := 0) F.1 F.2.1 dX13_spoolFor_2 (by decide) ?_
  refine lv_istore_n (lv' := [(3, .int 0), (2, .int (-1)), (0, .ref a0), (1, .int p1)]) F.1 F.2.1 dX13_spoolFor_3 rfl hl (by decide) rfl (fun ls hl => ?_)
  exact tX13_spoolFor_L4 F hr hlocks hE hX p1 uth uch ufc usv ull ubl uba uea ufa uso udn uw uun usr ube ubs uln ubu unu hP FU (-1) 0 h ls (lv_sub hl [2, 3, 1, 0] rfl)
/-! WireCutterModel.isFillable -/
def fX13_isFillable (uw : Nat → Int32) (p1 : Int32) : Option (Int32) :=
  (fX13_scrapFor uw p1).bind fun z1 =>
  if 0 ≤ z1 then
    some (1)
  else
    (fX13_spoolFor uw p1).bind fun z4 =>
    if z4 < 0 then
      some (0)
    else
      some (1)
theorem mbX13_isFillable : MV yX13_isFillable cX13_isFillable 2 (some .boolean) 1 := ⟨⟨q1874, q16, by decide +kernel⟩, q1873, qs46⟩
set_option maxHeartbeats 4000000 in
set_option maxRecDepth 100000 in
theorem tX13_isFillable (l : Launch) (dC : Nat → ClassId) (dI : Nat → Nat → Nat) (g : Nat → ClassId) (a0 a1 a2 a3 a4 a5 a6 a7 a8 : Nat) (uth : Int32) (uch : Int32) (ufc : Int32) (usv : Int32) (ull : Int32) (ubl : Int32) (uba : Int32) (uea : Int32) (ufa : Int32) (uso : Int32) (udn : Int32) (uw : Nat → Int32) (uun : Nat → Int32) (usr : Nat → Int32) (ube : Nat → Int32) (ubs : Nat → Int32) (uln : Nat → Int32) (ubu : Nat → Int32) (unu : Nat → Int32) (p1 : Int32) {r : Int32} (h : fX13_isFillable uw p1 = some r) : RO l yX13_isFillable cX13_isFillable 2 (some .boolean) 3 68 dC dI g [.ref a0, .int p1] (wX13 g a0 a1 a2 a3 a4 a5 a6 a7 a8 uth uch ufc usv ull ubl uba uea ufa uso udn uw uun usr ube ubs uln ubu unu) (some (.int r)) := by
  refine RO_of (by decide) (Nat.le_of_ble_eq_true rfl) ?_
  intro p e s m below meth c ls F hr hlocks hE hX hP hl
  replace F : CF p m c cX13_isFillable 2 s _ RX13 := F
  replace hl : lv_has ls 2 [(0, .ref a0), (1, .int p1)] := hl
  rw [fX13_isFillable] at h
  refine lv_aload_n F.1 F.2.1 dX13_isFillable_0 rfl (lv_at hl 0 rfl) ?_
  refine lv_iload_n F.1 F.2.1 dX13_isFillable_1 rfl (lv_at hl 1 rfl) ?_
  obtain ⟨z1, k2, h⟩ := bd_ok h
  refine cRV (As := [.int p1]) (rest := []) F hE hX va_S.rf (tX13_scrapFor l dC dI g a0 a1 a2 a3 a4 a5 a6 a7 a8 uth uch ufc usv ull ubl uba uea ufa uso udn uw uun usr ube ubs uln ubu unu p1 k2) mbX13_scrapFor q1875 ⟨(Nat.le_of_ble_eq_true rfl), (Nat.le_of_ble_eq_true rfl)⟩ ⟨Nat.zero_le _, Nat.zero_le _⟩ hP [0, 1, 2, 3, 4, 5, 6, 7, 8] rfl 0 rfl rfl rfl hl.1 rfl (Nat.le_of_ble_eq_true rfl) dX13_isFillable_2 ?_
  refine lv_if_ge (tgt := 16) F.1 F.2.1 dX13_isFillable_5 (by decide) (fun k3 => ?_) (fun k3 => ?_)
  · replace h := it_t k3 h
    refine lv_iconst (v := 1) F.1 F.2.1 dX13_isFillable_16 (by decide) ?_
    refine lv_goto (tgt := 21) F.1 F.2.1 dX13_isFillable_17 (by decide) ?_
    cases h
    exact RO_z F hr hlocks rfl dX13_isFillable_21
  · replace h := it_f k3 h
    refine lv_aload_n F.1 F.2.1 dX13_isFillable_8 rfl (lv_at hl 0 rfl) ?_
    refine lv_iload_n F.1 F.2.1 dX13_isFillable_9 rfl (lv_at hl 1 rfl) ?_
    obtain ⟨z4, k5, h⟩ := bd_ok h
    refine cRV (As := [.int p1]) (rest := []) F hE hX va_S.rf (tX13_spoolFor l dC dI g a0 a1 a2 a3 a4 a5 a6 a7 a8 uth uch ufc usv ull ubl uba uea ufa uso udn uw uun usr ube ubs uln ubu unu p1 k5) mbX13_spoolFor q1879 ⟨(Nat.le_of_ble_eq_true rfl), (Nat.le_of_ble_eq_true rfl)⟩ ⟨Nat.zero_le _, Nat.zero_le _⟩ hP [0, 1, 2, 3, 4, 5, 6, 7, 8] rfl 0 rfl rfl rfl hl.1 rfl (Nat.le_of_ble_eq_true rfl) dX13_isFillable_10 ?_
    refine lv_if_lt (tgt := 20) F.1 F.2.1 dX13_isFillable_13 (by decide) (fun k6 => ?_) (fun k6 => ?_)
    · replace h := it_t k6 h
      refine lv_iconst (v := 0) F.1 F.2.1 dX13_isFillable_20 (by decide) ?_
      cases h
      exact RO_z F hr hlocks rfl dX13_isFillable_21
    · replace h := it_f k6 h
      refine lv_iconst (v := 1) F.1 F.2.1 dX13_isFillable_16 (by decide) ?_
      refine lv_goto (tgt := 21) F.1 F.2.1 dX13_isFillable_17 (by decide) ?_
      cases h
      exact RO_z F hr hlocks rfl dX13_isFillable_21
/-! WireCutterModel.leftOf -/
def fX13_leftOf (uw : Nat → Int32) (p1 : Int32) (p2 : Int32) (p3 : Int32) : Option (Int32 × (Nat → Int32)) :=
  if (uw 5) ≤ (p2 - p3) then
    gd (inR (15 + p1) 201) <|
    gd (inR (15 + p1) 201) <|
    gd (inR (21 + p1) 201) <|
    gd (inR (21 + p1) 201) <|
    some ((p2 - p3) - (uw 5), upd (upd uw ((15 + p1).toNatClampNeg) ((uw ((15 + p1).toNatClampNeg)) + p3)) ((21 + p1).toNatClampNeg) (((upd uw ((15 + p1).toNatClampNeg) ((uw ((15 + p1).toNatClampNeg)) + p3)) ((21 + p1).toNatClampNeg)) + (uw 5)))
  else
    gd (inR (15 + p1) 201) <|
    gd (inR (15 + p1) 201) <|
    gd (inR (21 + p1) 201) <|
    gd (inR (21 + p1) 201) <|
    some ((p2 - p3) - (p2 - p3), upd (upd uw ((15 + p1).toNatClampNeg) ((uw ((15 + p1).toNatClampNeg)) + p3)) ((21 + p1).toNatClampNeg) (((upd uw ((15 + p1).toNatClampNeg) ((uw ((15 + p1).toNatClampNeg)) + p3)) ((21 + p1).toNatClampNeg)) + (p2 - p3)))
theorem mbX13_leftOf : MV yX13_leftOf cX13_leftOf 6 (some .int) 3 := ⟨⟨q1898, q16, by decide +kernel⟩, q1897, qs52⟩
set_option maxHeartbeats 4000000 in
set_option maxRecDepth 100000 in
theorem tX13_leftOf (l : Launch) (dC : Nat → ClassId) (dI : Nat → Nat → Nat) (g : Nat → ClassId) (a0 a1 a2 a3 a4 a5 a6 a7 a8 : Nat) (uth : Int32) (uch : Int32) (ufc : Int32) (usv : Int32) (ull : Int32) (ubl : Int32) (uba : Int32) (uea : Int32) (ufa : Int32) (uso : Int32) (udn : Int32) (uw : Nat → Int32) (uun : Nat → Int32) (usr : Nat → Int32) (ube : Nat → Int32) (ubs : Nat → Int32) (uln : Nat → Int32) (ubu : Nat → Int32) (unu : Nat → Int32) (p1 : Int32) (p2 : Int32) (p3 : Int32) {r : Int32 × (Nat → Int32)} (h : fX13_leftOf uw p1 p2 p3 = some r) : MU l yX13_leftOf cX13_leftOf 6 (some .int) 0 0 0 0 dC dI g [.ref a0, .int p1, .int p2, .int p3] (wX13 g a0 a1 a2 a3 a4 a5 a6 a7 a8 uth uch ufc usv ull ubl uba uea ufa uso udn uw uun usr ube ubs uln ubu unu) (wX13 g a0 a1 a2 a3 a4 a5 a6 a7 a8 uth uch ufc usv ull ubl uba uea ufa uso udn r.2 uun usr ube ubs uln ubu unu) (some (.int r.1)) := by
  refine MU_of (by decide) (Nat.le_of_ble_eq_true rfl) ?_
  intro p e s m below meth c ls F hr hlocks hE hX hA hP hD hS hl
  generalize va_A (wX13 g a0 a1 a2 a3 a4 a5 a6 a7 a8 uth uch ufc usv ull ubl uba uea ufa uso udn uw uun usr ube ubs uln ubu unu) s.heap.size = A at hA hD hS hX ⊢
  replace F : CF p m c cX13_leftOf 6 s _ RX13 := F
  replace hl : lv_has ls 6 [(0, .ref a0), (1, .int p1), (2, .int p2), (3, .int p3)] := hl
  rw [fX13_leftOf] at h
  refine lv_iload_n F.1 F.2.1 dX13_leftOf_0 rfl (lv_at hl 2 rfl) ?_
  refine lv_iload_n F.1 F.2.1 dX13_leftOf_1 rfl (lv_at hl 3 rfl) ?_
  refine lv_isub F.1 F.2.1 dX13_leftOf_2 ?_
  refine lv_istore (lv' := [(4, .int (p2 - p3)), (0, .ref a0), (1, .int p1), (2, .int p2), (3, .int p3)]) F.1 F.2.1 dX13_leftOf_3 hl (by decide) rfl (fun ls hl => ?_)
  refine lv_iload F.1 F.2.1 dX13_leftOf_5 (lv_at hl 0 rfl) ?_
  refine lv_aload_n F.1 F.2.1 dX13_leftOf_7 rfl (lv_at hl 1 rfl) ?_
  refine gF (v := .ref a1) F hE hP 0 rfl rfl inX13 1 (by decide) q1685 rfl dX13_leftOf_8 ?_
  refine lv_iconst (v := 5) F.1 F.2.1 dX13_leftOf_11 (by decide) ?_
  refine aLi (k := 5) F hE hP 1 0 rfl rfl (by decide) (by decide) dX13_leftOf_12 ?_
  refine lv_icmp_ge (tgt := 21) F.1 F.2.1 dX13_leftOf_13 (by decide) (fun k1 => ?_) (fun k1 => ?_)
  · replace h := it_t k1 h
    refine lv_aload_n F.1 F.2.1 dX13_leftOf_21 rfl (lv_at hl 1 rfl) ?_
    refine gF (v := .ref a1) F hE hP 0 rfl rfl inX13 1 (by decide) q1685 rfl dX13_leftOf_22 ?_
    refine lv_iconst (v := 5) F.1 F.2.1 dX13_leftOf_25 (by decide) ?_
    refine aLi (k := 5) F hE hP 1 0 rfl rfl (by decide) (by decide) dX13_leftOf_26 ?_
    refine lv_istore (lv' := [(5, .int (uw 5)), (4, .int (p2 - p3)), (0, .ref a0), (1, .int p1), (2, .int p2), (3, .int p3)]) F.1 F.2.1 dX13_leftOf_27 hl (by decide) rfl (fun ls hl => ?_)
    refine lv_aload_n F.1 F.2.1 dX13_leftOf_29 rfl (lv_at hl 2 rfl) ?_
    refine gF (v := .ref a1) F hE hP 0 rfl rfl inX13 1 (by decide) q1685 rfl dX13_leftOf_30 ?_
    refine lv_bipush (v := 15) F.1 F.2.1 dX13_leftOf_33 (by decide) ?_
    refine lv_iload_n F.1 F.2.1 dX13_leftOf_35 rfl (lv_at hl 3 rfl) ?_
    refine lv_iadd F.1 F.2.1 dX13_leftOf_36 ?_
    refine lv_dup2_11 F.1 F.2.1 dX13_leftOf_37 rfl rfl ?_
    obtain ⟨k2, h⟩ := gd_ok h
    refine aLi (k := (15 + p1).toNatClampNeg) F hE hP 1 0 rfl rfl k2 rfl dX13_leftOf_38 ?_
    refine lv_iload_n F.1 F.2.1 dX13_leftOf_39 rfl (lv_at hl 5 rfl) ?_
    refine lv_iadd F.1 F.2.1 dX13_leftOf_40 ?_
    obtain ⟨k3, h⟩ := gd_ok h
    refine aSi (k := (15 + p1).toNatClampNeg) F hE hP hD hS 1 0 rfl rfl k3 rfl dX13_leftOf_41 (fun H locs hP hD hS => ?_)
    replace hP : va_P (dC, dI) vwCl (wX13 g a0 a1 a2 a3 a4 a5 a6 a7 a8 uth uch ufc usv ull ubl uba uea ufa uso udn (upd uw ((15 + p1).toNatClampNeg) ((uw ((15 + p1).toNatClampNeg)) + p3)) uun usr ube ubs uln ubu unu) H := hP
    replace hD : va_D A (wX13 g a0 a1 a2 a3 a4 a5 a6 a7 a8 uth uch ufc usv ull ubl uba uea ufa uso udn (upd uw ((15 + p1).toNatClampNeg) ((uw ((15 + p1).toNatClampNeg)) + p3)) uun usr ube ubs uln ubu unu) := hD
    refine lv_aload_n F.1 F.2.1 dX13_leftOf_42 rfl (lv_at hl 2 rfl) ?_
    refine gF (v := .ref a1) F hE hP 0 rfl rfl inX13 1 (by decide) q1685 rfl dX13_leftOf_43 ?_
    refine lv_bipush (v := 21) F.1 F.2.1 dX13_leftOf_46 (by decide) ?_
    refine lv_iload_n F.1 F.2.1 dX13_leftOf_48 rfl (lv_at hl 3 rfl) ?_
    refine lv_iadd F.1 F.2.1 dX13_leftOf_49 ?_
    refine lv_dup2_11 F.1 F.2.1 dX13_leftOf_50 rfl rfl ?_
    obtain ⟨k4, h⟩ := gd_ok h
    refine aLi (k := (21 + p1).toNatClampNeg) F hE hP 1 0 rfl rfl k4 rfl dX13_leftOf_51 ?_
    refine lv_iload F.1 F.2.1 dX13_leftOf_52 (lv_at hl 0 rfl) ?_
    refine lv_iadd F.1 F.2.1 dX13_leftOf_54 ?_
    obtain ⟨k5, h⟩ := gd_ok h
    refine aSi (k := (21 + p1).toNatClampNeg) F hE hP hD hS 1 0 rfl rfl k5 rfl dX13_leftOf_55 (fun H locs hP hD hS => ?_)
    replace hP : va_P (dC, dI) vwCl (wX13 g a0 a1 a2 a3 a4 a5 a6 a7 a8 uth uch ufc usv ull ubl uba uea ufa uso udn (upd (upd uw ((15 + p1).toNatClampNeg) ((uw ((15 + p1).toNatClampNeg)) + p3)) ((21 + p1).toNatClampNeg) (((upd uw ((15 + p1).toNatClampNeg) ((uw ((15 + p1).toNatClampNeg)) + p3)) ((21 + p1).toNatClampNeg)) + (uw 5))) uun usr ube ubs uln ubu unu) H := hP
    replace hD : va_D A (wX13 g a0 a1 a2 a3 a4 a5 a6 a7 a8 uth uch ufc usv ull ubl uba uea ufa uso udn (upd (upd uw ((15 + p1).toNatClampNeg) ((uw ((15 + p1).toNatClampNeg)) + p3)) ((21 + p1).toNatClampNeg) (((upd uw ((15 + p1).toNatClampNeg) ((uw ((15 + p1).toNatClampNeg)) + p3)) ((21 + p1).toNatClampNeg)) + (uw 5))) uun usr ube ubs uln ubu unu) := hD
    refine lv_iload F.1 F.2.1 dX13_leftOf_56 (lv_at hl 1 rfl) ?_
    refine lv_iload F.1 F.2.1 dX13_leftOf_58 (lv_at hl 0 rfl) ?_
    refine lv_isub F.1 F.2.1 dX13_leftOf_60 ?_
    cases h
    exact MU_i F hr hlocks (Nat.le_refl _) (Nat.le_refl _) hP hS dX13_leftOf_61
  · replace h := it_f k1 h
    refine lv_iload F.1 F.2.1 dX13_leftOf_16 (lv_at hl 0 rfl) ?_
    refine lv_goto (tgt := 27) F.1 F.2.1 dX13_leftOf_18 (by decide) ?_
    refine lv_istore (lv' := [(5, .int (p2 - p3)), (4, .int (p2 - p3)), (0, .ref a0), (1, .int p1), (2, .int p2), (3, .int p3)]) F.1 F.2.1 dX13_leftOf_27 hl (by decide) rfl (fun ls hl => ?_)
    refine lv_aload_n F.1 F.2.1 dX13_leftOf_29 rfl (lv_at hl 2 rfl) ?_
    refine gF (v := .ref a1) F hE hP 0 rfl rfl inX13 1 (by decide) q1685 rfl dX13_leftOf_30 ?_
    refine lv_bipush (v := 15) F.1 F.2.1 dX13_leftOf_33 (by decide) ?_
    refine lv_iload_n F.1 F.2.1 dX13_leftOf_35 rfl (lv_at hl 3 rfl) ?_
    refine lv_iadd F.1 F.2.1 dX13_leftOf_36 ?_
    refine lv_dup2_11 F.1 F.2.1 dX13_leftOf_37 rfl rfl ?_
    obtain ⟨k6, h⟩ := gd_ok h
    refine aLi (k := (15 + p1).toNatClampNeg) F hE hP 1 0 rfl rfl k6 rfl dX13_leftOf_38 ?_
    refine lv_iload_n F.1 F.2.1 dX13_leftOf_39 rfl (lv_at hl 5 rfl) ?_
    refine lv_iadd F.1 F.2.1 dX13_leftOf_40 ?_
    obtain ⟨k7, h⟩ := gd_ok h
    refine aSi (k := (15 + p1).toNatClampNeg) F hE hP hD hS 1 0 rfl rfl k7 rfl dX13_leftOf_41 (fun H locs hP hD hS => ?_)
    replace hP : va_P (dC, dI) vwCl (wX13 g a0 a1 a2 a3 a4 a5 a6 a7 a8 uth uch ufc usv ull ubl uba uea ufa uso udn (upd uw ((15 + p1).toNatClampNeg) ((uw ((15 + p1).toNatClampNeg)) + p3)) uun usr ube ubs uln ubu unu) H := hP
    replace hD : va_D A (wX13 g a0 a1 a2 a3 a4 a5 a6 a7 a8 uth uch ufc usv ull ubl uba uea ufa uso udn (upd uw ((15 + p1).toNatClampNeg) ((uw ((15 + p1).toNatClampNeg)) + p3)) uun usr ube ubs uln ubu unu) := hD
    refine lv_aload_n F.1 F.2.1 dX13_leftOf_42 rfl (lv_at hl 2 rfl) ?_
    refine gF (v := .ref a1) F hE hP 0 rfl rfl inX13 1 (by decide) q1685 rfl dX13_leftOf_43 ?_
    refine lv_bipush (v := 21) F.1 F.2.1 dX13_leftOf_46 (by decide) ?_
    refine lv_iload_n F.1 F.2.1 dX13_leftOf_48 rfl (lv_at hl 3 rfl) ?_
    refine lv_iadd F.1 F.2.1 dX13_leftOf_49 ?_
    refine lv_dup2_11 F.1 F.2.1 dX13_leftOf_50 rfl rfl ?_
    obtain ⟨k8, h⟩ := gd_ok h
    refine aLi (k := (21 + p1).toNatClampNeg) F hE hP 1 0 rfl rfl k8 rfl dX13_leftOf_51 ?_
    refine lv_iload F.1 F.2.1 dX13_leftOf_52 (lv_at hl 0 rfl) ?_
    refine lv_iadd F.1 F.2.1 dX13_leftOf_54 ?_
    obtain ⟨k9, h⟩ := gd_ok h
    refine aSi (k := (21 + p1).toNatClampNeg) F hE hP hD hS 1 0 rfl rfl k9 rfl dX13_leftOf_55 (fun H locs hP hD hS => ?_)
    replace hP : va_P (dC, dI) vwCl (wX13 g a0 a1 a2 a3 a4 a5 a6 a7 a8 uth uch ufc usv ull ubl uba uea ufa uso udn (upd (upd uw ((15 + p1).toNatClampNeg) ((uw ((15 + p1).toNatClampNeg)) + p3)) ((21 + p1).toNatClampNeg) (((upd uw ((15 + p1).toNatClampNeg) ((uw ((15 + p1).toNatClampNeg)) + p3)) ((21 + p1).toNatClampNeg)) + (p2 - p3))) uun usr ube ubs uln ubu unu) H := hP
    replace hD : va_D A (wX13 g a0 a1 a2 a3 a4 a5 a6 a7 a8 uth uch ufc usv ull ubl uba uea ufa uso udn (upd (upd uw ((15 + p1).toNatClampNeg) ((uw ((15 + p1).toNatClampNeg)) + p3)) ((21 + p1).toNatClampNeg) (((upd uw ((15 + p1).toNatClampNeg) ((uw ((15 + p1).toNatClampNeg)) + p3)) ((21 + p1).toNatClampNeg)) + (p2 - p3))) uun usr ube ubs uln ubu unu) := hD
    refine lv_iload F.1 F.2.1 dX13_leftOf_56 (lv_at hl 1 rfl) ?_
    refine lv_iload F.1 F.2.1 dX13_leftOf_58 (lv_at hl 0 rfl) ?_
    refine lv_isub F.1 F.2.1 dX13_leftOf_60 ?_
    cases h
    exact MU_i F hr hlocks (Nat.le_refl _) (Nat.le_refl _) hP hS dX13_leftOf_61
/-! WireCutterModel.cutsScrap -/
def fX13_cutsScrap (uw : Nat → Int32) (p1 : Int32) (p2 : Int32) : Option ((Nat → Int32)) :=
  (fX13_scrapAt uw p1 0).bind fun z1 =>
  (fX13_scrapAt uw p1 1).bind fun z3 =>
  (fX13_leftOf uw z1 z3 p2).bind fun z5 =>
  gd (inR ((121 + (2 * p1)) + 1) 201) <|
  if z5.1 = 0 then
    (fX13_removesScrap (upd z5.2 (((121 + (2 * p1)) + 1).toNatClampNeg) z5.1) p1).bind fun z9 =>
    some (z9)
  else
    some (upd z5.2 (((121 + (2 * p1)) + 1).toNatClampNeg) z5.1)
theorem mbX13_cutsScrap : MV yX13_cutsScrap cX13_cutsScrap 4 none 2 := ⟨⟨q1894, q16, by decide +kernel⟩, q1893, qs51⟩
set_option maxHeartbeats 4000000 in
set_option maxRecDepth 100000 in
theorem tX13_cutsScrap (l : Launch) (dC : Nat → ClassId) (dI : Nat → Nat → Nat) (g : Nat → ClassId) (a0 a1 a2 a3 a4 a5 a6 a7 a8 : Nat) (uth : Int32) (uch : Int32) (ufc : Int32) (usv : Int32) (ull : Int32) (ubl : Int32) (uba : Int32) (uea : Int32) (ufa : Int32) (uso : Int32) (udn : Int32) (uw : Nat → Int32) (uun : Nat → Int32) (usr : Nat → Int32) (ube : Nat → Int32) (ubs : Nat → Int32) (uln : Nat → Int32) (ubu : Nat → Int32) (unu : Nat → Int32) (p1 : Int32) (p2 : Int32) {r : (Nat → Int32)} (h : fX13_cutsScrap uw p1 p2 = some r) : MU l yX13_cutsScrap cX13_cutsScrap 4 none 2 45 0 0 dC dI g [.ref a0, .int p1, .int p2] (wX13 g a0 a1 a2 a3 a4 a5 a6 a7 a8 uth uch ufc usv ull ubl uba uea ufa uso udn uw uun usr ube ubs uln ubu unu) (wX13 g a0 a1 a2 a3 a4 a5 a6 a7 a8 uth uch ufc usv ull ubl uba uea ufa uso udn r uun usr ube ubs uln ubu unu) none := by
  refine MU_of (by decide) (Nat.le_of_ble_eq_true rfl) ?_
  intro p e s m below meth c ls F hr hlocks hE hX hA hP hD hS hl
  generalize va_A (wX13 g a0 a1 a2 a3 a4 a5 a6 a7 a8 uth uch ufc usv ull ubl uba uea ufa uso udn uw uun usr ube ubs uln ubu unu) s.heap.size = A at hA hD hS hX ⊢
  replace F : CF p m c cX13_cutsScrap 4 s _ RX13 := F
  replace hl : lv_has ls 4 [(0, .ref a0), (1, .int p1), (2, .int p2)] := hl
  rw [fX13_cutsScrap] at h
  refine lv_aload_n F.1 F.2.1 dX13_cutsScrap_0 rfl (lv_at hl 0 rfl) ?_
  refine lv_aload_n F.1 F.2.1 dX13_cutsScrap_1 rfl (lv_at hl 0 rfl) ?_
  refine lv_iload_n F.1 F.2.1 dX13_cutsScrap_2 rfl (lv_at hl 1 rfl) ?_
  refine lv_iconst (v := 0) F.1 F.2.1 dX13_cutsScrap_3 (by decide) ?_
  obtain ⟨z1, k2, h⟩ := bd_ok h
  refine cRV (As := [.int p1, .int 0]) (rest := [.ref a0]) F hE hX hS (tX13_scrapAt l dC dI g a0 a1 a2 a3 a4 a5 a6 a7 a8 uth uch ufc usv ull ubl uba uea ufa uso udn uw uun usr ube ubs uln ubu unu p1 0 k2) mbX13_scrapAt q1819 ⟨(Nat.le_of_ble_eq_true rfl), (Nat.le_of_ble_eq_true rfl)⟩ ⟨Nat.zero_le _, Nat.zero_le _⟩ hP [0, 1, 2, 3, 4, 5, 6, 7, 8] rfl 0 rfl rfl rfl hl.1 rfl (Nat.le_of_ble_eq_true rfl) dX13_cutsScrap_4 ?_
  refine lv_aload_n F.1 F.2.1 dX13_cutsScrap_7 rfl (lv_at hl 0 rfl) ?_
  refine lv_iload_n F.1 F.2.1 dX13_cutsScrap_8 rfl (lv_at hl 1 rfl) ?_
  refine lv_iconst (v := 1) F.1 F.2.1 dX13_cutsScrap_9 (by decide) ?_
  obtain ⟨z3, k4, h⟩ := bd_ok h
  refine cRV (As := [.int p1, .int 1]) (rest := [.int z1, .ref a0]) F hE hX hS (tX13_scrapAt l dC dI g a0 a1 a2 a3 a4 a5 a6 a7 a8 uth uch ufc usv ull ubl uba uea ufa uso udn uw uun usr ube ubs uln ubu unu p1 1 k4) mbX13_scrapAt q1819 ⟨(Nat.le_of_ble_eq_true rfl), (Nat.le_of_ble_eq_true rfl)⟩ ⟨Nat.zero_le _, Nat.zero_le _⟩ hP [0, 1, 2, 3, 4, 5, 6, 7, 8] rfl 0 rfl rfl rfl hl.1 rfl (Nat.le_of_ble_eq_true rfl) dX13_cutsScrap_10 ?_
  refine lv_iload_n F.1 F.2.1 dX13_cutsScrap_13 rfl (lv_at hl 2 rfl) ?_
  obtain ⟨z5, k6, h⟩ := bd_ok h
  refine cMV (As := [.int z1, .int z3, .int p2]) (rest := []) (ws' := wX13 g a0 a1 a2 a3 a4 a5 a6 a7 a8 uth uch ufc usv ull ubl uba uea ufa uso udn z5.2 uun usr ube ubs uln ubu unu) F hE hX (tX13_leftOf l dC dI g a0 a1 a2 a3 a4 a5 a6 a7 a8 uth uch ufc usv ull ubl uba uea ufa uso udn uw uun usr ube ubs uln ubu unu z1 z3 p2 k6) mbX13_leftOf q1895 ⟨(Nat.le_of_ble_eq_true rfl), (Nat.le_of_ble_eq_true rfl)⟩ ⟨(Nat.le_of_ble_eq_true rfl), (Nat.le_of_ble_eq_true rfl)⟩ hP hD hS hA [0, 1, 2, 3, 4, 5, 6, 7, 8] rfl rfl rfl rfl rfl 0 rfl rfl rfl hl.1 rfl (Nat.le_of_ble_eq_true rfl) dX13_cutsScrap_14 (fun H locs hP hD hS => ?_)
  refine lv_istore_n (lv' := [(3, .int z5.1), (0, .ref a0), (1, .int p1), (2, .int p2)]) F.1 F.2.1 dX13_cutsScrap_17 rfl hl (by decide) rfl (fun ls hl => ?_)
  refine lv_aload_n F.1 F.2.1 dX13_cutsScrap_18 rfl (lv_at hl 1 rfl) ?_
  refine gF (v := .ref a1) F hE hP 0 rfl rfl inX13 1 (by decide) q1685 rfl dX13_cutsScrap_19 ?_
  refine lv_bipush (v := 121) F.1 F.2.1 dX13_cutsScrap_22 (by decide) ?_
  refine lv_iconst (v := 2) F.1 F.2.1 dX13_cutsScrap_24 (by decide) ?_
  refine lv_iload_n F.1 F.2.1 dX13_cutsScrap_25 rfl (lv_at hl 2 rfl) ?_
  refine lv_imul F.1 F.2.1 dX13_cutsScrap_26 ?_
  refine lv_iadd F.1 F.2.1 dX13_cutsScrap_27 ?_
  refine lv_iconst (v := 1) F.1 F.2.1 dX13_cutsScrap_28 (by decide) ?_
  refine lv_iadd F.1 F.2.1 dX13_cutsScrap_29 ?_
  refine lv_iload_n F.1 F.2.1 dX13_cutsScrap_30 rfl (lv_at hl 0 rfl) ?_
  obtain ⟨k7, h⟩ := gd_ok h
  refine aSi (k := ((121 + (2 * p1)) + 1).toNatClampNeg) F hE hP hD hS 1 0 rfl rfl k7 rfl dX13_cutsScrap_31 (fun H locs hP hD hS => ?_)
  replace hP : va_P (dC, dI) vwCl (wX13 g a0 a1 a2 a3 a4 a5 a6 a7 a8 uth uch ufc usv ull ubl uba uea ufa uso udn (upd z5.2 (((121 + (2 * p1)) + 1).toNatClampNeg) z5.1) uun usr ube ubs uln ubu unu) H := hP
  replace hD : va_D A (wX13 g a0 a1 a2 a3 a4 a5 a6 a7 a8 uth uch ufc usv ull ubl uba uea ufa uso udn (upd z5.2 (((121 + (2 * p1)) + 1).toNatClampNeg) z5.1) uun usr ube ubs uln ubu unu) := hD
  refine lv_iload_n F.1 F.2.1 dX13_cutsScrap_32 rfl (lv_at hl 0 rfl) ?_
  refine lv_if_ne (tgt := 41) F.1 F.2.1 dX13_cutsScrap_33 (by decide) (fun k8 => ?_) (fun k8 => ?_)
  · replace h := it_f k8 h
    cases h
    exact MU_v F hr hlocks (Nat.le_refl _) (Nat.le_refl _) hP hS dX13_cutsScrap_41
  · replace h := it_t k8 h
    refine lv_aload_n F.1 F.2.1 dX13_cutsScrap_36 rfl (lv_at hl 1 rfl) ?_
    refine lv_iload_n F.1 F.2.1 dX13_cutsScrap_37 rfl (lv_at hl 2 rfl) ?_
    obtain ⟨z9, k10, h⟩ := bd_ok h
    refine cMV (As := [.int p1]) (rest := []) (ws' := wX13 g a0 a1 a2 a3 a4 a5 a6 a7 a8 uth uch ufc usv ull ubl uba uea ufa uso udn z9 uun usr ube ubs uln ubu unu) F hE hX (tX13_removesScrap l dC dI g a0 a1 a2 a3 a4 a5 a6 a7 a8 uth uch ufc usv ull ubl uba uea ufa uso udn (upd z5.2 (((121 + (2 * p1)) + 1).toNatClampNeg) z5.1) uun usr ube ubs uln ubu unu p1 k10) mbX13_removesScrap q1823 ⟨(Nat.le_of_ble_eq_true rfl), (Nat.le_of_ble_eq_true rfl)⟩ ⟨(Nat.le_of_ble_eq_true rfl), (Nat.le_of_ble_eq_true rfl)⟩ hP hD hS hA [0, 1, 2, 3, 4, 5, 6, 7, 8] rfl rfl rfl rfl rfl 0 rfl rfl rfl hl.1 rfl (Nat.le_of_ble_eq_true rfl) dX13_cutsScrap_38 (fun H locs hP hD hS => ?_)
    cases h
    exact MU_v F hr hlocks (Nat.le_refl _) (Nat.le_refl _) hP hS dX13_cutsScrap_41
/-! WireCutterModel.cutsSpool -/
def fX13_cutsSpool (uw : Nat → Int32) (p1 : Int32) (p2 : Int32) : Option ((Nat → Int32)) :=
  (fX13_spoolAt uw p1 1).bind fun z1 =>
  (fX13_spoolAt uw p1 2).bind fun z3 =>
  (fX13_leftOf uw z1 z3 p2).bind fun z5 =>
  gd (inR ((33 + (4 * p1)) + 2) 201) <|
  gd (inR ((33 + (4 * p1)) + 3) 201) <|
  gd (inR ((33 + (4 * p1)) + 3) 201) <|
  if z5.1 < ((upd (upd z5.2 (((33 + (4 * p1)) + 2).toNatClampNeg) z5.1) (((33 + (4 * p1)) + 3).toNatClampNeg) (((upd z5.2 (((33 + (4 * p1)) + 2).toNatClampNeg) z5.1) (((33 + (4 * p1)) + 3).toNatClampNeg)) + 1)) 6) then
    (fX13_removesSpool (upd (upd z5.2 (((33 + (4 * p1)) + 2).toNatClampNeg) z5.1) (((33 + (4 * p1)) + 3).toNatClampNeg) (((upd z5.2 (((33 + (4 * p1)) + 2).toNatClampNeg) z5.1) (((33 + (4 * p1)) + 3).toNatClampNeg)) + 1)) p1).bind fun z11 =>
    if z5.1 ≤ 0 then
      some (z11)
    else
      (fX13_leavesScrap z11 z1 z5.1).bind fun z14 =>
      some (z14)
  else
    some (upd (upd z5.2 (((33 + (4 * p1)) + 2).toNatClampNeg) z5.1) (((33 + (4 * p1)) + 3).toNatClampNeg) (((upd z5.2 (((33 + (4 * p1)) + 2).toNatClampNeg) z5.1) (((33 + (4 * p1)) + 3).toNatClampNeg)) + 1))
theorem mbX13_cutsSpool : MV yX13_cutsSpool cX13_cutsSpool 5 none 2 := ⟨⟨q1902, q16, by decide +kernel⟩, q1901, qs53⟩
set_option maxHeartbeats 4000000 in
set_option maxRecDepth 100000 in
theorem tX13_cutsSpool (l : Launch) (dC : Nat → ClassId) (dI : Nat → Nat → Nat) (g : Nat → ClassId) (a0 a1 a2 a3 a4 a5 a6 a7 a8 : Nat) (uth : Int32) (uch : Int32) (ufc : Int32) (usv : Int32) (ull : Int32) (ubl : Int32) (uba : Int32) (uea : Int32) (ufa : Int32) (uso : Int32) (udn : Int32) (uw : Nat → Int32) (uun : Nat → Int32) (usr : Nat → Int32) (ube : Nat → Int32) (ubs : Nat → Int32) (uln : Nat → Int32) (ubu : Nat → Int32) (unu : Nat → Int32) (p1 : Int32) (p2 : Int32) {r : (Nat → Int32)} (h : fX13_cutsSpool uw p1 p2 = some r) : MU l yX13_cutsSpool cX13_cutsSpool 5 none 2 45 0 0 dC dI g [.ref a0, .int p1, .int p2] (wX13 g a0 a1 a2 a3 a4 a5 a6 a7 a8 uth uch ufc usv ull ubl uba uea ufa uso udn uw uun usr ube ubs uln ubu unu) (wX13 g a0 a1 a2 a3 a4 a5 a6 a7 a8 uth uch ufc usv ull ubl uba uea ufa uso udn r uun usr ube ubs uln ubu unu) none := by
  refine MU_of (by decide) (Nat.le_of_ble_eq_true rfl) ?_
  intro p e s m below meth c ls F hr hlocks hE hX hA hP hD hS hl
  generalize va_A (wX13 g a0 a1 a2 a3 a4 a5 a6 a7 a8 uth uch ufc usv ull ubl uba uea ufa uso udn uw uun usr ube ubs uln ubu unu) s.heap.size = A at hA hD hS hX ⊢
  replace F : CF p m c cX13_cutsSpool 5 s _ RX13 := F
  replace hl : lv_has ls 5 [(0, .ref a0), (1, .int p1), (2, .int p2)] := hl
  rw [fX13_cutsSpool] at h
  refine lv_aload_n F.1 F.2.1 dX13_cutsSpool_0 rfl (lv_at hl 0 rfl) ?_
  refine lv_iload_n F.1 F.2.1 dX13_cutsSpool_1 rfl (lv_at hl 1 rfl) ?_
  refine lv_iconst (v := 1) F.1 F.2.1 dX13_cutsSpool_2 (by decide) ?_
  obtain ⟨z1, k2, h⟩ := bd_ok h
  refine cRV (As := [.int p1, .int 1]) (rest := []) F hE hX hS (tX13_spoolAt l dC dI g a0 a1 a2 a3 a4 a5 a6 a7 a8 uth uch ufc usv ull ubl uba uea ufa uso udn uw uun usr ube ubs uln ubu unu p1 1 k2) mbX13_spoolAt q1788 ⟨(Nat.le_of_ble_eq_true rfl), (Nat.le_of_ble_eq_true rfl)⟩ ⟨Nat.zero_le _, Nat.zero_le _⟩ hP [0, 1, 2, 3, 4, 5, 6, 7, 8] rfl 0 rfl rfl rfl hl.1 rfl (Nat.le_of_ble_eq_true rfl) dX13_cutsSpool_3 ?_
  refine lv_istore_n (lv' := [(3, .int z1), (0, .ref a0), (1, .int p1), (2, .int p2)]) F.1 F.2.1 dX13_cutsSpool_6 rfl hl (by decide) rfl (fun ls hl => ?_)
  refine lv_aload_n F.1 F.2.1 dX13_cutsSpool_7 rfl (lv_at hl 1 rfl) ?_
  refine lv_iload_n F.1 F.2.1 dX13_cutsSpool_8 rfl (lv_at hl 0 rfl) ?_
  refine lv_aload_n F.1 F.2.1 dX13_cutsSpool_9 rfl (lv_at hl 1 rfl) ?_
  refine lv_iload_n F.1 F.2.1 dX13_cutsSpool_10 rfl (lv_at hl 2 rfl) ?_
  refine lv_iconst (v := 2) F.1 F.2.1 dX13_cutsSpool_11 (by decide) ?_
  obtain ⟨z3, k4, h⟩ := bd_ok h
  refine cRV (As := [.int p1, .int 2]) (rest := [.int z1, .ref a0]) F hE hX hS (tX13_spoolAt l dC dI g a0 a1 a2 a3 a4 a5 a6 a7 a8 uth uch ufc usv ull ubl uba uea ufa uso udn uw uun usr ube ubs uln ubu unu p1 2 k4) mbX13_spoolAt q1788 ⟨(Nat.le_of_ble_eq_true rfl), (Nat.le_of_ble_eq_true rfl)⟩ ⟨Nat.zero_le _, Nat.zero_le _⟩ hP [0, 1, 2, 3, 4, 5, 6, 7, 8] rfl 0 rfl rfl rfl hl.1 rfl (Nat.le_of_ble_eq_true rfl) dX13_cutsSpool_12 ?_
  refine lv_iload_n F.1 F.2.1 dX13_cutsSpool_15 rfl (lv_at hl 3 rfl) ?_
  obtain ⟨z5, k6, h⟩ := bd_ok h
  refine cMV (As := [.int z1, .int z3, .int p2]) (rest := []) (ws' := wX13 g a0 a1 a2 a3 a4 a5 a6 a7 a8 uth uch ufc usv ull ubl uba uea ufa uso udn z5.2 uun usr ube ubs uln ubu unu) F hE hX (tX13_leftOf l dC dI g a0 a1 a2 a3 a4 a5 a6 a7 a8 uth uch ufc usv ull ubl uba uea ufa uso udn uw uun usr ube ubs uln ubu unu z1 z3 p2 k6) mbX13_leftOf q1895 ⟨(Nat.le_of_ble_eq_true rfl), (Nat.le_of_ble_eq_true rfl)⟩ ⟨(Nat.le_of_ble_eq_true rfl), (Nat.le_of_ble_eq_true rfl)⟩ hP hD hS hA [0, 1, 2, 3, 4, 5, 6, 7, 8] rfl rfl rfl rfl rfl 0 rfl rfl rfl hl.1 rfl (Nat.le_of_ble_eq_true rfl) dX13_cutsSpool_16 (fun H locs hP hD hS => ?_)
  refine lv_istore (lv' := [(4, .int z5.1), (3, .int z1), (0, .ref a0), (1, .int p1), (2, .int p2)]) F.1 F.2.1 dX13_cutsSpool_19 hl (by decide) rfl (fun ls hl => ?_)
  refine lv_aload_n F.1 F.2.1 dX13_cutsSpool_21 rfl (lv_at hl 2 rfl) ?_
  refine gF (v := .ref a1) F hE hP 0 rfl rfl inX13 1 (by decide) q1685 rfl dX13_cutsSpool_22 ?_
  refine lv_bipush (v := 33) F.1 F.2.1 dX13_cutsSpool_25 (by decide) ?_
  refine lv_iconst (v := 4) F.1 F.2.1 dX13_cutsSpool_27 (by decide) ?_
  refine lv_iload_n F.1 F.2.1 dX13_cutsSpool_28 rfl (lv_at hl 3 rfl) ?_
  refine lv_imul F.1 F.2.1 dX13_cutsSpool_29 ?_
  refine lv_iadd F.1 F.2.1 dX13_cutsSpool_30 ?_
  refine lv_iconst (v := 2) F.1 F.2.1 dX13_cutsSpool_31 (by decide) ?_
  refine lv_iadd F.1 F.2.1 dX13_cutsSpool_32 ?_
  refine lv_iload F.1 F.2.1 dX13_cutsSpool_33 (lv_at hl 0 rfl) ?_
  obtain ⟨k7, h⟩ := gd_ok h
  refine aSi (k := ((33 + (4 * p1)) + 2).toNatClampNeg) F hE hP hD hS 1 0 rfl rfl k7 rfl dX13_cutsSpool_35 (fun H locs hP hD hS => ?_)
  replace hP : va_P (dC, dI) vwCl (wX13 g a0 a1 a2 a3 a4 a5 a6 a7 a8 uth uch ufc usv ull ubl uba uea ufa uso udn (upd z5.2 (((33 + (4 * p1)) + 2).toNatClampNeg) z5.1) uun usr ube ubs uln ubu unu) H := hP
  replace hD : va_D A (wX13 g a0 a1 a2 a3 a4 a5 a6 a7 a8 uth uch ufc usv ull ubl uba uea ufa uso udn (upd z5.2 (((33 + (4 * p1)) + 2).toNatClampNeg) z5.1) uun usr ube ubs uln ubu unu) := hD
  refine lv_aload_n F.1 F.2.1 dX13_cutsSpool_36 rfl (lv_at hl 2 rfl) ?_
  refine gF (v := .ref a1) F hE hP 0 rfl rfl inX13 1 (by decide) q1685 rfl dX13_cutsSpool_37 ?_
  refine lv_bipush (v := 33) F.1 F.2.1 dX13_cutsSpool_40 (by decide) ?_
  refine lv_iconst (v := 4) F.1 F.2.1 dX13_cutsSpool_42 (by decide) ?_
  refine lv_iload_n F.1 F.2.1 dX13_cutsSpool_43 rfl (lv_at hl 3 rfl) ?_
  refine lv_imul F.1 F.2.1 dX13_cutsSpool_44 ?_
  refine lv_iadd F.1 F.2.1 dX13_cutsSpool_45 ?_
  refine lv_iconst (v := 3) F.1 F.2.1 dX13_cutsSpool_46 (by decide) ?_
  refine lv_iadd F.1 F.2.1 dX13_cutsSpool_47 ?_
  refine lv_dup2_11 F.1 F.2.1 dX13_cutsSpool_48 rfl rfl ?_
  obtain ⟨k8, h⟩ := gd_ok h
  refine aLi (k := ((33 + (4 * p1)) + 3).toNatClampNeg) F hE hP 1 0 rfl rfl k8 rfl dX13_cutsSpool_49 ?_
  refine lv_iconst (v := 1) F.1 F.2.1 dX13_cutsSpool_50 (by decide) ?_
  refine lv_iadd F.1 F.2.1 dX13_cutsSpool_51 ?_
  obtain ⟨k9, h⟩ := gd_ok h
  refine aSi (k := ((33 + (4 * p1)) + 3).toNatClampNeg) F hE hP hD hS 1 0 rfl rfl k9 rfl dX13_cutsSpool_52 (fun H locs hP hD hS => ?_)
  replace hP : va_P (dC, dI) vwCl (wX13 g a0 a1 a2 a3 a4 a5 a6 a7 a8 uth uch ufc usv ull ubl uba uea ufa uso udn (upd (upd z5.2 (((33 + (4 * p1)) + 2).toNatClampNeg) z5.1) (((33 + (4 * p1)) + 3).toNatClampNeg) (((upd z5.2 (((33 + (4 * p1)) + 2).toNatClampNeg) z5.1) (((33 + (4 * p1)) + 3).toNatClampNeg)) + 1)) uun usr ube ubs uln ubu unu) H := hP
  replace hD : va_D A (wX13 g a0 a1 a2 a3 a4 a5 a6 a7 a8 uth uch ufc usv ull ubl uba uea ufa uso udn (upd (upd z5.2 (((33 + (4 * p1)) + 2).toNatClampNeg) z5.1) (((33 + (4 * p1)) + 3).toNatClampNeg) (((upd z5.2 (((33 + (4 * p1)) + 2).toNatClampNeg) z5.1) (((33 + (4 * p1)) + 3).toNatClampNeg)) + 1)) uun usr ube ubs uln ubu unu) := hD
  refine lv_iload F.1 F.2.1 dX13_cutsSpool_53 (lv_at hl 0 rfl) ?_
  refine lv_aload_n F.1 F.2.1 dX13_cutsSpool_55 rfl (lv_at hl 2 rfl) ?_
  refine gF (v := .ref a1) F hE hP 0 rfl rfl inX13 1 (by decide) q1685 rfl dX13_cutsSpool_56 ?_
  refine lv_bipush (v := 6) F.1 F.2.1 dX13_cutsSpool_59 (by decide) ?_
  refine aLi (k := 6) F hE hP 1 0 rfl rfl (by decide) (by decide) dX13_cutsSpool_61 ?_
  refine lv_icmp_lt (tgt := 66) F.1 F.2.1 dX13_cutsSpool_62 (by decide) (fun k10 => ?_) (fun k10 => ?_)
  · replace h := it_t k10 h
    refine lv_aload_n F.1 F.2.1 dX13_cutsSpool_66 rfl (lv_at hl 2 rfl) ?_
    refine lv_iload_n F.1 F.2.1 dX13_cutsSpool_67 rfl (lv_at hl 3 rfl) ?_
    obtain ⟨z11, k12, h⟩ := bd_ok h
    refine cMV (As := [.int p1]) (rest := []) (ws' := wX13 g a0 a1 a2 a3 a4 a5 a6 a7 a8 uth uch ufc usv ull ubl uba uea ufa uso udn z11 uun usr ube ubs uln ubu unu) F hE hX (tX13_removesSpool l dC dI g a0 a1 a2 a3 a4 a5 a6 a7 a8 uth uch ufc usv ull ubl uba uea ufa uso udn (upd (upd z5.2 (((33 + (4 * p1)) + 2).toNatClampNeg) z5.1) (((33 + (4 * p1)) + 3).toNatClampNeg) (((upd z5.2 (((33 + (4 * p1)) + 2).toNatClampNeg) z5.1) (((33 + (4 * p1)) + 3).toNatClampNeg)) + 1)) uun usr ube ubs uln ubu unu p1 k12) mbX13_removesSpool q1800 ⟨(Nat.le_of_ble_eq_true rfl), (Nat.le_of_ble_eq_true rfl)⟩ ⟨(Nat.le_of_ble_eq_true rfl), (Nat.le_of_ble_eq_true rfl)⟩ hP hD hS hA [0, 1, 2, 3, 4, 5, 6, 7, 8] rfl rfl rfl rfl rfl 0 rfl rfl rfl hl.1 rfl (Nat.le_of_ble_eq_true rfl) dX13_cutsSpool_68 (fun H locs hP hD hS => ?_)
    refine lv_iload F.1 F.2.1 dX13_cutsSpool_71 (lv_at hl 0 rfl) ?_
    refine lv_if_le (tgt := 83) F.1 F.2.1 dX13_cutsSpool_73 (by decide) (fun k13 => ?_) (fun k13 => ?_)
    · replace h := it_t k13 h
      cases h
      exact MU_v F hr hlocks (Nat.le_refl _) (Nat.le_refl _) hP hS dX13_cutsSpool_83
    · replace h := it_f k13 h
      refine lv_aload_n F.1 F.2.1 dX13_cutsSpool_76 rfl (lv_at hl 2 rfl) ?_
      refine lv_iload_n F.1 F.2.1 dX13_cutsSpool_77 rfl (lv_at hl 1 rfl) ?_
      refine lv_iload F.1 F.2.1 dX13_cutsSpool_78 (lv_at hl 0 rfl) ?_
      obtain ⟨z14, k15, h⟩ := bd_ok h
      refine cMV (As := [.int z1, .int z5.1]) (rest := []) (ws' := wX13 g a0 a1 a2 a3 a4 a5 a6 a7 a8 uth uch ufc usv ull ubl uba uea ufa uso udn z14 uun usr ube ubs uln ubu unu) F hE hX (tX13_leavesScrap l dC dI g a0 a1 a2 a3 a4 a5 a6 a7 a8 uth uch ufc usv ull ubl uba uea ufa uso udn z11 uun usr ube ubs uln ubu unu z1 z5.1 k15) mbX13_leavesScrap q1796 ⟨(Nat.le_of_ble_eq_true rfl), (Nat.le_of_ble_eq_true rfl)⟩ ⟨(Nat.le_of_ble_eq_true rfl), (Nat.le_of_ble_eq_true rfl)⟩ hP hD hS hA [0, 1, 2, 3, 4, 5, 6, 7, 8] rfl rfl rfl rfl rfl 0 rfl rfl rfl hl.1 rfl (Nat.le_of_ble_eq_true rfl) dX13_cutsSpool_80 (fun H locs hP hD hS => ?_)
      cases h
      exact MU_v F hr hlocks (Nat.le_refl _) (Nat.le_refl _) hP hS dX13_cutsSpool_83
  · replace h := it_f k10 h
    cases h
    exact MU_v F hr hlocks (Nat.le_refl _) (Nat.le_refl _) hP hS dX13_cutsSpool_65
/-! WireCutterModel.fillsAt -/
def fX13_fillsAt (uw : Nat → Int32) (p1 : Int32) : Option (Int32 × (Nat → Int32)) :=
  (fX13_orderOf uw p1 2).bind fun z1 =>
  (fX13_scrapFor uw p1).bind fun z3 =>
  (fX13_spoolFor uw p1).bind fun z5 =>
  (fX13_removesOrder (upd uw 8 ((uw 8) + 1)) p1).bind fun z7 =>
  if z3 < 0 then
    (fX13_spoolAt z7 z5 0).bind fun z10 =>
    (fX13_cutsSpool z7 z5 z1).bind fun z12 =>
    some (z10, z12)
  else
    (fX13_cutsScrap z7 z3 z1).bind fun z14 =>
    some ((-1), z14)
theorem mbX13_fillsAt : MV yX13_fillsAt cX13_fillsAt 6 (some .int) 1 := ⟨⟨q1890, q16, by decide +kernel⟩, q1889, qs50⟩
set_option maxHeartbeats 4000000 in
set_option maxRecDepth 100000 in
theorem tX13_fillsAt (l : Launch) (dC : Nat → ClassId) (dI : Nat → Nat → Nat) (g : Nat → ClassId) (a0 a1 a2 a3 a4 a5 a6 a7 a8 : Nat) (uth : Int32) (uch : Int32) (ufc : Int32) (usv : Int32) (ull : Int32) (ubl : Int32) (uba : Int32) (uea : Int32) (ufa : Int32) (uso : Int32) (udn : Int32) (uw : Nat → Int32) (uun : Nat → Int32) (usr : Nat → Int32) (ube : Nat → Int32) (ubs : Nat → Int32) (uln : Nat → Int32) (ubu : Nat → Int32) (unu : Nat → Int32) (p1 : Int32) {r : Int32 × (Nat → Int32)} (h : fX13_fillsAt uw p1 = some r) : MU l yX13_fillsAt cX13_fillsAt 6 (some .int) 3 69 0 0 dC dI g [.ref a0, .int p1] (wX13 g a0 a1 a2 a3 a4 a5 a6 a7 a8 uth uch ufc usv ull ubl uba uea ufa uso udn uw uun usr ube ubs uln ubu unu) (wX13 g a0 a1 a2 a3 a4 a5 a6 a7 a8 uth uch ufc usv ull ubl uba uea ufa uso udn r.2 uun usr ube ubs uln ubu unu) (some (.int r.1)) := by
  refine MU_of (by decide) (Nat.le_of_ble_eq_true rfl) ?_
  intro p e s m below meth c ls F hr hlocks hE hX hA hP hD hS hl
  generalize va_A (wX13 g a0 a1 a2 a3 a4 a5 a6 a7 a8 uth uch ufc usv ull ubl uba uea ufa uso udn uw uun usr ube ubs uln ubu unu) s.heap.size = A at hA hD hS hX ⊢
  replace F : CF p m c cX13_fillsAt 6 s _ RX13 := F
  replace hl : lv_has ls 6 [(0, .ref a0), (1, .int p1)] := hl
  rw [fX13_fillsAt] at h
  refine lv_aload_n F.1 F.2.1 dX13_fillsAt_0 rfl (lv_at hl 0 rfl) ?_
  refine lv_iload_n F.1 F.2.1 dX13_fillsAt_1 rfl (lv_at hl 1 rfl) ?_
  refine lv_iconst (v := 2) F.1 F.2.1 dX13_fillsAt_2 (by decide) ?_
  obtain ⟨z1, k2, h⟩ := bd_ok h
  refine cRV (As := [.int p1, .int 2]) (rest := []) F hE hX hS (tX13_orderOf l dC dI g a0 a1 a2 a3 a4 a5 a6 a7 a8 uth uch ufc usv ull ubl uba uea ufa uso udn uw uun usr ube ubs uln ubu unu p1 2 k2) mbX13_orderOf q1839 ⟨(Nat.le_of_ble_eq_true rfl), (Nat.le_of_ble_eq_true rfl)⟩ ⟨Nat.zero_le _, Nat.zero_le _⟩ hP [0, 1, 2, 3, 4, 5, 6, 7, 8] rfl 0 rfl rfl rfl hl.1 rfl (Nat.le_of_ble_eq_true rfl) dX13_fillsAt_3 ?_
  refine lv_istore_n (lv' := [(2, .int z1), (0, .ref a0), (1, .int p1)]) F.1 F.2.1 dX13_fillsAt_6 rfl hl (by decide) rfl (fun ls hl => ?_)
  refine lv_aload_n F.1 F.2.1 dX13_fillsAt_7 rfl (lv_at hl 1 rfl) ?_
  refine lv_iload_n F.1 F.2.1 dX13_fillsAt_8 rfl (lv_at hl 2 rfl) ?_
  obtain ⟨z3, k4, h⟩ := bd_ok h
  refine cRV (As := [.int p1]) (rest := []) F hE hX hS (tX13_scrapFor l dC dI g a0 a1 a2 a3 a4 a5 a6 a7 a8 uth uch ufc usv ull ubl uba uea ufa uso udn uw uun usr ube ubs uln ubu unu p1 k4) mbX13_scrapFor q1875 ⟨(Nat.le_of_ble_eq_true rfl), (Nat.le_of_ble_eq_true rfl)⟩ ⟨Nat.zero_le _, Nat.zero_le _⟩ hP [0, 1, 2, 3, 4, 5, 6, 7, 8] rfl 0 rfl rfl rfl hl.1 rfl (Nat.le_of_ble_eq_true rfl) dX13_fillsAt_9 ?_
  refine lv_istore_n (lv' := [(3, .int z3), (2, .int z1), (0, .ref a0), (1, .int p1)]) F.1 F.2.1 dX13_fillsAt_12 rfl hl (by decide) rfl (fun ls hl => ?_)
  refine lv_aload_n F.1 F.2.1 dX13_fillsAt_13 rfl (lv_at hl 2 rfl) ?_
  refine lv_iload_n F.1 F.2.1 dX13_fillsAt_14 rfl (lv_at hl 3 rfl) ?_
  obtain ⟨z5, k6, h⟩ := bd_ok h
  refine cRV (As := [.int p1]) (rest := []) F hE hX hS (tX13_spoolFor l dC dI g a0 a1 a2 a3 a4 a5 a6 a7 a8 uth uch ufc usv ull ubl uba uea ufa uso udn uw uun usr ube ubs uln ubu unu p1 k6) mbX13_spoolFor q1879 ⟨(Nat.le_of_ble_eq_true rfl), (Nat.le_of_ble_eq_true rfl)⟩ ⟨Nat.zero_le _, Nat.zero_le _⟩ hP [0, 1, 2, 3, 4, 5, 6, 7, 8] rfl 0 rfl rfl rfl hl.1 rfl (Nat.le_of_ble_eq_true rfl) dX13_fillsAt_15 ?_
  refine lv_istore (lv' := [(4, .int z5), (3, .int z3), (2, .int z1), (0, .ref a0), (1, .int p1)]) F.1 F.2.1 dX13_fillsAt_18 hl (by decide) rfl (fun ls hl => ?_)
  refine lv_aload_n F.1 F.2.1 dX13_fillsAt_20 rfl (lv_at hl 3 rfl) ?_
  refine gF (v := .ref a1) F hE hP 0 rfl rfl inX13 1 (by decide) q1685 rfl dX13_fillsAt_21 ?_
  refine lv_bipush (v := 8) F.1 F.2.1 dX13_fillsAt_24 (by decide) ?_
  refine lv_dup2_11 F.1 F.2.1 dX13_fillsAt_26 rfl rfl ?_
  refine aLi (k := 8) F hE hP 1 0 rfl rfl (by decide) (by decide) dX13_fillsAt_27 ?_
  refine lv_iconst (v := 1) F.1 F.2.1 dX13_fillsAt_28 (by decide) ?_
  refine lv_iadd F.1 F.2.1 dX13_fillsAt_29 ?_
  refine aSi (k := 8) F hE hP hD hS 1 0 rfl rfl (by decide) (by decide) dX13_fillsAt_30 (fun H locs hP hD hS => ?_)
  replace hP : va_P (dC, dI) vwCl (wX13 g a0 a1 a2 a3 a4 a5 a6 a7 a8 uth uch ufc usv ull ubl uba uea ufa uso udn (upd uw 8 ((uw 8) + 1)) uun usr ube ubs uln ubu unu) H := hP
  replace hD : va_D A (wX13 g a0 a1 a2 a3 a4 a5 a6 a7 a8 uth uch ufc usv ull ubl uba uea ufa uso udn (upd uw 8 ((uw 8) + 1)) uun usr ube ubs uln ubu unu) := hD
  refine lv_aload_n F.1 F.2.1 dX13_fillsAt_31 rfl (lv_at hl 3 rfl) ?_
  refine lv_iload_n F.1 F.2.1 dX13_fillsAt_32 rfl (lv_at hl 4 rfl) ?_
  obtain ⟨z7, k8, h⟩ := bd_ok h
  refine cMV (As := [.int p1]) (rest := []) (ws' := wX13 g a0 a1 a2 a3 a4 a5 a6 a7 a8 uth uch ufc usv ull ubl uba uea ufa uso udn z7 uun usr ube ubs uln ubu unu) F hE hX (tX13_removesOrder l dC dI g a0 a1 a2 a3 a4 a5 a6 a7 a8 uth uch ufc usv ull ubl uba uea ufa uso udn (upd uw 8 ((uw 8) + 1)) uun usr ube ubs uln ubu unu p1 k8) mbX13_removesOrder q1859 ⟨(Nat.le_of_ble_eq_true rfl), (Nat.le_of_ble_eq_true rfl)⟩ ⟨(Nat.le_of_ble_eq_true rfl), (Nat.le_of_ble_eq_true rfl)⟩ hP hD hS hA [0, 1, 2, 3, 4, 5, 6, 7, 8] rfl rfl rfl rfl rfl 0 rfl rfl rfl hl.1 rfl (Nat.le_of_ble_eq_true rfl) dX13_fillsAt_33 (fun H locs hP hD hS => ?_)
  refine lv_iload_n F.1 F.2.1 dX13_fillsAt_36 rfl (lv_at hl 1 rfl) ?_
  refine lv_if_lt (tgt := 48) F.1 F.2.1 dX13_fillsAt_37 (by decide) (fun k9 => ?_) (fun k9 => ?_)
  · replace h := it_t k9 h
    refine lv_aload_n F.1 F.2.1 dX13_fillsAt_48 rfl (lv_at hl 3 rfl) ?_
    refine lv_iload F.1 F.2.1 dX13_fillsAt_49 (lv_at hl 0 rfl) ?_
    refine lv_iconst (v := 0) F.1 F.2.1 dX13_fillsAt_51 (by decide) ?_
    obtain ⟨z10, k11, h⟩ := bd_ok h
    refine cRV (As := [.int z5, .int 0]) (rest := []) F hE hX hS (tX13_spoolAt l dC dI g a0 a1 a2 a3 a4 a5 a6 a7 a8 uth uch ufc usv ull ubl uba uea ufa uso udn z7 uun usr ube ubs uln ubu unu z5 0 k11) mbX13_spoolAt q1788 ⟨(Nat.le_of_ble_eq_true rfl), (Nat.le_of_ble_eq_true rfl)⟩ ⟨Nat.zero_le _, Nat.zero_le _⟩ hP [0, 1, 2, 3, 4, 5, 6, 7, 8] rfl 0 rfl rfl rfl hl.1 rfl (Nat.le_of_ble_eq_true rfl) dX13_fillsAt_52 ?_
    refine lv_istore (lv' := [(5, .int z10), (4, .int z5), (3, .int z3), (2, .int z1), (0, .ref a0), (1, .int p1)]) F.1 F.2.1 dX13_fillsAt_55 hl (by decide) rfl (fun ls hl => ?_)
    refine lv_aload_n F.1 F.2.1 dX13_fillsAt_57 rfl (lv_at hl 4 rfl) ?_
    refine lv_iload F.1 F.2.1 dX13_fillsAt_58 (lv_at hl 1 rfl) ?_
    refine lv_iload_n F.1 F.2.1 dX13_fillsAt_60 rfl (lv_at hl 3 rfl) ?_
    obtain ⟨z12, k13, h⟩ := bd_ok h
    refine cMV (As := [.int z5, .int z1]) (rest := []) (ws' := wX13 g a0 a1 a2 a3 a4 a5 a6 a7 a8 uth uch ufc usv ull ubl uba uea ufa uso udn z12 uun usr ube ubs uln ubu unu) F hE hX (tX13_cutsSpool l dC dI g a0 a1 a2 a3 a4 a5 a6 a7 a8 uth uch ufc usv ull ubl uba uea ufa uso udn z7 uun usr ube ubs uln ubu unu z5 z1 k13) mbX13_cutsSpool q1899 ⟨(Nat.le_of_ble_eq_true rfl), (Nat.le_of_ble_eq_true rfl)⟩ ⟨(Nat.le_of_ble_eq_true rfl), (Nat.le_of_ble_eq_true rfl)⟩ hP hD hS hA [0, 1, 2, 3, 4, 5, 6, 7, 8] rfl rfl rfl rfl rfl 0 rfl rfl rfl hl.1 rfl (Nat.le_of_ble_eq_true rfl) dX13_fillsAt_61 (fun H locs hP hD hS => ?_)
    refine lv_iload F.1 F.2.1 dX13_fillsAt_64 (lv_at hl 0 rfl) ?_
    cases h
    exact MU_i F hr hlocks (Nat.le_refl _) (Nat.le_refl _) hP hS dX13_fillsAt_66
  · replace h := it_f k9 h
    refine lv_aload_n F.1 F.2.1 dX13_fillsAt_40 rfl (lv_at hl 3 rfl) ?_
    refine lv_iload_n F.1 F.2.1 dX13_fillsAt_41 rfl (lv_at hl 1 rfl) ?_
    refine lv_iload_n F.1 F.2.1 dX13_fillsAt_42 rfl (lv_at hl 2 rfl) ?_
    obtain ⟨z14, k15, h⟩ := bd_ok h
    refine cMV (As := [.int z3, .int z1]) (rest := []) (ws' := wX13 g a0 a1 a2 a3 a4 a5 a6 a7 a8 uth uch ufc usv ull ubl uba uea ufa uso udn z14 uun usr ube ubs uln ubu unu) F hE hX (tX13_cutsScrap l dC dI g a0 a1 a2 a3 a4 a5 a6 a7 a8 uth uch ufc usv ull ubl uba uea ufa uso udn z7 uun usr ube ubs uln ubu unu z3 z1 k15) mbX13_cutsScrap q1891 ⟨(Nat.le_of_ble_eq_true rfl), (Nat.le_of_ble_eq_true rfl)⟩ ⟨(Nat.le_of_ble_eq_true rfl), (Nat.le_of_ble_eq_true rfl)⟩ hP hD hS hA [0, 1, 2, 3, 4, 5, 6, 7, 8] rfl rfl rfl rfl rfl 0 rfl rfl rfl hl.1 rfl (Nat.le_of_ble_eq_true rfl) dX13_fillsAt_43 (fun H locs hP hD hS => ?_)
    refine lv_iconst (v := (-1)) F.1 F.2.1 dX13_fillsAt_46 (by decide) ?_
    cases h
    exact MU_i F hr hlocks (Nat.le_refl _) (Nat.le_refl _) hP hS dX13_fillsAt_47
/-! WireCutterModel.notFill -/
def fX13_notFill (uw : Nat → Int32) (p1 : Int32) : Option (Int32) :=
  (fX13_orderPlace uw p1).bind fun z1 =>
  if 0 ≤ z1 then
    (fX13_isFillable uw z1).bind fun z4 =>
    if z4 = 0 then
      some (2)
    else
      some (0)
  else
    some (1)
theorem mbX13_notFill : MV yX13_notFill cX13_notFill 3 (some .int) 1 := ⟨⟨q1870, q16, by decide +kernel⟩, q1869, qs45⟩
set_option maxHeartbeats 4000000 in
set_option maxRecDepth 100000 in
theorem tX13_notFill (l : Launch) (dC : Nat → ClassId) (dI : Nat → Nat → Nat) (g : Nat → ClassId) (a0 a1 a2 a3 a4 a5 a6 a7 a8 : Nat) (uth : Int32) (uch : Int32) (ufc : Int32) (usv : Int32) (ull : Int32) (ubl : Int32) (uba : Int32) (uea : Int32) (ufa : Int32) (uso : Int32) (udn : Int32) (uw : Nat → Int32) (uun : Nat → Int32) (usr : Nat → Int32) (ube : Nat → Int32) (ubs : Nat → Int32) (uln : Nat → Int32) (ubu : Nat → Int32) (unu : Nat → Int32) (p1 : Int32) {r : Int32} (h : fX13_notFill uw p1 = some r) : RO l yX13_notFill cX13_notFill 3 (some .int) 4 89 dC dI g [.ref a0, .int p1] (wX13 g a0 a1 a2 a3 a4 a5 a6 a7 a8 uth uch ufc usv ull ubl uba uea ufa uso udn uw uun usr ube ubs uln ubu unu) (some (.int r)) := by
  refine RO_of (by decide) (Nat.le_of_ble_eq_true rfl) ?_
  intro p e s m below meth c ls F hr hlocks hE hX hP hl
  replace F : CF p m c cX13_notFill 3 s _ RX13 := F
  replace hl : lv_has ls 3 [(0, .ref a0), (1, .int p1)] := hl
  rw [fX13_notFill] at h
  refine lv_aload_n F.1 F.2.1 dX13_notFill_0 rfl (lv_at hl 0 rfl) ?_
  refine lv_iload_n F.1 F.2.1 dX13_notFill_1 rfl (lv_at hl 1 rfl) ?_
  obtain ⟨z1, k2, h⟩ := bd_ok h
  refine cRV (As := [.int p1]) (rest := []) F hE hX va_S.rf (tX13_orderPlace l dC dI g a0 a1 a2 a3 a4 a5 a6 a7 a8 uth uch ufc usv ull ubl uba uea ufa uso udn uw uun usr ube ubs uln ubu unu p1 k2) mbX13_orderPlace q1851 ⟨(Nat.le_of_ble_eq_true rfl), (Nat.le_of_ble_eq_true rfl)⟩ ⟨Nat.zero_le _, Nat.zero_le _⟩ hP [0, 1, 2, 3, 4, 5, 6, 7, 8] rfl 0 rfl rfl rfl hl.1 rfl (Nat.le_of_ble_eq_true rfl) dX13_notFill_2 ?_
  refine lv_istore_n (lv' := [(2, .int z1), (0, .ref a0), (1, .int p1)]) F.1 F.2.1 dX13_notFill_5 rfl hl (by decide) rfl (fun ls hl => ?_)
  refine lv_iload_n F.1 F.2.1 dX13_notFill_6 rfl (lv_at hl 0 rfl) ?_
  refine lv_if_ge (tgt := 12) F.1 F.2.1 dX13_notFill_7 (by decide) (fun k3 => ?_) (fun k3 => ?_)
  · replace h := it_t k3 h
    refine lv_aload_n F.1 F.2.1 dX13_notFill_12 rfl (lv_at hl 1 rfl) ?_
    refine lv_iload_n F.1 F.2.1 dX13_notFill_13 rfl (lv_at hl 0 rfl) ?_
    obtain ⟨z4, k5, h⟩ := bd_ok h
    refine cRV (As := [.int z1]) (rest := []) F hE hX va_S.rf (tX13_isFillable l dC dI g a0 a1 a2 a3 a4 a5 a6 a7 a8 uth uch ufc usv ull ubl uba uea ufa uso udn uw uun usr ube ubs uln ubu unu z1 k5) mbX13_isFillable q1871 ⟨(Nat.le_of_ble_eq_true rfl), (Nat.le_of_ble_eq_true rfl)⟩ ⟨Nat.zero_le _, Nat.zero_le _⟩ hP [0, 1, 2, 3, 4, 5, 6, 7, 8] rfl 0 rfl rfl rfl hl.1 rfl (Nat.le_of_ble_eq_true rfl) dX13_notFill_14 ?_
    refine lv_if_eq (tgt := 24) F.1 F.2.1 dX13_notFill_17 (by decide) (fun k6 => ?_) (fun k6 => ?_)
    · replace h := it_t k6 h
      refine lv_iconst (v := 2) F.1 F.2.1 dX13_notFill_24 (by decide) ?_
      cases h
      exact RO_i F hr hlocks dX13_notFill_25
    · replace h := it_f k6 h
      refine lv_iconst (v := 0) F.1 F.2.1 dX13_notFill_20 (by decide) ?_
      refine lv_goto (tgt := 25) F.1 F.2.1 dX13_notFill_21 (by decide) ?_
      cases h
      exact RO_i F hr hlocks dX13_notFill_25
  · replace h := it_f k3 h
    refine lv_iconst (v := 1) F.1 F.2.1 dX13_notFill_10 (by decide) ?_
    cases h
    exact RO_i F hr hlocks dX13_notFill_11
/-! WireCutterModel.fill -/
def fX13_fill (uch : Int32) (ufc : Int32) (uw : Nat → Int32) (uun : Nat → Int32) (ube : Nat → Int32) (p1 : Int32) : Option (Int32 × Int32 × Int32 × Int32 × (Nat → Int32) × (Nat → Int32) × (Nat → Int32)) :=
  (fX13_notFill uw p1).bind fun z1 =>
  if z1 = 0 then
    (fX13_remembers uch ufc uw uun ube).bind fun z4 =>
    (fX13_orderPlace uw p1).bind fun z6 =>
    (fX13_fillsAt uw z6).bind fun z8 =>
    some (z8.1, 0, z4.1, z4.2.1, z8.2, z4.2.2.1, z4.2.2.2)
  else
    (fX13_fails z1).bind fun z10 =>
    some (z10.1, z10.2, uch, ufc, uw, uun, ube)
theorem mbX13_fill : MV yX13_fill cX13_fill 3 (some .int) 1 := ⟨⟨q1866, q16, by decide +kernel⟩, q1864, q1865⟩
set_option maxHeartbeats 4000000 in
set_option maxRecDepth 100000 in
theorem tX13_fill (l : Launch) (dC : Nat → ClassId) (dI : Nat → Nat → Nat) (g : Nat → ClassId) (a0 a1 a2 a3 a4 a5 a6 a7 a8 : Nat) (uth : Int32) (uch : Int32) (ufc : Int32) (usv : Int32) (ull : Int32) (ubl : Int32) (uba : Int32) (uea : Int32) (ufa : Int32) (uso : Int32) (udn : Int32) (uw : Nat → Int32) (uun : Nat → Int32) (usr : Nat → Int32) (ube : Nat → Int32) (ubs : Nat → Int32) (uln : Nat → Int32) (ubu : Nat → Int32) (unu : Nat → Int32) (p1 : Int32) {r : Int32 × Int32 × Int32 × Int32 × (Nat → Int32) × (Nat → Int32) × (Nat → Int32)} (h : fX13_fill uch ufc uw uun ube p1 = some r) : MU l yX13_fill cX13_fill 3 (some .int) 5 111 0 0 dC dI g [.ref a0, .int p1] (wX13 g a0 a1 a2 a3 a4 a5 a6 a7 a8 uth uch ufc usv ull ubl uba uea ufa uso udn uw uun usr ube ubs uln ubu unu) (wX13 g a0 a1 a2 a3 a4 a5 a6 a7 a8 r.2.1 r.2.2.1 r.2.2.2.1 usv ull ubl uba uea ufa uso udn r.2.2.2.2.1 r.2.2.2.2.2.1 usr r.2.2.2.2.2.2 ubs uln ubu unu) (some (.int r.1)) := by
  refine MU_of (by decide) (Nat.le_of_ble_eq_true rfl) ?_
  intro p e s m below meth c ls F hr hlocks hE hX hA hP hD hS hl
  generalize va_A (wX13 g a0 a1 a2 a3 a4 a5 a6 a7 a8 uth uch ufc usv ull ubl uba uea ufa uso udn uw uun usr ube ubs uln ubu unu) s.heap.size = A at hA hD hS hX ⊢
  replace F : CF p m c cX13_fill 3 s _ RX13 := F
  replace hl : lv_has ls 3 [(0, .ref a0), (1, .int p1)] := hl
  rw [fX13_fill] at h
  refine lv_aload_n F.1 F.2.1 dX13_fill_0 rfl (lv_at hl 0 rfl) ?_
  refine lv_iconst (v := 0) F.1 F.2.1 dX13_fill_1 (by decide) ?_
  refine pF (v := .int 0) F hE hP hD hS 0 rfl rfl inX13 tyX13 tyX13_ok nmX13 0 (by decide) q1684 rfl rfl rfl (Nat.le_of_ble_eq_true rfl) dX13_fill_2 (fun H locs hP hD hS => ?_)
  replace hP : va_P (dC, dI) vwCl (wX13 g a0 a1 a2 a3 a4 a5 a6 a7 a8 0 uch ufc usv ull ubl uba uea ufa uso udn uw uun usr ube ubs uln ubu unu) H := hP
  replace hD : va_D A (wX13 g a0 a1 a2 a3 a4 a5 a6 a7 a8 0 uch ufc usv ull ubl uba uea ufa uso udn uw uun usr ube ubs uln ubu unu) := hD
  refine lv_aload_n F.1 F.2.1 dX13_fill_5 rfl (lv_at hl 0 rfl) ?_
  refine lv_iload_n F.1 F.2.1 dX13_fill_6 rfl (lv_at hl 1 rfl) ?_
  obtain ⟨z1, k2, h⟩ := bd_ok h
  refine cRV (As := [.int p1]) (rest := []) F hE hX hS (tX13_notFill l dC dI g a0 a1 a2 a3 a4 a5 a6 a7 a8 0 uch ufc usv ull ubl uba uea ufa uso udn uw uun usr ube ubs uln ubu unu p1 k2) mbX13_notFill q1867 ⟨(Nat.le_of_ble_eq_true rfl), (Nat.le_of_ble_eq_true rfl)⟩ ⟨Nat.zero_le _, Nat.zero_le _⟩ hP [0, 1, 2, 3, 4, 5, 6, 7, 8] rfl 0 rfl rfl rfl hl.1 rfl (Nat.le_of_ble_eq_true rfl) dX13_fill_7 ?_
  refine lv_istore_n (lv' := [(2, .int z1), (0, .ref a0), (1, .int p1)]) F.1 F.2.1 dX13_fill_10 rfl hl (by decide) rfl (fun ls hl => ?_)
  refine lv_iload_n F.1 F.2.1 dX13_fill_11 rfl (lv_at hl 0 rfl) ?_
  refine lv_if_eq (tgt := 21) F.1 F.2.1 dX13_fill_12 (by decide) (fun k3 => ?_) (fun k3 => ?_)
  · replace h := it_t k3 h
    refine lv_aload_n F.1 F.2.1 dX13_fill_21 rfl (lv_at hl 1 rfl) ?_
    obtain ⟨z4, k5, h⟩ := bd_ok h
    refine cMV (As := []) (rest := []) (ws' := wX13 g a0 a1 a2 a3 a4 a5 a6 a7 a8 0 z4.1 z4.2.1 usv ull ubl uba uea ufa uso udn uw z4.2.2.1 usr z4.2.2.2 ubs uln ubu unu) F hE hX (tX13_remembers l dC dI g a0 a1 a2 a3 a4 a5 a6 a7 a8 0 uch ufc usv ull ubl uba uea ufa uso udn uw uun usr ube ubs uln ubu unu k5) mbX13_remembers q1760 ⟨(Nat.le_of_ble_eq_true rfl), (Nat.le_of_ble_eq_true rfl)⟩ ⟨(Nat.le_of_ble_eq_true rfl), (Nat.le_of_ble_eq_true rfl)⟩ hP hD hS hA [0, 1, 2, 3, 4, 5, 6, 7, 8] rfl rfl rfl rfl rfl 0 rfl rfl rfl hl.1 rfl (Nat.le_of_ble_eq_true rfl) dX13_fill_22 (fun H locs hP hD hS => ?_)
    refine lv_aload_n F.1 F.2.1 dX13_fill_25 rfl (lv_at hl 1 rfl) ?_
    refine lv_aload_n F.1 F.2.1 dX13_fill_26 rfl (lv_at hl 1 rfl) ?_
    refine lv_iload_n F.1 F.2.1 dX13_fill_27 rfl (lv_at hl 2 rfl) ?_
    obtain ⟨z6, k7, h⟩ := bd_ok h
    refine cRV (As := [.int p1]) (rest := [.ref a0]) F hE hX hS (tX13_orderPlace l dC dI g a0 a1 a2 a3 a4 a5 a6 a7 a8 0 z4.1 z4.2.1 usv ull ubl uba uea ufa uso udn uw z4.2.2.1 usr z4.2.2.2 ubs uln ubu unu p1 k7) mbX13_orderPlace q1851 ⟨(Nat.le_of_ble_eq_true rfl), (Nat.le_of_ble_eq_true rfl)⟩ ⟨Nat.zero_le _, Nat.zero_le _⟩ hP [0, 1, 2, 3, 4, 5, 6, 7, 8] rfl 0 rfl rfl rfl hl.1 rfl (Nat.le_of_ble_eq_true rfl) dX13_fill_28 ?_
    obtain ⟨z8, k9, h⟩ := bd_ok h
    refine cMV (As := [.int z6]) (rest := []) (ws' := wX13 g a0 a1 a2 a3 a4 a5 a6 a7 a8 0 z4.1 z4.2.1 usv ull ubl uba uea ufa uso udn z8.2 z4.2.2.1 usr z4.2.2.2 ubs uln ubu unu) F hE hX (tX13_fillsAt l dC dI g a0 a1 a2 a3 a4 a5 a6 a7 a8 0 z4.1 z4.2.1 usv ull ubl uba uea ufa uso udn uw z4.2.2.1 usr z4.2.2.2 ubs uln ubu unu z6 k9) mbX13_fillsAt q1887 ⟨(Nat.le_of_ble_eq_true rfl), (Nat.le_of_ble_eq_true rfl)⟩ ⟨(Nat.le_of_ble_eq_true rfl), (Nat.le_of_ble_eq_true rfl)⟩ hP hD hS hA [0, 1, 2, 3, 4, 5, 6, 7, 8] rfl rfl rfl rfl rfl 0 rfl rfl rfl hl.1 rfl (Nat.le_of_ble_eq_true rfl) dX13_fill_31 (fun H locs hP hD hS => ?_)
    cases h
    exact MU_i F hr hlocks (Nat.le_refl _) (Nat.le_refl _) hP hS dX13_fill_34
  · replace h := it_f k3 h
    refine lv_aload_n F.1 F.2.1 dX13_fill_15 rfl (lv_at hl 1 rfl) ?_
    refine lv_iload_n F.1 F.2.1 dX13_fill_16 rfl (lv_at hl 0 rfl) ?_
    obtain ⟨z10, k11, h⟩ := bd_ok h
    refine cMV (As := [.int z1]) (rest := []) (ws' := wX13 g a0 a1 a2 a3 a4 a5 a6 a7 a8 z10.2 uch ufc usv ull ubl uba uea ufa uso udn uw uun usr ube ubs uln ubu unu) F hE hX (tX13_fails l dC dI g a0 a1 a2 a3 a4 a5 a6 a7 a8 0 uch ufc usv ull ubl uba uea ufa uso udn uw uun usr ube ubs uln ubu unu z1 k11) mbX13_fails q1756 ⟨(Nat.le_of_ble_eq_true rfl), (Nat.le_of_ble_eq_true rfl)⟩ ⟨(Nat.le_of_ble_eq_true rfl), (Nat.le_of_ble_eq_true rfl)⟩ hP hD hS hA [0, 1, 2, 3, 4, 5, 6, 7, 8] rfl rfl rfl rfl rfl 0 rfl rfl rfl hl.1 rfl (Nat.le_of_ble_eq_true rfl) dX13_fill_17 (fun H locs hP hD hS => ?_)
    cases h
    exact MU_i F hr hlocks (Nat.le_refl _) (Nat.le_refl _) hP hS dX13_fill_20
/-! WireCutterModel.notDue -/
def fX13_notDue (p0 : Int32) : Option (Int32) :=
  (fX13_isBetween p0 1 99).bind fun z1 =>
  if z1 = 0 then
    some (1)
  else
    some (0)
theorem mbX13_notDue : MS yX13_notDue cX13_notDue 1 (some .int) 1 := ⟨⟨q1909, q16, by decide +kernel⟩, q1908⟩
set_option maxHeartbeats 4000000 in
set_option maxRecDepth 100000 in
theorem tX13_notDue (l : Launch) (dC : Nat → ClassId) (dI : Nat → Nat → Nat) (g : Nat → ClassId) (p0 : Int32) {r : Int32} (h : fX13_notDue p0 = some r) : RO l yX13_notDue cX13_notDue 1 (some .int) 1 22 dC dI g [.int p0] (([] : va_W)) (some (.int r)) := by
  refine RO_of (by decide) (Nat.le_of_ble_eq_true rfl) ?_
  intro p e s m below meth c ls F hr hlocks hE hX hP hl
  replace F : CF p m c cX13_notDue 1 s _ RX13 := F
  replace hl : lv_has ls 1 [(0, .int p0)] := hl
  rw [fX13_notDue] at h
  refine lv_iload_n F.1 F.2.1 dX13_notDue_0 rfl (lv_at hl 0 rfl) ?_
  refine lv_iconst (v := 1) F.1 F.2.1 dX13_notDue_1 (by decide) ?_
  refine lv_bipush (v := 99) F.1 F.2.1 dX13_notDue_2 (by decide) ?_
  obtain ⟨z1, k2, h⟩ := bd_ok h
  refine cRS (As := [.int p0, .int 1, .int 99]) (rest := []) F hE hX va_S.rf (tX13_isBetween l dC dI g p0 1 99 k2) mbX13_isBetween q1753 ⟨(Nat.le_of_ble_eq_true rfl), (Nat.le_of_ble_eq_true rfl)⟩ ⟨Nat.zero_le _, Nat.zero_le _⟩ hP [] rfl rfl hl.1 rfl (Nat.le_of_ble_eq_true rfl) dX13_notDue_4 ?_
  refine lv_if_eq (tgt := 14) F.1 F.2.1 dX13_notDue_7 (by decide) (fun k3 => ?_) (fun k3 => ?_)
  · replace h := it_t k3 h
    refine lv_iconst (v := 1) F.1 F.2.1 dX13_notDue_14 (by decide) ?_
    cases h
    exact RO_i F hr hlocks dX13_notDue_15
  · replace h := it_f k3 h
    refine lv_iconst (v := 0) F.1 F.2.1 dX13_notDue_10 (by decide) ?_
    refine lv_goto (tgt := 15) F.1 F.2.1 dX13_notDue_11 (by decide) ?_
    cases h
    exact RO_i F hr hlocks dX13_notDue_15
/-! WireCutterModel.fillsDue -/
def fX13_fillsDue_L4 (x1 : Int32) : Nat → Int32 → Int32 → (Nat → Int32) → Option (Int32 × (Nat → Int32))
  | 0, _, _, _ => none
  | k + 1, x2, x3, uw =>
    if (uw 2) ≤ x3 then
      some (x2, uw)
    else
      (fX13_orderOf uw x3 3).bind fun z2 =>
      if x1 < z2 then
        some (x2, uw)
      else
        (fX13_isFillable uw x3).bind fun z5 =>
        if z5 = 0 then
          fX13_fillsDue_L4 x1 k x2 (x3 + 1) uw
        else
          (fX13_fillsAt uw x3).bind fun z8 =>
          fX13_fillsDue_L4 x1 k (x2 + 1) x3 z8.2
def fX13_fillsDue (uw : Nat → Int32) (p1 : Int32) : Option (Int32 × (Nat → Int32)) :=
  fX13_fillsDue_L4 p1 FU 0 0 uw
theorem mbX13_fillsDue : MV yX13_fillsDue cX13_fillsDue 4 (some .int) 1 := ⟨⟨q1913, q16, by decide +kernel⟩, q1912, qs54⟩
set_option maxHeartbeats 4000000 in
set_option maxRecDepth 100000 in
theorem tX13_fillsDue_L4 {p : Program} {l : Launch} {e : Env} {s : State} {m : MethodId} {args : Array Value} {below : List Frame} {meth : Method} {c : Code} {dC : Nat → ClassId} {dI : Nat → Nat → Nat} {g : Nat → ClassId} {a0 a1 a2 a3 a4 a5 a6 a7 a8 : Nat} {r : Int32 × (Nat → Int32)} {A : Nat → Prop} (F : CF p m c cX13_fillsDue 4 s args RX13) (hr : meth.sig.returnType = (some .int)) (hlocks : meth.locks = false) (hE : EK dC dI g s) (hX : EX g A s s.heap) (hA : ∀ q : Nat, s.heap.size ≤ q → A q) (x1 : Int32) (uth : Int32) (uch : Int32) (ufc : Int32) (usv : Int32) (ull : Int32) (ubl : Int32) (uba : Int32) (uea : Int32) (ufa : Int32) (uso : Int32) (udn : Int32) (uun : Nat → Int32) (usr : Nat → Int32) (ube : Nat → Int32) (ubs : Nat → Int32) (uln : Nat → Int32) (ubu : Nat → Int32) (unu : Nat → Int32) : ∀ (k : Nat) (x2 : Int32) (x3 : Int32) (uw : Nat → Int32), fX13_fillsDue_L4 x1 k x2 x3 uw = some r → ∀ (H : Heap) (locs : List Loc), va_P (dC, dI) vwCl (wX13 g a0 a1 a2 a3 a4 a5 a6 a7 a8 uth uch ufc usv ull ubl uba uea ufa uso udn uw uun usr ube ubs uln ubu unu) H → va_D A (wX13 g a0 a1 a2 a3 a4 a5 a6 a7 a8 uth uch ufc usv ull ubl uba uea ufa uso udn uw uun usr ube ubs uln ubu unu) → va_S A s.heap H locs → ∀ (ls : Array Slot), lv_has ls 4 [(0, .ref a0), (1, .int x1), (2, .int x2), (3, .int x3)] → W p l e { frames := 4, cells := 0, slots := 0, locals := 94 } s m args below meth c H locs 0 0 (MQ below (fun _ st o t => o = .returned (some (.int r.1)) ∧ va_P (dC, dI) vwCl (wX13 g a0 a1 a2 a3 a4 a5 a6 a7 a8 uth uch ufc usv ull ubl uba uea ufa uso udn r.2 uun usr ube ubs uln ubu unu) t.heap ∧ va_F A st t) args s 0 0 A) (F0 m 4 ls []) := by
  intro k
  induction k with
  | zero =>
    intro x2 x3 uw h
    exact absurd h (by simp [fX13_fillsDue_L4])
  | succ k ih =>
    intro x2 x3 uw h H locs hP hD hS ls hl
    rw [fX13_fillsDue_L4] at h
    refine lv_iload_n F.1 F.2.1 dX13_fillsDue_4 rfl (lv_at hl 3 rfl) ?_
    refine lv_aload_n F.1 F.2.1 dX13_fillsDue_5 rfl (lv_at hl 0 rfl) ?_
    refine gF (v := .ref a1) F hE hP 0 rfl rfl inX13 1 (by decide) q1685 rfl dX13_fillsDue_6 ?_
    refine lv_iconst (v := 2) F.1 F.2.1 dX13_fillsDue_9 (by decide) ?_
    refine aLi (k := 2) F hE hP 1 0 rfl rfl (by decide) (by decide) dX13_fillsDue_10 ?_
    refine lv_icmp_ge (tgt := 50) F.1 F.2.1 dX13_fillsDue_11 (by decide) (fun k1 => ?_) (fun k1 => ?_)
    · replace h := it_t k1 h
      refine lv_iload_n F.1 F.2.1 dX13_fillsDue_50 rfl (lv_at hl 2 rfl) ?_
      cases h
      exact MU_i F hr hlocks (Nat.le_refl _) (Nat.le_refl _) hP hS dX13_fillsDue_51
    · replace h := it_f k1 h
      refine lv_aload_n F.1 F.2.1 dX13_fillsDue_14 rfl (lv_at hl 0 rfl) ?_
      refine lv_iload_n F.1 F.2.1 dX13_fillsDue_15 rfl (lv_at hl 3 rfl) ?_
      refine lv_iconst (v := 3) F.1 F.2.1 dX13_fillsDue_16 (by decide) ?_
      obtain ⟨z2, k3, h⟩ := bd_ok h
      refine cRV (As := [.int x3, .int 3]) (rest := []) F hE hX hS (tX13_orderOf l dC dI g a0 a1 a2 a3 a4 a5 a6 a7 a8 uth uch ufc usv ull ubl uba uea ufa uso udn uw uun usr ube ubs uln ubu unu x3 3 k3) mbX13_orderOf q1839 ⟨(Nat.le_of_ble_eq_true rfl), (Nat.le_of_ble_eq_true rfl)⟩ ⟨Nat.zero_le _, Nat.zero_le _⟩ hP [0, 1, 2, 3, 4, 5, 6, 7, 8] rfl 0 rfl rfl rfl hl.1 rfl (Nat.le_of_ble_eq_true rfl) dX13_fillsDue_17 ?_
      refine lv_iload_n F.1 F.2.1 dX13_fillsDue_20 rfl (lv_at hl 1 rfl) ?_
      refine lv_icmp_gt (tgt := 50) F.1 F.2.1 dX13_fillsDue_21 (by decide) (fun k4 => ?_) (fun k4 => ?_)
      · replace h := it_t k4 h
        refine lv_iload_n F.1 F.2.1 dX13_fillsDue_50 rfl (lv_at hl 2 rfl) ?_
        cases h
        exact MU_i F hr hlocks (Nat.le_refl _) (Nat.le_refl _) hP hS dX13_fillsDue_51
      · replace h := it_f k4 h
        refine lv_aload_n F.1 F.2.1 dX13_fillsDue_24 rfl (lv_at hl 0 rfl) ?_
        refine lv_iload_n F.1 F.2.1 dX13_fillsDue_25 rfl (lv_at hl 3 rfl) ?_
        obtain ⟨z5, k6, h⟩ := bd_ok h
        refine cRV (As := [.int x3]) (rest := []) F hE hX hS (tX13_isFillable l dC dI g a0 a1 a2 a3 a4 a5 a6 a7 a8 uth uch ufc usv ull ubl uba uea ufa uso udn uw uun usr ube ubs uln ubu unu x3 k6) mbX13_isFillable q1871 ⟨(Nat.le_of_ble_eq_true rfl), (Nat.le_of_ble_eq_true rfl)⟩ ⟨Nat.zero_le _, Nat.zero_le _⟩ hP [0, 1, 2, 3, 4, 5, 6, 7, 8] rfl 0 rfl rfl rfl hl.1 rfl (Nat.le_of_ble_eq_true rfl) dX13_fillsDue_26 ?_
        refine lv_if_eq (tgt := 44) F.1 F.2.1 dX13_fillsDue_29 (by decide) (fun k7 => ?_) (fun k7 => ?_)
        · replace h := it_t k7 h
          refine lv_iinc (v := x3 + 1) (lv' := [(3, .int (x3 + 1)), (0, .ref a0), (1, .int x1), (2, .int x2)]) F.1 F.2.1 dX13_fillsDue_44 hl (k := 3) rfl (by rfl) (by decide) rfl (fun ls hl => ?_)
          refine lv_goto (tgt := 4) F.1 F.2.1 dX13_fillsDue_47 (by decide) ?_
          exact ih x2 (x3 + 1) uw h _ _ hP hD hS ls (lv_sub hl [1, 2, 3, 0] rfl)
        · replace h := it_f k7 h
          refine lv_aload_n F.1 F.2.1 dX13_fillsDue_32 rfl (lv_at hl 0 rfl) ?_
          refine lv_iload_n F.1 F.2.1 dX13_fillsDue_33 rfl (lv_at hl 3 rfl) ?_
          obtain ⟨z8, k9, h⟩ := bd_ok h
          refine cMV (As := [.int x3]) (rest := []) (ws' := wX13 g a0 a1 a2 a3 a4 a5 a6 a7 a8 uth uch ufc usv ull ubl uba uea ufa uso udn z8.2 uun usr ube ubs uln ubu unu) F hE hX (tX13_fillsAt l dC dI g a0 a1 a2 a3 a4 a5 a6 a7 a8 uth uch ufc usv ull ubl uba uea ufa uso udn uw uun usr ube ubs uln ubu unu x3 k9) mbX13_fillsAt q1887 ⟨(Nat.le_of_ble_eq_true rfl), (Nat.le_of_ble_eq_true rfl)⟩ ⟨(Nat.le_of_ble_eq_true rfl), (Nat.le_of_ble_eq_true rfl)⟩ hP hD hS hA [0, 1, 2, 3, 4, 5, 6, 7, 8] rfl rfl rfl rfl rfl 0 rfl rfl rfl hl.1 rfl (Nat.le_of_ble_eq_true rfl) dX13_fillsDue_34 (fun H locs hP hD hS => ?_)
          refine lv_pop F.1 F.2.1 dX13_fillsDue_37 rfl ?_
          refine lv_iinc (v := x2 + 1) (lv' := [(2, .int (x2 + 1)), (0, .ref a0), (1, .int x1), (3, .int x3)]) F.1 F.2.1 dX13_fillsDue_38 hl (k := 2) rfl (by rfl) (by decide) rfl (fun ls hl => ?_)
          refine lv_goto (tgt := 4) F.1 F.2.1 dX13_fillsDue_41 (by decide) ?_
          exact ih (x2 + 1) x3 z8.2 h _ _ hP hD hS ls (lv_sub hl [1, 2, 0, 3] rfl)
set_option maxHeartbeats 4000000 in
set_option maxRecDepth 100000 in
theorem tX13_fillsDue (l : Launch) (dC : Nat → ClassId) (dI : Nat → Nat → Nat) (g : Nat → ClassId) (a0 a1 a2 a3 a4 a5 a6 a7 a8 : Nat) (uth : Int32) (uch : Int32) (ufc : Int32) (usv : Int32) (ull : Int32) (ubl : Int32) (uba : Int32) (uea : Int32) (ufa : Int32) (uso : Int32) (udn : Int32) (uw : Nat → Int32) (uun : Nat → Int32) (usr : Nat → Int32) (ube : Nat → Int32) (ubs : Nat → Int32) (uln : Nat → Int32) (ubu : Nat → Int32) (unu : Nat → Int32) (p1 : Int32) {r : Int32 × (Nat → Int32)} (h : fX13_fillsDue uw p1 = some r) : MU l yX13_fillsDue cX13_fillsDue 4 (some .int) 4 94 0 0 dC dI g [.ref a0, .int p1] (wX13 g a0 a1 a2 a3 a4 a5 a6 a7 a8 uth uch ufc usv ull ubl uba uea ufa uso udn uw uun usr ube ubs uln ubu unu) (wX13 g a0 a1 a2 a3 a4 a5 a6 a7 a8 uth uch ufc usv ull ubl uba uea ufa uso udn r.2 uun usr ube ubs uln ubu unu) (some (.int r.1)) := by
  refine MU_of (by decide) (Nat.le_of_ble_eq_true rfl) ?_
  intro p e s m below meth c ls F hr hlocks hE hX hA hP hD hS hl
  generalize va_A (wX13 g a0 a1 a2 a3 a4 a5 a6 a7 a8 uth uch ufc usv ull ubl uba uea ufa uso udn uw uun usr ube ubs uln ubu unu) s.heap.size = A at hA hD hS hX ⊢
  replace F : CF p m c cX13_fillsDue 4 s _ RX13 := F
  replace hl : lv_has ls 4 [(0, .ref a0), (1, .int p1)] := hl
  rw [fX13_fillsDue] at h
  refine lv_iconst (v := 0) F.1 F.2.1 dX13_fillsDue_0 (by decide) ?_
  refine lv_istore_n (lv' := [(2, .int 0), (0, .ref a0), (1, .int p1)]) F.1 F.2.1 dX13_fillsDue_1 rfl hl (by decide) rfl (fun ls hl => ?_)
  refine lv_iconst (v := 0) F.1 F.2.1 dX13_fillsDue_2 (by decide) ?_
  refine lv_istore_n (lv' := [(3, .int 0), (2, .int 0), (0, .ref a0), (1, .int p1)]) F.1 F.2.1 dX13_fillsDue_3 rfl hl (by decide) rfl (fun ls hl => ?_)
  exact tX13_fillsDue_L4 F hr hlocks hE hX hA p1 uth uch ufc usv ull ubl uba uea ufa uso udn uun usr ube ubs uln ubu unu FU 0 0 uw h _ _ hP hD hS ls (lv_sub hl [2, 3, 1, 0] rfl)
/-! WireCutterModel.fillDue -/
def fX13_fillDue (uch : Int32) (ufc : Int32) (uw : Nat → Int32) (uun : Nat → Int32) (ube : Nat → Int32) (p1 : Int32) : Option (Int32 × Int32 × Int32 × Int32 × (Nat → Int32) × (Nat → Int32) × (Nat → Int32)) :=
  (fX13_notDue p1).bind fun z1 =>
  if z1 = 0 then
    (fX13_remembers uch ufc uw uun ube).bind fun z4 =>
    (fX13_fillsDue uw p1).bind fun z6 =>
    some (z6.1, 0, z4.1, z4.2.1, z6.2, z4.2.2.1, z4.2.2.2)
  else
    (fX13_fails 1).bind fun z8 =>
    some (z8.1, z8.2, uch, ufc, uw, uun, ube)
theorem mbX13_fillDue : MV yX13_fillDue cX13_fillDue 2 (some .int) 1 := ⟨⟨q1906, q16, by decide +kernel⟩, q1904, q1905⟩
set_option maxHeartbeats 4000000 in
set_option maxRecDepth 100000 in
theorem tX13_fillDue (l : Launch) (dC : Nat → ClassId) (dI : Nat → Nat → Nat) (g : Nat → ClassId) (a0 a1 a2 a3 a4 a5 a6 a7 a8 : Nat) (uth : Int32) (uch : Int32) (ufc : Int32) (usv : Int32) (ull : Int32) (ubl : Int32) (uba : Int32) (uea : Int32) (ufa : Int32) (uso : Int32) (udn : Int32) (uw : Nat → Int32) (uun : Nat → Int32) (usr : Nat → Int32) (ube : Nat → Int32) (ubs : Nat → Int32) (uln : Nat → Int32) (ubu : Nat → Int32) (unu : Nat → Int32) (p1 : Int32) {r : Int32 × Int32 × Int32 × Int32 × (Nat → Int32) × (Nat → Int32) × (Nat → Int32)} (h : fX13_fillDue uch ufc uw uun ube p1 = some r) : MU l yX13_fillDue cX13_fillDue 2 (some .int) 5 117 0 0 dC dI g [.ref a0, .int p1] (wX13 g a0 a1 a2 a3 a4 a5 a6 a7 a8 uth uch ufc usv ull ubl uba uea ufa uso udn uw uun usr ube ubs uln ubu unu) (wX13 g a0 a1 a2 a3 a4 a5 a6 a7 a8 r.2.1 r.2.2.1 r.2.2.2.1 usv ull ubl uba uea ufa uso udn r.2.2.2.2.1 r.2.2.2.2.2.1 usr r.2.2.2.2.2.2 ubs uln ubu unu) (some (.int r.1)) := by
  refine MU_of (by decide) (Nat.le_of_ble_eq_true rfl) ?_
  intro p e s m below meth c ls F hr hlocks hE hX hA hP hD hS hl
  generalize va_A (wX13 g a0 a1 a2 a3 a4 a5 a6 a7 a8 uth uch ufc usv ull ubl uba uea ufa uso udn uw uun usr ube ubs uln ubu unu) s.heap.size = A at hA hD hS hX ⊢
  replace F : CF p m c cX13_fillDue 2 s _ RX13 := F
  replace hl : lv_has ls 2 [(0, .ref a0), (1, .int p1)] := hl
  rw [fX13_fillDue] at h
  refine lv_aload_n F.1 F.2.1 dX13_fillDue_0 rfl (lv_at hl 0 rfl) ?_
  refine lv_iconst (v := 0) F.1 F.2.1 dX13_fillDue_1 (by decide) ?_
  refine pF (v := .int 0) F hE hP hD hS 0 rfl rfl inX13 tyX13 tyX13_ok nmX13 0 (by decide) q1684 rfl rfl rfl (Nat.le_of_ble_eq_true rfl) dX13_fillDue_2 (fun H locs hP hD hS => ?_)
  replace hP : va_P (dC, dI) vwCl (wX13 g a0 a1 a2 a3 a4 a5 a6 a7 a8 0 uch ufc usv ull ubl uba uea ufa uso udn uw uun usr ube ubs uln ubu unu) H := hP
  replace hD : va_D A (wX13 g a0 a1 a2 a3 a4 a5 a6 a7 a8 0 uch ufc usv ull ubl uba uea ufa uso udn uw uun usr ube ubs uln ubu unu) := hD
  refine lv_iload_n F.1 F.2.1 dX13_fillDue_5 rfl (lv_at hl 1 rfl) ?_
  obtain ⟨z1, k2, h⟩ := bd_ok h
  refine cRS (As := [.int p1]) (rest := []) F hE hX hS (tX13_notDue l dC dI g p1 k2) mbX13_notDue q1907 ⟨(Nat.le_of_ble_eq_true rfl), (Nat.le_of_ble_eq_true rfl)⟩ ⟨Nat.zero_le _, Nat.zero_le _⟩ hP [] rfl rfl hl.1 rfl (Nat.le_of_ble_eq_true rfl) dX13_fillDue_6 ?_
  refine lv_if_eq (tgt := 18) F.1 F.2.1 dX13_fillDue_9 (by decide) (fun k3 => ?_) (fun k3 => ?_)
  · replace h := it_t k3 h
    refine lv_aload_n F.1 F.2.1 dX13_fillDue_18 rfl (lv_at hl 0 rfl) ?_
    obtain ⟨z4, k5, h⟩ := bd_ok h
    refine cMV (As := []) (rest := []) (ws' := wX13 g a0 a1 a2 a3 a4 a5 a6 a7 a8 0 z4.1 z4.2.1 usv ull ubl uba uea ufa uso udn uw z4.2.2.1 usr z4.2.2.2 ubs uln ubu unu) F hE hX (tX13_remembers l dC dI g a0 a1 a2 a3 a4 a5 a6 a7 a8 0 uch ufc usv ull ubl uba uea ufa uso udn uw uun usr ube ubs uln ubu unu k5) mbX13_remembers q1760 ⟨(Nat.le_of_ble_eq_true rfl), (Nat.le_of_ble_eq_true rfl)⟩ ⟨(Nat.le_of_ble_eq_true rfl), (Nat.le_of_ble_eq_true rfl)⟩ hP hD hS hA [0, 1, 2, 3, 4, 5, 6, 7, 8] rfl rfl rfl rfl rfl 0 rfl rfl rfl hl.1 rfl (Nat.le_of_ble_eq_true rfl) dX13_fillDue_19 (fun H locs hP hD hS => ?_)
    refine lv_aload_n F.1 F.2.1 dX13_fillDue_22 rfl (lv_at hl 0 rfl) ?_
    refine lv_iload_n F.1 F.2.1 dX13_fillDue_23 rfl (lv_at hl 1 rfl) ?_
    obtain ⟨z6, k7, h⟩ := bd_ok h
    refine cMV (As := [.int p1]) (rest := []) (ws' := wX13 g a0 a1 a2 a3 a4 a5 a6 a7 a8 0 z4.1 z4.2.1 usv ull ubl uba uea ufa uso udn z6.2 z4.2.2.1 usr z4.2.2.2 ubs uln ubu unu) F hE hX (tX13_fillsDue l dC dI g a0 a1 a2 a3 a4 a5 a6 a7 a8 0 z4.1 z4.2.1 usv ull ubl uba uea ufa uso udn uw z4.2.2.1 usr z4.2.2.2 ubs uln ubu unu p1 k7) mbX13_fillsDue q1910 ⟨(Nat.le_of_ble_eq_true rfl), (Nat.le_of_ble_eq_true rfl)⟩ ⟨(Nat.le_of_ble_eq_true rfl), (Nat.le_of_ble_eq_true rfl)⟩ hP hD hS hA [0, 1, 2, 3, 4, 5, 6, 7, 8] rfl rfl rfl rfl rfl 0 rfl rfl rfl hl.1 rfl (Nat.le_of_ble_eq_true rfl) dX13_fillDue_24 (fun H locs hP hD hS => ?_)
    cases h
    exact MU_i F hr hlocks (Nat.le_refl _) (Nat.le_refl _) hP hS dX13_fillDue_27
  · replace h := it_f k3 h
    refine lv_aload_n F.1 F.2.1 dX13_fillDue_12 rfl (lv_at hl 0 rfl) ?_
    refine lv_iconst (v := 1) F.1 F.2.1 dX13_fillDue_13 (by decide) ?_
    obtain ⟨z8, k9, h⟩ := bd_ok h
    refine cMV (As := [.int 1]) (rest := []) (ws' := wX13 g a0 a1 a2 a3 a4 a5 a6 a7 a8 z8.2 uch ufc usv ull ubl uba uea ufa uso udn uw uun usr ube ubs uln ubu unu) F hE hX (tX13_fails l dC dI g a0 a1 a2 a3 a4 a5 a6 a7 a8 0 uch ufc usv ull ubl uba uea ufa uso udn uw uun usr ube ubs uln ubu unu 1 k9) mbX13_fails q1756 ⟨(Nat.le_of_ble_eq_true rfl), (Nat.le_of_ble_eq_true rfl)⟩ ⟨(Nat.le_of_ble_eq_true rfl), (Nat.le_of_ble_eq_true rfl)⟩ hP hD hS hA [0, 1, 2, 3, 4, 5, 6, 7, 8] rfl rfl rfl rfl rfl 0 rfl rfl rfl hl.1 rfl (Nat.le_of_ble_eq_true rfl) dX13_fillDue_14 (fun H locs hP hD hS => ?_)
    cases h
    exact MU_i F hr hlocks (Nat.le_refl _) (Nat.le_refl _) hP hS dX13_fillDue_17
/-! WireCutterModel.sets -/
def fX13_sets (uw : Nat → Int32) (p1 : Int32) (p2 : Int32) : Option (Int32 × (Nat → Int32)) :=
  gd (inR p1 201) <|
  gd (inR p1 201) <|
  some (uw p1.toNatClampNeg, upd uw p1.toNatClampNeg p2)
theorem mbX13_sets : MV yX13_sets cX13_sets 4 (some .int) 2 := ⟨⟨q1924, q16, by decide +kernel⟩, q1923, qs55⟩
set_option maxHeartbeats 4000000 in
set_option maxRecDepth 100000 in
theorem tX13_sets (l : Launch) (dC : Nat → ClassId) (dI : Nat → Nat → Nat) (g : Nat → ClassId) (a0 a1 a2 a3 a4 a5 a6 a7 a8 : Nat) (uth : Int32) (uch : Int32) (ufc : Int32) (usv : Int32) (ull : Int32) (ubl : Int32) (uba : Int32) (uea : Int32) (ufa : Int32) (uso : Int32) (udn : Int32) (uw : Nat → Int32) (uun : Nat → Int32) (usr : Nat → Int32) (ube : Nat → Int32) (ubs : Nat → Int32) (uln : Nat → Int32) (ubu : Nat → Int32) (unu : Nat → Int32) (p1 : Int32) (p2 : Int32) {r : Int32 × (Nat → Int32)} (h : fX13_sets uw p1 p2 = some r) : MU l yX13_sets cX13_sets 4 (some .int) 0 0 0 0 dC dI g [.ref a0, .int p1, .int p2] (wX13 g a0 a1 a2 a3 a4 a5 a6 a7 a8 uth uch ufc usv ull ubl uba uea ufa uso udn uw uun usr ube ubs uln ubu unu) (wX13 g a0 a1 a2 a3 a4 a5 a6 a7 a8 uth uch ufc usv ull ubl uba uea ufa uso udn r.2 uun usr ube ubs uln ubu unu) (some (.int r.1)) := by
  refine MU_of (by decide) (Nat.le_of_ble_eq_true rfl) ?_
  intro p e s m below meth c ls F hr hlocks hE hX hA hP hD hS hl
  generalize va_A (wX13 g a0 a1 a2 a3 a4 a5 a6 a7 a8 uth uch ufc usv ull ubl uba uea ufa uso udn uw uun usr ube ubs uln ubu unu) s.heap.size = A at hA hD hS hX ⊢
  replace F : CF p m c cX13_sets 4 s _ RX13 := F
  replace hl : lv_has ls 4 [(0, .ref a0), (1, .int p1), (2, .int p2)] := hl
  rw [fX13_sets] at h
  refine lv_aload_n F.1 F.2.1 dX13_sets_0 rfl (lv_at hl 0 rfl) ?_
  refine gF (v := .ref a1) F hE hP 0 rfl rfl inX13 1 (by decide) q1685 rfl dX13_sets_1 ?_
  refine lv_iload_n F.1 F.2.1 dX13_sets_4 rfl (lv_at hl 1 rfl) ?_
  obtain ⟨k1, h⟩ := gd_ok h
  refine aLi (k := p1.toNatClampNeg) F hE hP 1 0 rfl rfl k1 rfl dX13_sets_5 ?_
  refine lv_istore_n (lv' := [(3, .int (uw p1.toNatClampNeg)), (0, .ref a0), (1, .int p1), (2, .int p2)]) F.1 F.2.1 dX13_sets_6 rfl hl (by decide) rfl (fun ls hl => ?_)
  refine lv_aload_n F.1 F.2.1 dX13_sets_7 rfl (lv_at hl 1 rfl) ?_
  refine gF (v := .ref a1) F hE hP 0 rfl rfl inX13 1 (by decide) q1685 rfl dX13_sets_8 ?_
  refine lv_iload_n F.1 F.2.1 dX13_sets_11 rfl (lv_at hl 2 rfl) ?_
  refine lv_iload_n F.1 F.2.1 dX13_sets_12 rfl (lv_at hl 3 rfl) ?_
  obtain ⟨k2, h⟩ := gd_ok h
  refine aSi (k := p1.toNatClampNeg) F hE hP hD hS 1 0 rfl rfl k2 rfl dX13_sets_13 (fun H locs hP hD hS => ?_)
  replace hP : va_P (dC, dI) vwCl (wX13 g a0 a1 a2 a3 a4 a5 a6 a7 a8 uth uch ufc usv ull ubl uba uea ufa uso udn (upd uw p1.toNatClampNeg p2) uun usr ube ubs uln ubu unu) H := hP
  replace hD : va_D A (wX13 g a0 a1 a2 a3 a4 a5 a6 a7 a8 uth uch ufc usv ull ubl uba uea ufa uso udn (upd uw p1.toNatClampNeg p2) uun usr ube ubs uln ubu unu) := hD
  refine lv_iload_n F.1 F.2.1 dX13_sets_14 rfl (lv_at hl 0 rfl) ?_
  cases h
  exact MU_i F hr hlocks (Nat.le_refl _) (Nat.le_refl _) hP hS dX13_sets_15
/-! WireCutterModel.notKerf -/
def fX13_notKerf (p0 : Int32) : Option (Int32) :=
  (fX13_isBetween p0 0 5).bind fun z1 =>
  if z1 = 0 then
    some (1)
  else
    some (0)
theorem mbX13_notKerf : MS yX13_notKerf cX13_notKerf 1 (some .int) 1 := ⟨⟨q1920, q16, by decide +kernel⟩, q1919⟩
set_option maxHeartbeats 4000000 in
set_option maxRecDepth 100000 in
theorem tX13_notKerf (l : Launch) (dC : Nat → ClassId) (dI : Nat → Nat → Nat) (g : Nat → ClassId) (p0 : Int32) {r : Int32} (h : fX13_notKerf p0 = some r) : RO l yX13_notKerf cX13_notKerf 1 (some .int) 1 22 dC dI g [.int p0] (([] : va_W)) (some (.int r)) := by
  refine RO_of (by decide) (Nat.le_of_ble_eq_true rfl) ?_
  intro p e s m below meth c ls F hr hlocks hE hX hP hl
  replace F : CF p m c cX13_notKerf 1 s _ RX13 := F
  replace hl : lv_has ls 1 [(0, .int p0)] := hl
  rw [fX13_notKerf] at h
  refine lv_iload_n F.1 F.2.1 dX13_notKerf_0 rfl (lv_at hl 0 rfl) ?_
  refine lv_iconst (v := 0) F.1 F.2.1 dX13_notKerf_1 (by decide) ?_
  refine lv_iconst (v := 5) F.1 F.2.1 dX13_notKerf_2 (by decide) ?_
  obtain ⟨z1, k2, h⟩ := bd_ok h
  refine cRS (As := [.int p0, .int 0, .int 5]) (rest := []) F hE hX va_S.rf (tX13_isBetween l dC dI g p0 0 5 k2) mbX13_isBetween q1753 ⟨(Nat.le_of_ble_eq_true rfl), (Nat.le_of_ble_eq_true rfl)⟩ ⟨Nat.zero_le _, Nat.zero_le _⟩ hP [] rfl rfl hl.1 rfl (Nat.le_of_ble_eq_true rfl) dX13_notKerf_3 ?_
  refine lv_if_eq (tgt := 13) F.1 F.2.1 dX13_notKerf_6 (by decide) (fun k3 => ?_) (fun k3 => ?_)
  · replace h := it_t k3 h
    refine lv_iconst (v := 1) F.1 F.2.1 dX13_notKerf_13 (by decide) ?_
    cases h
    exact RO_i F hr hlocks dX13_notKerf_14
  · replace h := it_f k3 h
    refine lv_iconst (v := 0) F.1 F.2.1 dX13_notKerf_9 (by decide) ?_
    refine lv_goto (tgt := 14) F.1 F.2.1 dX13_notKerf_10 (by decide) ?_
    cases h
    exact RO_i F hr hlocks dX13_notKerf_14
/-! WireCutterModel.setKerf -/
def fX13_setKerf (uch : Int32) (ufc : Int32) (uw : Nat → Int32) (uun : Nat → Int32) (ube : Nat → Int32) (p1 : Int32) : Option (Int32 × Int32 × Int32 × Int32 × (Nat → Int32) × (Nat → Int32) × (Nat → Int32)) :=
  (fX13_notKerf p1).bind fun z1 =>
  if z1 = 0 then
    (fX13_remembers uch ufc uw uun ube).bind fun z4 =>
    (fX13_sets uw 5 p1).bind fun z6 =>
    some (z6.1, 0, z4.1, z4.2.1, z6.2, z4.2.2.1, z4.2.2.2)
  else
    (fX13_fails 1).bind fun z8 =>
    some (z8.1, z8.2, uch, ufc, uw, uun, ube)
theorem mbX13_setKerf : MV yX13_setKerf cX13_setKerf 2 (some .int) 1 := ⟨⟨q1917, q16, by decide +kernel⟩, q1915, q1916⟩
set_option maxHeartbeats 4000000 in
set_option maxRecDepth 100000 in
theorem tX13_setKerf (l : Launch) (dC : Nat → ClassId) (dI : Nat → Nat → Nat) (g : Nat → ClassId) (a0 a1 a2 a3 a4 a5 a6 a7 a8 : Nat) (uth : Int32) (uch : Int32) (ufc : Int32) (usv : Int32) (ull : Int32) (ubl : Int32) (uba : Int32) (uea : Int32) (ufa : Int32) (uso : Int32) (udn : Int32) (uw : Nat → Int32) (uun : Nat → Int32) (usr : Nat → Int32) (ube : Nat → Int32) (ubs : Nat → Int32) (uln : Nat → Int32) (ubu : Nat → Int32) (unu : Nat → Int32) (p1 : Int32) {r : Int32 × Int32 × Int32 × Int32 × (Nat → Int32) × (Nat → Int32) × (Nat → Int32)} (h : fX13_setKerf uch ufc uw uun ube p1 = some r) : MU l yX13_setKerf cX13_setKerf 2 (some .int) 2 42 0 0 dC dI g [.ref a0, .int p1] (wX13 g a0 a1 a2 a3 a4 a5 a6 a7 a8 uth uch ufc usv ull ubl uba uea ufa uso udn uw uun usr ube ubs uln ubu unu) (wX13 g a0 a1 a2 a3 a4 a5 a6 a7 a8 r.2.1 r.2.2.1 r.2.2.2.1 usv ull ubl uba uea ufa uso udn r.2.2.2.2.1 r.2.2.2.2.2.1 usr r.2.2.2.2.2.2 ubs uln ubu unu) (some (.int r.1)) := by
  refine MU_of (by decide) (Nat.le_of_ble_eq_true rfl) ?_
  intro p e s m below meth c ls F hr hlocks hE hX hA hP hD hS hl
  generalize va_A (wX13 g a0 a1 a2 a3 a4 a5 a6 a7 a8 uth uch ufc usv ull ubl uba uea ufa uso udn uw uun usr ube ubs uln ubu unu) s.heap.size = A at hA hD hS hX ⊢
  replace F : CF p m c cX13_setKerf 2 s _ RX13 := F
  replace hl : lv_has ls 2 [(0, .ref a0), (1, .int p1)] := hl
  rw [fX13_setKerf] at h
  refine lv_aload_n F.1 F.2.1 dX13_setKerf_0 rfl (lv_at hl 0 rfl) ?_
  refine lv_iconst (v := 0) F.1 F.2.1 dX13_setKerf_1 (by decide) ?_
  refine pF (v := .int 0) F hE hP hD hS 0 rfl rfl inX13 tyX13 tyX13_ok nmX13 0 (by decide) q1684 rfl rfl rfl (Nat.le_of_ble_eq_true rfl) dX13_setKerf_2 (fun H locs hP hD hS => ?_)
  replace hP : va_P (dC, dI) vwCl (wX13 g a0 a1 a2 a3 a4 a5 a6 a7 a8 0 uch ufc usv ull ubl uba uea ufa uso udn uw uun usr ube ubs uln ubu unu) H := hP
  replace hD : va_D A (wX13 g a0 a1 a2 a3 a4 a5 a6 a7 a8 0 uch ufc usv ull ubl uba uea ufa uso udn uw uun usr ube ubs uln ubu unu) := hD
  refine lv_iload_n F.1 F.2.1 dX13_setKerf_5 rfl (lv_at hl 1 rfl) ?_
  obtain ⟨z1, k2, h⟩ := bd_ok h
  refine cRS (As := [.int p1]) (rest := []) F hE hX hS (tX13_notKerf l dC dI g p1 k2) mbX13_notKerf q1918 ⟨(Nat.le_of_ble_eq_true rfl), (Nat.le_of_ble_eq_true rfl)⟩ ⟨Nat.zero_le _, Nat.zero_le _⟩ hP [] rfl rfl hl.1 rfl (Nat.le_of_ble_eq_true rfl) dX13_setKerf_6 ?_
  refine lv_if_eq (tgt := 18) F.1 F.2.1 dX13_setKerf_9 (by decide) (fun k3 => ?_) (fun k3 => ?_)
  · replace h := it_t k3 h
    refine lv_aload_n F.1 F.2.1 dX13_setKerf_18 rfl (lv_at hl 0 rfl) ?_
    obtain ⟨z4, k5, h⟩ := bd_ok h
    refine cMV (As := []) (rest := []) (ws' := wX13 g a0 a1 a2 a3 a4 a5 a6 a7 a8 0 z4.1 z4.2.1 usv ull ubl uba uea ufa uso udn uw z4.2.2.1 usr z4.2.2.2 ubs uln ubu unu) F hE hX (tX13_remembers l dC dI g a0 a1 a2 a3 a4 a5 a6 a7 a8 0 uch ufc usv ull ubl uba uea ufa uso udn uw uun usr ube ubs uln ubu unu k5) mbX13_remembers q1760 ⟨(Nat.le_of_ble_eq_true rfl), (Nat.le_of_ble_eq_true rfl)⟩ ⟨(Nat.le_of_ble_eq_true rfl), (Nat.le_of_ble_eq_true rfl)⟩ hP hD hS hA [0, 1, 2, 3, 4, 5, 6, 7, 8] rfl rfl rfl rfl rfl 0 rfl rfl rfl hl.1 rfl (Nat.le_of_ble_eq_true rfl) dX13_setKerf_19 (fun H locs hP hD hS => ?_)
    refine lv_aload_n F.1 F.2.1 dX13_setKerf_22 rfl (lv_at hl 0 rfl) ?_
    refine lv_iconst (v := 5) F.1 F.2.1 dX13_setKerf_23 (by decide) ?_
    refine lv_iload_n F.1 F.2.1 dX13_setKerf_24 rfl (lv_at hl 1 rfl) ?_
    obtain ⟨z6, k7, h⟩ := bd_ok h
    refine cMV (As := [.int 5, .int p1]) (rest := []) (ws' := wX13 g a0 a1 a2 a3 a4 a5 a6 a7 a8 0 z4.1 z4.2.1 usv ull ubl uba uea ufa uso udn z6.2 z4.2.2.1 usr z4.2.2.2 ubs uln ubu unu) F hE hX (tX13_sets l dC dI g a0 a1 a2 a3 a4 a5 a6 a7 a8 0 z4.1 z4.2.1 usv ull ubl uba uea ufa uso udn uw z4.2.2.1 usr z4.2.2.2 ubs uln ubu unu 5 p1 k7) mbX13_sets q1921 ⟨(Nat.le_of_ble_eq_true rfl), (Nat.le_of_ble_eq_true rfl)⟩ ⟨(Nat.le_of_ble_eq_true rfl), (Nat.le_of_ble_eq_true rfl)⟩ hP hD hS hA [0, 1, 2, 3, 4, 5, 6, 7, 8] rfl rfl rfl rfl rfl 0 rfl rfl rfl hl.1 rfl (Nat.le_of_ble_eq_true rfl) dX13_setKerf_25 (fun H locs hP hD hS => ?_)
    cases h
    exact MU_i F hr hlocks (Nat.le_refl _) (Nat.le_refl _) hP hS dX13_setKerf_28
  · replace h := it_f k3 h
    refine lv_aload_n F.1 F.2.1 dX13_setKerf_12 rfl (lv_at hl 0 rfl) ?_
    refine lv_iconst (v := 1) F.1 F.2.1 dX13_setKerf_13 (by decide) ?_
    obtain ⟨z8, k9, h⟩ := bd_ok h
    refine cMV (As := [.int 1]) (rest := []) (ws' := wX13 g a0 a1 a2 a3 a4 a5 a6 a7 a8 z8.2 uch ufc usv ull ubl uba uea ufa uso udn uw uun usr ube ubs uln ubu unu) F hE hX (tX13_fails l dC dI g a0 a1 a2 a3 a4 a5 a6 a7 a8 0 uch ufc usv ull ubl uba uea ufa uso udn uw uun usr ube ubs uln ubu unu 1 k9) mbX13_fails q1756 ⟨(Nat.le_of_ble_eq_true rfl), (Nat.le_of_ble_eq_true rfl)⟩ ⟨(Nat.le_of_ble_eq_true rfl), (Nat.le_of_ble_eq_true rfl)⟩ hP hD hS hA [0, 1, 2, 3, 4, 5, 6, 7, 8] rfl rfl rfl rfl rfl 0 rfl rfl rfl hl.1 rfl (Nat.le_of_ble_eq_true rfl) dX13_setKerf_14 (fun H locs hP hD hS => ?_)
    cases h
    exact MU_i F hr hlocks (Nat.le_refl _) (Nat.le_refl _) hP hS dX13_setKerf_17
/-! WireCutterModel.notLimit -/
def fX13_notLimit (p0 : Int32) : Option (Int32) :=
  (fX13_isBetween p0 1 50).bind fun z1 =>
  if z1 = 0 then
    some (1)
  else
    some (0)
theorem mbX13_notLimit : MS yX13_notLimit cX13_notLimit 1 (some .int) 1 := ⟨⟨q1931, q16, by decide +kernel⟩, q1930⟩
set_option maxHeartbeats 4000000 in
set_option maxRecDepth 100000 in
theorem tX13_notLimit (l : Launch) (dC : Nat → ClassId) (dI : Nat → Nat → Nat) (g : Nat → ClassId) (p0 : Int32) {r : Int32} (h : fX13_notLimit p0 = some r) : RO l yX13_notLimit cX13_notLimit 1 (some .int) 1 22 dC dI g [.int p0] (([] : va_W)) (some (.int r)) := by
  refine RO_of (by decide) (Nat.le_of_ble_eq_true rfl) ?_
  intro p e s m below meth c ls F hr hlocks hE hX hP hl
  replace F : CF p m c cX13_notLimit 1 s _ RX13 := F
  replace hl : lv_has ls 1 [(0, .int p0)] := hl
  rw [fX13_notLimit] at h
  refine lv_iload_n F.1 F.2.1 dX13_notLimit_0 rfl (lv_at hl 0 rfl) ?_
  refine lv_iconst (v := 1) F.1 F.2.1 dX13_notLimit_1 (by decide) ?_
  refine lv_bipush (v := 50) F.1 F.2.1 dX13_notLimit_2 (by decide) ?_
  obtain ⟨z1, k2, h⟩ := bd_ok h
  refine cRS (As := [.int p0, .int 1, .int 50]) (rest := []) F hE hX va_S.rf (tX13_isBetween l dC dI g p0 1 50 k2) mbX13_isBetween q1753 ⟨(Nat.le_of_ble_eq_true rfl), (Nat.le_of_ble_eq_true rfl)⟩ ⟨Nat.zero_le _, Nat.zero_le _⟩ hP [] rfl rfl hl.1 rfl (Nat.le_of_ble_eq_true rfl) dX13_notLimit_4 ?_
  refine lv_if_eq (tgt := 14) F.1 F.2.1 dX13_notLimit_7 (by decide) (fun k3 => ?_) (fun k3 => ?_)
  · replace h := it_t k3 h
    refine lv_iconst (v := 1) F.1 F.2.1 dX13_notLimit_14 (by decide) ?_
    cases h
    exact RO_i F hr hlocks dX13_notLimit_15
  · replace h := it_f k3 h
    refine lv_iconst (v := 0) F.1 F.2.1 dX13_notLimit_10 (by decide) ?_
    refine lv_goto (tgt := 15) F.1 F.2.1 dX13_notLimit_11 (by decide) ?_
    cases h
    exact RO_i F hr hlocks dX13_notLimit_15
/-! WireCutterModel.setScrapLimit -/
def fX13_setScrapLimit (uch : Int32) (ufc : Int32) (uw : Nat → Int32) (uun : Nat → Int32) (ube : Nat → Int32) (p1 : Int32) : Option (Int32 × Int32 × Int32 × Int32 × (Nat → Int32) × (Nat → Int32) × (Nat → Int32)) :=
  (fX13_notLimit p1).bind fun z1 =>
  if z1 = 0 then
    (fX13_remembers uch ufc uw uun ube).bind fun z4 =>
    (fX13_sets uw 6 p1).bind fun z6 =>
    some (z6.1, 0, z4.1, z4.2.1, z6.2, z4.2.2.1, z4.2.2.2)
  else
    (fX13_fails 1).bind fun z8 =>
    some (z8.1, z8.2, uch, ufc, uw, uun, ube)
theorem mbX13_setScrapLimit : MV yX13_setScrapLimit cX13_setScrapLimit 2 (some .int) 1 := ⟨⟨q1928, q16, by decide +kernel⟩, q1926, q1927⟩
set_option maxHeartbeats 4000000 in
set_option maxRecDepth 100000 in
theorem tX13_setScrapLimit (l : Launch) (dC : Nat → ClassId) (dI : Nat → Nat → Nat) (g : Nat → ClassId) (a0 a1 a2 a3 a4 a5 a6 a7 a8 : Nat) (uth : Int32) (uch : Int32) (ufc : Int32) (usv : Int32) (ull : Int32) (ubl : Int32) (uba : Int32) (uea : Int32) (ufa : Int32) (uso : Int32) (udn : Int32) (uw : Nat → Int32) (uun : Nat → Int32) (usr : Nat → Int32) (ube : Nat → Int32) (ubs : Nat → Int32) (uln : Nat → Int32) (ubu : Nat → Int32) (unu : Nat → Int32) (p1 : Int32) {r : Int32 × Int32 × Int32 × Int32 × (Nat → Int32) × (Nat → Int32) × (Nat → Int32)} (h : fX13_setScrapLimit uch ufc uw uun ube p1 = some r) : MU l yX13_setScrapLimit cX13_setScrapLimit 2 (some .int) 2 42 0 0 dC dI g [.ref a0, .int p1] (wX13 g a0 a1 a2 a3 a4 a5 a6 a7 a8 uth uch ufc usv ull ubl uba uea ufa uso udn uw uun usr ube ubs uln ubu unu) (wX13 g a0 a1 a2 a3 a4 a5 a6 a7 a8 r.2.1 r.2.2.1 r.2.2.2.1 usv ull ubl uba uea ufa uso udn r.2.2.2.2.1 r.2.2.2.2.2.1 usr r.2.2.2.2.2.2 ubs uln ubu unu) (some (.int r.1)) := by
  refine MU_of (by decide) (Nat.le_of_ble_eq_true rfl) ?_
  intro p e s m below meth c ls F hr hlocks hE hX hA hP hD hS hl
  generalize va_A (wX13 g a0 a1 a2 a3 a4 a5 a6 a7 a8 uth uch ufc usv ull ubl uba uea ufa uso udn uw uun usr ube ubs uln ubu unu) s.heap.size = A at hA hD hS hX ⊢
  replace F : CF p m c cX13_setScrapLimit 2 s _ RX13 := F
  replace hl : lv_has ls 2 [(0, .ref a0), (1, .int p1)] := hl
  rw [fX13_setScrapLimit] at h
  refine lv_aload_n F.1 F.2.1 dX13_setScrapLimit_0 rfl (lv_at hl 0 rfl) ?_
  refine lv_iconst (v := 0) F.1 F.2.1 dX13_setScrapLimit_1 (by decide) ?_
  refine pF (v := .int 0) F hE hP hD hS 0 rfl rfl inX13 tyX13 tyX13_ok nmX13 0 (by decide) q1684 rfl rfl rfl (Nat.le_of_ble_eq_true rfl) dX13_setScrapLimit_2 (fun H locs hP hD hS => ?_)
  replace hP : va_P (dC, dI) vwCl (wX13 g a0 a1 a2 a3 a4 a5 a6 a7 a8 0 uch ufc usv ull ubl uba uea ufa uso udn uw uun usr ube ubs uln ubu unu) H := hP
  replace hD : va_D A (wX13 g a0 a1 a2 a3 a4 a5 a6 a7 a8 0 uch ufc usv ull ubl uba uea ufa uso udn uw uun usr ube ubs uln ubu unu) := hD
  refine lv_iload_n F.1 F.2.1 dX13_setScrapLimit_5 rfl (lv_at hl 1 rfl) ?_
  obtain ⟨z1, k2, h⟩ := bd_ok h
  refine cRS (As := [.int p1]) (rest := []) F hE hX hS (tX13_notLimit l dC dI g p1 k2) mbX13_notLimit q1929 ⟨(Nat.le_of_ble_eq_true rfl), (Nat.le_of_ble_eq_true rfl)⟩ ⟨Nat.zero_le _, Nat.zero_le _⟩ hP [] rfl rfl hl.1 rfl (Nat.le_of_ble_eq_true rfl) dX13_setScrapLimit_6 ?_
  refine lv_if_eq (tgt := 18) F.1 F.2.1 dX13_setScrapLimit_9 (by decide) (fun k3 => ?_) (fun k3 => ?_)
  · replace h := it_t k3 h
    refine lv_aload_n F.1 F.2.1 dX13_setScrapLimit_18 rfl (lv_at hl 0 rfl) ?_
    obtain ⟨z4, k5, h⟩ := bd_ok h
    refine cMV (As := []) (rest := []) (ws' := wX13 g a0 a1 a2 a3 a4 a5 a6 a7 a8 0 z4.1 z4.2.1 usv ull ubl uba uea ufa uso udn uw z4.2.2.1 usr z4.2.2.2 ubs uln ubu unu) F hE hX (tX13_remembers l dC dI g a0 a1 a2 a3 a4 a5 a6 a7 a8 0 uch ufc usv ull ubl uba uea ufa uso udn uw uun usr ube ubs uln ubu unu k5) mbX13_remembers q1760 ⟨(Nat.le_of_ble_eq_true rfl), (Nat.le_of_ble_eq_true rfl)⟩ ⟨(Nat.le_of_ble_eq_true rfl), (Nat.le_of_ble_eq_true rfl)⟩ hP hD hS hA [0, 1, 2, 3, 4, 5, 6, 7, 8] rfl rfl rfl rfl rfl 0 rfl rfl rfl hl.1 rfl (Nat.le_of_ble_eq_true rfl) dX13_setScrapLimit_19 (fun H locs hP hD hS => ?_)
    refine lv_aload_n F.1 F.2.1 dX13_setScrapLimit_22 rfl (lv_at hl 0 rfl) ?_
    refine lv_bipush (v := 6) F.1 F.2.1 dX13_setScrapLimit_23 (by decide) ?_
    refine lv_iload_n F.1 F.2.1 dX13_setScrapLimit_25 rfl (lv_at hl 1 rfl) ?_
    obtain ⟨z6, k7, h⟩ := bd_ok h
    refine cMV (As := [.int 6, .int p1]) (rest := []) (ws' := wX13 g a0 a1 a2 a3 a4 a5 a6 a7 a8 0 z4.1 z4.2.1 usv ull ubl uba uea ufa uso udn z6.2 z4.2.2.1 usr z4.2.2.2 ubs uln ubu unu) F hE hX (tX13_sets l dC dI g a0 a1 a2 a3 a4 a5 a6 a7 a8 0 z4.1 z4.2.1 usv ull ubl uba uea ufa uso udn uw z4.2.2.1 usr z4.2.2.2 ubs uln ubu unu 6 p1 k7) mbX13_sets q1921 ⟨(Nat.le_of_ble_eq_true rfl), (Nat.le_of_ble_eq_true rfl)⟩ ⟨(Nat.le_of_ble_eq_true rfl), (Nat.le_of_ble_eq_true rfl)⟩ hP hD hS hA [0, 1, 2, 3, 4, 5, 6, 7, 8] rfl rfl rfl rfl rfl 0 rfl rfl rfl hl.1 rfl (Nat.le_of_ble_eq_true rfl) dX13_setScrapLimit_26 (fun H locs hP hD hS => ?_)
    cases h
    exact MU_i F hr hlocks (Nat.le_refl _) (Nat.le_refl _) hP hS dX13_setScrapLimit_29
  · replace h := it_f k3 h
    refine lv_aload_n F.1 F.2.1 dX13_setScrapLimit_12 rfl (lv_at hl 0 rfl) ?_
    refine lv_iconst (v := 1) F.1 F.2.1 dX13_setScrapLimit_13 (by decide) ?_
    obtain ⟨z8, k9, h⟩ := bd_ok h
    refine cMV (As := [.int 1]) (rest := []) (ws' := wX13 g a0 a1 a2 a3 a4 a5 a6 a7 a8 z8.2 uch ufc usv ull ubl uba uea ufa uso udn uw uun usr ube ubs uln ubu unu) F hE hX (tX13_fails l dC dI g a0 a1 a2 a3 a4 a5 a6 a7 a8 0 uch ufc usv ull ubl uba uea ufa uso udn uw uun usr ube ubs uln ubu unu 1 k9) mbX13_fails q1756 ⟨(Nat.le_of_ble_eq_true rfl), (Nat.le_of_ble_eq_true rfl)⟩ ⟨(Nat.le_of_ble_eq_true rfl), (Nat.le_of_ble_eq_true rfl)⟩ hP hD hS hA [0, 1, 2, 3, 4, 5, 6, 7, 8] rfl rfl rfl rfl rfl 0 rfl rfl rfl hl.1 rfl (Nat.le_of_ble_eq_true rfl) dX13_setScrapLimit_14 (fun H locs hP hD hS => ?_)
    cases h
    exact MU_i F hr hlocks (Nat.le_refl _) (Nat.le_refl _) hP hS dX13_setScrapLimit_17
/-! WireCutterModel.notRule -/
def fX13_notRule (p0 : Int32) : Option (Int32) :=
  if p0 = 98 then
    some (0)
  else
    if p0 = 119 then
      some (0)
    else
      if p0 = 102 then
        some (0)
      else
        some (1)
theorem mbX13_notRule : MS yX13_notRule cX13_notRule 1 (some .int) 1 := ⟨⟨q1938, q16, by decide +kernel⟩, q1937⟩
set_option maxHeartbeats 4000000 in
set_option maxRecDepth 100000 in
theorem tX13_notRule (l : Launch) (dC : Nat → ClassId) (dI : Nat → Nat → Nat) (g : Nat → ClassId) (p0 : Int32) {r : Int32} (h : fX13_notRule p0 = some r) : RO l yX13_notRule cX13_notRule 1 (some .int) 0 0 dC dI g [.int p0] (([] : va_W)) (some (.int r)) := by
  refine RO_of (by decide) (Nat.le_of_ble_eq_true rfl) ?_
  intro p e s m below meth c ls F hr hlocks hE hX hP hl
  replace F : CF p m c cX13_notRule 1 s _ RX13 := F
  replace hl : lv_has ls 1 [(0, .int p0)] := hl
  rw [fX13_notRule] at h
  refine lv_iload_n F.1 F.2.1 dX13_notRule_0 rfl (lv_at hl 0 rfl) ?_
  refine lv_bipush (v := 98) F.1 F.2.1 dX13_notRule_1 (by decide) ?_
  refine lv_icmp_eq (tgt := 18) F.1 F.2.1 dX13_notRule_3 (by decide) (fun k1 => ?_) (fun k1 => ?_)
  · replace h := it_t k1 h
    refine lv_iconst (v := 0) F.1 F.2.1 dX13_notRule_18 (by decide) ?_
    refine lv_goto (tgt := 23) F.1 F.2.1 dX13_notRule_19 (by decide) ?_
    cases h
    exact RO_i F hr hlocks dX13_notRule_23
  · replace h := it_f k1 h
    refine lv_iload_n F.1 F.2.1 dX13_notRule_6 rfl (lv_at hl 0 rfl) ?_
    refine lv_bipush (v := 119) F.1 F.2.1 dX13_notRule_7 (by decide) ?_
    refine lv_icmp_eq (tgt := 18) F.1 F.2.1 dX13_notRule_9 (by decide) (fun k2 => ?_) (fun k2 => ?_)
    · replace h := it_t k2 h
      refine lv_iconst (v := 0) F.1 F.2.1 dX13_notRule_18 (by decide) ?_
      refine lv_goto (tgt := 23) F.1 F.2.1 dX13_notRule_19 (by decide) ?_
      cases h
      exact RO_i F hr hlocks dX13_notRule_23
    · replace h := it_f k2 h
      refine lv_iload_n F.1 F.2.1 dX13_notRule_12 rfl (lv_at hl 0 rfl) ?_
      refine lv_bipush (v := 102) F.1 F.2.1 dX13_notRule_13 (by decide) ?_
      refine lv_icmp_ne (tgt := 22) F.1 F.2.1 dX13_notRule_15 (by decide) (fun k3 => ?_) (fun k3 => ?_)
      · replace h := it_f k3 h
        refine lv_iconst (v := 1) F.1 F.2.1 dX13_notRule_22 (by decide) ?_
        cases h
        exact RO_i F hr hlocks dX13_notRule_23
      · replace h := it_t k3 h
        refine lv_iconst (v := 0) F.1 F.2.1 dX13_notRule_18 (by decide) ?_
        refine lv_goto (tgt := 23) F.1 F.2.1 dX13_notRule_19 (by decide) ?_
        cases h
        exact RO_i F hr hlocks dX13_notRule_23
/-! WireCutterModel.setRule -/
def fX13_setRule (uch : Int32) (ufc : Int32) (uw : Nat → Int32) (uun : Nat → Int32) (ube : Nat → Int32) (p1 : Int32) : Option (Int32 × Int32 × Int32 × Int32 × (Nat → Int32) × (Nat → Int32) × (Nat → Int32)) :=
  (fX13_notRule p1).bind fun z1 =>
  if z1 = 0 then
    (fX13_remembers uch ufc uw uun ube).bind fun z4 =>
    (fX13_sets uw 7 p1).bind fun z6 =>
    some ((z6.1.toUInt32 % 65536).toInt32, 0, z4.1, z4.2.1, z6.2, z4.2.2.1, z4.2.2.2)
  else
    (fX13_fails 1).bind fun z8 =>
    some ((z8.1.toUInt32 % 65536).toInt32, z8.2, uch, ufc, uw, uun, ube)
theorem mbX13_setRule : MV yX13_setRule cX13_setRule 2 (some .char) 1 := ⟨⟨q1935, q16, by decide +kernel⟩, q1933, q1934⟩
set_option maxHeartbeats 4000000 in
set_option maxRecDepth 100000 in
theorem tX13_setRule (l : Launch) (dC : Nat → ClassId) (dI : Nat → Nat → Nat) (g : Nat → ClassId) (a0 a1 a2 a3 a4 a5 a6 a7 a8 : Nat) (uth : Int32) (uch : Int32) (ufc : Int32) (usv : Int32) (ull : Int32) (ubl : Int32) (uba : Int32) (uea : Int32) (ufa : Int32) (uso : Int32) (udn : Int32) (uw : Nat → Int32) (uun : Nat → Int32) (usr : Nat → Int32) (ube : Nat → Int32) (ubs : Nat → Int32) (uln : Nat → Int32) (ubu : Nat → Int32) (unu : Nat → Int32) (p1 : Int32) {r : Int32 × Int32 × Int32 × Int32 × (Nat → Int32) × (Nat → Int32) × (Nat → Int32)} (h : fX13_setRule uch ufc uw uun ube p1 = some r) : MU l yX13_setRule cX13_setRule 2 (some .char) 2 42 0 0 dC dI g [.ref a0, .int p1] (wX13 g a0 a1 a2 a3 a4 a5 a6 a7 a8 uth uch ufc usv ull ubl uba uea ufa uso udn uw uun usr ube ubs uln ubu unu) (wX13 g a0 a1 a2 a3 a4 a5 a6 a7 a8 r.2.1 r.2.2.1 r.2.2.2.1 usv ull ubl uba uea ufa uso udn r.2.2.2.2.1 r.2.2.2.2.2.1 usr r.2.2.2.2.2.2 ubs uln ubu unu) (some (.int r.1)) := by
  refine MU_of (by decide) (Nat.le_of_ble_eq_true rfl) ?_
  intro p e s m below meth c ls F hr hlocks hE hX hA hP hD hS hl
  generalize va_A (wX13 g a0 a1 a2 a3 a4 a5 a6 a7 a8 uth uch ufc usv ull ubl uba uea ufa uso udn uw uun usr ube ubs uln ubu unu) s.heap.size = A at hA hD hS hX ⊢
  replace F : CF p m c cX13_setRule 2 s _ RX13 := F
  replace hl : lv_has ls 2 [(0, .ref a0), (1, .int p1)] := hl
  rw [fX13_setRule] at h
  refine lv_aload_n F.1 F.2.1 dX13_setRule_0 rfl (lv_at hl 0 rfl) ?_
  refine lv_iconst (v := 0) F.1 F.2.1 dX13_setRule_1 (by decide) ?_
  refine pF (v := .int 0) F hE hP hD hS 0 rfl rfl inX13 tyX13 tyX13_ok nmX13 0 (by decide) q1684 rfl rfl rfl (Nat.le_of_ble_eq_true rfl) dX13_setRule_2 (fun H locs hP hD hS => ?_)
  replace hP : va_P (dC, dI) vwCl (wX13 g a0 a1 a2 a3 a4 a5 a6 a7 a8 0 uch ufc usv ull ubl uba uea ufa uso udn uw uun usr ube ubs uln ubu unu) H := hP
  replace hD : va_D A (wX13 g a0 a1 a2 a3 a4 a5 a6 a7 a8 0 uch ufc usv ull ubl uba uea ufa uso udn uw uun usr ube ubs uln ubu unu) := hD
  refine lv_iload_n F.1 F.2.1 dX13_setRule_5 rfl (lv_at hl 1 rfl) ?_
  obtain ⟨z1, k2, h⟩ := bd_ok h
  refine cRS (As := [.int p1]) (rest := []) F hE hX hS (tX13_notRule l dC dI g p1 k2) mbX13_notRule q1936 ⟨(Nat.le_of_ble_eq_true rfl), (Nat.le_of_ble_eq_true rfl)⟩ ⟨Nat.zero_le _, Nat.zero_le _⟩ hP [] rfl rfl hl.1 rfl (Nat.le_of_ble_eq_true rfl) dX13_setRule_6 ?_
  refine lv_if_eq (tgt := 19) F.1 F.2.1 dX13_setRule_9 (by decide) (fun k3 => ?_) (fun k3 => ?_)
  · replace h := it_t k3 h
    refine lv_aload_n F.1 F.2.1 dX13_setRule_19 rfl (lv_at hl 0 rfl) ?_
    obtain ⟨z4, k5, h⟩ := bd_ok h
    refine cMV (As := []) (rest := []) (ws' := wX13 g a0 a1 a2 a3 a4 a5 a6 a7 a8 0 z4.1 z4.2.1 usv ull ubl uba uea ufa uso udn uw z4.2.2.1 usr z4.2.2.2 ubs uln ubu unu) F hE hX (tX13_remembers l dC dI g a0 a1 a2 a3 a4 a5 a6 a7 a8 0 uch ufc usv ull ubl uba uea ufa uso udn uw uun usr ube ubs uln ubu unu k5) mbX13_remembers q1760 ⟨(Nat.le_of_ble_eq_true rfl), (Nat.le_of_ble_eq_true rfl)⟩ ⟨(Nat.le_of_ble_eq_true rfl), (Nat.le_of_ble_eq_true rfl)⟩ hP hD hS hA [0, 1, 2, 3, 4, 5, 6, 7, 8] rfl rfl rfl rfl rfl 0 rfl rfl rfl hl.1 rfl (Nat.le_of_ble_eq_true rfl) dX13_setRule_20 (fun H locs hP hD hS => ?_)
    refine lv_aload_n F.1 F.2.1 dX13_setRule_23 rfl (lv_at hl 0 rfl) ?_
    refine lv_bipush (v := 7) F.1 F.2.1 dX13_setRule_24 (by decide) ?_
    refine lv_iload_n F.1 F.2.1 dX13_setRule_26 rfl (lv_at hl 1 rfl) ?_
    obtain ⟨z6, k7, h⟩ := bd_ok h
    refine cMV (As := [.int 7, .int p1]) (rest := []) (ws' := wX13 g a0 a1 a2 a3 a4 a5 a6 a7 a8 0 z4.1 z4.2.1 usv ull ubl uba uea ufa uso udn z6.2 z4.2.2.1 usr z4.2.2.2 ubs uln ubu unu) F hE hX (tX13_sets l dC dI g a0 a1 a2 a3 a4 a5 a6 a7 a8 0 z4.1 z4.2.1 usv ull ubl uba uea ufa uso udn uw z4.2.2.1 usr z4.2.2.2 ubs uln ubu unu 7 p1 k7) mbX13_sets q1921 ⟨(Nat.le_of_ble_eq_true rfl), (Nat.le_of_ble_eq_true rfl)⟩ ⟨(Nat.le_of_ble_eq_true rfl), (Nat.le_of_ble_eq_true rfl)⟩ hP hD hS hA [0, 1, 2, 3, 4, 5, 6, 7, 8] rfl rfl rfl rfl rfl 0 rfl rfl rfl hl.1 rfl (Nat.le_of_ble_eq_true rfl) dX13_setRule_27 (fun H locs hP hD hS => ?_)
    refine lv_i2c F.1 F.2.1 dX13_setRule_30 rfl ?_
    cases h
    exact MU_z (v := ((z6.1.toUInt32 % 65536).toInt32)) F hr hlocks (Nat.le_refl _) (Nat.le_refl _) (pk_nc _) hP hS dX13_setRule_31
  · replace h := it_f k3 h
    refine lv_aload_n F.1 F.2.1 dX13_setRule_12 rfl (lv_at hl 0 rfl) ?_
    refine lv_iconst (v := 1) F.1 F.2.1 dX13_setRule_13 (by decide) ?_
    obtain ⟨z8, k9, h⟩ := bd_ok h
    refine cMV (As := [.int 1]) (rest := []) (ws' := wX13 g a0 a1 a2 a3 a4 a5 a6 a7 a8 z8.2 uch ufc usv ull ubl uba uea ufa uso udn uw uun usr ube ubs uln ubu unu) F hE hX (tX13_fails l dC dI g a0 a1 a2 a3 a4 a5 a6 a7 a8 0 uch ufc usv ull ubl uba uea ufa uso udn uw uun usr ube ubs uln ubu unu 1 k9) mbX13_fails q1756 ⟨(Nat.le_of_ble_eq_true rfl), (Nat.le_of_ble_eq_true rfl)⟩ ⟨(Nat.le_of_ble_eq_true rfl), (Nat.le_of_ble_eq_true rfl)⟩ hP hD hS hA [0, 1, 2, 3, 4, 5, 6, 7, 8] rfl rfl rfl rfl rfl 0 rfl rfl rfl hl.1 rfl (Nat.le_of_ble_eq_true rfl) dX13_setRule_14 (fun H locs hP hD hS => ?_)
    refine lv_i2c F.1 F.2.1 dX13_setRule_17 rfl ?_
    cases h
    exact MU_z (v := ((z8.1.toUInt32 % 65536).toInt32)) F hr hlocks (Nat.le_refl _) (Nat.le_refl _) (pk_nc _) hP hS dX13_setRule_18
/-! WireCutterModel.asks -/
def fX13_asks (uw : Nat → Int32) (p1 : Int32) : Option (Int32 × Int32) :=
  gd (inR p1 201) <|
  some (uw p1.toNatClampNeg, 0)
theorem mbX13_asks : MV yX13_asks cX13_asks 2 (some .int) 1 := ⟨⟨q1946, q16, by decide +kernel⟩, q1945, qs56⟩
set_option maxHeartbeats 4000000 in
set_option maxRecDepth 100000 in
theorem tX13_asks (l : Launch) (dC : Nat → ClassId) (dI : Nat → Nat → Nat) (g : Nat → ClassId) (a0 a1 a2 a3 a4 a5 a6 a7 a8 : Nat) (uth : Int32) (uch : Int32) (ufc : Int32) (usv : Int32) (ull : Int32) (ubl : Int32) (uba : Int32) (uea : Int32) (ufa : Int32) (uso : Int32) (udn : Int32) (uw : Nat → Int32) (uun : Nat → Int32) (usr : Nat → Int32) (ube : Nat → Int32) (ubs : Nat → Int32) (uln : Nat → Int32) (ubu : Nat → Int32) (unu : Nat → Int32) (p1 : Int32) {r : Int32 × Int32} (h : fX13_asks uw p1 = some r) : MU l yX13_asks cX13_asks 2 (some .int) 0 0 0 0 dC dI g [.ref a0, .int p1] (wX13 g a0 a1 a2 a3 a4 a5 a6 a7 a8 uth uch ufc usv ull ubl uba uea ufa uso udn uw uun usr ube ubs uln ubu unu) (wX13 g a0 a1 a2 a3 a4 a5 a6 a7 a8 r.2 uch ufc usv ull ubl uba uea ufa uso udn uw uun usr ube ubs uln ubu unu) (some (.int r.1)) := by
  refine MU_of (by decide) (Nat.le_of_ble_eq_true rfl) ?_
  intro p e s m below meth c ls F hr hlocks hE hX hA hP hD hS hl
  generalize va_A (wX13 g a0 a1 a2 a3 a4 a5 a6 a7 a8 uth uch ufc usv ull ubl uba uea ufa uso udn uw uun usr ube ubs uln ubu unu) s.heap.size = A at hA hD hS hX ⊢
  replace F : CF p m c cX13_asks 2 s _ RX13 := F
  replace hl : lv_has ls 2 [(0, .ref a0), (1, .int p1)] := hl
  rw [fX13_asks] at h
  refine lv_aload_n F.1 F.2.1 dX13_asks_0 rfl (lv_at hl 0 rfl) ?_
  refine lv_iconst (v := 0) F.1 F.2.1 dX13_asks_1 (by decide) ?_
  refine pF (v := .int 0) F hE hP hD hS 0 rfl rfl inX13 tyX13 tyX13_ok nmX13 0 (by decide) q1684 rfl rfl rfl (Nat.le_of_ble_eq_true rfl) dX13_asks_2 (fun H locs hP hD hS => ?_)
  replace hP : va_P (dC, dI) vwCl (wX13 g a0 a1 a2 a3 a4 a5 a6 a7 a8 0 uch ufc usv ull ubl uba uea ufa uso udn uw uun usr ube ubs uln ubu unu) H := hP
  replace hD : va_D A (wX13 g a0 a1 a2 a3 a4 a5 a6 a7 a8 0 uch ufc usv ull ubl uba uea ufa uso udn uw uun usr ube ubs uln ubu unu) := hD
  refine lv_aload_n F.1 F.2.1 dX13_asks_5 rfl (lv_at hl 0 rfl) ?_
  refine gF (v := .ref a1) F hE hP 0 rfl rfl inX13 1 (by decide) q1685 rfl dX13_asks_6 ?_
  refine lv_iload_n F.1 F.2.1 dX13_asks_9 rfl (lv_at hl 1 rfl) ?_
  obtain ⟨k1, h⟩ := gd_ok h
  refine aLi (k := p1.toNatClampNeg) F hE hP 1 0 rfl rfl k1 rfl dX13_asks_10 ?_
  cases h
  exact MU_i F hr hlocks (Nat.le_refl _) (Nat.le_refl _) hP hS dX13_asks_11
