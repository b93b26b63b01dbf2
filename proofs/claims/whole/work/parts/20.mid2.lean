/-! WireCutter$Scraps.throwAll -/
def fX8_throwAll_L16 (x1 : Int32) (x2 : Int32) (uTn : Int32) (uTf : Nat → Int32) : Nat → Int32 → Int32 → (Nat → Int32) → Int32 → (Nat → Int32) → Option (Int32 × Int32 × (Nat → Int32) × Int32 × (Nat → Int32) × (Nat → Int32))
  | 0, _, _, _, _, _ => none
  | k + 1, x3, uMn, uMf, uLn, uLf =>
    if x3 < 0 then
      (fX12_placeOf x1).bind fun z6 =>
      (fX7_increase 6 uTn uTf z6 x2).bind fun z8 =>
      some (x2, uMn, uMf, uLn, uLf, z8)
    else
      (fX7_get 40 uMn uMf x3).bind fun z10 =>
      if z10 = x1 then
        (fX8_removeAt uMn uMf uLn uLf x3).bind fun z13 =>
        fX8_throwAll_L16 x1 x2 uTn uTf k (x3 + (-1)) z13.1 z13.2.1 z13.2.2.1 z13.2.2.2
      else
        fX8_throwAll_L16 x1 x2 uTn uTf k (x3 + (-1)) uMn uMf uLn uLf
def fX8_throwAll (uMn : Int32) (uMf : Nat → Int32) (uLn : Int32) (uLf : Nat → Int32) (uTn : Int32) (uTf : Nat → Int32) (p1 : Int32) : Option (Int32 × Int32 × (Nat → Int32) × Int32 × (Nat → Int32) × (Nat → Int32)) :=
  (fX8_sumOf uMn uMf uLn uLf p1).bind fun z1 =>
  (fX7_size uLn).bind fun z3 =>
  fX8_throwAll_L16 p1 z1 uTn uTf FU (z3 - 1) uMn uMf uLn uLf
theorem mbX8_throwAll : MV yX8_throwAll cX8_throwAll 4 (some .int) 1 := ⟨⟨q1045, q5, by decide +kernel⟩, q1043, q1044⟩
set_option maxHeartbeats 4000000 in
set_option maxRecDepth 100000 in
theorem tX8_throwAll_L16 {p : Program} {l : Launch} {e : Env} {s : State} {m : MethodId} {args : Array Value} {below : List Frame} {meth : Method} {c : Code} {dC : Nat → ClassId} {dI : Nat → Nat → Nat} {g : Nat → ClassId} {a0 a1 a2 a3 a4 a5 a6 : Nat} {r : Int32 × Int32 × (Nat → Int32) × Int32 × (Nat → Int32) × (Nat → Int32)} {A : Nat → Prop} (F : CF p m c cX8_throwAll 4 s args RX8) (hr : meth.sig.returnType = (some .int)) (hlocks : meth.locks = false) (hE : EK dC dI g s) (hX : EX g A s s.heap) (hA : ∀ q : Nat, s.heap.size ≤ q → A q) (x1 : Int32) (x2 : Int32) (uTn : Int32) (uTf : Nat → Int32) : ∀ (k : Nat) (x3 : Int32) (uMn : Int32) (uMf : Nat → Int32) (uLn : Int32) (uLf : Nat → Int32), fX8_throwAll_L16 x1 x2 uTn uTf k x3 uMn uMf uLn uLf = some r → ∀ (H : Heap) (locs : List Loc), va_P (dC, dI) vwCl (wX8 g a0 a1 a2 a3 a4 a5 a6 uMn uMf uLn uLf uTn uTf) H → va_D A (wX8 g a0 a1 a2 a3 a4 a5 a6 uMn uMf uLn uLf uTn uTf) → va_S A s.heap H locs → ∀ (ls : Array Slot), lv_has ls 4 [(0, .ref a0), (1, .int x1), (2, .int x2), (3, .int x3)] → W p l e { frames := 2, cells := 0, slots := 0, locals := 44 } s m args below meth c H locs 0 0 (MQ below (fun _ st o t => o = .returned (some (.int r.1)) ∧ va_P (dC, dI) vwCl (wX8 g a0 a1 a2 a3 a4 a5 a6 r.2.1 r.2.2.1 r.2.2.2.1 r.2.2.2.2.1 uTn r.2.2.2.2.2) t.heap ∧ va_F A st t) args s 0 0 A) (F0 m 16 ls []) := by
  intro k
  induction k with
  | zero =>
    intro x3 uMn uMf uLn uLf h
    exact absurd h (by simp [fX8_throwAll_L16])
  | succ k ih =>
    intro x3 uMn uMf uLn uLf h H locs hP hD hS ls hl
    rw [fX8_throwAll_L16] at h
    refine lv_iload_n F.1 F.2.1 dX8_throwAll_16 rfl (lv_at hl 3 rfl) ?_
    refine lv_if_lt (tgt := 43) F.1 F.2.1 dX8_throwAll_17 (by decide) (fun k5 => ?_) (fun k5 => ?_)
    · replace h := it_t k5 h
      refine lv_aload_n F.1 F.2.1 dX8_throwAll_43 rfl (lv_at hl 0 rfl) ?_
      refine gF (v := .ref a5) F hE hP 0 rfl rfl inX8 2 (by decide) q102 rfl dX8_throwAll_44 ?_
      refine lv_iload_n F.1 F.2.1 dX8_throwAll_47 rfl (lv_at hl 1 rfl) ?_
      obtain ⟨z6, k7, h⟩ := bd_ok h
      refine cRSN (As := [.int x1]) (rest := [.ref a5]) F hE hX hS (tX12_placeOf l dC dI g x1 k7) mbX12_placeOf q497 ⟨(Nat.le_of_ble_eq_true rfl), (Nat.le_of_ble_eq_true rfl)⟩ ⟨Nat.zero_le _, Nat.zero_le _⟩ hP [] rfl rfl hl.1 rfl (Nat.le_of_ble_eq_true rfl) dX8_throwAll_48 ?_
      refine lv_iload_n F.1 F.2.1 dX8_throwAll_51 rfl (lv_at hl 2 rfl) ?_
      obtain ⟨z8, k9, h⟩ := bd_ok h
      refine cMV (As := [.int z6, .int x2]) (rest := []) (ws' := wX8 g a0 a1 a2 a3 a4 a5 a6 uMn uMf uLn uLf uTn z8) F hE hX (tX7_increase l dC dI g a5 a6 6 uTn uTf z6 x2 k9) mbX7_increase q1018 ⟨(Nat.le_of_ble_eq_true rfl), (Nat.le_of_ble_eq_true rfl)⟩ ⟨(Nat.le_of_ble_eq_true rfl), (Nat.le_of_ble_eq_true rfl)⟩ hP hD hS hA [5, 6] rfl rfl rfl rfl rfl 5 rfl rfl rfl hl.1 rfl (Nat.le_of_ble_eq_true rfl) dX8_throwAll_52 (fun H locs hP hD hS => ?_)
      refine lv_iload_n F.1 F.2.1 dX8_throwAll_55 rfl (lv_at hl 2 rfl) ?_
      cases h
      exact MU_i F hr hlocks (Nat.le_refl _) (Nat.le_refl _) hP hS dX8_throwAll_56
    · replace h := it_f k5 h
      refine lv_aload_n F.1 F.2.1 dX8_throwAll_20 rfl (lv_at hl 0 rfl) ?_
      refine gF (v := .ref a1) F hE hP 0 rfl rfl inX8 0 (by decide) q100 rfl dX8_throwAll_21 ?_
      refine lv_iload_n F.1 F.2.1 dX8_throwAll_24 rfl (lv_at hl 3 rfl) ?_
      obtain ⟨z10, k11, h⟩ := bd_ok h
      refine cRV (As := [.int x3]) (rest := []) F hE hX hS (tX7_get l dC dI g a1 a2 40 uMn uMf x3 k11) mbX7_get q491 ⟨(Nat.le_of_ble_eq_true rfl), (Nat.le_of_ble_eq_true rfl)⟩ ⟨Nat.zero_le _, Nat.zero_le _⟩ hP [1, 2] rfl 1 rfl rfl rfl hl.1 rfl (Nat.le_of_ble_eq_true rfl) dX8_throwAll_25 ?_
      refine lv_iload_n F.1 F.2.1 dX8_throwAll_28 rfl (lv_at hl 1 rfl) ?_
      refine lv_icmp_ne (tgt := 37) F.1 F.2.1 dX8_throwAll_29 (by decide) (fun k12 => ?_) (fun k12 => ?_)
      · replace h := it_f k12 h
        refine lv_iinc (v := x3 + (-1)) (lv' := [(3, .int (x3 + (-1))), (0, .ref a0), (1, .int x1), (2, .int x2)]) F.1 F.2.1 dX8_throwAll_37 hl (k := 3) rfl (by rfl) (by decide) rfl (fun ls hl => ?_)
        refine lv_goto (tgt := 16) F.1 F.2.1 dX8_throwAll_40 (by decide) ?_
        exact ih (x3 + (-1)) uMn uMf uLn uLf h _ _ hP hD hS ls (lv_sub hl [1, 2, 3, 0] rfl)
      · replace h := it_t k12 h
        refine lv_aload_n F.1 F.2.1 dX8_throwAll_32 rfl (lv_at hl 0 rfl) ?_
        refine lv_iload_n F.1 F.2.1 dX8_throwAll_33 rfl (lv_at hl 3 rfl) ?_
        obtain ⟨z13, k14, h⟩ := bd_ok h
        refine cMV (As := [.int x3]) (rest := []) (ws' := wX8 g a0 a1 a2 a3 a4 a5 a6 z13.1 z13.2.1 z13.2.2.1 z13.2.2.2 uTn uTf) F hE hX (tX8_removeAt l dC dI g a0 a1 a2 a3 a4 a5 a6 uMn uMf uLn uLf uTn uTf x3 k14) mbX8_removeAt q1047 ⟨(Nat.le_of_ble_eq_true rfl), (Nat.le_of_ble_eq_true rfl)⟩ ⟨(Nat.le_of_ble_eq_true rfl), (Nat.le_of_ble_eq_true rfl)⟩ hP hD hS hA [0, 1, 2, 3, 4, 5, 6] rfl rfl rfl rfl rfl 0 rfl rfl rfl hl.1 rfl (Nat.le_of_ble_eq_true rfl) dX8_throwAll_34 (fun H locs hP hD hS => ?_)
        refine lv_iinc (v := x3 + (-1)) (lv' := [(3, .int (x3 + (-1))), (0, .ref a0), (1, .int x1), (2, .int x2)]) F.1 F.2.1 dX8_throwAll_37 hl (k := 3) rfl (by rfl) (by decide) rfl (fun ls hl => ?_)
        refine lv_goto (tgt := 16) F.1 F.2.1 dX8_throwAll_40 (by decide) ?_
        exact ih (x3 + (-1)) z13.1 z13.2.1 z13.2.2.1 z13.2.2.2 h _ _ hP hD hS ls (lv_sub hl [1, 2, 3, 0] rfl)
set_option maxHeartbeats 4000000 in
set_option maxRecDepth 100000 in
theorem tX8_throwAll (l : Launch) (dC : Nat → ClassId) (dI : Nat → Nat → Nat) (g : Nat → ClassId) (a0 a1 a2 a3 a4 a5 a6 : Nat) (uMn : Int32) (uMf : Nat → Int32) (uLn : Int32) (uLf : Nat → Int32) (uTn : Int32) (uTf : Nat → Int32) (p1 : Int32) {r : Int32 × Int32 × (Nat → Int32) × Int32 × (Nat → Int32) × (Nat → Int32)} (h : fX8_throwAll uMn uMf uLn uLf uTn uTf p1 = some r) : MU l yX8_throwAll cX8_throwAll 4 (some .int) 2 44 0 0 dC dI g [.ref a0, .int p1] (wX8 g a0 a1 a2 a3 a4 a5 a6 uMn uMf uLn uLf uTn uTf) (wX8 g a0 a1 a2 a3 a4 a5 a6 r.2.1 r.2.2.1 r.2.2.2.1 r.2.2.2.2.1 uTn r.2.2.2.2.2) (some (.int r.1)) := by
  refine MU_of (by decide) (Nat.le_of_ble_eq_true rfl) ?_
  intro p e s m below meth c ls F hr hlocks hE hX hA hP hD hS hl
  generalize va_A (wX8 g a0 a1 a2 a3 a4 a5 a6 uMn uMf uLn uLf uTn uTf) s.heap.size = A at hA hD hS hX ⊢
  replace F : CF p m c cX8_throwAll 4 s _ RX8 := F
  replace hl : lv_has ls 4 [(0, .ref a0), (1, .int p1)] := hl
  rw [fX8_throwAll] at h
  refine lv_aload_n F.1 F.2.1 dX8_throwAll_0 rfl (lv_at hl 0 rfl) ?_
  refine lv_iload_n F.1 F.2.1 dX8_throwAll_1 rfl (lv_at hl 1 rfl) ?_
  obtain ⟨z1, k2, h⟩ := bd_ok h
  refine cRV (As := [.int p1]) (rest := []) F hE hX hS (tX8_sumOf l dC dI g a0 a1 a2 a3 a4 a5 a6 uMn uMf uLn uLf uTn uTf p1 k2) mbX8_sumOf q1046 ⟨(Nat.le_of_ble_eq_true rfl), (Nat.le_of_ble_eq_true rfl)⟩ ⟨Nat.zero_le _, Nat.zero_le _⟩ hP [0, 1, 2, 3, 4, 5, 6] rfl 0 rfl rfl rfl hl.1 rfl (Nat.le_of_ble_eq_true rfl) dX8_throwAll_2 ?_
  refine lv_istore_n (lv' := [(2, .int z1), (0, .ref a0), (1, .int p1)]) F.1 F.2.1 dX8_throwAll_5 rfl hl (by decide) rfl (fun ls hl => ?_)
  refine lv_aload_n F.1 F.2.1 dX8_throwAll_6 rfl (lv_at hl 1 rfl) ?_
  refine gF (v := .ref a3) F hE hP 0 rfl rfl inX8 1 (by decide) q101 rfl dX8_throwAll_7 ?_
  obtain ⟨z3, k4, h⟩ := bd_ok h
  refine cRV (As := []) (rest := []) F hE hX hS (tX7_size l dC dI g a3 a4 40 uLn uLf k4) mbX7_size q490 ⟨(Nat.le_of_ble_eq_true rfl), (Nat.le_of_ble_eq_true rfl)⟩ ⟨Nat.zero_le _, Nat.zero_le _⟩ hP [3, 4] rfl 3 rfl rfl rfl hl.1 rfl (Nat.le_of_ble_eq_true rfl) dX8_throwAll_10 ?_
  refine lv_iconst (v := 1) F.1 F.2.1 dX8_throwAll_13 (by decide) ?_
  refine lv_isub F.1 F.2.1 dX8_throwAll_14 ?_
  refine lv_istore_n (lv' := [(3, .int (z3 - 1)), (2, .int z1), (0, .ref a0), (1, .int p1)]) F.1 F.2.1 dX8_throwAll_15 rfl hl (by decide) rfl (fun ls hl => ?_)
  exact tX8_throwAll_L16 F hr hlocks hE hX hA p1 z1 uTn uTf FU (z3 - 1) uMn uMf uLn uLf h _ _ hP hD hS ls (lv_sub hl [2, 3, 1, 0] rfl)
