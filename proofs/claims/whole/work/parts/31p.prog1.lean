/-! WireCutter$Program.takeNumber -/
def fX6_takeNumber_L5 (x1 : Int32) (ul : Int32) (ut : Nat → Int32) (vf : Int32) (vs : Int32) (vn : Int32) : Nat → Int32 → Int32 → Int32 → Option (Int32 × Int32 × Int32 × Int32 × Int32)
  | 0, _, _, _ => none
  | k + 1, x3, x4, up =>
    if x1 ≤ x4 then
      (fX2_putNumber vf vs vn x3).bind fun z2 =>
      if x4 ≤ 0 then
        some (0, up, z2.1, z2.2.1, z2.2.2)
      else
        some (1, up, z2.1, z2.2.1, z2.2.2)
    else
      (fX6_current ul up ut).bind fun z5 =>
      (fX12_isDigit z5).bind fun z7 =>
      if z7 = 0 then
        (fX2_putNumber vf vs vn x3).bind fun z10 =>
        if x4 ≤ 0 then
          some (0, up, z10.1, z10.2.1, z10.2.2)
        else
          some (1, up, z10.1, z10.2.1, z10.2.2)
      else
        (fX6_current ul up ut).bind fun z13 =>
        fX6_takeNumber_L5 x1 ul ut vf vs vn k ((10 * x3) + (z13 - 48)) (x4 + 1) (up + 1)
def fX6_takeNumber (ul : Int32) (up : Int32) (ut : Nat → Int32) (vf : Int32) (vs : Int32) (vn : Int32) (p1 : Int32) : Option (Int32 × Int32 × Int32 × Int32 × Int32) :=
  fX6_takeNumber_L5 p1 ul ut vf vs vn FU 0 0 up
theorem mbX6_takeNumber : MV yX6_takeNumber cX6_takeNumber 5 (some .boolean) 2 := ⟨⟨q1575, q10, by decide +kernel⟩, q1574, qs19⟩
set_option maxHeartbeats 4000000 in
set_option maxRecDepth 100000 in
theorem tX6_takeNumber_L5 {p : Program} {l : Launch} {e : Env} {s : State} {m : MethodId} {args : Array Value} {below : List Frame} {meth : Method} {c : Code} {dC : Nat → ClassId} {dI : Nat → Nat → Nat} {g : Nat → ClassId} {a0 : Nat} {a2 : Nat} {a1 b0 : Nat} {r : Int32 × Int32 × Int32 × Int32 × Int32} {A : Nat → Prop} (F : CF p m c cX6_takeNumber 5 s args RX6) (hr : meth.sig.returnType = (some .boolean)) (hlocks : meth.locks = false) (hE : EK dC dI g s) (hX : EX g A s s.heap) (hA : ∀ q : Nat, s.heap.size ≤ q → A q) (x1 : Int32) (ul : Int32) (uc : Int32) (ut : Nat → Int32) (vv : Option Nat) (vl : Int32) (vf : Int32) (vs : Int32) (vn : Int32) : ∀ (k : Nat) (x3 : Int32) (x4 : Int32) (up : Int32), fX6_takeNumber_L5 x1 ul ut vf vs vn k x3 x4 up = some r → ∀ (H : Heap) (locs : List Loc), va_P (dC, dI) vwCl (wX6r g a0 a2 a1 ul up uc ut ++ wX2 g b0 vv vl vf vs vn) H → va_D A (wX6r g a0 a2 a1 ul up uc ut ++ wX2 g b0 vv vl vf vs vn) → va_S A s.heap H locs → ∀ (ls : Array Slot), lv_has ls 5 [(0, .ref a0), (1, .int x1), (2, .ref b0), (3, .int x3), (4, .int x4)] → W p l e { frames := 1, cells := 0, slots := 0, locals := 21 } s m args below meth c H locs 0 0 (MQ below (fun _ st o t => o = .returned (some (.int r.1)) ∧ va_P (dC, dI) vwCl (wX6r g a0 a2 a1 ul r.2.1 uc ut ++ wX2 g b0 vv vl r.2.2.1 r.2.2.2.1 r.2.2.2.2) t.heap ∧ va_F A st t) args s 0 0 A) (F0 m 5 ls []) := by
  intro k
  induction k with
  | zero =>
    intro x3 x4 up h
    exact absurd h (by simp [fX6_takeNumber_L5])
  | succ k ih =>
    intro x3 x4 up h H locs hP hD hS ls hl
    rw [fX6_takeNumber_L5] at h
    refine lv_iload F.1 F.2.1 dX6_takeNumber_5 (lv_at hl 4 rfl) ?_
    refine lv_iload_n F.1 F.2.1 dX6_takeNumber_7 rfl (lv_at hl 1 rfl) ?_
    refine lv_icmp_ge (tgt := 50) F.1 F.2.1 dX6_takeNumber_8 (by decide) (fun k1 => ?_) (fun k1 => ?_)
    · replace h := it_t k1 h
      refine lv_aload_n F.1 F.2.1 dX6_takeNumber_50 rfl (lv_at hl 2 rfl) ?_
      refine lv_iload_n F.1 F.2.1 dX6_takeNumber_51 rfl (lv_at hl 3 rfl) ?_
      obtain ⟨z2, k3, h⟩ := bd_ok h
      refine cMV (As := [.int x3]) (rest := []) (ws' := wX6r g a0 a2 a1 ul up uc ut ++ wX2 g b0 vv vl z2.1 z2.2.1 z2.2.2) F hE hX (tX2_putNumber l dC dI g b0 vv vl vf vs vn x3 k3) mbX2_putNumber q1579 ⟨(Nat.le_of_ble_eq_true rfl), (Nat.le_of_ble_eq_true rfl)⟩ ⟨(Nat.le_of_ble_eq_true rfl), (Nat.le_of_ble_eq_true rfl)⟩ hP hD hS hA [2] rfl rfl rfl rfl rfl 2 rfl rfl rfl hl.1 rfl (Nat.le_of_ble_eq_true rfl) dX6_takeNumber_52 (fun H locs hP hD hS => ?_)
      refine lv_iload F.1 F.2.1 dX6_takeNumber_55 (lv_at hl 4 rfl) ?_
      refine lv_if_le (tgt := 64) F.1 F.2.1 dX6_takeNumber_57 (by decide) (fun k4 => ?_) (fun k4 => ?_)
      · replace h := it_t k4 h
        refine lv_iconst (v := 0) F.1 F.2.1 dX6_takeNumber_64 (by decide) ?_
        cases h
        exact MU_z (v := 0) F hr hlocks (Nat.le_refl _) (Nat.le_refl _) rfl hP hS dX6_takeNumber_65
      · replace h := it_f k4 h
        refine lv_iconst (v := 1) F.1 F.2.1 dX6_takeNumber_60 (by decide) ?_
        refine lv_goto (tgt := 65) F.1 F.2.1 dX6_takeNumber_61 (by decide) ?_
        cases h
        exact MU_z (v := 1) F hr hlocks (Nat.le_refl _) (Nat.le_refl _) rfl hP hS dX6_takeNumber_65
    · replace h := it_f k1 h
      refine lv_aload_n F.1 F.2.1 dX6_takeNumber_11 rfl (lv_at hl 0 rfl) ?_
      obtain ⟨z5, k6, h⟩ := bd_ok h
      refine cRV (As := []) (rest := []) F hE hX hS (tX6_current l dC dI g a0 a2 a1 ul up uc ut k6) mbX6_current q1558 ⟨(Nat.le_of_ble_eq_true rfl), (Nat.le_of_ble_eq_true rfl)⟩ ⟨Nat.zero_le _, Nat.zero_le _⟩ hP [0, 1] rfl 0 rfl rfl rfl hl.1 rfl (Nat.le_of_ble_eq_true rfl) dX6_takeNumber_12 ?_
      obtain ⟨z7, k8, h⟩ := bd_ok h
      refine cRSN (As := [.int z5]) (rest := []) F hE hX hS (tX12_isDigit l dC dI g z5 k8) mbX12_isDigit q1576 ⟨(Nat.le_of_ble_eq_true rfl), (Nat.le_of_ble_eq_true rfl)⟩ ⟨Nat.zero_le _, Nat.zero_le _⟩ hP [] rfl rfl hl.1 rfl (Nat.le_of_ble_eq_true rfl) dX6_takeNumber_15 ?_
      refine lv_if_eq (tgt := 50) F.1 F.2.1 dX6_takeNumber_18 (by decide) (fun k9 => ?_) (fun k9 => ?_)
      · replace h := it_t k9 h
        refine lv_aload_n F.1 F.2.1 dX6_takeNumber_50 rfl (lv_at hl 2 rfl) ?_
        refine lv_iload_n F.1 F.2.1 dX6_takeNumber_51 rfl (lv_at hl 3 rfl) ?_
        obtain ⟨z10, k11, h⟩ := bd_ok h
        refine cMV (As := [.int x3]) (rest := []) (ws' := wX6r g a0 a2 a1 ul up uc ut ++ wX2 g b0 vv vl z10.1 z10.2.1 z10.2.2) F hE hX (tX2_putNumber l dC dI g b0 vv vl vf vs vn x3 k11) mbX2_putNumber q1579 ⟨(Nat.le_of_ble_eq_true rfl), (Nat.le_of_ble_eq_true rfl)⟩ ⟨(Nat.le_of_ble_eq_true rfl), (Nat.le_of_ble_eq_true rfl)⟩ hP hD hS hA [2] rfl rfl rfl rfl rfl 2 rfl rfl rfl hl.1 rfl (Nat.le_of_ble_eq_true rfl) dX6_takeNumber_52 (fun H locs hP hD hS => ?_)
        refine lv_iload F.1 F.2.1 dX6_takeNumber_55 (lv_at hl 4 rfl) ?_
        refine lv_if_le (tgt := 64) F.1 F.2.1 dX6_takeNumber_57 (by decide) (fun k12 => ?_) (fun k12 => ?_)
        · replace h := it_t k12 h
          refine lv_iconst (v := 0) F.1 F.2.1 dX6_takeNumber_64 (by decide) ?_
          cases h
          exact MU_z (v := 0) F hr hlocks (Nat.le_refl _) (Nat.le_refl _) rfl hP hS dX6_takeNumber_65
        · replace h := it_f k12 h
          refine lv_iconst (v := 1) F.1 F.2.1 dX6_takeNumber_60 (by decide) ?_
          refine lv_goto (tgt := 65) F.1 F.2.1 dX6_takeNumber_61 (by decide) ?_
          cases h
          exact MU_z (v := 1) F hr hlocks (Nat.le_refl _) (Nat.le_refl _) rfl hP hS dX6_takeNumber_65
      · replace h := it_f k9 h
        refine lv_bipush (v := 10) F.1 F.2.1 dX6_takeNumber_21 (by decide) ?_
        refine lv_iload_n F.1 F.2.1 dX6_takeNumber_23 rfl (lv_at hl 3 rfl) ?_
        refine lv_imul F.1 F.2.1 dX6_takeNumber_24 ?_
        refine lv_aload_n F.1 F.2.1 dX6_takeNumber_25 rfl (lv_at hl 0 rfl) ?_
        obtain ⟨z13, k14, h⟩ := bd_ok h
        refine cRV (As := []) (rest := [.int (10 * x3)]) F hE hX hS (tX6_current l dC dI g a0 a2 a1 ul up uc ut k14) mbX6_current q1558 ⟨(Nat.le_of_ble_eq_true rfl), (Nat.le_of_ble_eq_true rfl)⟩ ⟨Nat.zero_le _, Nat.zero_le _⟩ hP [0, 1] rfl 0 rfl rfl rfl hl.1 rfl (Nat.le_of_ble_eq_true rfl) dX6_takeNumber_26 ?_
        refine lv_bipush (v := 48) F.1 F.2.1 dX6_takeNumber_29 (by decide) ?_
        refine lv_isub F.1 F.2.1 dX6_takeNumber_31 ?_
        refine lv_iadd F.1 F.2.1 dX6_takeNumber_32 ?_
        refine lv_istore_n (lv' := [(3, .int ((10 * x3) + (z13 - 48))), (0, .ref a0), (1, .int x1), (2, .ref b0), (4, .int x4)]) F.1 F.2.1 dX6_takeNumber_33 rfl hl (by decide) rfl (fun ls hl => ?_)
        refine lv_aload_n F.1 F.2.1 dX6_takeNumber_34 rfl (lv_at hl 1 rfl) ?_
        refine lv_dup F.1 F.2.1 dX6_takeNumber_35 rfl ?_
        refine gF (v := .int up) F hE hP 0 rfl rfl inX6 3 (by decide) q266 rfl dX6_takeNumber_36 ?_
        refine lv_iconst (v := 1) F.1 F.2.1 dX6_takeNumber_39 (by decide) ?_
        refine lv_iadd F.1 F.2.1 dX6_takeNumber_40 ?_
        refine pF (v := .int (up + 1)) F hE hP hD hS 0 rfl rfl inX6 tyX6 tyX6_ok nmX6 3 (by decide) q266 rfl rfl rfl (Nat.le_of_ble_eq_true rfl) dX6_takeNumber_41 (fun H locs hP hD hS => ?_)
        replace hP : va_P (dC, dI) vwCl (wX6r g a0 a2 a1 ul (up + 1) uc ut ++ wX2 g b0 vv vl vf vs vn) H := hP
        replace hD : va_D A (wX6r g a0 a2 a1 ul (up + 1) uc ut ++ wX2 g b0 vv vl vf vs vn) := hD
        refine lv_iinc (v := x4 + 1) (lv' := [(4, .int (x4 + 1)), (3, .int ((10 * x3) + (z13 - 48))), (0, .ref a0), (1, .int x1), (2, .ref b0)]) F.1 F.2.1 dX6_takeNumber_44 hl (k := 4) rfl (by rfl) (by decide) rfl (fun ls hl => ?_)
        refine lv_goto (tgt := 5) F.1 F.2.1 dX6_takeNumber_47 (by decide) ?_
        exact ih ((10 * x3) + (z13 - 48)) (x4 + 1) (up + 1) h _ _ hP hD hS ls (lv_sub hl [2, 3, 4, 1, 0] rfl)
set_option maxHeartbeats 4000000 in
set_option maxRecDepth 100000 in
theorem tX6_takeNumber (l : Launch) (dC : Nat → ClassId) (dI : Nat → Nat → Nat) (g : Nat → ClassId) (a0 : Nat) (a2 : Nat) (a1 b0 : Nat) (ul : Int32) (up : Int32) (uc : Int32) (ut : Nat → Int32) (vv : Option Nat) (vl : Int32) (vf : Int32) (vs : Int32) (vn : Int32) (p1 : Int32) {r : Int32 × Int32 × Int32 × Int32 × Int32} (h : fX6_takeNumber ul up ut vf vs vn p1 = some r) : MU l yX6_takeNumber cX6_takeNumber 5 (some .boolean) 1 21 0 0 dC dI g [.ref a0, .int p1, .ref b0] (wX6r g a0 a2 a1 ul up uc ut ++ wX2 g b0 vv vl vf vs vn) (wX6r g a0 a2 a1 ul r.2.1 uc ut ++ wX2 g b0 vv vl r.2.2.1 r.2.2.2.1 r.2.2.2.2) (some (.int r.1)) := by
  refine MU_of (by decide) (Nat.le_of_ble_eq_true rfl) ?_
  intro p e s m below meth c ls F hr hlocks hE hX hA hP hD hS hl
  generalize va_A (wX6r g a0 a2 a1 ul up uc ut ++ wX2 g b0 vv vl vf vs vn) s.heap.size = A at hA hD hS hX ⊢
  replace F : CF p m c cX6_takeNumber 5 s _ RX6 := F
  replace hl : lv_has ls 5 [(0, .ref a0), (1, .int p1), (2, .ref b0)] := hl
  rw [fX6_takeNumber] at h
  refine lv_iconst (v := 0) F.1 F.2.1 dX6_takeNumber_0 (by decide) ?_
  refine lv_istore_n (lv' := [(3, .int 0), (0, .ref a0), (1, .int p1), (2, .ref b0)]) F.1 F.2.1 dX6_takeNumber_1 rfl hl (by decide) rfl (fun ls hl => ?_)
  refine lv_iconst (v := 0) F.1 F.2.1 dX6_takeNumber_2 (by decide) ?_
  refine lv_istore (lv' := [(4, .int 0), (3, .int 0), (0, .ref a0), (1, .int p1), (2, .ref b0)]) F.1 F.2.1 dX6_takeNumber_3 hl (by decide) rfl (fun ls hl => ?_)
  exact tX6_takeNumber_L5 F hr hlocks hE hX hA p1 ul uc ut vv vl vf vs vn FU 0 0 up h _ _ hP hD hS ls (lv_sub hl [2, 3, 4, 1, 0] rfl)
/-! WireCutter$Program.takeLetter -/
def fX6_takeLetter (ul : Int32) (up : Int32) (ut : Nat → Int32) : Option (Int32 × Int32 × Int32) :=
  (fX6_current ul up ut).bind fun z1 =>
  (fX2_putLetter z1).bind fun z3 =>
  some (1, up + 1, z3)
theorem mbX6_takeLetter : MV yX6_takeLetter cX6_takeLetter 2 (some .boolean) 1 := ⟨⟨q1566, q10, by decide +kernel⟩, q1565, qs18⟩
set_option maxHeartbeats 4000000 in
set_option maxRecDepth 100000 in
theorem tX6_takeLetter (l : Launch) (dC : Nat → ClassId) (dI : Nat → Nat → Nat) (g : Nat → ClassId) (a0 : Nat) (a2 : Nat) (a1 b0 : Nat) (ul : Int32) (up : Int32) (uc : Int32) (ut : Nat → Int32) (vv : Option Nat) (vl : Int32) (vf : Int32) (vs : Int32) (vn : Int32) {r : Int32 × Int32 × Int32} (h : fX6_takeLetter ul up ut = some r) : MU l yX6_takeLetter cX6_takeLetter 2 (some .boolean) 1 21 0 0 dC dI g [.ref a0, .ref b0] (wX6r g a0 a2 a1 ul up uc ut ++ wX2 g b0 vv vl vf vs vn) (wX6r g a0 a2 a1 ul r.2.1 uc ut ++ wX2 g b0 vv r.2.2 vf vs vn) (some (.int r.1)) := by
  refine MU_of (by decide) (Nat.le_of_ble_eq_true rfl) ?_
  intro p e s m below meth c ls F hr hlocks hE hX hA hP hD hS hl
  generalize va_A (wX6r g a0 a2 a1 ul up uc ut ++ wX2 g b0 vv vl vf vs vn) s.heap.size = A at hA hD hS hX ⊢
  replace F : CF p m c cX6_takeLetter 2 s _ RX6 := F
  replace hl : lv_has ls 2 [(0, .ref a0), (1, .ref b0)] := hl
  rw [fX6_takeLetter] at h
  refine lv_aload_n F.1 F.2.1 dX6_takeLetter_0 rfl (lv_at hl 1 rfl) ?_
  refine lv_aload_n F.1 F.2.1 dX6_takeLetter_1 rfl (lv_at hl 0 rfl) ?_
  obtain ⟨z1, k2, h⟩ := bd_ok h
  refine cRV (As := []) (rest := [.ref b0]) F hE hX hS (tX6_current l dC dI g a0 a2 a1 ul up uc ut k2) mbX6_current q1558 ⟨(Nat.le_of_ble_eq_true rfl), (Nat.le_of_ble_eq_true rfl)⟩ ⟨Nat.zero_le _, Nat.zero_le _⟩ hP [0, 1] rfl 0 rfl rfl rfl hl.1 rfl (Nat.le_of_ble_eq_true rfl) dX6_takeLetter_2 ?_
  obtain ⟨z3, k4, h⟩ := bd_ok h
  refine cMV (As := [.int z1]) (rest := []) (ws' := wX6r g a0 a2 a1 ul up uc ut ++ wX2 g b0 vv z3 vf vs vn) F hE hX (tX2_putLetter l dC dI g b0 vv vl vf vs vn z1 k4) mbX2_putLetter q1567 ⟨(Nat.le_of_ble_eq_true rfl), (Nat.le_of_ble_eq_true rfl)⟩ ⟨(Nat.le_of_ble_eq_true rfl), (Nat.le_of_ble_eq_true rfl)⟩ hP hD hS hA [2] rfl rfl rfl rfl rfl 2 rfl rfl rfl hl.1 rfl (Nat.le_of_ble_eq_true rfl) dX6_takeLetter_5 (fun H locs hP hD hS => ?_)
  refine lv_aload_n F.1 F.2.1 dX6_takeLetter_8 rfl (lv_at hl 0 rfl) ?_
  refine lv_dup F.1 F.2.1 dX6_takeLetter_9 rfl ?_
  refine gF (v := .int up) F hE hP 0 rfl rfl inX6 3 (by decide) q266 rfl dX6_takeLetter_10 ?_
  refine lv_iconst (v := 1) F.1 F.2.1 dX6_takeLetter_13 (by decide) ?_
  refine lv_iadd F.1 F.2.1 dX6_takeLetter_14 ?_
  refine pF (v := .int (up + 1)) F hE hP hD hS 0 rfl rfl inX6 tyX6 tyX6_ok nmX6 3 (by decide) q266 rfl rfl rfl (Nat.le_of_ble_eq_true rfl) dX6_takeLetter_15 (fun H locs hP hD hS => ?_)
  replace hP : va_P (dC, dI) vwCl (wX6r g a0 a2 a1 ul (up + 1) uc ut ++ wX2 g b0 vv z3 vf vs vn) H := hP
  replace hD : va_D A (wX6r g a0 a2 a1 ul (up + 1) uc ut ++ wX2 g b0 vv z3 vf vs vn) := hD
  refine lv_iconst (v := 1) F.1 F.2.1 dX6_takeLetter_18 (by decide) ?_
  cases h
  exact MU_z (v := 1) F hr hlocks (Nat.le_refl _) (Nat.le_refl _) rfl hP hS dX6_takeLetter_19
/-! WireCutter$Program.skip -/
def fX6_skip (ul : Int32) (up : Int32) (ut : Nat → Int32) (p1 : Int32) : Option (Int32 × Int32) :=
  (fX6_isAt ul ut up p1).bind fun z1 =>
  if z1 = 0 then
    some (0, up)
  else
    some (1, up + 1)
theorem mbX6_skip : MV yX6_skip cX6_skip 2 (some .boolean) 1 := ⟨⟨q1586, q10, by decide +kernel⟩, q1585, qs20⟩
set_option maxHeartbeats 4000000 in
set_option maxRecDepth 100000 in
theorem tX6_skip (l : Launch) (dC : Nat → ClassId) (dI : Nat → Nat → Nat) (g : Nat → ClassId) (a0 : Nat) (a2 : Nat) (a1 : Nat) (ul : Int32) (up : Int32) (uc : Int32) (ut : Nat → Int32) (p1 : Int32) {r : Int32 × Int32} (h : fX6_skip ul up ut p1 = some r) : MU l yX6_skip cX6_skip 2 (some .boolean) 1 22 0 0 dC dI g [.ref a0, .int p1] (wX6r g a0 a2 a1 ul up uc ut) (wX6r g a0 a2 a1 ul r.2 uc ut) (some (.int r.1)) := by
  refine MU_of (by decide) (Nat.le_of_ble_eq_true rfl) ?_
  intro p e s m below meth c ls F hr hlocks hE hX hA hP hD hS hl
  generalize va_A (wX6r g a0 a2 a1 ul up uc ut) s.heap.size = A at hA hD hS hX ⊢
  replace F : CF p m c cX6_skip 2 s _ RX6 := F
  replace hl : lv_has ls 2 [(0, .ref a0), (1, .int p1)] := hl
  rw [fX6_skip] at h
  refine lv_aload_n F.1 F.2.1 dX6_skip_0 rfl (lv_at hl 0 rfl) ?_
  refine lv_aload_n F.1 F.2.1 dX6_skip_1 rfl (lv_at hl 0 rfl) ?_
  refine gF (v := .int up) F hE hP 0 rfl rfl inX6 3 (by decide) q266 rfl dX6_skip_2 ?_
  refine lv_iload_n F.1 F.2.1 dX6_skip_5 rfl (lv_at hl 1 rfl) ?_
  obtain ⟨z1, k2, h⟩ := bd_ok h
  refine cRV (As := [.int up, .int p1]) (rest := []) F hE hX hS (tX6_isAt l dC dI g a0 a2 a1 ul up uc ut up p1 k2) mbX6_isAt q1546 ⟨(Nat.le_of_ble_eq_true rfl), (Nat.le_of_ble_eq_true rfl)⟩ ⟨Nat.zero_le _, Nat.zero_le _⟩ hP [0, 1] rfl 0 rfl rfl rfl hl.1 rfl (Nat.le_of_ble_eq_true rfl) dX6_skip_6 ?_
  refine lv_if_ne (tgt := 14) F.1 F.2.1 dX6_skip_9 (by decide) (fun k3 => ?_) (fun k3 => ?_)
  · replace h := it_f k3 h
    refine lv_aload_n F.1 F.2.1 dX6_skip_14 rfl (lv_at hl 0 rfl) ?_
    refine lv_dup F.1 F.2.1 dX6_skip_15 rfl ?_
    refine gF (v := .int up) F hE hP 0 rfl rfl inX6 3 (by decide) q266 rfl dX6_skip_16 ?_
    refine lv_iconst (v := 1) F.1 F.2.1 dX6_skip_19 (by decide) ?_
    refine lv_iadd F.1 F.2.1 dX6_skip_20 ?_
    refine pF (v := .int (up + 1)) F hE hP hD hS 0 rfl rfl inX6 tyX6 tyX6_ok nmX6 3 (by decide) q266 rfl rfl rfl (Nat.le_of_ble_eq_true rfl) dX6_skip_21 (fun H locs hP hD hS => ?_)
    replace hP : va_P (dC, dI) vwCl (wX6r g a0 a2 a1 ul (up + 1) uc ut) H := hP
    replace hD : va_D A (wX6r g a0 a2 a1 ul (up + 1) uc ut) := hD
    refine lv_iconst (v := 1) F.1 F.2.1 dX6_skip_24 (by decide) ?_
    cases h
    exact MU_z (v := 1) F hr hlocks (Nat.le_refl _) (Nat.le_refl _) rfl hP hS dX6_skip_25
  · replace h := it_t k3 h
    refine lv_iconst (v := 0) F.1 F.2.1 dX6_skip_12 (by decide) ?_
    cases h
    exact MU_z (v := 0) F hr hlocks (Nat.le_refl _) (Nat.le_refl _) rfl hP hS dX6_skip_13
/-! WireCutter$Program.parsePart -/
def fX6_parsePart (ul : Int32) (up : Int32) (ut : Nat → Int32) (vl : Int32) (vf : Int32) (vs : Int32) (vn : Int32) (p1 : Int32) : Option (Int32 × Int32 × Int32 × Int32 × Int32 × Int32) :=
  if p1 = 100 then
    (fX6_takeNumber ul up ut vf vs vn 1).bind fun z2 =>
    gd (isB z2.1) <|
    some (z2.1, z2.2.1, vl, z2.2.2.1, z2.2.2.2.1, z2.2.2.2.2)
  else
  if p1 = 109 then
    (fX6_current ul up ut).bind fun z6 =>
    (fX12_isMaterial z6).bind fun z8 =>
    if z8 = 0 then
      some (0, up, vl, vf, vs, vn)
    else
      (fX6_takeLetter ul up ut).bind fun z11 =>
      if z11.1 = 0 then
        some (0, z11.2.1, z11.2.2, vf, vs, vn)
      else
        some (1, z11.2.1, z11.2.2, vf, vs, vn)
  else
  if p1 = 110 then
    (fX6_takeNumber ul up ut vf vs vn 3).bind fun z15 =>
    gd (isB z15.1) <|
    some (z15.1, z15.2.1, vl, z15.2.2.1, z15.2.2.2.1, z15.2.2.2.2)
  else
  if p1 = 114 then
    (fX6_current ul up ut).bind fun z19 =>
    (fX12_isRule z19).bind fun z21 =>
    if z21 = 0 then
      some (0, up, vl, vf, vs, vn)
    else
      (fX6_takeLetter ul up ut).bind fun z24 =>
      if z24.1 = 0 then
        some (0, z24.2.1, z24.2.2, vf, vs, vn)
      else
        some (1, z24.2.1, z24.2.2, vf, vs, vn)
  else
    (fX6_skip ul up ut p1).bind fun z27 =>
    gd (isB z27.1) <|
    some (z27.1, z27.2, vl, vf, vs, vn)
theorem mbX6_parsePart : MV yX6_parsePart cX6_parsePart 3 (some .boolean) 2 := ⟨⟨q1557, q10, by decide +kernel⟩, q1556, qs16⟩
set_option maxHeartbeats 4000000 in
set_option maxRecDepth 100000 in
theorem tX6_parsePart (l : Launch) (dC : Nat → ClassId) (dI : Nat → Nat → Nat) (g : Nat → ClassId) (a0 : Nat) (a2 : Nat) (a1 b0 : Nat) (ul : Int32) (up : Int32) (uc : Int32) (ut : Nat → Int32) (vv : Option Nat) (vl : Int32) (vf : Int32) (vs : Int32) (vn : Int32) (p1 : Int32) {r : Int32 × Int32 × Int32 × Int32 × Int32 × Int32} (h : fX6_parsePart ul up ut vl vf vs vn p1 = some r) : MU l yX6_parsePart cX6_parsePart 3 (some .boolean) 2 45 0 0 dC dI g [.ref a0, .int p1, .ref b0] (wX6r g a0 a2 a1 ul up uc ut ++ wX2 g b0 vv vl vf vs vn) (wX6r g a0 a2 a1 ul r.2.1 uc ut ++ wX2 g b0 vv r.2.2.1 r.2.2.2.1 r.2.2.2.2.1 r.2.2.2.2.2) (some (.int r.1)) := by
  refine MU_of (by decide) (Nat.le_of_ble_eq_true rfl) ?_
  intro p e s m below meth c ls F hr hlocks hE hX hA hP hD hS hl
  generalize va_A (wX6r g a0 a2 a1 ul up uc ut ++ wX2 g b0 vv vl vf vs vn) s.heap.size = A at hA hD hS hX ⊢
  replace F : CF p m c cX6_parsePart 3 s _ RX6 := F
  replace hl : lv_has ls 3 [(0, .ref a0), (1, .int p1), (2, .ref b0)] := hl
  rw [fX6_parsePart] at h
  refine lv_iload_n F.1 F.2.1 dX6_parsePart_0 rfl (lv_at hl 1 rfl) ?_
  rcases Decidable.em (p1 = 100) with k1 | k1
  · replace h := it_t k1 h
    refine lv_lookup (tgt := 92) F.1 F.2.1 dX6_parsePart_1 (by decide) (by rw [k1]) (by decide) ?_
    refine lv_aload_n F.1 F.2.1 dX6_parsePart_92 rfl (lv_at hl 0 rfl) ?_
    refine lv_iconst (v := 1) F.1 F.2.1 dX6_parsePart_93 (by decide) ?_
    refine lv_aload_n F.1 F.2.1 dX6_parsePart_94 rfl (lv_at hl 2 rfl) ?_
    obtain ⟨z2, k3, h⟩ := bd_ok h
    refine cMV (As := [.int 1, .ref b0]) (rest := []) (ws' := wX6r g a0 a2 a1 ul z2.2.1 uc ut ++ wX2 g b0 vv vl z2.2.2.1 z2.2.2.2.1 z2.2.2.2.2) F hE hX (tX6_takeNumber l dC dI g a0 a2 a1 b0 ul up uc ut vv vl vf vs vn 1 k3) mbX6_takeNumber q1572 ⟨(Nat.le_of_ble_eq_true rfl), (Nat.le_of_ble_eq_true rfl)⟩ ⟨(Nat.le_of_ble_eq_true rfl), (Nat.le_of_ble_eq_true rfl)⟩ hP hD hS hA [0, 1, 2] rfl rfl rfl rfl rfl 0 rfl rfl rfl hl.1 rfl (Nat.le_of_ble_eq_true rfl) dX6_parsePart_95 (fun H locs hP hD hS => ?_)
    obtain ⟨k4, h⟩ := gd_ok h
    cases h
    exact MU_z (v := z2.1) F hr hlocks (Nat.le_refl _) (Nat.le_refl _) (isB_n k4).1 hP hS dX6_parsePart_98
  replace h := it_f k1 h
  rcases Decidable.em (p1 = 109) with k5 | k5
  · replace h := it_t k5 h
    refine lv_lookup (tgt := 44) F.1 F.2.1 dX6_parsePart_1 (by decide) (by rw [k5]) (by decide) ?_
    refine lv_aload_n F.1 F.2.1 dX6_parsePart_44 rfl (lv_at hl 0 rfl) ?_
    obtain ⟨z6, k7, h⟩ := bd_ok h
    refine cRV (As := []) (rest := []) F hE hX hS (tX6_current l dC dI g a0 a2 a1 ul up uc ut k7) mbX6_current q1558 ⟨(Nat.le_of_ble_eq_true rfl), (Nat.le_of_ble_eq_true rfl)⟩ ⟨Nat.zero_le _, Nat.zero_le _⟩ hP [0, 1] rfl 0 rfl rfl rfl hl.1 rfl (Nat.le_of_ble_eq_true rfl) dX6_parsePart_45 ?_
    obtain ⟨z8, k9, h⟩ := bd_ok h
    refine cRSN (As := [.int z6]) (rest := []) F hE hX hS (tX12_isMaterial l dC dI g z6 k9) mbX12_isMaterial q1562 ⟨(Nat.le_of_ble_eq_true rfl), (Nat.le_of_ble_eq_true rfl)⟩ ⟨Nat.zero_le _, Nat.zero_le _⟩ hP [] rfl rfl hl.1 rfl (Nat.le_of_ble_eq_true rfl) dX6_parsePart_48 ?_
    refine lv_if_eq (tgt := 66) F.1 F.2.1 dX6_parsePart_51 (by decide) (fun k10 => ?_) (fun k10 => ?_)
    · replace h := it_t k10 h
      refine lv_iconst (v := 0) F.1 F.2.1 dX6_parsePart_66 (by decide) ?_
      cases h
      exact MU_z (v := 0) F hr hlocks (Nat.le_refl _) (Nat.le_refl _) rfl hP hS dX6_parsePart_67
    · replace h := it_f k10 h
      refine lv_aload_n F.1 F.2.1 dX6_parsePart_54 rfl (lv_at hl 0 rfl) ?_
      refine lv_aload_n F.1 F.2.1 dX6_parsePart_55 rfl (lv_at hl 2 rfl) ?_
      obtain ⟨z11, k12, h⟩ := bd_ok h
      refine cMV (As := [.ref b0]) (rest := []) (ws' := wX6r g a0 a2 a1 ul z11.2.1 uc ut ++ wX2 g b0 vv z11.2.2 vf vs vn) F hE hX (tX6_takeLetter l dC dI g a0 a2 a1 b0 ul up uc ut vv vl vf vs vn k12) mbX6_takeLetter q1563 ⟨(Nat.le_of_ble_eq_true rfl), (Nat.le_of_ble_eq_true rfl)⟩ ⟨(Nat.le_of_ble_eq_true rfl), (Nat.le_of_ble_eq_true rfl)⟩ hP hD hS hA [0, 1, 2] rfl rfl rfl rfl rfl 0 rfl rfl rfl hl.1 rfl (Nat.le_of_ble_eq_true rfl) dX6_parsePart_56 (fun H locs hP hD hS => ?_)
      refine lv_if_eq (tgt := 66) F.1 F.2.1 dX6_parsePart_59 (by decide) (fun k13 => ?_) (fun k13 => ?_)
      · replace h := it_t k13 h
        refine lv_iconst (v := 0) F.1 F.2.1 dX6_parsePart_66 (by decide) ?_
        cases h
        exact MU_z (v := 0) F hr hlocks (Nat.le_refl _) (Nat.le_refl _) rfl hP hS dX6_parsePart_67
      · replace h := it_f k13 h
        refine lv_iconst (v := 1) F.1 F.2.1 dX6_parsePart_62 (by decide) ?_
        refine lv_goto (tgt := 67) F.1 F.2.1 dX6_parsePart_63 (by decide) ?_
        cases h
        exact MU_z (v := 1) F hr hlocks (Nat.le_refl _) (Nat.le_refl _) rfl hP hS dX6_parsePart_67
  replace h := it_f k5 h
  rcases Decidable.em (p1 = 110) with k14 | k14
  · replace h := it_t k14 h
    refine lv_lookup (tgt := 99) F.1 F.2.1 dX6_parsePart_1 (by decide) (by rw [k14]) (by decide) ?_
    refine lv_aload_n F.1 F.2.1 dX6_parsePart_99 rfl (lv_at hl 0 rfl) ?_
    refine lv_iconst (v := 3) F.1 F.2.1 dX6_parsePart_100 (by decide) ?_
    refine lv_aload_n F.1 F.2.1 dX6_parsePart_101 rfl (lv_at hl 2 rfl) ?_
    obtain ⟨z15, k16, h⟩ := bd_ok h
    refine cMV (As := [.int 3, .ref b0]) (rest := []) (ws' := wX6r g a0 a2 a1 ul z15.2.1 uc ut ++ wX2 g b0 vv vl z15.2.2.1 z15.2.2.2.1 z15.2.2.2.2) F hE hX (tX6_takeNumber l dC dI g a0 a2 a1 b0 ul up uc ut vv vl vf vs vn 3 k16) mbX6_takeNumber q1572 ⟨(Nat.le_of_ble_eq_true rfl), (Nat.le_of_ble_eq_true rfl)⟩ ⟨(Nat.le_of_ble_eq_true rfl), (Nat.le_of_ble_eq_true rfl)⟩ hP hD hS hA [0, 1, 2] rfl rfl rfl rfl rfl 0 rfl rfl rfl hl.1 rfl (Nat.le_of_ble_eq_true rfl) dX6_parsePart_102 (fun H locs hP hD hS => ?_)
    obtain ⟨k17, h⟩ := gd_ok h
    cases h
    exact MU_z (v := z15.1) F hr hlocks (Nat.le_refl _) (Nat.le_refl _) (isB_n k17).1 hP hS dX6_parsePart_105
  replace h := it_f k14 h
  rcases Decidable.em (p1 = 114) with k18 | k18
  · replace h := it_t k18 h
    refine lv_lookup (tgt := 68) F.1 F.2.1 dX6_parsePart_1 (by decide) (by rw [k18]) (by decide) ?_
    refine lv_aload_n F.1 F.2.1 dX6_parsePart_68 rfl (lv_at hl 0 rfl) ?_
    obtain ⟨z19, k20, h⟩ := bd_ok h
    refine cRV (As := []) (rest := []) F hE hX hS (tX6_current l dC dI g a0 a2 a1 ul up uc ut k20) mbX6_current q1558 ⟨(Nat.le_of_ble_eq_true rfl), (Nat.le_of_ble_eq_true rfl)⟩ ⟨Nat.zero_le _, Nat.zero_le _⟩ hP [0, 1] rfl 0 rfl rfl rfl hl.1 rfl (Nat.le_of_ble_eq_true rfl) dX6_parsePart_69 ?_
    obtain ⟨z21, k22, h⟩ := bd_ok h
    refine cRSN (As := [.int z19]) (rest := []) F hE hX hS (tX12_isRule l dC dI g z19 k22) mbX12_isRule q1571 ⟨(Nat.le_of_ble_eq_true rfl), (Nat.le_of_ble_eq_true rfl)⟩ ⟨Nat.zero_le _, Nat.zero_le _⟩ hP [] rfl rfl hl.1 rfl (Nat.le_of_ble_eq_true rfl) dX6_parsePart_72 ?_
    refine lv_if_eq (tgt := 90) F.1 F.2.1 dX6_parsePart_75 (by decide) (fun k23 => ?_) (fun k23 => ?_)
    · replace h := it_t k23 h
      refine lv_iconst (v := 0) F.1 F.2.1 dX6_parsePart_90 (by decide) ?_
      cases h
      exact MU_z (v := 0) F hr hlocks (Nat.le_refl _) (Nat.le_refl _) rfl hP hS dX6_parsePart_91
    · replace h := it_f k23 h
      refine lv_aload_n F.1 F.2.1 dX6_parsePart_78 rfl (lv_at hl 0 rfl) ?_
      refine lv_aload_n F.1 F.2.1 dX6_parsePart_79 rfl (lv_at hl 2 rfl) ?_
      obtain ⟨z24, k25, h⟩ := bd_ok h
      refine cMV (As := [.ref b0]) (rest := []) (ws' := wX6r g a0 a2 a1 ul z24.2.1 uc ut ++ wX2 g b0 vv z24.2.2 vf vs vn) F hE hX (tX6_takeLetter l dC dI g a0 a2 a1 b0 ul up uc ut vv vl vf vs vn k25) mbX6_takeLetter q1563 ⟨(Nat.le_of_ble_eq_true rfl), (Nat.le_of_ble_eq_true rfl)⟩ ⟨(Nat.le_of_ble_eq_true rfl), (Nat.le_of_ble_eq_true rfl)⟩ hP hD hS hA [0, 1, 2] rfl rfl rfl rfl rfl 0 rfl rfl rfl hl.1 rfl (Nat.le_of_ble_eq_true rfl) dX6_parsePart_80 (fun H locs hP hD hS => ?_)
      refine lv_if_eq (tgt := 90) F.1 F.2.1 dX6_parsePart_83 (by decide) (fun k26 => ?_) (fun k26 => ?_)
      · replace h := it_t k26 h
        refine lv_iconst (v := 0) F.1 F.2.1 dX6_parsePart_90 (by decide) ?_
        cases h
        exact MU_z (v := 0) F hr hlocks (Nat.le_refl _) (Nat.le_refl _) rfl hP hS dX6_parsePart_91
      · replace h := it_f k26 h
        refine lv_iconst (v := 1) F.1 F.2.1 dX6_parsePart_86 (by decide) ?_
        refine lv_goto (tgt := 91) F.1 F.2.1 dX6_parsePart_87 (by decide) ?_
        cases h
        exact MU_z (v := 1) F hr hlocks (Nat.le_refl _) (Nat.le_refl _) rfl hP hS dX6_parsePart_91
  replace h := it_f k18 h
  have nk1 : ¬ Int32.toInt p1 = 100 := fun q9 => k1 (Int32.toInt_inj.mp (q9.trans (by decide : (100 : Int) = Int32.toInt 100)))
  have nk5 : ¬ Int32.toInt p1 = 109 := fun q9 => k5 (Int32.toInt_inj.mp (q9.trans (by decide : (109 : Int) = Int32.toInt 109)))
  have nk14 : ¬ Int32.toInt p1 = 110 := fun q9 => k14 (Int32.toInt_inj.mp (q9.trans (by decide : (110 : Int) = Int32.toInt 110)))
  have nk18 : ¬ Int32.toInt p1 = 114 := fun q9 => k18 (Int32.toInt_inj.mp (q9.trans (by decide : (114 : Int) = Int32.toInt 114)))
  refine lv_lookup (tgt := 106) (off := 105) F.1 F.2.1 dX6_parsePart_1 (by decide) ?_ (by decide) ?_
  · show Op.lookupswitch.offset [(100, 91), (109, 43), (110, 98), (114, 67)] 105 (Int32.toInt p1) = 105
    rw [Op.lookupswitch.offset_cons, if_neg (fun q9 => nk1 q9.symm), Op.lookupswitch.offset_cons, if_neg (fun q9 => nk5 q9.symm), Op.lookupswitch.offset_cons, if_neg (fun q9 => nk14 q9.symm), Op.lookupswitch.offset_cons, if_neg (fun q9 => nk18 q9.symm), Op.lookupswitch.offset_nil]
  refine lv_aload_n F.1 F.2.1 dX6_parsePart_106 rfl (lv_at hl 0 rfl) ?_
  refine lv_iload_n F.1 F.2.1 dX6_parsePart_107 rfl (lv_at hl 1 rfl) ?_
  obtain ⟨z27, k28, h⟩ := bd_ok h
  refine cMV (As := [.int p1]) (rest := []) (ws' := wX6r g a0 a2 a1 ul z27.2 uc ut ++ wX2 g b0 vv vl vf vs vn) F hE hX (tX6_skip l dC dI g a0 a2 a1 ul up uc ut p1 k28) mbX6_skip q1583 ⟨(Nat.le_of_ble_eq_true rfl), (Nat.le_of_ble_eq_true rfl)⟩ ⟨(Nat.le_of_ble_eq_true rfl), (Nat.le_of_ble_eq_true rfl)⟩ hP hD hS hA [0, 1] rfl rfl rfl rfl rfl 0 rfl rfl rfl hl.1 rfl (Nat.le_of_ble_eq_true rfl) dX6_parsePart_108 (fun H locs hP hD hS => ?_)
  obtain ⟨k29, h⟩ := gd_ok h
  cases h
  exact MU_z (v := z27.1) F hr hlocks (Nat.le_refl _) (Nat.le_refl _) (isB_n k29).1 hP hS dX6_parsePart_111
/-! WireCutter$Program.parseCommand -/
def fX6_parseCommand_L22 (x2 : Nat) (ul : Int32) (ut : Nat → Int32) (vv : Option Nat) : Nat → Int32 → Int32 → Int32 → Int32 → Int32 → Int32 → Option (Int32 × Int32 × Option Nat × Int32 × Int32 × Int32 × Int32)
  | 0, _, _, _, _, _, _ => none
  | k + 1, x3, up, vl, vf, vs, vn =>
    gd (ltN x2 10) <|
    if (nI (stL.getD (pIx.getD x2 0) 0)) ≤ x3 then
      some (1, up, vv, vl, vf, vs, vn)
    else
      gd (ltN x2 10) <|
      gd (inR x3 (stL.getD (pIx.getD x2 0) 0)) <|
      (fX6_parsePart ul up ut vl vf vs vn (chS (pIx.getD x2 0) x3.toNatClampNeg)).bind fun z11 =>
      if z11.1 = 0 then
        some (0, z11.2.1, vv, z11.2.2.1, z11.2.2.2.1, z11.2.2.2.2.1, z11.2.2.2.2.2)
      else
        fX6_parseCommand_L22 x2 ul ut vv k (x3 + 1) z11.2.1 z11.2.2.1 z11.2.2.2.1 z11.2.2.2.2.1 z11.2.2.2.2.2
def fX6_parseCommand (ul : Int32) (up : Int32) (ut : Nat → Int32) (vv : Option Nat) (vl : Int32) (vf : Int32) (vs : Int32) (vn : Int32) : Option (Int32 × Int32 × Option Nat × Int32 × Int32 × Int32 × Int32) :=
  (fX6_parseVerb ul up ut).bind fun z1 =>
  oM z1.1 (
    some (0, z1.2, vv, vl, vf, vs, vn)) fun o4 =>
  (fX2_begin o4).bind fun z5 =>
  fX6_parseCommand_L22 o4 ul ut z5.1 FU 0 z1.2 vl vf vs z5.2
theorem mbX6_parseCommand : MV yX6_parseCommand cX6_parseCommand 4 (some .boolean) 1 := ⟨⟨q1519, q10, by decide +kernel⟩, q1518, qs12⟩
set_option maxHeartbeats 4000000 in
set_option maxRecDepth 100000 in
theorem tX6_parseCommand_L22 {p : Program} {l : Launch} {e : Env} {s : State} {m : MethodId} {args : Array Value} {below : List Frame} {meth : Method} {c : Code} {dC : Nat → ClassId} {dI : Nat → Nat → Nat} {g : Nat → ClassId} {a0 : Nat} {a2 : Nat} {a1 b0 : Nat} {r : Int32 × Int32 × Option Nat × Int32 × Int32 × Int32 × Int32} {A : Nat → Prop} (F : CF p m c cX6_parseCommand 4 s args RX6) (hr : meth.sig.returnType = (some .boolean)) (hlocks : meth.locks = false) (hE : EK dC dI g s) (hX : EX g A s s.heap) (hA : ∀ q : Nat, s.heap.size ≤ q → A q) (x2 : Nat) (ul : Int32) (uc : Int32) (ut : Nat → Int32) (vv : Option Nat) : ∀ (k : Nat) (x3 : Int32) (up : Int32) (vl : Int32) (vf : Int32) (vs : Int32) (vn : Int32), fX6_parseCommand_L22 x2 ul ut vv k x3 up vl vf vs vn = some r → ∀ (H : Heap) (locs : List Loc), va_P (dC, dI) vwCl (wX6r g a0 a2 a1 ul up uc ut ++ wX2 g b0 vv vl vf vs vn) H → va_D A (wX6r g a0 a2 a1 ul up uc ut ++ wX2 g b0 vv vl vf vs vn) → va_S A s.heap H locs → ∀ (ls : Array Slot), lv_has ls 4 [(0, .ref a0), (1, .ref b0), (2, .ref (g (100 + x2))), (3, .int x3)] → W p l e { frames := 6, cells := 0, slots := 0, locals := 130 } s m args below meth c H locs 0 0 (MQ below (fun _ st o t => o = .returned (some (.int r.1)) ∧ va_P (dC, dI) vwCl (wX6r g a0 a2 a1 ul r.2.1 uc ut ++ wX2 g b0 r.2.2.1 r.2.2.2.1 r.2.2.2.2.1 r.2.2.2.2.2.1 r.2.2.2.2.2.2) t.heap ∧ va_F A st t) args s 0 0 A) (F0 m 22 ls []) := by
  intro k
  induction k with
  | zero =>
    intro x3 up vl vf vs vn h
    exact absurd h (by simp [fX6_parseCommand_L22])
  | succ k ih =>
    intro x3 up vl vf vs vn h H locs hP hD hS ls hl
    rw [fX6_parseCommand_L22] at h
    refine lv_iload_n F.1 F.2.1 dX6_parseCommand_22 rfl (lv_at hl 3 rfl) ?_
    refine lv_aload_n F.1 F.2.1 dX6_parseCommand_23 rfl (lv_at hl 2 rfl) ?_
    obtain ⟨k7, h⟩ := gd_ok h
    refine gON F hE (hX.pt _ (ltN_lt k7)) hS q2250 dX6_parseCommand_24 ?_
    refine cRVc (As := []) (rest := [.int x3]) F hE hX hS (tJ0_length_8abf5 l dC dI g (pIx_lt (ltN_lt k7))) mbJ0_length_8abf5 q1530 ⟨(Nat.le_of_ble_eq_true rfl), (Nat.le_of_ble_eq_true rfl)⟩ ⟨(Nat.le_of_ble_eq_true rfl), (Nat.le_of_ble_eq_true rfl)⟩ (hX.S (pIx_lt (ltN_lt k7))).1 rfl hl.1 rfl (Nat.le_of_ble_eq_true rfl) dX6_parseCommand_27 ?_
    refine lv_icmp_ge (tgt := 57) F.1 F.2.1 dX6_parseCommand_30 (by decide) (fun k8 => ?_) (fun k8 => ?_)
    · replace h := it_t k8 h
      refine lv_iconst (v := 1) F.1 F.2.1 dX6_parseCommand_57 (by decide) ?_
      cases h
      exact MU_z (v := 1) F hr hlocks (Nat.le_refl _) (Nat.le_refl _) rfl hP hS dX6_parseCommand_58
    · replace h := it_f k8 h
      refine lv_aload_n F.1 F.2.1 dX6_parseCommand_33 rfl (lv_at hl 0 rfl) ?_
      refine lv_aload_n F.1 F.2.1 dX6_parseCommand_34 rfl (lv_at hl 2 rfl) ?_
      obtain ⟨k9, h⟩ := gd_ok h
      refine gON F hE (hX.pt _ (ltN_lt k9)) hS q2250 dX6_parseCommand_35 ?_
      refine lv_iload_n F.1 F.2.1 dX6_parseCommand_38 rfl (lv_at hl 3 rfl) ?_
      obtain ⟨k10, h⟩ := gd_ok h
      refine cRVc (As := [.int x3]) (rest := [.ref a0]) F hE hX hS (tJ0_charAt_5068e l dC dI g (pIx_lt (ltN_lt k9)) x3 k10) mbJ0_charAt_5068e q1531 ⟨(Nat.le_of_ble_eq_true rfl), (Nat.le_of_ble_eq_true rfl)⟩ ⟨(Nat.le_of_ble_eq_true rfl), (Nat.le_of_ble_eq_true rfl)⟩ (hX.S (pIx_lt (ltN_lt k9))).1 rfl hl.1 rfl (Nat.le_of_ble_eq_true rfl) dX6_parseCommand_39 ?_
      refine lv_aload_n F.1 F.2.1 dX6_parseCommand_42 rfl (lv_at hl 1 rfl) ?_
      obtain ⟨z11, k12, h⟩ := bd_ok h
      refine cMV (As := [.int (chS (pIx.getD x2 0) x3.toNatClampNeg), .ref b0]) (rest := []) (ws' := wX6r g a0 a2 a1 ul z11.2.1 uc ut ++ wX2 g b0 vv z11.2.2.1 z11.2.2.2.1 z11.2.2.2.2.1 z11.2.2.2.2.2) F hE hX (tX6_parsePart l dC dI g a0 a2 a1 b0 ul up uc ut vv vl vf vs vn (chS (pIx.getD x2 0) x3.toNatClampNeg) k12) mbX6_parsePart q1554 ⟨(Nat.le_of_ble_eq_true rfl), (Nat.le_of_ble_eq_true rfl)⟩ ⟨(Nat.le_of_ble_eq_true rfl), (Nat.le_of_ble_eq_true rfl)⟩ hP hD hS hA [0, 1, 2] rfl rfl rfl rfl rfl 0 rfl rfl rfl hl.1 rfl (Nat.le_of_ble_eq_true rfl) dX6_parseCommand_43 (fun H locs hP hD hS => ?_)
      refine lv_if_ne (tgt := 51) F.1 F.2.1 dX6_parseCommand_46 (by decide) (fun k13 => ?_) (fun k13 => ?_)
      · replace h := it_f k13 h
        refine lv_iinc (v := x3 + 1) (lv' := [(3, .int (x3 + 1)), (0, .ref a0), (1, .ref b0), (2, .ref (g (100 + x2)))]) F.1 F.2.1 dX6_parseCommand_51 hl (k := 3) rfl (by rfl) (by decide) rfl (fun ls hl => ?_)
        refine lv_goto (tgt := 22) F.1 F.2.1 dX6_parseCommand_54 (by decide) ?_
        exact ih (x3 + 1) z11.2.1 z11.2.2.1 z11.2.2.2.1 z11.2.2.2.2.1 z11.2.2.2.2.2 h _ _ hP hD hS ls (lv_sub hl [1, 2, 3, 0] rfl)
      · replace h := it_t k13 h
        refine lv_iconst (v := 0) F.1 F.2.1 dX6_parseCommand_49 (by decide) ?_
        cases h
        exact MU_z (v := 0) F hr hlocks (Nat.le_refl _) (Nat.le_refl _) rfl hP hS dX6_parseCommand_50
set_option maxHeartbeats 4000000 in
set_option maxRecDepth 100000 in
theorem tX6_parseCommand (l : Launch) (dC : Nat → ClassId) (dI : Nat → Nat → Nat) (g : Nat → ClassId) (a0 : Nat) (a2 : Nat) (a1 b0 : Nat) (ul : Int32) (up : Int32) (uc : Int32) (ut : Nat → Int32) (vv : Option Nat) (vl : Int32) (vf : Int32) (vs : Int32) (vn : Int32) {r : Int32 × Int32 × Option Nat × Int32 × Int32 × Int32 × Int32} (h : fX6_parseCommand ul up ut vv vl vf vs vn = some r) : MU l yX6_parseCommand cX6_parseCommand 4 (some .boolean) 6 130 0 0 dC dI g [.ref a0, .ref b0] (wX6r g a0 a2 a1 ul up uc ut ++ wX2 g b0 vv vl vf vs vn) (wX6r g a0 a2 a1 ul r.2.1 uc ut ++ wX2 g b0 r.2.2.1 r.2.2.2.1 r.2.2.2.2.1 r.2.2.2.2.2.1 r.2.2.2.2.2.2) (some (.int r.1)) := by
  refine MU_of (by decide) (Nat.le_of_ble_eq_true rfl) ?_
  intro p e s m below meth c ls F hr hlocks hE hX hA hP hD hS hl
  generalize va_A (wX6r g a0 a2 a1 ul up uc ut ++ wX2 g b0 vv vl vf vs vn) s.heap.size = A at hA hD hS hX ⊢
  replace F : CF p m c cX6_parseCommand 4 s _ RX6 := F
  replace hl : lv_has ls 4 [(0, .ref a0), (1, .ref b0)] := hl
  rw [fX6_parseCommand] at h
  refine lv_aload_n F.1 F.2.1 dX6_parseCommand_0 rfl (lv_at hl 0 rfl) ?_
  obtain ⟨z1, k2, h⟩ := bd_ok h
  refine cMV (As := []) (rest := []) (ws' := wX6r g a0 a2 a1 ul z1.2 uc ut ++ wX2 g b0 vv vl vf vs vn) F hE hX (tX6_parseVerb l dC dI g a0 a2 a1 ul up uc ut k2) mbX6_parseVerb q1520 ⟨(Nat.le_of_ble_eq_true rfl), (Nat.le_of_ble_eq_true rfl)⟩ ⟨(Nat.le_of_ble_eq_true rfl), (Nat.le_of_ble_eq_true rfl)⟩ hP hD hS hA [0, 1] rfl rfl rfl rfl rfl 0 rfl rfl rfl hl.1 rfl (Nat.le_of_ble_eq_true rfl) dX6_parseCommand_1 (fun H locs hP hD hS => ?_)
  refine astV (lv' := [(2, vbR g z1.1), (0, .ref a0), (1, .ref b0)]) F (vbR_v g _) dX6_parseCommand_4 rfl hl (by decide) rfl (fun ls hl => ?_)
  refine aldV F (vbR_v g _) dX6_parseCommand_5 rfl (lv_at hl 0 rfl) ?_
  rcases o_cases z1.1 with k3 | ⟨o4, k3⟩
  · replace h := oM_n k3 h
    refine ifN_n (tgt := 13) F (congrArg (vbR g) k3) dX6_parseCommand_6 (by decide) ?_
    refine lv_iconst (v := 0) F.1 F.2.1 dX6_parseCommand_13 (by decide) ?_
    cases h
    exact MU_z (v := 0) F hr hlocks (Nat.le_refl _) (Nat.le_refl _) rfl hP hS dX6_parseCommand_14
  · replace h := oM_s k3 h
    refine ifN_s F (a := g (100 + o4)) (congrArg (vbR g) k3) dX6_parseCommand_6 ?_
    replace hl : lv_has ls 4 [(2, .ref (g (100 + o4))), (0, .ref a0), (1, .ref b0)] := by rw [k3] at hl; exact hl
    refine lv_aload_n F.1 F.2.1 dX6_parseCommand_9 rfl (lv_at hl 2 rfl) ?_
    refine lv_ifnonnull (tgt := 15) F.1 F.2.1 dX6_parseCommand_10 (by decide) ?_
    refine lv_aload_n F.1 F.2.1 dX6_parseCommand_15 rfl (lv_at hl 2 rfl) ?_
    refine lv_aload_n F.1 F.2.1 dX6_parseCommand_16 rfl (lv_at hl 0 rfl) ?_
    obtain ⟨z5, k6, h⟩ := bd_ok h
    refine cMV (As := [.ref (g (100 + o4))]) (rest := []) (ws' := wX6r g a0 a2 a1 ul z1.2 uc ut ++ wX2 g b0 z5.1 vl vf vs z5.2) F hE hX (tX2_begin l dC dI g b0 vv vl vf vs vn o4 k6) mbX2_begin q1550 ⟨(Nat.le_of_ble_eq_true rfl), (Nat.le_of_ble_eq_true rfl)⟩ ⟨(Nat.le_of_ble_eq_true rfl), (Nat.le_of_ble_eq_true rfl)⟩ hP hD hS hA [2] rfl rfl rfl rfl rfl 2 rfl rfl rfl hl.1 rfl (Nat.le_of_ble_eq_true rfl) dX6_parseCommand_17 (fun H locs hP hD hS => ?_)
    refine lv_iconst (v := 0) F.1 F.2.1 dX6_parseCommand_20 (by decide) ?_
    refine lv_istore_n (lv' := [(3, .int 0), (2, .ref (g (100 + o4))), (0, .ref a0), (1, .ref b0)]) F.1 F.2.1 dX6_parseCommand_21 rfl hl (by decide) rfl (fun ls hl => ?_)
    exact tX6_parseCommand_L22 F hr hlocks hE hX hA o4 ul uc ut z5.1 FU 0 z1.2 vl vf vs z5.2 h _ _ hP hD hS ls (lv_sub hl [2, 3, 1, 0] rfl)
/-! WireCutter$Program.parseCommands -/
def fX6_parseCommands_L2 (ul : Int32) (ut : Nat → Int32) : Nat → Int32 → Int32 → Int32 → (Nat → CT) → Option (Int32 × Int32 × Int32 × (Nat → CT))
  | 0, _, _, _, _ => none
  | k + 1, x1, up, uc, uK =>
    if (nI 12) ≤ x1 then
      some (0, up, uc, uK)
    else
      gd (inR x1 12) <|
      (fX6_parseCommand ul up ut ((uK x1.toNatClampNeg).1) ((uK x1.toNatClampNeg).2.1) ((uK x1.toNatClampNeg).2.2.1) ((uK x1.toNatClampNeg).2.2.2.1) ((uK x1.toNatClampNeg).2.2.2.2)).bind fun z3 =>
      if z3.1 = 0 then
        some (0, z3.2.1, uc, va_up uK x1.toNatClampNeg (z3.2.2.1, z3.2.2.2.1, z3.2.2.2.2.1, z3.2.2.2.2.2.1, z3.2.2.2.2.2.2))
      else
        if z3.2.1 < ul then
          (fX6_skip ul z3.2.1 ut 59).bind fun z7 =>
          if z7.1 = 0 then
            some (0, z7.2, uc + 1, va_up uK x1.toNatClampNeg (z3.2.2.1, z3.2.2.2.1, z3.2.2.2.2.1, z3.2.2.2.2.2.1, z3.2.2.2.2.2.2))
          else
            fX6_parseCommands_L2 ul ut k (x1 + 1) z7.2 (uc + 1) (va_up uK x1.toNatClampNeg (z3.2.2.1, z3.2.2.2.1, z3.2.2.2.2.1, z3.2.2.2.2.2.1, z3.2.2.2.2.2.2))
        else
          some (1, z3.2.1, uc + 1, va_up uK x1.toNatClampNeg (z3.2.2.1, z3.2.2.2.1, z3.2.2.2.2.1, z3.2.2.2.2.2.1, z3.2.2.2.2.2.2))
def fX6_parseCommands (ul : Int32) (up : Int32) (uc : Int32) (ut : Nat → Int32) (uK : Nat → CT) : Option (Int32 × Int32 × Int32 × (Nat → CT)) :=
  fX6_parseCommands_L2 ul ut FU 0 up uc uK
theorem mbX6_parseCommands : MV yX6_parseCommands cX6_parseCommands 2 (some .boolean) 0 := ⟨⟨q1515, q10, by decide +kernel⟩, q1514, qs11⟩
set_option maxHeartbeats 4000000 in
set_option maxRecDepth 100000 in
theorem tX6_parseCommands_L2 {p : Program} {l : Launch} {e : Env} {s : State} {m : MethodId} {args : Array Value} {below : List Frame} {meth : Method} {c : Code} {dC : Nat → ClassId} {dI : Nat → Nat → Nat} {g : Nat → ClassId} {a0 a1 a2 : Nat} {a2A : Nat → Nat → Nat} {r : Int32 × Int32 × Int32 × (Nat → CT)} {A : Nat → Prop} (F : CF p m c cX6_parseCommands 2 s args RX6) (hr : meth.sig.returnType = (some .boolean)) (hlocks : meth.locks = false) (hE : EK dC dI g s) (hX : EX g A s s.heap) (hA : ∀ q : Nat, s.heap.size ≤ q → A q) (ul : Int32) (ut : Nat → Int32) : ∀ (k : Nat) (x1 : Int32) (up : Int32) (uc : Int32) (uK : Nat → CT), fX6_parseCommands_L2 ul ut k x1 up uc uK = some r → ∀ (H : Heap) (locs : List Loc), va_P (dC, dI) vwCl (catp [[(a0, .inr (9, [.ref a1, .ref a2, .int ul, .int up, .int uc]))], [(a1, .inl (g 1, 60, .inl ut))], wK g a2 a2A uK] []) H → va_D A (catp [[(a0, .inr (9, [.ref a1, .ref a2, .int ul, .int up, .int uc]))], [(a1, .inl (g 1, 60, .inl ut))], wK g a2 a2A uK] []) → va_S A s.heap H locs → ∀ (ls : Array Slot), lv_has ls 2 [(0, .ref a0), (1, .int x1)] → W p l e { frames := 7, cells := 0, slots := 0, locals := 153 } s m args below meth c H locs 0 0 (MQ below (fun _ st o t => o = .returned (some (.int r.1)) ∧ va_P (dC, dI) vwCl (wX6 g a0 a1 a2 a2A ul r.2.1 r.2.2.1 ut r.2.2.2) t.heap ∧ va_F A st t) args s 0 0 A) (F0 m 2 ls []) := by
  intro k
  induction k with
  | zero =>
    intro x1 up uc uK h
    exact absurd h (by simp [fX6_parseCommands_L2])
  | succ k ih =>
    intro x1 up uc uK h H locs hP hD hS ls hl
    rw [fX6_parseCommands_L2] at h
    refine lv_iload_n F.1 F.2.1 dX6_parseCommands_2 rfl (lv_at hl 1 rfl) ?_
    refine lv_aload_n F.1 F.2.1 dX6_parseCommands_3 rfl (lv_at hl 0 rfl) ?_
    refine gF (v := .ref a2) F hE hP 0 rfl rfl inX6 1 (by decide) q264 rfl dX6_parseCommands_4 ?_
    refine va_alen (v := nI 12) F.1 F.2.1 hE.1 hP 2 3 rfl rfl rfl dX6_parseCommands_7 ?_
    refine lv_icmp_ge (tgt := 66) F.1 F.2.1 dX6_parseCommands_8 (by decide) (fun k1 => ?_) (fun k1 => ?_)
    · replace h := it_t k1 h
      refine lv_iconst (v := 0) F.1 F.2.1 dX6_parseCommands_66 (by decide) ?_
      cases h
      exact MU_z (v := 0) F hr hlocks (Nat.le_refl _) (Nat.le_refl _) rfl hP hS dX6_parseCommands_67
    · replace h := it_f k1 h
      refine lv_aload_n F.1 F.2.1 dX6_parseCommands_11 rfl (lv_at hl 0 rfl) ?_
      refine lv_aload_n F.1 F.2.1 dX6_parseCommands_12 rfl (lv_at hl 0 rfl) ?_
      refine gF (v := .ref a2) F hE hP 0 rfl rfl inX6 1 (by decide) q264 rfl dX6_parseCommands_13 ?_
      refine lv_iload_n F.1 F.2.1 dX6_parseCommands_16 rfl (lv_at hl 1 rfl) ?_
      obtain ⟨k2, h⟩ := gd_ok h
      refine va_aldq (f := fun i => some (a2A i 0)) F.1 F.2.1 hE.1 hP 2 3 rfl rfl (inR_in k2) dX6_parseCommands_17 ?_
      obtain ⟨z3, k4, h⟩ := bd_ok h
      refine cMV2 (As := [.ref (a2A x1.toNatClampNeg 0)]) (rest := []) (post := (catp ((List.range' (x1.toNatClampNeg + 1) (11 - x1.toNatClampNeg)).map (fun i => wX2t g (a2A i) (uK i))) (catp [] []))) (ws' := catp [[(a0, .inr (9, [.ref a1, .ref a2, .int ul, .int z3.2.1, .int uc]))], [(a1, .inl (g 1, 60, .inl ut))], wK g a2 a2A (va_up uK x1.toNatClampNeg (z3.2.2.1, z3.2.2.2.1, z3.2.2.2.2.1, z3.2.2.2.2.2.1, z3.2.2.2.2.2.2))] []) F hE hX (tX6_parseCommand l dC dI g a0 a2 a1 (a2A x1.toNatClampNeg 0) ul up uc ut ((uK x1.toNatClampNeg).1) ((uK x1.toNatClampNeg).2.1) ((uK x1.toNatClampNeg).2.2.1) ((uK x1.toNatClampNeg).2.2.2.1) ((uK x1.toNatClampNeg).2.2.2.2) k4) mbX6_parseCommand q1516 ⟨(Nat.le_of_ble_eq_true rfl), (Nat.le_of_ble_eq_true rfl)⟩ ⟨(Nat.le_of_ble_eq_true rfl), (Nat.le_of_ble_eq_true rfl)⟩ hP hD hS hA [] ([(a2, .inl (g 3, 12, .inr (.inr (.inr (.inr (fun i => some (a2A i 0)))))))] :: ((List.range x1.toNatClampNeg).map (fun i => wX2t g (a2A i) (uK i)))) (congrArg (fun z : va_W => catp [[(a0, .inr (9, [.ref a1, .ref a2, .int ul, .int up, .int uc]))], [(a1, .inl (g 1, 60, .inl ut))]] z) (wK_cut g a2 a2A uK (inR_lt2 k2) (catp [] []))) rfl rfl (congrArg (fun z : va_W => catp [[(a0, .inr (9, [.ref a1, .ref a2, .int ul, .int z3.2.1, .int uc]))], [(a1, .inl (g 1, 60, .inl ut))]] z) (wK_put g a2 a2A uK (inR_lt2 k2) (z3.2.2.1, z3.2.2.2.1, z3.2.2.2.2.1, z3.2.2.2.2.2.1, z3.2.2.2.2.2.2) (catp [] []))) 0 rfl rfl rfl hl.1 rfl (Nat.le_of_ble_eq_true rfl) dX6_parseCommands_18 (fun H locs hP hD hS => ?_)
      refine lv_if_ne (tgt := 26) F.1 F.2.1 dX6_parseCommands_21 (by decide) (fun k5 => ?_) (fun k5 => ?_)
      · replace h := it_f k5 h
        refine lv_aload_n F.1 F.2.1 dX6_parseCommands_26 rfl (lv_at hl 0 rfl) ?_
        refine lv_dup F.1 F.2.1 dX6_parseCommands_27 rfl ?_
        refine gF (v := .int uc) F hE hP 0 rfl rfl inX6 4 (by decide) q267 rfl dX6_parseCommands_28 ?_
        refine lv_iconst (v := 1) F.1 F.2.1 dX6_parseCommands_31 (by decide) ?_
        refine lv_iadd F.1 F.2.1 dX6_parseCommands_32 ?_
        refine pF (v := .int (uc + 1)) F hE hP hD hS 0 rfl rfl inX6 tyX6 tyX6_ok nmX6 4 (by decide) q267 rfl rfl rfl (Nat.le_of_ble_eq_true rfl) dX6_parseCommands_33 (fun H locs hP hD hS => ?_)
        replace hP : va_P (dC, dI) vwCl (catp [[(a0, .inr (9, [.ref a1, .ref a2, .int ul, .int z3.2.1, .int (uc + 1)]))], [(a1, .inl (g 1, 60, .inl ut))], wK g a2 a2A (va_up uK x1.toNatClampNeg (z3.2.2.1, z3.2.2.2.1, z3.2.2.2.2.1, z3.2.2.2.2.2.1, z3.2.2.2.2.2.2))] []) H := hP
        replace hD : va_D A (catp [[(a0, .inr (9, [.ref a1, .ref a2, .int ul, .int z3.2.1, .int (uc + 1)]))], [(a1, .inl (g 1, 60, .inl ut))], wK g a2 a2A (va_up uK x1.toNatClampNeg (z3.2.2.1, z3.2.2.2.1, z3.2.2.2.2.1, z3.2.2.2.2.2.1, z3.2.2.2.2.2.2))] []) := hD
        refine lv_aload_n F.1 F.2.1 dX6_parseCommands_36 rfl (lv_at hl 0 rfl) ?_
        refine gF (v := .int z3.2.1) F hE hP 0 rfl rfl inX6 3 (by decide) q266 rfl dX6_parseCommands_37 ?_
        refine lv_aload_n F.1 F.2.1 dX6_parseCommands_40 rfl (lv_at hl 0 rfl) ?_
        refine gF (v := .int ul) F hE hP 0 rfl rfl inX6 2 (by decide) q265 rfl dX6_parseCommands_41 ?_
        refine lv_icmp_lt (tgt := 49) F.1 F.2.1 dX6_parseCommands_44 (by decide) (fun k6 => ?_) (fun k6 => ?_)
        · replace h := it_t k6 h
          refine lv_aload_n F.1 F.2.1 dX6_parseCommands_49 rfl (lv_at hl 0 rfl) ?_
          refine lv_bipush (v := 59) F.1 F.2.1 dX6_parseCommands_50 (by decide) ?_
          obtain ⟨z7, k8, h⟩ := bd_ok h
          refine cMV1 (As := [.int 59]) (rest := []) (post := catp [wK g a2 a2A (va_up uK x1.toNatClampNeg (z3.2.2.1, z3.2.2.2.1, z3.2.2.2.2.1, z3.2.2.2.2.2.1, z3.2.2.2.2.2.2))] []) (ws' := catp [[(a0, .inr (9, [.ref a1, .ref a2, .int ul, .int z7.2, .int (uc + 1)]))], [(a1, .inl (g 1, 60, .inl ut))], wK g a2 a2A (va_up uK x1.toNatClampNeg (z3.2.2.1, z3.2.2.2.1, z3.2.2.2.2.1, z3.2.2.2.2.2.1, z3.2.2.2.2.2.2))] []) F hE hX (tX6_skip l dC dI g a0 a2 a1 ul z3.2.1 (uc + 1) ut 59 k8) mbX6_skip q1583 ⟨(Nat.le_of_ble_eq_true rfl), (Nat.le_of_ble_eq_true rfl)⟩ ⟨(Nat.le_of_ble_eq_true rfl), (Nat.le_of_ble_eq_true rfl)⟩ hP hD hS hA [] rfl rfl rfl 0 rfl rfl rfl hl.1 rfl (Nat.le_of_ble_eq_true rfl) dX6_parseCommands_52 (fun H locs hP hD hS => ?_)
          refine lv_if_ne (tgt := 60) F.1 F.2.1 dX6_parseCommands_55 (by decide) (fun k9 => ?_) (fun k9 => ?_)
          · replace h := it_f k9 h
            refine lv_iinc (v := x1 + 1) (lv' := [(1, .int (x1 + 1)), (0, .ref a0)]) F.1 F.2.1 dX6_parseCommands_60 hl (k := 1) rfl (by rfl) (by decide) rfl (fun ls hl => ?_)
            refine lv_goto (tgt := 2) F.1 F.2.1 dX6_parseCommands_63 (by decide) ?_
            exact ih (x1 + 1) z7.2 (uc + 1) (va_up uK x1.toNatClampNeg (z3.2.2.1, z3.2.2.2.1, z3.2.2.2.2.1, z3.2.2.2.2.2.1, z3.2.2.2.2.2.2)) h _ _ hP hD hS ls (lv_sub hl [1, 0] rfl)
          · replace h := it_t k9 h
            refine lv_iconst (v := 0) F.1 F.2.1 dX6_parseCommands_58 (by decide) ?_
            cases h
            exact MU_z (v := 0) F hr hlocks (Nat.le_refl _) (Nat.le_refl _) rfl hP hS dX6_parseCommands_59
        · replace h := it_f k6 h
          refine lv_iconst (v := 1) F.1 F.2.1 dX6_parseCommands_47 (by decide) ?_
          cases h
          exact MU_z (v := 1) F hr hlocks (Nat.le_refl _) (Nat.le_refl _) rfl hP hS dX6_parseCommands_48
      · replace h := it_t k5 h
        refine lv_iconst (v := 0) F.1 F.2.1 dX6_parseCommands_24 (by decide) ?_
        cases h
        exact MU_z (v := 0) F hr hlocks (Nat.le_refl _) (Nat.le_refl _) rfl hP hS dX6_parseCommands_25
set_option maxHeartbeats 4000000 in
set_option maxRecDepth 100000 in
theorem tX6_parseCommands (l : Launch) (dC : Nat → ClassId) (dI : Nat → Nat → Nat) (g : Nat → ClassId) (a0 a1 a2 : Nat) (a2A : Nat → Nat → Nat) (ul : Int32) (up : Int32) (uc : Int32) (ut : Nat → Int32) (uK : Nat → CT) {r : Int32 × Int32 × Int32 × (Nat → CT)} (h : fX6_parseCommands ul up uc ut uK = some r) : MU l yX6_parseCommands cX6_parseCommands 2 (some .boolean) 7 153 0 0 dC dI g [.ref a0] (wX6 g a0 a1 a2 a2A ul up uc ut uK) (wX6 g a0 a1 a2 a2A ul r.2.1 r.2.2.1 ut r.2.2.2) (some (.int r.1)) := by
  refine MU_of (by decide) (Nat.le_of_ble_eq_true rfl) ?_
  intro p e s m below meth c ls F hr hlocks hE hX hA hP hD hS hl
  generalize va_A (wX6 g a0 a1 a2 a2A ul up uc ut uK) s.heap.size = A at hA hD hS hX ⊢
  replace F : CF p m c cX6_parseCommands 2 s _ RX6 := F
  replace hl : lv_has ls 2 [(0, .ref a0)] := hl
  rw [fX6_parseCommands] at h
  replace hP : va_P (dC, dI) vwCl (catp [[(a0, .inr (9, [.ref a1, .ref a2, .int ul, .int up, .int uc]))], [(a1, .inl (g 1, 60, .inl ut))], wK g a2 a2A uK] []) s.heap := hP
  replace hD : va_D A (catp [[(a0, .inr (9, [.ref a1, .ref a2, .int ul, .int up, .int uc]))], [(a1, .inl (g 1, 60, .inl ut))], wK g a2 a2A uK] []) := hD
  refine lv_iconst (v := 0) F.1 F.2.1 dX6_parseCommands_0 (by decide) ?_
  refine lv_istore_n (lv' := [(1, .int 0), (0, .ref a0)]) F.1 F.2.1 dX6_parseCommands_1 rfl hl (by decide) rfl (fun ls hl => ?_)
  exact tX6_parseCommands_L2 F hr hlocks hE hX hA ul ut FU 0 up uc uK h _ _ hP hD hS ls (lv_sub hl [1, 0] rfl)
/-! WireCutter$Program.parse -/
def fX6_parse (ul : Int32) (ut : Nat → Int32) (uK : Nat → CT) : Option (Int32 × Int32 × Int32 × Int32 × (Nat → CT)) :=
  (fX6_parseCommands ul 0 0 ut uK).bind fun z1 =>
  if z1.1 = 0 then
    some (z1.2.1, 0, z1.2.1, z1.2.2.1, z1.2.2.2)
  else
    some ((-1), 0, z1.2.1, z1.2.2.1, z1.2.2.2)
theorem mbX6_parse : MV yX6_parse cX6_parse 2 (some .int) 0 := ⟨⟨q1511, q10, by decide +kernel⟩, q1509, q1510⟩
set_option maxHeartbeats 4000000 in
set_option maxRecDepth 100000 in
theorem tX6_parse (l : Launch) (dC : Nat → ClassId) (dI : Nat → Nat → Nat) (g : Nat → ClassId) (a0 a1 a2 : Nat) (a2A : Nat → Nat → Nat) (ul : Int32) (up : Int32) (uc : Int32) (ut : Nat → Int32) (uK : Nat → CT) {r : Int32 × Int32 × Int32 × Int32 × (Nat → CT)} (h : fX6_parse ul ut uK = some r) : MU l yX6_parse cX6_parse 2 (some .int) 8 174 0 0 dC dI g [.ref a0] (wX6 g a0 a1 a2 a2A ul up uc ut uK) (wX6 g a0 a1 a2 a2A r.2.1 r.2.2.1 r.2.2.2.1 ut r.2.2.2.2) (some (.int r.1)) := by
  refine MU_of (by decide) (Nat.le_of_ble_eq_true rfl) ?_
  intro p e s m below meth c ls F hr hlocks hE hX hA hP hD hS hl
  generalize va_A (wX6 g a0 a1 a2 a2A ul up uc ut uK) s.heap.size = A at hA hD hS hX ⊢
  replace F : CF p m c cX6_parse 2 s _ RX6 := F
  replace hl : lv_has ls 2 [(0, .ref a0)] := hl
  rw [fX6_parse] at h
  replace hP : va_P (dC, dI) vwCl (catp [[(a0, .inr (9, [.ref a1, .ref a2, .int ul, .int up, .int uc]))], [(a1, .inl (g 1, 60, .inl ut))], wK g a2 a2A uK] []) s.heap := hP
  replace hD : va_D A (catp [[(a0, .inr (9, [.ref a1, .ref a2, .int ul, .int up, .int uc]))], [(a1, .inl (g 1, 60, .inl ut))], wK g a2 a2A uK] []) := hD
  refine lv_aload_n F.1 F.2.1 dX6_parse_0 rfl (lv_at hl 0 rfl) ?_
  refine lv_iconst (v := 0) F.1 F.2.1 dX6_parse_1 (by decide) ?_
  refine pF (v := .int 0) F hE hP hD hS 0 rfl rfl inX6 tyX6 tyX6_ok nmX6 3 (by decide) q266 rfl rfl rfl (Nat.le_of_ble_eq_true rfl) dX6_parse_2 (fun H locs hP hD hS => ?_)
  replace hP : va_P (dC, dI) vwCl (catp [[(a0, .inr (9, [.ref a1, .ref a2, .int ul, .int 0, .int uc]))], [(a1, .inl (g 1, 60, .inl ut))], wK g a2 a2A uK] []) H := hP
  replace hD : va_D A (catp [[(a0, .inr (9, [.ref a1, .ref a2, .int ul, .int 0, .int uc]))], [(a1, .inl (g 1, 60, .inl ut))], wK g a2 a2A uK] []) := hD
  refine lv_aload_n F.1 F.2.1 dX6_parse_5 rfl (lv_at hl 0 rfl) ?_
  refine lv_iconst (v := 0) F.1 F.2.1 dX6_parse_6 (by decide) ?_
  refine pF (v := .int 0) F hE hP hD hS 0 rfl rfl inX6 tyX6 tyX6_ok nmX6 4 (by decide) q267 rfl rfl rfl (Nat.le_of_ble_eq_true rfl) dX6_parse_7 (fun H locs hP hD hS => ?_)
  replace hP : va_P (dC, dI) vwCl (catp [[(a0, .inr (9, [.ref a1, .ref a2, .int ul, .int 0, .int 0]))], [(a1, .inl (g 1, 60, .inl ut))], wK g a2 a2A uK] []) H := hP
  replace hD : va_D A (catp [[(a0, .inr (9, [.ref a1, .ref a2, .int ul, .int 0, .int 0]))], [(a1, .inl (g 1, 60, .inl ut))], wK g a2 a2A uK] []) := hD
  refine lv_aload_n F.1 F.2.1 dX6_parse_10 rfl (lv_at hl 0 rfl) ?_
  obtain ⟨z1, k2, h⟩ := bd_ok h
  refine cMVA (As := []) (rest := []) (ws' := catp [[(a0, .inr (9, [.ref a1, .ref a2, .int ul, .int z1.2.1, .int z1.2.2.1]))], [(a1, .inl (g 1, 60, .inl ut))], wK g a2 a2A z1.2.2.2] []) F hE hX (tX6_parseCommands l dC dI g a0 a1 a2 a2A ul 0 0 ut uK k2) mbX6_parseCommands q1512 ⟨(Nat.le_of_ble_eq_true rfl), (Nat.le_of_ble_eq_true rfl)⟩ ⟨(Nat.le_of_ble_eq_true rfl), (Nat.le_of_ble_eq_true rfl)⟩ hP hD hS hA rfl rfl rfl 0 rfl rfl rfl hl.1 rfl (Nat.le_of_ble_eq_true rfl) dX6_parse_11 (fun H locs hP hD hS => ?_)
  refine lv_istore_n (lv' := [(1, .int z1.1), (0, .ref a0)]) F.1 F.2.1 dX6_parse_14 rfl hl (by decide) rfl (fun ls hl => ?_)
  refine lv_aload_n F.1 F.2.1 dX6_parse_15 rfl (lv_at hl 1 rfl) ?_
  refine lv_iconst (v := 0) F.1 F.2.1 dX6_parse_16 (by decide) ?_
  refine pF (v := .int 0) F hE hP hD hS 0 rfl rfl inX6 tyX6 tyX6_ok nmX6 2 (by decide) q265 rfl rfl rfl (Nat.le_of_ble_eq_true rfl) dX6_parse_17 (fun H locs hP hD hS => ?_)
  replace hP : va_P (dC, dI) vwCl (catp [[(a0, .inr (9, [.ref a1, .ref a2, .int 0, .int z1.2.1, .int z1.2.2.1]))], [(a1, .inl (g 1, 60, .inl ut))], wK g a2 a2A z1.2.2.2] []) H := hP
  replace hD : va_D A (catp [[(a0, .inr (9, [.ref a1, .ref a2, .int 0, .int z1.2.1, .int z1.2.2.1]))], [(a1, .inl (g 1, 60, .inl ut))], wK g a2 a2A z1.2.2.2] []) := hD
  refine lv_iload_n F.1 F.2.1 dX6_parse_20 rfl (lv_at hl 0 rfl) ?_
  refine lv_if_eq (tgt := 28) F.1 F.2.1 dX6_parse_21 (by decide) (fun k3 => ?_) (fun k3 => ?_)
  · replace h := it_t k3 h
    refine lv_aload_n F.1 F.2.1 dX6_parse_28 rfl (lv_at hl 1 rfl) ?_
    refine gF (v := .int z1.2.1) F hE hP 0 rfl rfl inX6 3 (by decide) q266 rfl dX6_parse_29 ?_
    cases h
    exact MU_i F hr hlocks (Nat.le_refl _) (Nat.le_refl _) hP hS dX6_parse_32
  · replace h := it_f k3 h
    refine lv_iconst (v := (-1)) F.1 F.2.1 dX6_parse_24 (by decide) ?_
    refine lv_goto (tgt := 32) F.1 F.2.1 dX6_parse_25 (by decide) ?_
    cases h
    exact MU_i F hr hlocks (Nat.le_refl _) (Nat.le_refl _) hP hS dX6_parse_32
