/-! WireCutter$Spools.isPreferred -/
def fX9_isPreferred (p0 : Int32) (p1 : Int32) (p2 : Int32) : Option (Int32) :=
  if p2 = 98 then
    if p1 ≤ p0 then
      some (0)
    else
      some (1)
  else
    if p2 = 119 then
      if p0 ≤ p1 then
        some (0)
      else
        some (1)
    else
      some (0)
theorem mbX9_isPreferred : MS yX9_isPreferred cX9_isPreferred 3 (some .boolean) 3 := ⟨⟨q1124, q3, by decide +kernel⟩, q1123⟩
set_option maxHeartbeats 4000000 in
set_option maxRecDepth 100000 in
theorem tX9_isPreferred (l : Launch) (dC : Nat → ClassId) (dI : Nat → Nat → Nat) (g : Nat → ClassId) (p0 : Int32) (p1 : Int32) (p2 : Int32) {r : Int32} (h : fX9_isPreferred p0 p1 p2 = some r) : RO l yX9_isPreferred cX9_isPreferred 3 (some .boolean) 0 0 dC dI g [.int p0, .int p1, .int p2] (([] : va_W)) (some (.int r)) := by
  refine RO_of (by decide) (Nat.le_of_ble_eq_true rfl) ?_
  intro p e s m below meth c ls F hr hlocks hE hX hP hl
  replace F : CF p m c cX9_isPreferred 3 s _ RX9 := F
  replace hl : lv_has ls 3 [(0, .int p0), (1, .int p1), (2, .int p2)] := hl
  rw [fX9_isPreferred] at h
  refine lv_iload_n F.1 F.2.1 dX9_isPreferred_0 rfl (lv_at hl 2 rfl) ?_
  refine lv_bipush (v := 98) F.1 F.2.1 dX9_isPreferred_1 (by decide) ?_
  refine lv_icmp_ne (tgt := 17) F.1 F.2.1 dX9_isPreferred_3 (by decide) (fun k1 => ?_) (fun k1 => ?_)
  · replace h := it_f k1 h
    refine lv_iload_n F.1 F.2.1 dX9_isPreferred_17 rfl (lv_at hl 2 rfl) ?_
    refine lv_bipush (v := 119) F.1 F.2.1 dX9_isPreferred_18 (by decide) ?_
    refine lv_icmp_ne (tgt := 32) F.1 F.2.1 dX9_isPreferred_20 (by decide) (fun k2 => ?_) (fun k2 => ?_)
    · replace h := it_f k2 h
      refine lv_iconst (v := 0) F.1 F.2.1 dX9_isPreferred_32 (by decide) ?_
      cases h
      exact RO_z F hr hlocks rfl dX9_isPreferred_33
    · replace h := it_t k2 h
      refine lv_iload_n F.1 F.2.1 dX9_isPreferred_23 rfl (lv_at hl 0 rfl) ?_
      refine lv_iload_n F.1 F.2.1 dX9_isPreferred_24 rfl (lv_at hl 1 rfl) ?_
      refine lv_icmp_le (tgt := 32) F.1 F.2.1 dX9_isPreferred_25 (by decide) (fun k3 => ?_) (fun k3 => ?_)
      · replace h := it_t k3 h
        refine lv_iconst (v := 0) F.1 F.2.1 dX9_isPreferred_32 (by decide) ?_
        cases h
        exact RO_z F hr hlocks rfl dX9_isPreferred_33
      · replace h := it_f k3 h
        refine lv_iconst (v := 1) F.1 F.2.1 dX9_isPreferred_28 (by decide) ?_
        refine lv_goto (tgt := 33) F.1 F.2.1 dX9_isPreferred_29 (by decide) ?_
        cases h
        exact RO_z F hr hlocks rfl dX9_isPreferred_33
  · replace h := it_t k1 h
    refine lv_iload_n F.1 F.2.1 dX9_isPreferred_6 rfl (lv_at hl 0 rfl) ?_
    refine lv_iload_n F.1 F.2.1 dX9_isPreferred_7 rfl (lv_at hl 1 rfl) ?_
    refine lv_icmp_ge (tgt := 15) F.1 F.2.1 dX9_isPreferred_8 (by decide) (fun k4 => ?_) (fun k4 => ?_)
    · replace h := it_t k4 h
      refine lv_iconst (v := 0) F.1 F.2.1 dX9_isPreferred_15 (by decide) ?_
      cases h
      exact RO_z F hr hlocks rfl dX9_isPreferred_16
    · replace h := it_f k4 h
      refine lv_iconst (v := 1) F.1 F.2.1 dX9_isPreferred_11 (by decide) ?_
      refine lv_goto (tgt := 16) F.1 F.2.1 dX9_isPreferred_12 (by decide) ?_
      cases h
      exact RO_z F hr hlocks rfl dX9_isPreferred_16
/-! WireCutter$Spools.choose -/
def fX9_choose_L6 (x1 : Int32) (x2 : Int32) (x3 : Int32) (uMn : Int32) (uMf : Nat → Int32) (uLn : Int32) (uLf : Nat → Int32) : Nat → Int32 → Int32 → Option (Int32)
  | 0, _, _ => none
  | k + 1, x4, x5 =>
    (fX7_size uLn).bind fun z1 =>
    if z1 ≤ x5 then
      some (x4)
    else
      (fX7_get 10 uMn uMf x5).bind fun z4 =>
      if z4 = x1 then
        (fX7_get 10 uLn uLf x5).bind fun z16 =>
        if z16 < x2 then
          if (0 : Int32) = 0 then
            fX9_choose_L6 x1 x2 x3 uMn uMf uLn uLf k x4 (x5 + 1)
          else
            if x4 = (-1) then
              fX9_choose_L6 x1 x2 x3 uMn uMf uLn uLf k x5 (x5 + 1)
            else
              (fX7_get 10 uLn uLf x5).bind fun z21 =>
              (fX7_get 10 uLn uLf x4).bind fun z23 =>
              (fX9_isPreferred z21 z23 x3).bind fun z25 =>
              if z25 = 0 then
                fX9_choose_L6 x1 x2 x3 uMn uMf uLn uLf k x4 (x5 + 1)
              else
                fX9_choose_L6 x1 x2 x3 uMn uMf uLn uLf k x5 (x5 + 1)
        else
          if (1 : Int32) = 0 then
            fX9_choose_L6 x1 x2 x3 uMn uMf uLn uLf k x4 (x5 + 1)
          else
            if x4 = (-1) then
              fX9_choose_L6 x1 x2 x3 uMn uMf uLn uLf k x5 (x5 + 1)
            else
              (fX7_get 10 uLn uLf x5).bind fun z30 =>
              (fX7_get 10 uLn uLf x4).bind fun z32 =>
              (fX9_isPreferred z30 z32 x3).bind fun z34 =>
              if z34 = 0 then
                fX9_choose_L6 x1 x2 x3 uMn uMf uLn uLf k x4 (x5 + 1)
              else
                fX9_choose_L6 x1 x2 x3 uMn uMf uLn uLf k x5 (x5 + 1)
      else
        if (0 : Int32) = 0 then
          fX9_choose_L6 x1 x2 x3 uMn uMf uLn uLf k x4 (x5 + 1)
        else
          if x4 = (-1) then
            fX9_choose_L6 x1 x2 x3 uMn uMf uLn uLf k x5 (x5 + 1)
          else
            (fX7_get 10 uLn uLf x5).bind fun z9 =>
            (fX7_get 10 uLn uLf x4).bind fun z11 =>
            (fX9_isPreferred z9 z11 x3).bind fun z13 =>
            if z13 = 0 then
              fX9_choose_L6 x1 x2 x3 uMn uMf uLn uLf k x4 (x5 + 1)
            else
              fX9_choose_L6 x1 x2 x3 uMn uMf uLn uLf k x5 (x5 + 1)
def fX9_choose (uMn : Int32) (uMf : Nat → Int32) (uLn : Int32) (uLf : Nat → Int32) (p1 : Int32) (p2 : Int32) (p3 : Int32) : Option (Int32) :=
  fX9_choose_L6 p1 p2 p3 uMn uMf uLn uLf FU (-1) 0
theorem mbX9_choose : MV yX9_choose cX9_choose 7 (some .int) 3 := ⟨⟨q1121, q3, by decide +kernel⟩, q1119, q1120⟩
set_option maxHeartbeats 4000000 in
set_option maxRecDepth 100000 in
theorem tX9_choose_L6 {p : Program} {l : Launch} {e : Env} {s : State} {m : MethodId} {args : Array Value} {below : List Frame} {meth : Method} {c : Code} {dC : Nat → ClassId} {dI : Nat → Nat → Nat} {g : Nat → ClassId} {a0 a1 a2 a3 a4 a5 a6 a7 a8 : Nat} {r : Int32} (F : CF p m c cX9_choose 7 s args RX9) (hr : meth.sig.returnType = (some .int)) (hlocks : meth.locks = false) (hE : EK dC dI g s) (hX : EXr g s) (x1 : Int32) (x2 : Int32) (x3 : Int32) (ux : Int32) (uNn : Int32) (uNf : Nat → Int32) (uMn : Int32) (uMf : Nat → Int32) (uLn : Int32) (uLf : Nat → Int32) (uKn : Int32) (uKf : Nat → Int32) (hP : va_P (dC, dI) vwCl (wX9 g a0 a1 a2 a3 a4 a5 a6 a7 a8 ux uNn uNf uMn uMf uLn uLf uKn uKf) s.heap) : ∀ (k : Nat) (x4 : Int32) (x5 : Int32), fX9_choose_L6 x1 x2 x3 uMn uMf uLn uLf k x4 x5 = some r → ∀ (ls : Array Slot), lv_has ls 7 [(0, .ref a0), (1, .int x1), (2, .int x2), (3, .int x3), (4, .int x4), (5, .int x5)] → W p l e { frames := 1, cells := 0, slots := 0, locals := 22 } s m args below meth c s.heap [] 0 0 (MQ below (fun _ st o t => o = .returned (some (.int r)) ∧ t.heap = st.heap) args s 0 0 (fun _ => False)) (F0 m 6 ls []) := by
  intro k
  induction k with
  | zero =>
    intro x4 x5 h
    exact absurd h (by simp [fX9_choose_L6])
  | succ k ih =>
    intro x4 x5 h ls hl
    rw [fX9_choose_L6] at h
    refine lv_iload F.1 F.2.1 dX9_choose_6 (lv_at hl 5 rfl) ?_
    refine lv_aload_n F.1 F.2.1 dX9_choose_8 rfl (lv_at hl 0 rfl) ?_
    refine gF (v := .ref a5) F hE hP 0 rfl rfl inX9 2 (by decide) q73 rfl dX9_choose_9 ?_
    obtain ⟨z1, k2, h⟩ := bd_ok h
    refine cRV (As := []) (rest := [.int x5]) F hE hX va_S.rf (tX7_size l dC dI g a5 a6 10 uLn uLf k2) mbX7_size q360 ⟨(Nat.le_of_ble_eq_true rfl), (Nat.le_of_ble_eq_true rfl)⟩ ⟨Nat.zero_le _, Nat.zero_le _⟩ hP [5, 6] rfl 5 rfl rfl rfl hl.1 rfl (Nat.le_of_ble_eq_true rfl) dX9_choose_12 ?_
    refine lv_icmp_ge (tgt := 97) F.1 F.2.1 dX9_choose_15 (by decide) (fun k3 => ?_) (fun k3 => ?_)
    · replace h := it_t k3 h
      refine lv_iload F.1 F.2.1 dX9_choose_97 (lv_at hl 4 rfl) ?_
      cases h
      exact RO_i F hr hlocks dX9_choose_99
    · replace h := it_f k3 h
      refine lv_aload_n F.1 F.2.1 dX9_choose_18 rfl (lv_at hl 0 rfl) ?_
      refine gF (v := .ref a3) F hE hP 0 rfl rfl inX9 1 (by decide) q72 rfl dX9_choose_19 ?_
      refine lv_iload F.1 F.2.1 dX9_choose_22 (lv_at hl 5 rfl) ?_
      obtain ⟨z4, k5, h⟩ := bd_ok h
      refine cRV (As := [.int x5]) (rest := []) F hE hX va_S.rf (tX7_get l dC dI g a3 a4 10 uMn uMf x5 k5) mbX7_get q422 ⟨(Nat.le_of_ble_eq_true rfl), (Nat.le_of_ble_eq_true rfl)⟩ ⟨Nat.zero_le _, Nat.zero_le _⟩ hP [3, 4] rfl 3 rfl rfl rfl hl.1 rfl (Nat.le_of_ble_eq_true rfl) dX9_choose_24 ?_
      refine lv_iload_n F.1 F.2.1 dX9_choose_27 rfl (lv_at hl 1 rfl) ?_
      refine lv_icmp_ne (tgt := 48) F.1 F.2.1 dX9_choose_28 (by decide) (fun k6 => ?_) (fun k6 => ?_)
      · replace h := it_f k6 h
        refine lv_iconst (v := 0) F.1 F.2.1 dX9_choose_48 (by decide) ?_
        refine lv_istore (lv' := [(6, .int 0), (0, .ref a0), (1, .int x1), (2, .int x2), (3, .int x3), (4, .int x4), (5, .int x5)]) F.1 F.2.1 dX9_choose_49 hl (by decide) rfl (fun ls hl => ?_)
        refine lv_iload F.1 F.2.1 dX9_choose_51 (lv_at hl 0 rfl) ?_
        refine lv_if_eq (tgt := 91) F.1 F.2.1 dX9_choose_53 (by decide) (fun k7 => ?_) (fun k7 => ?_)
        · replace h := it_t k7 h
          refine lv_iinc (v := x5 + 1) (lv' := [(5, .int (x5 + 1)), (6, .int 0), (0, .ref a0), (1, .int x1), (2, .int x2), (3, .int x3), (4, .int x4)]) F.1 F.2.1 dX9_choose_91 hl (k := 6) rfl (by rfl) (by decide) rfl (fun ls hl => ?_)
          refine lv_goto (tgt := 6) F.1 F.2.1 dX9_choose_94 (by decide) ?_
          exact ih x4 (x5 + 1) h ls (lv_sub hl [2, 3, 4, 5, 6, 0] rfl)
        · replace h := it_f k7 h
          refine lv_iload F.1 F.2.1 dX9_choose_56 (lv_at hl 5 rfl) ?_
          refine lv_iconst (v := (-1)) F.1 F.2.1 dX9_choose_58 (by decide) ?_
          refine lv_icmp_eq (tgt := 87) F.1 F.2.1 dX9_choose_59 (by decide) (fun k8 => ?_) (fun k8 => ?_)
          · replace h := it_t k8 h
            refine lv_iload F.1 F.2.1 dX9_choose_87 (lv_at hl 6 rfl) ?_
            refine lv_istore (lv' := [(4, .int x5), (6, .int 0), (0, .ref a0), (1, .int x1), (2, .int x2), (3, .int x3), (5, .int x5)]) F.1 F.2.1 dX9_choose_89 hl (by decide) rfl (fun ls hl => ?_)
            refine lv_iinc (v := x5 + 1) (lv' := [(5, .int (x5 + 1)), (4, .int x5), (6, .int 0), (0, .ref a0), (1, .int x1), (2, .int x2), (3, .int x3)]) F.1 F.2.1 dX9_choose_91 hl (k := 6) rfl (by rfl) (by decide) rfl (fun ls hl => ?_)
            refine lv_goto (tgt := 6) F.1 F.2.1 dX9_choose_94 (by decide) ?_
            exact ih x5 (x5 + 1) h ls (lv_sub hl [3, 4, 5, 6, 1, 0] rfl)
          · replace h := it_f k8 h
            refine lv_aload_n F.1 F.2.1 dX9_choose_62 rfl (lv_at hl 1 rfl) ?_
            refine gF (v := .ref a5) F hE hP 0 rfl rfl inX9 2 (by decide) q73 rfl dX9_choose_63 ?_
            refine lv_iload F.1 F.2.1 dX9_choose_66 (lv_at hl 6 rfl) ?_
            obtain ⟨z9, k10, h⟩ := bd_ok h
            refine cRV (As := [.int x5]) (rest := []) F hE hX va_S.rf (tX7_get l dC dI g a5 a6 10 uLn uLf x5 k10) mbX7_get q422 ⟨(Nat.le_of_ble_eq_true rfl), (Nat.le_of_ble_eq_true rfl)⟩ ⟨Nat.zero_le _, Nat.zero_le _⟩ hP [5, 6] rfl 5 rfl rfl rfl hl.1 rfl (Nat.le_of_ble_eq_true rfl) dX9_choose_68 ?_
            refine lv_aload_n F.1 F.2.1 dX9_choose_71 rfl (lv_at hl 1 rfl) ?_
            refine gF (v := .ref a5) F hE hP 0 rfl rfl inX9 2 (by decide) q73 rfl dX9_choose_72 ?_
            refine lv_iload F.1 F.2.1 dX9_choose_75 (lv_at hl 5 rfl) ?_
            obtain ⟨z11, k12, h⟩ := bd_ok h
            refine cRV (As := [.int x4]) (rest := [.int z9]) F hE hX va_S.rf (tX7_get l dC dI g a5 a6 10 uLn uLf x4 k12) mbX7_get q422 ⟨(Nat.le_of_ble_eq_true rfl), (Nat.le_of_ble_eq_true rfl)⟩ ⟨Nat.zero_le _, Nat.zero_le _⟩ hP [5, 6] rfl 5 rfl rfl rfl hl.1 rfl (Nat.le_of_ble_eq_true rfl) dX9_choose_77 ?_
            refine lv_iload_n F.1 F.2.1 dX9_choose_80 rfl (lv_at hl 4 rfl) ?_
            obtain ⟨z13, k14, h⟩ := bd_ok h
            refine cRS (As := [.int z9, .int z11, .int x3]) (rest := []) F hE hX va_S.rf (tX9_isPreferred l dC dI g z9 z11 x3 k14) mbX9_isPreferred q1122 ⟨(Nat.le_of_ble_eq_true rfl), (Nat.le_of_ble_eq_true rfl)⟩ ⟨Nat.zero_le _, Nat.zero_le _⟩ hP [] rfl rfl hl.1 rfl (Nat.le_of_ble_eq_true rfl) dX9_choose_81 ?_
            refine lv_if_eq (tgt := 91) F.1 F.2.1 dX9_choose_84 (by decide) (fun k15 => ?_) (fun k15 => ?_)
            · replace h := it_t k15 h
              refine lv_iinc (v := x5 + 1) (lv' := [(5, .int (x5 + 1)), (6, .int 0), (0, .ref a0), (1, .int x1), (2, .int x2), (3, .int x3), (4, .int x4)]) F.1 F.2.1 dX9_choose_91 hl (k := 6) rfl (by rfl) (by decide) rfl (fun ls hl => ?_)
              refine lv_goto (tgt := 6) F.1 F.2.1 dX9_choose_94 (by decide) ?_
              exact ih x4 (x5 + 1) h ls (lv_sub hl [2, 3, 4, 5, 6, 0] rfl)
            · replace h := it_f k15 h
              refine lv_iload F.1 F.2.1 dX9_choose_87 (lv_at hl 6 rfl) ?_
              refine lv_istore (lv' := [(4, .int x5), (6, .int 0), (0, .ref a0), (1, .int x1), (2, .int x2), (3, .int x3), (5, .int x5)]) F.1 F.2.1 dX9_choose_89 hl (by decide) rfl (fun ls hl => ?_)
              refine lv_iinc (v := x5 + 1) (lv' := [(5, .int (x5 + 1)), (4, .int x5), (6, .int 0), (0, .ref a0), (1, .int x1), (2, .int x2), (3, .int x3)]) F.1 F.2.1 dX9_choose_91 hl (k := 6) rfl (by rfl) (by decide) rfl (fun ls hl => ?_)
              refine lv_goto (tgt := 6) F.1 F.2.1 dX9_choose_94 (by decide) ?_
              exact ih x5 (x5 + 1) h ls (lv_sub hl [3, 4, 5, 6, 1, 0] rfl)
      · replace h := it_t k6 h
        refine lv_aload_n F.1 F.2.1 dX9_choose_31 rfl (lv_at hl 0 rfl) ?_
        refine gF (v := .ref a5) F hE hP 0 rfl rfl inX9 2 (by decide) q73 rfl dX9_choose_32 ?_
        refine lv_iload F.1 F.2.1 dX9_choose_35 (lv_at hl 5 rfl) ?_
        obtain ⟨z16, k17, h⟩ := bd_ok h
        refine cRV (As := [.int x5]) (rest := []) F hE hX va_S.rf (tX7_get l dC dI g a5 a6 10 uLn uLf x5 k17) mbX7_get q422 ⟨(Nat.le_of_ble_eq_true rfl), (Nat.le_of_ble_eq_true rfl)⟩ ⟨Nat.zero_le _, Nat.zero_le _⟩ hP [5, 6] rfl 5 rfl rfl rfl hl.1 rfl (Nat.le_of_ble_eq_true rfl) dX9_choose_37 ?_
        refine lv_iload_n F.1 F.2.1 dX9_choose_40 rfl (lv_at hl 2 rfl) ?_
        refine lv_icmp_lt (tgt := 48) F.1 F.2.1 dX9_choose_41 (by decide) (fun k18 => ?_) (fun k18 => ?_)
        · replace h := it_t k18 h
          refine lv_iconst (v := 0) F.1 F.2.1 dX9_choose_48 (by decide) ?_
          refine lv_istore (lv' := [(6, .int 0), (0, .ref a0), (1, .int x1), (2, .int x2), (3, .int x3), (4, .int x4), (5, .int x5)]) F.1 F.2.1 dX9_choose_49 hl (by decide) rfl (fun ls hl => ?_)
          refine lv_iload F.1 F.2.1 dX9_choose_51 (lv_at hl 0 rfl) ?_
          refine lv_if_eq (tgt := 91) F.1 F.2.1 dX9_choose_53 (by decide) (fun k19 => ?_) (fun k19 => ?_)
          · replace h := it_t k19 h
            refine lv_iinc (v := x5 + 1) (lv' := [(5, .int (x5 + 1)), (6, .int 0), (0, .ref a0), (1, .int x1), (2, .int x2), (3, .int x3), (4, .int x4)]) F.1 F.2.1 dX9_choose_91 hl (k := 6) rfl (by rfl) (by decide) rfl (fun ls hl => ?_)
            refine lv_goto (tgt := 6) F.1 F.2.1 dX9_choose_94 (by decide) ?_
            exact ih x4 (x5 + 1) h ls (lv_sub hl [2, 3, 4, 5, 6, 0] rfl)
          · replace h := it_f k19 h
            refine lv_iload F.1 F.2.1 dX9_choose_56 (lv_at hl 5 rfl) ?_
            refine lv_iconst (v := (-1)) F.1 F.2.1 dX9_choose_58 (by decide) ?_
            refine lv_icmp_eq (tgt := 87) F.1 F.2.1 dX9_choose_59 (by decide) (fun k20 => ?_) (fun k20 => ?_)
            · replace h := it_t k20 h
              refine lv_iload F.1 F.2.1 dX9_choose_87 (lv_at hl 6 rfl) ?_
              refine lv_istore (lv' := [(4, .int x5), (6, .int 0), (0, .ref a0), (1, .int x1), (2, .int x2), (3, .int x3), (5, .int x5)]) F.1 F.2.1 dX9_choose_89 hl (by decide) rfl (fun ls hl => ?_)
              refine lv_iinc (v := x5 + 1) (lv' := [(5, .int (x5 + 1)), (4, .int x5), (6, .int 0), (0, .ref a0), (1, .int x1), (2, .int x2), (3, .int x3)]) F.1 F.2.1 dX9_choose_91 hl (k := 6) rfl (by rfl) (by decide) rfl (fun ls hl => ?_)
              refine lv_goto (tgt := 6) F.1 F.2.1 dX9_choose_94 (by decide) ?_
              exact ih x5 (x5 + 1) h ls (lv_sub hl [3, 4, 5, 6, 1, 0] rfl)
            · replace h := it_f k20 h
              refine lv_aload_n F.1 F.2.1 dX9_choose_62 rfl (lv_at hl 1 rfl) ?_
              refine gF (v := .ref a5) F hE hP 0 rfl rfl inX9 2 (by decide) q73 rfl dX9_choose_63 ?_
              refine lv_iload F.1 F.2.1 dX9_choose_66 (lv_at hl 6 rfl) ?_
              obtain ⟨z21, k22, h⟩ := bd_ok h
              refine cRV (As := [.int x5]) (rest := []) F hE hX va_S.rf (tX7_get l dC dI g a5 a6 10 uLn uLf x5 k22) mbX7_get q422 ⟨(Nat.le_of_ble_eq_true rfl), (Nat.le_of_ble_eq_true rfl)⟩ ⟨Nat.zero_le _, Nat.zero_le _⟩ hP [5, 6] rfl 5 rfl rfl rfl hl.1 rfl (Nat.le_of_ble_eq_true rfl) dX9_choose_68 ?_
              refine lv_aload_n F.1 F.2.1 dX9_choose_71 rfl (lv_at hl 1 rfl) ?_
              refine gF (v := .ref a5) F hE hP 0 rfl rfl inX9 2 (by decide) q73 rfl dX9_choose_72 ?_
              refine lv_iload F.1 F.2.1 dX9_choose_75 (lv_at hl 5 rfl) ?_
              obtain ⟨z23, k24, h⟩ := bd_ok h
              refine cRV (As := [.int x4]) (rest := [.int z21]) F hE hX va_S.rf (tX7_get l dC dI g a5 a6 10 uLn uLf x4 k24) mbX7_get q422 ⟨(Nat.le_of_ble_eq_true rfl), (Nat.le_of_ble_eq_true rfl)⟩ ⟨Nat.zero_le _, Nat.zero_le _⟩ hP [5, 6] rfl 5 rfl rfl rfl hl.1 rfl (Nat.le_of_ble_eq_true rfl) dX9_choose_77 ?_
              refine lv_iload_n F.1 F.2.1 dX9_choose_80 rfl (lv_at hl 4 rfl) ?_
              obtain ⟨z25, k26, h⟩ := bd_ok h
              refine cRS (As := [.int z21, .int z23, .int x3]) (rest := []) F hE hX va_S.rf (tX9_isPreferred l dC dI g z21 z23 x3 k26) mbX9_isPreferred q1122 ⟨(Nat.le_of_ble_eq_true rfl), (Nat.le_of_ble_eq_true rfl)⟩ ⟨Nat.zero_le _, Nat.zero_le _⟩ hP [] rfl rfl hl.1 rfl (Nat.le_of_ble_eq_true rfl) dX9_choose_81 ?_
              refine lv_if_eq (tgt := 91) F.1 F.2.1 dX9_choose_84 (by decide) (fun k27 => ?_) (fun k27 => ?_)
              · replace h := it_t k27 h
                refine lv_iinc (v := x5 + 1) (lv' := [(5, .int (x5 + 1)), (6, .int 0), (0, .ref a0), (1, .int x1), (2, .int x2), (3, .int x3), (4, .int x4)]) F.1 F.2.1 dX9_choose_91 hl (k := 6) rfl (by rfl) (by decide) rfl (fun ls hl => ?_)
                refine lv_goto (tgt := 6) F.1 F.2.1 dX9_choose_94 (by decide) ?_
                exact ih x4 (x5 + 1) h ls (lv_sub hl [2, 3, 4, 5, 6, 0] rfl)
              · replace h := it_f k27 h
                refine lv_iload F.1 F.2.1 dX9_choose_87 (lv_at hl 6 rfl) ?_
                refine lv_istore (lv' := [(4, .int x5), (6, .int 0), (0, .ref a0), (1, .int x1), (2, .int x2), (3, .int x3), (5, .int x5)]) F.1 F.2.1 dX9_choose_89 hl (by decide) rfl (fun ls hl => ?_)
                refine lv_iinc (v := x5 + 1) (lv' := [(5, .int (x5 + 1)), (4, .int x5), (6, .int 0), (0, .ref a0), (1, .int x1), (2, .int x2), (3, .int x3)]) F.1 F.2.1 dX9_choose_91 hl (k := 6) rfl (by rfl) (by decide) rfl (fun ls hl => ?_)
                refine lv_goto (tgt := 6) F.1 F.2.1 dX9_choose_94 (by decide) ?_
                exact ih x5 (x5 + 1) h ls (lv_sub hl [3, 4, 5, 6, 1, 0] rfl)
        · replace h := it_f k18 h
          refine lv_iconst (v := 1) F.1 F.2.1 dX9_choose_44 (by decide) ?_
          refine lv_goto (tgt := 49) F.1 F.2.1 dX9_choose_45 (by decide) ?_
          refine lv_istore (lv' := [(6, .int 1), (0, .ref a0), (1, .int x1), (2, .int x2), (3, .int x3), (4, .int x4), (5, .int x5)]) F.1 F.2.1 dX9_choose_49 hl (by decide) rfl (fun ls hl => ?_)
          refine lv_iload F.1 F.2.1 dX9_choose_51 (lv_at hl 0 rfl) ?_
          refine lv_if_eq (tgt := 91) F.1 F.2.1 dX9_choose_53 (by decide) (fun k28 => ?_) (fun k28 => ?_)
          · replace h := it_t k28 h
            refine lv_iinc (v := x5 + 1) (lv' := [(5, .int (x5 + 1)), (6, .int 1), (0, .ref a0), (1, .int x1), (2, .int x2), (3, .int x3), (4, .int x4)]) F.1 F.2.1 dX9_choose_91 hl (k := 6) rfl (by rfl) (by decide) rfl (fun ls hl => ?_)
            refine lv_goto (tgt := 6) F.1 F.2.1 dX9_choose_94 (by decide) ?_
            exact ih x4 (x5 + 1) h ls (lv_sub hl [2, 3, 4, 5, 6, 0] rfl)
          · replace h := it_f k28 h
            refine lv_iload F.1 F.2.1 dX9_choose_56 (lv_at hl 5 rfl) ?_
            refine lv_iconst (v := (-1)) F.1 F.2.1 dX9_choose_58 (by decide) ?_
            refine lv_icmp_eq (tgt := 87) F.1 F.2.1 dX9_choose_59 (by decide) (fun k29 => ?_) (fun k29 => ?_)
            · replace h := it_t k29 h
              refine lv_iload F.1 F.2.1 dX9_choose_87 (lv_at hl 6 rfl) ?_
              refine lv_istore (lv' := [(4, .int x5), (6, .int 1), (0, .ref a0), (1, .int x1), (2, .int x2), (3, .int x3), (5, .int x5)]) F.1 F.2.1 dX9_choose_89 hl (by decide) rfl (fun ls hl => ?_)
              refine lv_iinc (v := x5 + 1) (lv' := [(5, .int (x5 + 1)), (4, .int x5), (6, .int 1), (0, .ref a0), (1, .int x1), (2, .int x2), (3, .int x3)]) F.1 F.2.1 dX9_choose_91 hl (k := 6) rfl (by rfl) (by decide) rfl (fun ls hl => ?_)
              refine lv_goto (tgt := 6) F.1 F.2.1 dX9_choose_94 (by decide) ?_
              exact ih x5 (x5 + 1) h ls (lv_sub hl [3, 4, 5, 6, 1, 0] rfl)
            · replace h := it_f k29 h
              refine lv_aload_n F.1 F.2.1 dX9_choose_62 rfl (lv_at hl 1 rfl) ?_
              refine gF (v := .ref a5) F hE hP 0 rfl rfl inX9 2 (by decide) q73 rfl dX9_choose_63 ?_
              refine lv_iload F.1 F.2.1 dX9_choose_66 (lv_at hl 6 rfl) ?_
              obtain ⟨z30, k31, h⟩ := bd_ok h
              refine cRV (As := [.int x5]) (rest := []) F hE hX va_S.rf (tX7_get l dC dI g a5 a6 10 uLn uLf x5 k31) mbX7_get q422 ⟨(Nat.le_of_ble_eq_true rfl), (Nat.le_of_ble_eq_true rfl)⟩ ⟨Nat.zero_le _, Nat.zero_le _⟩ hP [5, 6] rfl 5 rfl rfl rfl hl.1 rfl (Nat.le_of_ble_eq_true rfl) dX9_choose_68 ?_
              refine lv_aload_n F.1 F.2.1 dX9_choose_71 rfl (lv_at hl 1 rfl) ?_
              refine gF (v := .ref a5) F hE hP 0 rfl rfl inX9 2 (by decide) q73 rfl dX9_choose_72 ?_
              refine lv_iload F.1 F.2.1 dX9_choose_75 (lv_at hl 5 rfl) ?_
              obtain ⟨z32, k33, h⟩ := bd_ok h
              refine cRV (As := [.int x4]) (rest := [.int z30]) F hE hX va_S.rf (tX7_get l dC dI g a5 a6 10 uLn uLf x4 k33) mbX7_get q422 ⟨(Nat.le_of_ble_eq_true rfl), (Nat.le_of_ble_eq_true rfl)⟩ ⟨Nat.zero_le _, Nat.zero_le _⟩ hP [5, 6] rfl 5 rfl rfl rfl hl.1 rfl (Nat.le_of_ble_eq_true rfl) dX9_choose_77 ?_
              refine lv_iload_n F.1 F.2.1 dX9_choose_80 rfl (lv_at hl 4 rfl) ?_
              obtain ⟨z34, k35, h⟩ := bd_ok h
              refine cRS (As := [.int z30, .int z32, .int x3]) (rest := []) F hE hX va_S.rf (tX9_isPreferred l dC dI g z30 z32 x3 k35) mbX9_isPreferred q1122 ⟨(Nat.le_of_ble_eq_true rfl), (Nat.le_of_ble_eq_true rfl)⟩ ⟨Nat.zero_le _, Nat.zero_le _⟩ hP [] rfl rfl hl.1 rfl (Nat.le_of_ble_eq_true rfl) dX9_choose_81 ?_
              refine lv_if_eq (tgt := 91) F.1 F.2.1 dX9_choose_84 (by decide) (fun k36 => ?_) (fun k36 => ?_)
              · replace h := it_t k36 h
                refine lv_iinc (v := x5 + 1) (lv' := [(5, .int (x5 + 1)), (6, .int 1), (0, .ref a0), (1, .int x1), (2, .int x2), (3, .int x3), (4, .int x4)]) F.1 F.2.1 dX9_choose_91 hl (k := 6) rfl (by rfl) (by decide) rfl (fun ls hl => ?_)
                refine lv_goto (tgt := 6) F.1 F.2.1 dX9_choose_94 (by decide) ?_
                exact ih x4 (x5 + 1) h ls (lv_sub hl [2, 3, 4, 5, 6, 0] rfl)
              · replace h := it_f k36 h
                refine lv_iload F.1 F.2.1 dX9_choose_87 (lv_at hl 6 rfl) ?_
                refine lv_istore (lv' := [(4, .int x5), (6, .int 1), (0, .ref a0), (1, .int x1), (2, .int x2), (3, .int x3), (5, .int x5)]) F.1 F.2.1 dX9_choose_89 hl (by decide) rfl (fun ls hl => ?_)
                refine lv_iinc (v := x5 + 1) (lv' := [(5, .int (x5 + 1)), (4, .int x5), (6, .int 1), (0, .ref a0), (1, .int x1), (2, .int x2), (3, .int x3)]) F.1 F.2.1 dX9_choose_91 hl (k := 6) rfl (by rfl) (by decide) rfl (fun ls hl => ?_)
                refine lv_goto (tgt := 6) F.1 F.2.1 dX9_choose_94 (by decide) ?_
                exact ih x5 (x5 + 1) h ls (lv_sub hl [3, 4, 5, 6, 1, 0] rfl)
set_option maxHeartbeats 4000000 in
set_option maxRecDepth 100000 in
theorem tX9_choose (l : Launch) (dC : Nat → ClassId) (dI : Nat → Nat → Nat) (g : Nat → ClassId) (a0 a1 a2 a3 a4 a5 a6 a7 a8 : Nat) (ux : Int32) (uNn : Int32) (uNf : Nat → Int32) (uMn : Int32) (uMf : Nat → Int32) (uLn : Int32) (uLf : Nat → Int32) (uKn : Int32) (uKf : Nat → Int32) (p1 : Int32) (p2 : Int32) (p3 : Int32) {r : Int32} (h : fX9_choose uMn uMf uLn uLf p1 p2 p3 = some r) : RO l yX9_choose cX9_choose 7 (some .int) 1 22 dC dI g [.ref a0, .int p1, .int p2, .int p3] (wX9 g a0 a1 a2 a3 a4 a5 a6 a7 a8 ux uNn uNf uMn uMf uLn uLf uKn uKf) (some (.int r)) := by
  refine RO_of (by decide) (Nat.le_of_ble_eq_true rfl) ?_
  intro p e s m below meth c ls F hr hlocks hE hX hP hl
  replace F : CF p m c cX9_choose 7 s _ RX9 := F
  replace hl : lv_has ls 7 [(0, .ref a0), (1, .int p1), (2, .int p2), (3, .int p3)] := hl
  rw [fX9_choose] at h
  refine lv_iconst (v := (-1)) F.1 F.2.1 dX9_choose_0 (by decide) ?_
  refine lv_istore (lv' := [(4, .int (-1)), (0, .ref a0), (1, .int p1), (2, .int p2), (3, .int p3)]) F.1 F.2.1 dX9_choose_1 hl (by decide) rfl (fun ls hl => ?_)
  refine lv_iconst (v := 0) F.1 F.2.1 dX9_choose_3 (by decide) ?_
  refine lv_istore (lv' := [(5, .int 0), (4, .int (-1)), (0, .ref a0), (1, .int p1), (2, .int p2), (3, .int p3)]) F.1 F.2.1 dX9_choose_4 hl (by decide) rfl (fun ls hl => ?_)
  exact tX9_choose_L6 F hr hlocks hE hX p1 p2 p3 ux uNn uNf uMn uMf uLn uLf uKn uKf hP FU (-1) 0 h ls (lv_sub hl [2, 3, 4, 5, 1, 0] rfl)
/-! WireCutter$Spools.isBefore -/
def fX9_isBefore (uNn : Int32) (uNf : Nat → Int32) (uMn : Int32) (uMf : Nat → Int32) (uLn : Int32) (uLf : Nat → Int32) (p1 : Int32) (p2 : Int32) : Option (Int32) :=
  (fX7_get 10 uLn uLf p1).bind fun z1 =>
  (fX7_get 10 uLn uLf p2).bind fun z3 =>
  if z1 = z3 then
    (fX7_get 10 uMn uMf p1).bind fun z6 =>
    (fX7_get 10 uMn uMf p2).bind fun z8 =>
    if z6 = z8 then
      (fX7_get 10 uNn uNf p1).bind fun z11 =>
      (fX7_get 10 uNn uNf p2).bind fun z13 =>
      if z13 ≤ z11 then
        some (0)
      else
        some (1)
    else
      (fX7_get 10 uMn uMf p1).bind fun z16 =>
      (fX7_get 10 uMn uMf p2).bind fun z18 =>
      if z18 ≤ z16 then
        some (0)
      else
        some (1)
  else
    (fX7_get 10 uLn uLf p1).bind fun z21 =>
    (fX7_get 10 uLn uLf p2).bind fun z23 =>
    if z21 ≤ z23 then
      some (0)
    else
      some (1)
theorem mbX9_isBefore : MV yX9_isBefore cX9_isBefore 3 (some .boolean) 2 := ⟨⟨q1272, q3, by decide +kernel⟩, q1271, qs10⟩
set_option maxHeartbeats 4000000 in
set_option maxRecDepth 100000 in
theorem tX9_isBefore (l : Launch) (dC : Nat → ClassId) (dI : Nat → Nat → Nat) (g : Nat → ClassId) (a0 a1 a2 a3 a4 a5 a6 a7 a8 : Nat) (ux : Int32) (uNn : Int32) (uNf : Nat → Int32) (uMn : Int32) (uMf : Nat → Int32) (uLn : Int32) (uLf : Nat → Int32) (uKn : Int32) (uKf : Nat → Int32) (p1 : Int32) (p2 : Int32) {r : Int32} (h : fX9_isBefore uNn uNf uMn uMf uLn uLf p1 p2 = some r) : RO l yX9_isBefore cX9_isBefore 3 (some .boolean) 1 21 dC dI g [.ref a0, .int p1, .int p2] (wX9 g a0 a1 a2 a3 a4 a5 a6 a7 a8 ux uNn uNf uMn uMf uLn uLf uKn uKf) (some (.int r)) := by
  refine RO_of (by decide) (Nat.le_of_ble_eq_true rfl) ?_
  intro p e s m below meth c ls F hr hlocks hE hX hP hl
  replace F : CF p m c cX9_isBefore 3 s _ RX9 := F
  replace hl : lv_has ls 3 [(0, .ref a0), (1, .int p1), (2, .int p2)] := hl
  rw [fX9_isBefore] at h
  refine lv_aload_n F.1 F.2.1 dX9_isBefore_0 rfl (lv_at hl 0 rfl) ?_
  refine gF (v := .ref a5) F hE hP 0 rfl rfl inX9 2 (by decide) q73 rfl dX9_isBefore_1 ?_
  refine lv_iload_n F.1 F.2.1 dX9_isBefore_4 rfl (lv_at hl 1 rfl) ?_
  obtain ⟨z1, k2, h⟩ := bd_ok h
  refine cRV (As := [.int p1]) (rest := []) F hE hX va_S.rf (tX7_get l dC dI g a5 a6 10 uLn uLf p1 k2) mbX7_get q422 ⟨(Nat.le_of_ble_eq_true rfl), (Nat.le_of_ble_eq_true rfl)⟩ ⟨Nat.zero_le _, Nat.zero_le _⟩ hP [5, 6] rfl 5 rfl rfl rfl hl.1 rfl (Nat.le_of_ble_eq_true rfl) dX9_isBefore_5 ?_
  refine lv_aload_n F.1 F.2.1 dX9_isBefore_8 rfl (lv_at hl 0 rfl) ?_
  refine gF (v := .ref a5) F hE hP 0 rfl rfl inX9 2 (by decide) q73 rfl dX9_isBefore_9 ?_
  refine lv_iload_n F.1 F.2.1 dX9_isBefore_12 rfl (lv_at hl 2 rfl) ?_
  obtain ⟨z3, k4, h⟩ := bd_ok h
  refine cRV (As := [.int p2]) (rest := [.int z1]) F hE hX va_S.rf (tX7_get l dC dI g a5 a6 10 uLn uLf p2 k4) mbX7_get q422 ⟨(Nat.le_of_ble_eq_true rfl), (Nat.le_of_ble_eq_true rfl)⟩ ⟨Nat.zero_le _, Nat.zero_le _⟩ hP [5, 6] rfl 5 rfl rfl rfl hl.1 rfl (Nat.le_of_ble_eq_true rfl) dX9_isBefore_13 ?_
  refine lv_icmp_eq (tgt := 44) F.1 F.2.1 dX9_isBefore_16 (by decide) (fun k5 => ?_) (fun k5 => ?_)
  · replace h := it_t k5 h
    refine lv_aload_n F.1 F.2.1 dX9_isBefore_44 rfl (lv_at hl 0 rfl) ?_
    refine gF (v := .ref a3) F hE hP 0 rfl rfl inX9 1 (by decide) q72 rfl dX9_isBefore_45 ?_
    refine lv_iload_n F.1 F.2.1 dX9_isBefore_48 rfl (lv_at hl 1 rfl) ?_
    obtain ⟨z6, k7, h⟩ := bd_ok h
    refine cRV (As := [.int p1]) (rest := []) F hE hX va_S.rf (tX7_get l dC dI g a3 a4 10 uMn uMf p1 k7) mbX7_get q422 ⟨(Nat.le_of_ble_eq_true rfl), (Nat.le_of_ble_eq_true rfl)⟩ ⟨Nat.zero_le _, Nat.zero_le _⟩ hP [3, 4] rfl 3 rfl rfl rfl hl.1 rfl (Nat.le_of_ble_eq_true rfl) dX9_isBefore_49 ?_
    refine lv_aload_n F.1 F.2.1 dX9_isBefore_52 rfl (lv_at hl 0 rfl) ?_
    refine gF (v := .ref a3) F hE hP 0 rfl rfl inX9 1 (by decide) q72 rfl dX9_isBefore_53 ?_
    refine lv_iload_n F.1 F.2.1 dX9_isBefore_56 rfl (lv_at hl 2 rfl) ?_
    obtain ⟨z8, k9, h⟩ := bd_ok h
    refine cRV (As := [.int p2]) (rest := [.int z6]) F hE hX va_S.rf (tX7_get l dC dI g a3 a4 10 uMn uMf p2 k9) mbX7_get q422 ⟨(Nat.le_of_ble_eq_true rfl), (Nat.le_of_ble_eq_true rfl)⟩ ⟨Nat.zero_le _, Nat.zero_le _⟩ hP [3, 4] rfl 3 rfl rfl rfl hl.1 rfl (Nat.le_of_ble_eq_true rfl) dX9_isBefore_57 ?_
    refine lv_icmp_eq (tgt := 88) F.1 F.2.1 dX9_isBefore_60 (by decide) (fun k10 => ?_) (fun k10 => ?_)
    · replace h := it_t k10 h
      refine lv_aload_n F.1 F.2.1 dX9_isBefore_88 rfl (lv_at hl 0 rfl) ?_
      refine gF (v := .ref a1) F hE hP 0 rfl rfl inX9 0 (by decide) q71 rfl dX9_isBefore_89 ?_
      refine lv_iload_n F.1 F.2.1 dX9_isBefore_92 rfl (lv_at hl 1 rfl) ?_
      obtain ⟨z11, k12, h⟩ := bd_ok h
      refine cRV (As := [.int p1]) (rest := []) F hE hX va_S.rf (tX7_get l dC dI g a1 a2 10 uNn uNf p1 k12) mbX7_get q422 ⟨(Nat.le_of_ble_eq_true rfl), (Nat.le_of_ble_eq_true rfl)⟩ ⟨Nat.zero_le _, Nat.zero_le _⟩ hP [1, 2] rfl 1 rfl rfl rfl hl.1 rfl (Nat.le_of_ble_eq_true rfl) dX9_isBefore_93 ?_
      refine lv_aload_n F.1 F.2.1 dX9_isBefore_96 rfl (lv_at hl 0 rfl) ?_
      refine gF (v := .ref a1) F hE hP 0 rfl rfl inX9 0 (by decide) q71 rfl dX9_isBefore_97 ?_
      refine lv_iload_n F.1 F.2.1 dX9_isBefore_100 rfl (lv_at hl 2 rfl) ?_
      obtain ⟨z13, k14, h⟩ := bd_ok h
      refine cRV (As := [.int p2]) (rest := [.int z11]) F hE hX va_S.rf (tX7_get l dC dI g a1 a2 10 uNn uNf p2 k14) mbX7_get q422 ⟨(Nat.le_of_ble_eq_true rfl), (Nat.le_of_ble_eq_true rfl)⟩ ⟨Nat.zero_le _, Nat.zero_le _⟩ hP [1, 2] rfl 1 rfl rfl rfl hl.1 rfl (Nat.le_of_ble_eq_true rfl) dX9_isBefore_101 ?_
      refine lv_icmp_ge (tgt := 111) F.1 F.2.1 dX9_isBefore_104 (by decide) (fun k15 => ?_) (fun k15 => ?_)
      · replace h := it_t k15 h
        refine lv_iconst (v := 0) F.1 F.2.1 dX9_isBefore_111 (by decide) ?_
        cases h
        exact RO_z F hr hlocks rfl dX9_isBefore_112
      · replace h := it_f k15 h
        refine lv_iconst (v := 1) F.1 F.2.1 dX9_isBefore_107 (by decide) ?_
        refine lv_goto (tgt := 112) F.1 F.2.1 dX9_isBefore_108 (by decide) ?_
        cases h
        exact RO_z F hr hlocks rfl dX9_isBefore_112
    · replace h := it_f k10 h
      refine lv_aload_n F.1 F.2.1 dX9_isBefore_63 rfl (lv_at hl 0 rfl) ?_
      refine gF (v := .ref a3) F hE hP 0 rfl rfl inX9 1 (by decide) q72 rfl dX9_isBefore_64 ?_
      refine lv_iload_n F.1 F.2.1 dX9_isBefore_67 rfl (lv_at hl 1 rfl) ?_
      obtain ⟨z16, k17, h⟩ := bd_ok h
      refine cRV (As := [.int p1]) (rest := []) F hE hX va_S.rf (tX7_get l dC dI g a3 a4 10 uMn uMf p1 k17) mbX7_get q422 ⟨(Nat.le_of_ble_eq_true rfl), (Nat.le_of_ble_eq_true rfl)⟩ ⟨Nat.zero_le _, Nat.zero_le _⟩ hP [3, 4] rfl 3 rfl rfl rfl hl.1 rfl (Nat.le_of_ble_eq_true rfl) dX9_isBefore_68 ?_
      refine lv_aload_n F.1 F.2.1 dX9_isBefore_71 rfl (lv_at hl 0 rfl) ?_
      refine gF (v := .ref a3) F hE hP 0 rfl rfl inX9 1 (by decide) q72 rfl dX9_isBefore_72 ?_
      refine lv_iload_n F.1 F.2.1 dX9_isBefore_75 rfl (lv_at hl 2 rfl) ?_
      obtain ⟨z18, k19, h⟩ := bd_ok h
      refine cRV (As := [.int p2]) (rest := [.int z16]) F hE hX va_S.rf (tX7_get l dC dI g a3 a4 10 uMn uMf p2 k19) mbX7_get q422 ⟨(Nat.le_of_ble_eq_true rfl), (Nat.le_of_ble_eq_true rfl)⟩ ⟨Nat.zero_le _, Nat.zero_le _⟩ hP [3, 4] rfl 3 rfl rfl rfl hl.1 rfl (Nat.le_of_ble_eq_true rfl) dX9_isBefore_76 ?_
      refine lv_icmp_ge (tgt := 86) F.1 F.2.1 dX9_isBefore_79 (by decide) (fun k20 => ?_) (fun k20 => ?_)
      · replace h := it_t k20 h
        refine lv_iconst (v := 0) F.1 F.2.1 dX9_isBefore_86 (by decide) ?_
        cases h
        exact RO_z F hr hlocks rfl dX9_isBefore_87
      · replace h := it_f k20 h
        refine lv_iconst (v := 1) F.1 F.2.1 dX9_isBefore_82 (by decide) ?_
        refine lv_goto (tgt := 87) F.1 F.2.1 dX9_isBefore_83 (by decide) ?_
        cases h
        exact RO_z F hr hlocks rfl dX9_isBefore_87
  · replace h := it_f k5 h
    refine lv_aload_n F.1 F.2.1 dX9_isBefore_19 rfl (lv_at hl 0 rfl) ?_
    refine gF (v := .ref a5) F hE hP 0 rfl rfl inX9 2 (by decide) q73 rfl dX9_isBefore_20 ?_
    refine lv_iload_n F.1 F.2.1 dX9_isBefore_23 rfl (lv_at hl 1 rfl) ?_
    obtain ⟨z21, k22, h⟩ := bd_ok h
    refine cRV (As := [.int p1]) (rest := []) F hE hX va_S.rf (tX7_get l dC dI g a5 a6 10 uLn uLf p1 k22) mbX7_get q422 ⟨(Nat.le_of_ble_eq_true rfl), (Nat.le_of_ble_eq_true rfl)⟩ ⟨Nat.zero_le _, Nat.zero_le _⟩ hP [5, 6] rfl 5 rfl rfl rfl hl.1 rfl (Nat.le_of_ble_eq_true rfl) dX9_isBefore_24 ?_
    refine lv_aload_n F.1 F.2.1 dX9_isBefore_27 rfl (lv_at hl 0 rfl) ?_
    refine gF (v := .ref a5) F hE hP 0 rfl rfl inX9 2 (by decide) q73 rfl dX9_isBefore_28 ?_
    refine lv_iload_n F.1 F.2.1 dX9_isBefore_31 rfl (lv_at hl 2 rfl) ?_
    obtain ⟨z23, k24, h⟩ := bd_ok h
    refine cRV (As := [.int p2]) (rest := [.int z21]) F hE hX va_S.rf (tX7_get l dC dI g a5 a6 10 uLn uLf p2 k24) mbX7_get q422 ⟨(Nat.le_of_ble_eq_true rfl), (Nat.le_of_ble_eq_true rfl)⟩ ⟨Nat.zero_le _, Nat.zero_le _⟩ hP [5, 6] rfl 5 rfl rfl rfl hl.1 rfl (Nat.le_of_ble_eq_true rfl) dX9_isBefore_32 ?_
    refine lv_icmp_le (tgt := 42) F.1 F.2.1 dX9_isBefore_35 (by decide) (fun k25 => ?_) (fun k25 => ?_)
    · replace h := it_t k25 h
      refine lv_iconst (v := 0) F.1 F.2.1 dX9_isBefore_42 (by decide) ?_
      cases h
      exact RO_z F hr hlocks rfl dX9_isBefore_43
    · replace h := it_f k25 h
      refine lv_iconst (v := 1) F.1 F.2.1 dX9_isBefore_38 (by decide) ?_
      refine lv_goto (tgt := 43) F.1 F.2.1 dX9_isBefore_39 (by decide) ?_
      cases h
      exact RO_z F hr hlocks rfl dX9_isBefore_43
/-! WireCutter$Spools.rankOf -/
def fX9_rankOf_L4 (x1 : Int32) (uNn : Int32) (uNf : Nat → Int32) (uMn : Int32) (uMf : Nat → Int32) (uLn : Int32) (uLf : Nat → Int32) : Nat → Int32 → Int32 → Option (Int32)
  | 0, _, _ => none
  | k + 1, x2, x3 =>
    (fX9_count uNn).bind fun z1 =>
    if z1 ≤ x3 then
      some (x2)
    else
      (fX9_isBefore uNn uNf uMn uMf uLn uLf x3 x1).bind fun z4 =>
      if z4 = 0 then
        fX9_rankOf_L4 x1 uNn uNf uMn uMf uLn uLf k x2 (x3 + 1)
      else
        fX9_rankOf_L4 x1 uNn uNf uMn uMf uLn uLf k (x2 + 1) (x3 + 1)
def fX9_rankOf (uNn : Int32) (uNf : Nat → Int32) (uMn : Int32) (uMf : Nat → Int32) (uLn : Int32) (uLf : Nat → Int32) (p1 : Int32) : Option (Int32) :=
  fX9_rankOf_L4 p1 uNn uNf uMn uMf uLn uLf FU 0 0
theorem mbX9_rankOf : MV yX9_rankOf cX9_rankOf 4 (some .int) 1 := ⟨⟨q1268, q3, by decide +kernel⟩, q1267, qs9⟩
set_option maxHeartbeats 4000000 in
set_option maxRecDepth 100000 in
theorem tX9_rankOf_L4 {p : Program} {l : Launch} {e : Env} {s : State} {m : MethodId} {args : Array Value} {below : List Frame} {meth : Method} {c : Code} {dC : Nat → ClassId} {dI : Nat → Nat → Nat} {g : Nat → ClassId} {a0 a1 a2 a3 a4 a5 a6 a7 a8 : Nat} {r : Int32} (F : CF p m c cX9_rankOf 4 s args RX9) (hr : meth.sig.returnType = (some .int)) (hlocks : meth.locks = false) (hE : EK dC dI g s) (hX : EXr g s) (x1 : Int32) (ux : Int32) (uNn : Int32) (uNf : Nat → Int32) (uMn : Int32) (uMf : Nat → Int32) (uLn : Int32) (uLf : Nat → Int32) (uKn : Int32) (uKf : Nat → Int32) (hP : va_P (dC, dI) vwCl (wX9 g a0 a1 a2 a3 a4 a5 a6 a7 a8 ux uNn uNf uMn uMf uLn uLf uKn uKf) s.heap) : ∀ (k : Nat) (x2 : Int32) (x3 : Int32), fX9_rankOf_L4 x1 uNn uNf uMn uMf uLn uLf k x2 x3 = some r → ∀ (ls : Array Slot), lv_has ls 4 [(0, .ref a0), (1, .int x1), (2, .int x2), (3, .int x3)] → W p l e { frames := 2, cells := 0, slots := 0, locals := 43 } s m args below meth c s.heap [] 0 0 (MQ below (fun _ st o t => o = .returned (some (.int r)) ∧ t.heap = st.heap) args s 0 0 (fun _ => False)) (F0 m 4 ls []) := by
  intro k
  induction k with
  | zero =>
    intro x2 x3 h
    exact absurd h (by simp [fX9_rankOf_L4])
  | succ k ih =>
    intro x2 x3 h ls hl
    rw [fX9_rankOf_L4] at h
    refine lv_iload_n F.1 F.2.1 dX9_rankOf_4 rfl (lv_at hl 3 rfl) ?_
    refine lv_aload_n F.1 F.2.1 dX9_rankOf_5 rfl (lv_at hl 0 rfl) ?_
    obtain ⟨z1, k2, h⟩ := bd_ok h
    refine cRV (As := []) (rest := [.int x3]) F hE hX va_S.rf (tX9_count l dC dI g a0 a1 a2 a3 a4 a5 a6 a7 a8 ux uNn uNf uMn uMf uLn uLf uKn uKf k2) mbX9_count q485 ⟨(Nat.le_of_ble_eq_true rfl), (Nat.le_of_ble_eq_true rfl)⟩ ⟨Nat.zero_le _, Nat.zero_le _⟩ hP [0, 1, 2, 3, 4, 5, 6, 7, 8] rfl 0 rfl rfl rfl hl.1 rfl (Nat.le_of_ble_eq_true rfl) dX9_rankOf_6 ?_
    refine lv_icmp_ge (tgt := 30) F.1 F.2.1 dX9_rankOf_9 (by decide) (fun k3 => ?_) (fun k3 => ?_)
    · replace h := it_t k3 h
      refine lv_iload_n F.1 F.2.1 dX9_rankOf_30 rfl (lv_at hl 2 rfl) ?_
      cases h
      exact RO_i F hr hlocks dX9_rankOf_31
    · replace h := it_f k3 h
      refine lv_aload_n F.1 F.2.1 dX9_rankOf_12 rfl (lv_at hl 0 rfl) ?_
      refine lv_iload_n F.1 F.2.1 dX9_rankOf_13 rfl (lv_at hl 3 rfl) ?_
      refine lv_iload_n F.1 F.2.1 dX9_rankOf_14 rfl (lv_at hl 1 rfl) ?_
      obtain ⟨z4, k5, h⟩ := bd_ok h
      refine cRV (As := [.int x3, .int x1]) (rest := []) F hE hX va_S.rf (tX9_isBefore l dC dI g a0 a1 a2 a3 a4 a5 a6 a7 a8 ux uNn uNf uMn uMf uLn uLf uKn uKf x3 x1 k5) mbX9_isBefore q1269 ⟨(Nat.le_of_ble_eq_true rfl), (Nat.le_of_ble_eq_true rfl)⟩ ⟨Nat.zero_le _, Nat.zero_le _⟩ hP [0, 1, 2, 3, 4, 5, 6, 7, 8] rfl 0 rfl rfl rfl hl.1 rfl (Nat.le_of_ble_eq_true rfl) dX9_rankOf_15 ?_
      refine lv_if_eq (tgt := 24) F.1 F.2.1 dX9_rankOf_18 (by decide) (fun k6 => ?_) (fun k6 => ?_)
      · replace h := it_t k6 h
        refine lv_iinc (v := x3 + 1) (lv' := [(3, .int (x3 + 1)), (0, .ref a0), (1, .int x1), (2, .int x2)]) F.1 F.2.1 dX9_rankOf_24 hl (k := 3) rfl (by rfl) (by decide) rfl (fun ls hl => ?_)
        refine lv_goto (tgt := 4) F.1 F.2.1 dX9_rankOf_27 (by decide) ?_
        exact ih x2 (x3 + 1) h ls (lv_sub hl [1, 2, 3, 0] rfl)
      · replace h := it_f k6 h
        refine lv_iinc (v := x2 + 1) (lv' := [(2, .int (x2 + 1)), (0, .ref a0), (1, .int x1), (3, .int x3)]) F.1 F.2.1 dX9_rankOf_21 hl (k := 2) rfl (by rfl) (by decide) rfl (fun ls hl => ?_)
        refine lv_iinc (v := x3 + 1) (lv' := [(3, .int (x3 + 1)), (2, .int (x2 + 1)), (0, .ref a0), (1, .int x1)]) F.1 F.2.1 dX9_rankOf_24 hl (k := 3) rfl (by rfl) (by decide) rfl (fun ls hl => ?_)
        refine lv_goto (tgt := 4) F.1 F.2.1 dX9_rankOf_27 (by decide) ?_
        exact ih (x2 + 1) (x3 + 1) h ls (lv_sub hl [2, 3, 1, 0] rfl)
set_option maxHeartbeats 4000000 in
set_option maxRecDepth 100000 in
theorem tX9_rankOf (l : Launch) (dC : Nat → ClassId) (dI : Nat → Nat → Nat) (g : Nat → ClassId) (a0 a1 a2 a3 a4 a5 a6 a7 a8 : Nat) (ux : Int32) (uNn : Int32) (uNf : Nat → Int32) (uMn : Int32) (uMf : Nat → Int32) (uLn : Int32) (uLf : Nat → Int32) (uKn : Int32) (uKf : Nat → Int32) (p1 : Int32) {r : Int32} (h : fX9_rankOf uNn uNf uMn uMf uLn uLf p1 = some r) : RO l yX9_rankOf cX9_rankOf 4 (some .int) 2 43 dC dI g [.ref a0, .int p1] (wX9 g a0 a1 a2 a3 a4 a5 a6 a7 a8 ux uNn uNf uMn uMf uLn uLf uKn uKf) (some (.int r)) := by
  refine RO_of (by decide) (Nat.le_of_ble_eq_true rfl) ?_
  intro p e s m below meth c ls F hr hlocks hE hX hP hl
  replace F : CF p m c cX9_rankOf 4 s _ RX9 := F
  replace hl : lv_has ls 4 [(0, .ref a0), (1, .int p1)] := hl
  rw [fX9_rankOf] at h
  refine lv_iconst (v := 0) F.1 F.2.1 dX9_rankOf_0 (by decide) ?_
  refine lv_istore_n (lv' := [(2, .int 0), (0, .ref a0), (1, .int p1)]) F.1 F.2.1 dX9_rankOf_1 rfl hl (by decide) rfl (fun ls hl => ?_)
  refine lv_iconst (v := 0) F.1 F.2.1 dX9_rankOf_2 (by decide) ?_
  refine lv_istore_n (lv' := [(3, .int 0), (2, .int 0), (0, .ref a0), (1, .int p1)]) F.1 F.2.1 dX9_rankOf_3 rfl hl (by decide) rfl (fun ls hl => ?_)
  exact tX9_rankOf_L4 F hr hlocks hE hX p1 ux uNn uNf uMn uMf uLn uLf uKn uKf hP FU 0 0 h ls (lv_sub hl [2, 3, 1, 0] rfl)
/-! WireCutter$Spools.indexOfRank -/
def fX9_indexOfRank_L2 (x1 : Int32) (uNn : Int32) (uNf : Nat → Int32) (uMn : Int32) (uMf : Nat → Int32) (uLn : Int32) (uLf : Nat → Int32) : Nat → Int32 → Option (Int32)
  | 0, _ => none
  | k + 1, x2 =>
    (fX9_count uNn).bind fun z1 =>
    if z1 ≤ x2 then
      some ((-1))
    else
      (fX9_rankOf uNn uNf uMn uMf uLn uLf x2).bind fun z4 =>
      if z4 = x1 then
        some (x2)
      else
        fX9_indexOfRank_L2 x1 uNn uNf uMn uMf uLn uLf k (x2 + 1)
def fX9_indexOfRank (uNn : Int32) (uNf : Nat → Int32) (uMn : Int32) (uMf : Nat → Int32) (uLn : Int32) (uLf : Nat → Int32) (p1 : Int32) : Option (Int32) :=
  fX9_indexOfRank_L2 p1 uNn uNf uMn uMf uLn uLf FU 0
theorem mbX9_indexOfRank : MV yX9_indexOfRank cX9_indexOfRank 3 (some .int) 1 := ⟨⟨q1264, q3, by decide +kernel⟩, q1262, q1263⟩
set_option maxHeartbeats 4000000 in
set_option maxRecDepth 100000 in
theorem tX9_indexOfRank_L2 {p : Program} {l : Launch} {e : Env} {s : State} {m : MethodId} {args : Array Value} {below : List Frame} {meth : Method} {c : Code} {dC : Nat → ClassId} {dI : Nat → Nat → Nat} {g : Nat → ClassId} {a0 a1 a2 a3 a4 a5 a6 a7 a8 : Nat} {r : Int32} (F : CF p m c cX9_indexOfRank 3 s args RX9) (hr : meth.sig.returnType = (some .int)) (hlocks : meth.locks = false) (hE : EK dC dI g s) (hX : EXr g s) (x1 : Int32) (ux : Int32) (uNn : Int32) (uNf : Nat → Int32) (uMn : Int32) (uMf : Nat → Int32) (uLn : Int32) (uLf : Nat → Int32) (uKn : Int32) (uKf : Nat → Int32) (hP : va_P (dC, dI) vwCl (wX9 g a0 a1 a2 a3 a4 a5 a6 a7 a8 ux uNn uNf uMn uMf uLn uLf uKn uKf) s.heap) : ∀ (k : Nat) (x2 : Int32), fX9_indexOfRank_L2 x1 uNn uNf uMn uMf uLn uLf k x2 = some r → ∀ (ls : Array Slot), lv_has ls 3 [(0, .ref a0), (1, .int x1), (2, .int x2)] → W p l e { frames := 3, cells := 0, slots := 0, locals := 66 } s m args below meth c s.heap [] 0 0 (MQ below (fun _ st o t => o = .returned (some (.int r)) ∧ t.heap = st.heap) args s 0 0 (fun _ => False)) (F0 m 2 ls []) := by
  intro k
  induction k with
  | zero =>
    intro x2 h
    exact absurd h (by simp [fX9_indexOfRank_L2])
  | succ k ih =>
    intro x2 h ls hl
    rw [fX9_indexOfRank_L2] at h
    refine lv_iload_n F.1 F.2.1 dX9_indexOfRank_2 rfl (lv_at hl 2 rfl) ?_
    refine lv_aload_n F.1 F.2.1 dX9_indexOfRank_3 rfl (lv_at hl 0 rfl) ?_
    obtain ⟨z1, k2, h⟩ := bd_ok h
    refine cRV (As := []) (rest := [.int x2]) F hE hX va_S.rf (tX9_count l dC dI g a0 a1 a2 a3 a4 a5 a6 a7 a8 ux uNn uNf uMn uMf uLn uLf uKn uKf k2) mbX9_count q485 ⟨(Nat.le_of_ble_eq_true rfl), (Nat.le_of_ble_eq_true rfl)⟩ ⟨Nat.zero_le _, Nat.zero_le _⟩ hP [0, 1, 2, 3, 4, 5, 6, 7, 8] rfl 0 rfl rfl rfl hl.1 rfl (Nat.le_of_ble_eq_true rfl) dX9_indexOfRank_4 ?_
    refine lv_icmp_ge (tgt := 27) F.1 F.2.1 dX9_indexOfRank_7 (by decide) (fun k3 => ?_) (fun k3 => ?_)
    · replace h := it_t k3 h
      refine lv_iconst (v := (-1)) F.1 F.2.1 dX9_indexOfRank_27 (by decide) ?_
      cases h
      exact RO_i F hr hlocks dX9_indexOfRank_28
    · replace h := it_f k3 h
      refine lv_aload_n F.1 F.2.1 dX9_indexOfRank_10 rfl (lv_at hl 0 rfl) ?_
      refine lv_iload_n F.1 F.2.1 dX9_indexOfRank_11 rfl (lv_at hl 2 rfl) ?_
      obtain ⟨z4, k5, h⟩ := bd_ok h
      refine cRV (As := [.int x2]) (rest := []) F hE hX va_S.rf (tX9_rankOf l dC dI g a0 a1 a2 a3 a4 a5 a6 a7 a8 ux uNn uNf uMn uMf uLn uLf uKn uKf x2 k5) mbX9_rankOf q1265 ⟨(Nat.le_of_ble_eq_true rfl), (Nat.le_of_ble_eq_true rfl)⟩ ⟨Nat.zero_le _, Nat.zero_le _⟩ hP [0, 1, 2, 3, 4, 5, 6, 7, 8] rfl 0 rfl rfl rfl hl.1 rfl (Nat.le_of_ble_eq_true rfl) dX9_indexOfRank_12 ?_
      refine lv_iload_n F.1 F.2.1 dX9_indexOfRank_15 rfl (lv_at hl 1 rfl) ?_
      refine lv_icmp_ne (tgt := 21) F.1 F.2.1 dX9_indexOfRank_16 (by decide) (fun k6 => ?_) (fun k6 => ?_)
      · replace h := it_f k6 h
        refine lv_iinc (v := x2 + 1) (lv' := [(2, .int (x2 + 1)), (0, .ref a0), (1, .int x1)]) F.1 F.2.1 dX9_indexOfRank_21 hl (k := 2) rfl (by rfl) (by decide) rfl (fun ls hl => ?_)
        refine lv_goto (tgt := 2) F.1 F.2.1 dX9_indexOfRank_24 (by decide) ?_
        exact ih (x2 + 1) h ls (lv_sub hl [1, 2, 0] rfl)
      · replace h := it_t k6 h
        refine lv_iload_n F.1 F.2.1 dX9_indexOfRank_19 rfl (lv_at hl 2 rfl) ?_
        cases h
        exact RO_i F hr hlocks dX9_indexOfRank_20
set_option maxHeartbeats 4000000 in
set_option maxRecDepth 100000 in
theorem tX9_indexOfRank (l : Launch) (dC : Nat → ClassId) (dI : Nat → Nat → Nat) (g : Nat → ClassId) (a0 a1 a2 a3 a4 a5 a6 a7 a8 : Nat) (ux : Int32) (uNn : Int32) (uNf : Nat → Int32) (uMn : Int32) (uMf : Nat → Int32) (uLn : Int32) (uLf : Nat → Int32) (uKn : Int32) (uKf : Nat → Int32) (p1 : Int32) {r : Int32} (h : fX9_indexOfRank uNn uNf uMn uMf uLn uLf p1 = some r) : RO l yX9_indexOfRank cX9_indexOfRank 3 (some .int) 3 66 dC dI g [.ref a0, .int p1] (wX9 g a0 a1 a2 a3 a4 a5 a6 a7 a8 ux uNn uNf uMn uMf uLn uLf uKn uKf) (some (.int r)) := by
  refine RO_of (by decide) (Nat.le_of_ble_eq_true rfl) ?_
  intro p e s m below meth c ls F hr hlocks hE hX hP hl
  replace F : CF p m c cX9_indexOfRank 3 s _ RX9 := F
  replace hl : lv_has ls 3 [(0, .ref a0), (1, .int p1)] := hl
  rw [fX9_indexOfRank] at h
  refine lv_iconst (v := 0) F.1 F.2.1 dX9_indexOfRank_0 (by decide) ?_
  refine lv_istore_n (lv' := [(2, .int 0), (0, .ref a0), (1, .int p1)]) F.1 F.2.1 dX9_indexOfRank_1 rfl hl (by decide) rfl (fun ls hl => ?_)
  exact tX9_indexOfRank_L2 F hr hlocks hE hX p1 ux uNn uNf uMn uMf uLn uLf uKn uKf hP FU 0 h ls (lv_sub hl [1, 2, 0] rfl)
/-! WireCutter$Scraps.copyFrom -/
def fX8_copyFrom (uMn : Int32) (uMf : Nat → Int32) (uLn : Int32) (uLf : Nat → Int32) (uTn : Int32) (uTf : Nat → Int32) (vMn : Int32) (vMf : Nat → Int32) (vLn : Int32) (vLf : Nat → Int32) (vTn : Int32) (vTf : Nat → Int32) : Option (Int32 × (Nat → Int32) × Int32 × (Nat → Int32) × Int32 × (Nat → Int32)) :=
  (fX7_copyFrom 40 40 uMn uMf vMn vMf).bind fun z1 =>
  (fX7_copyFrom 40 40 uLn uLf vLn vLf).bind fun z3 =>
  (fX7_copyFrom 6 6 uTn uTf vTn vTf).bind fun z5 =>
  some (z1.1, z1.2, z3.1, z3.2, z5.1, z5.2)
theorem mbX8_copyFrom : MV yX8_copyFrom cX8_copyFrom 2 none 1 := ⟨⟨q907, q5, by decide +kernel⟩, q905, q906⟩
set_option maxHeartbeats 4000000 in
set_option maxRecDepth 100000 in
theorem tX8_copyFrom (l : Launch) (dC : Nat → ClassId) (dI : Nat → Nat → Nat) (g : Nat → ClassId) (a0 a1 a2 a3 a4 a5 a6 b0 b1 b2 b3 b4 b5 b6 : Nat) (uMn : Int32) (uMf : Nat → Int32) (uLn : Int32) (uLf : Nat → Int32) (uTn : Int32) (uTf : Nat → Int32) (vMn : Int32) (vMf : Nat → Int32) (vLn : Int32) (vLf : Nat → Int32) (vTn : Int32) (vTf : Nat → Int32) {r : Int32 × (Nat → Int32) × Int32 × (Nat → Int32) × Int32 × (Nat → Int32)} (h : fX8_copyFrom uMn uMf uLn uLf uTn uTf vMn vMf vLn vLf vTn vTf = some r) : MU l yX8_copyFrom cX8_copyFrom 2 none 1 23 0 0 dC dI g [.ref a0, .ref b0] (wX8 g a0 a1 a2 a3 a4 a5 a6 uMn uMf uLn uLf uTn uTf ++ wX8 g b0 b1 b2 b3 b4 b5 b6 vMn vMf vLn vLf vTn vTf) (wX8 g a0 a1 a2 a3 a4 a5 a6 r.1 r.2.1 r.2.2.1 r.2.2.2.1 r.2.2.2.2.1 r.2.2.2.2.2 ++ wX8 g b0 b1 b2 b3 b4 b5 b6 vMn vMf vLn vLf vTn vTf) none := by
  refine MU_of (by decide) (Nat.le_of_ble_eq_true rfl) ?_
  intro p e s m below meth c ls F hr hlocks hE hX hA hP hD hS hl
  generalize va_A (wX8 g a0 a1 a2 a3 a4 a5 a6 uMn uMf uLn uLf uTn uTf ++ wX8 g b0 b1 b2 b3 b4 b5 b6 vMn vMf vLn vLf vTn vTf) s.heap.size = A at hA hD hS hX ⊢
  replace F : CF p m c cX8_copyFrom 2 s _ RX8 := F
  replace hl : lv_has ls 2 [(0, .ref a0), (1, .ref b0)] := hl
  rw [fX8_copyFrom] at h
  refine lv_aload_n F.1 F.2.1 dX8_copyFrom_0 rfl (lv_at hl 0 rfl) ?_
  refine gF (v := .ref a1) F hE hP 0 rfl rfl inX8 0 (by decide) q100 rfl dX8_copyFrom_1 ?_
  refine lv_aload_n F.1 F.2.1 dX8_copyFrom_4 rfl (lv_at hl 1 rfl) ?_
  refine gF (v := .ref b1) F hE hP 7 rfl rfl inX8 0 (by decide) q100 rfl dX8_copyFrom_5 ?_
  obtain ⟨z1, k2, h⟩ := bd_ok h
  refine cMV (As := [.ref b1]) (rest := []) (ws' := wX8 g a0 a1 a2 a3 a4 a5 a6 z1.1 z1.2 uLn uLf uTn uTf ++ wX8 g b0 b1 b2 b3 b4 b5 b6 vMn vMf vLn vLf vTn vTf) F hE hX (tX7_copyFrom l dC dI g a1 a2 b1 b2 40 40 uMn uMf vMn vMf k2) mbX7_copyFrom q908 ⟨(Nat.le_of_ble_eq_true rfl), (Nat.le_of_ble_eq_true rfl)⟩ ⟨(Nat.le_of_ble_eq_true rfl), (Nat.le_of_ble_eq_true rfl)⟩ hP hD hS hA [1, 2, 8, 9] rfl rfl rfl rfl rfl 1 rfl rfl rfl hl.1 rfl (Nat.le_of_ble_eq_true rfl) dX8_copyFrom_8 (fun H locs hP hD hS => ?_)
  refine lv_aload_n F.1 F.2.1 dX8_copyFrom_11 rfl (lv_at hl 0 rfl) ?_
  refine gF (v := .ref a3) F hE hP 0 rfl rfl inX8 1 (by decide) q101 rfl dX8_copyFrom_12 ?_
  refine lv_aload_n F.1 F.2.1 dX8_copyFrom_15 rfl (lv_at hl 1 rfl) ?_
  refine gF (v := .ref b3) F hE hP 7 rfl rfl inX8 1 (by decide) q101 rfl dX8_copyFrom_16 ?_
  obtain ⟨z3, k4, h⟩ := bd_ok h
  refine cMV (As := [.ref b3]) (rest := []) (ws' := wX8 g a0 a1 a2 a3 a4 a5 a6 z1.1 z1.2 z3.1 z3.2 uTn uTf ++ wX8 g b0 b1 b2 b3 b4 b5 b6 vMn vMf vLn vLf vTn vTf) F hE hX (tX7_copyFrom l dC dI g a3 a4 b3 b4 40 40 uLn uLf vLn vLf k4) mbX7_copyFrom q908 ⟨(Nat.le_of_ble_eq_true rfl), (Nat.le_of_ble_eq_true rfl)⟩ ⟨(Nat.le_of_ble_eq_true rfl), (Nat.le_of_ble_eq_true rfl)⟩ hP hD hS hA [3, 4, 10, 11] rfl rfl rfl rfl rfl 3 rfl rfl rfl hl.1 rfl (Nat.le_of_ble_eq_true rfl) dX8_copyFrom_19 (fun H locs hP hD hS => ?_)
  refine lv_aload_n F.1 F.2.1 dX8_copyFrom_22 rfl (lv_at hl 0 rfl) ?_
  refine gF (v := .ref a5) F hE hP 0 rfl rfl inX8 2 (by decide) q102 rfl dX8_copyFrom_23 ?_
  refine lv_aload_n F.1 F.2.1 dX8_copyFrom_26 rfl (lv_at hl 1 rfl) ?_
  refine gF (v := .ref b5) F hE hP 7 rfl rfl inX8 2 (by decide) q102 rfl dX8_copyFrom_27 ?_
  obtain ⟨z5, k6, h⟩ := bd_ok h
  refine cMV (As := [.ref b5]) (rest := []) (ws' := wX8 g a0 a1 a2 a3 a4 a5 a6 z1.1 z1.2 z3.1 z3.2 z5.1 z5.2 ++ wX8 g b0 b1 b2 b3 b4 b5 b6 vMn vMf vLn vLf vTn vTf) F hE hX (tX7_copyFrom l dC dI g a5 a6 b5 b6 6 6 uTn uTf vTn vTf k6) mbX7_copyFrom q908 ⟨(Nat.le_of_ble_eq_true rfl), (Nat.le_of_ble_eq_true rfl)⟩ ⟨(Nat.le_of_ble_eq_true rfl), (Nat.le_of_ble_eq_true rfl)⟩ hP hD hS hA [5, 6, 12, 13] rfl rfl rfl rfl rfl 5 rfl rfl rfl hl.1 rfl (Nat.le_of_ble_eq_true rfl) dX8_copyFrom_30 (fun H locs hP hD hS => ?_)
  cases h
  exact MU_v F hr hlocks (Nat.le_refl _) (Nat.le_refl _) hP hS dX8_copyFrom_33
/-! WireCutter$Scraps.lengthAt -/
def fX8_lengthAt (uLn : Int32) (uLf : Nat → Int32) (p1 : Int32) : Option (Int32) :=
  (fX7_get 40 uLn uLf p1).bind fun z1 =>
  some (z1)
theorem mbX8_lengthAt : MV yX8_lengthAt cX8_lengthAt 2 (some .int) 1 := ⟨⟨q1152, q5, by decide +kernel⟩, q1150, q1151⟩
set_option maxHeartbeats 4000000 in
set_option maxRecDepth 100000 in
theorem tX8_lengthAt (l : Launch) (dC : Nat → ClassId) (dI : Nat → Nat → Nat) (g : Nat → ClassId) (a0 a1 a2 a3 a4 a5 a6 : Nat) (uMn : Int32) (uMf : Nat → Int32) (uLn : Int32) (uLf : Nat → Int32) (uTn : Int32) (uTf : Nat → Int32) (p1 : Int32) {r : Int32} (h : fX8_lengthAt uLn uLf p1 = some r) : RO l yX8_lengthAt cX8_lengthAt 2 (some .int) 1 21 dC dI g [.ref a0, .int p1] (wX8 g a0 a1 a2 a3 a4 a5 a6 uMn uMf uLn uLf uTn uTf) (some (.int r)) := by
  refine RO_of (by decide) (Nat.le_of_ble_eq_true rfl) ?_
  intro p e s m below meth c ls F hr hlocks hE hX hP hl
  replace F : CF p m c cX8_lengthAt 2 s _ RX8 := F
  replace hl : lv_has ls 2 [(0, .ref a0), (1, .int p1)] := hl
  rw [fX8_lengthAt] at h
  refine lv_aload_n F.1 F.2.1 dX8_lengthAt_0 rfl (lv_at hl 0 rfl) ?_
  refine gF (v := .ref a3) F hE hP 0 rfl rfl inX8 1 (by decide) q101 rfl dX8_lengthAt_1 ?_
  refine lv_iload_n F.1 F.2.1 dX8_lengthAt_4 rfl (lv_at hl 1 rfl) ?_
  obtain ⟨z1, k2, h⟩ := bd_ok h
  refine cRV (As := [.int p1]) (rest := []) F hE hX va_S.rf (tX7_get l dC dI g a3 a4 40 uLn uLf p1 k2) mbX7_get q491 ⟨(Nat.le_of_ble_eq_true rfl), (Nat.le_of_ble_eq_true rfl)⟩ ⟨Nat.zero_le _, Nat.zero_le _⟩ hP [3, 4] rfl 3 rfl rfl rfl hl.1 rfl (Nat.le_of_ble_eq_true rfl) dX8_lengthAt_5 ?_
  cases h
  exact RO_i F hr hlocks dX8_lengthAt_8
/-! WireCutter.placeOf -/
def fX12_placeOf (p0 : Int32) : Option (Int32) :=
  some (p0 - 97)
theorem mbX12_placeOf : MS yX12_placeOf cX12_placeOf 1 (some .int) 1 := ⟨⟨q480, q1, by decide +kernel⟩, q479⟩
set_option maxHeartbeats 4000000 in
set_option maxRecDepth 100000 in
theorem tX12_placeOf (l : Launch) (dC : Nat → ClassId) (dI : Nat → Nat → Nat) (g : Nat → ClassId) (p0 : Int32) {r : Int32} (h : fX12_placeOf p0 = some r) : RO l yX12_placeOf cX12_placeOf 1 (some .int) 0 0 dC dI g [.int p0] (([] : va_W)) (some (.int r)) := by
  refine RO_of (by decide) (Nat.le_of_ble_eq_true rfl) ?_
  intro p e s m below meth c ls F hr hlocks hE hX hP hl
  replace F : CF p m c cX12_placeOf 1 s _ RX12 := F
  replace hl : lv_has ls 1 [(0, .int p0)] := hl
  rw [fX12_placeOf] at h
  refine lv_iload_n F.1 F.2.1 dX12_placeOf_0 rfl (lv_at hl 0 rfl) ?_
  refine lv_bipush (v := 97) F.1 F.2.1 dX12_placeOf_1 (by decide) ?_
  refine lv_isub F.1 F.2.1 dX12_placeOf_3 ?_
  cases h
  exact RO_i F hr hlocks dX12_placeOf_4
/-! WireCutter$Scraps.thrownOf -/
def fX8_thrownOf (uTn : Int32) (uTf : Nat → Int32) (p1 : Int32) : Option (Int32) :=
  (fX12_placeOf p1).bind fun z1 =>
  (fX7_get 6 uTn uTf z1).bind fun z3 =>
  some (z3)
theorem mbX8_thrownOf : MV yX8_thrownOf cX8_thrownOf 2 (some .int) 1 := ⟨⟨q496, q5, by decide +kernel⟩, q494, q495⟩
set_option maxHeartbeats 4000000 in
set_option maxRecDepth 100000 in
theorem tX8_thrownOf (l : Launch) (dC : Nat → ClassId) (dI : Nat → Nat → Nat) (g : Nat → ClassId) (a0 a1 a2 a3 a4 a5 a6 : Nat) (uMn : Int32) (uMf : Nat → Int32) (uLn : Int32) (uLf : Nat → Int32) (uTn : Int32) (uTf : Nat → Int32) (p1 : Int32) {r : Int32} (h : fX8_thrownOf uTn uTf p1 = some r) : RO l yX8_thrownOf cX8_thrownOf 2 (some .int) 1 21 dC dI g [.ref a0, .int p1] (wX8 g a0 a1 a2 a3 a4 a5 a6 uMn uMf uLn uLf uTn uTf) (some (.int r)) := by
  refine RO_of (by decide) (Nat.le_of_ble_eq_true rfl) ?_
  intro p e s m below meth c ls F hr hlocks hE hX hP hl
  replace F : CF p m c cX8_thrownOf 2 s _ RX8 := F
  replace hl : lv_has ls 2 [(0, .ref a0), (1, .int p1)] := hl
  rw [fX8_thrownOf] at h
  refine lv_aload_n F.1 F.2.1 dX8_thrownOf_0 rfl (lv_at hl 0 rfl) ?_
  refine gF (v := .ref a5) F hE hP 0 rfl rfl inX8 2 (by decide) q102 rfl dX8_thrownOf_1 ?_
  refine lv_iload_n F.1 F.2.1 dX8_thrownOf_4 rfl (lv_at hl 1 rfl) ?_
  obtain ⟨z1, k2, h⟩ := bd_ok h
  refine cRSN (As := [.int p1]) (rest := [.ref a5]) F hE hX va_S.rf (tX12_placeOf l dC dI g p1 k2) mbX12_placeOf q497 ⟨(Nat.le_of_ble_eq_true rfl), (Nat.le_of_ble_eq_true rfl)⟩ ⟨Nat.zero_le _, Nat.zero_le _⟩ hP [] rfl rfl hl.1 rfl (Nat.le_of_ble_eq_true rfl) dX8_thrownOf_5 ?_
  obtain ⟨z3, k4, h⟩ := bd_ok h
  refine cRV (As := [.int z1]) (rest := []) F hE hX va_S.rf (tX7_get l dC dI g a5 a6 6 uTn uTf z1 k4) mbX7_get q491 ⟨(Nat.le_of_ble_eq_true rfl), (Nat.le_of_ble_eq_true rfl)⟩ ⟨Nat.zero_le _, Nat.zero_le _⟩ hP [5, 6] rfl 5 rfl rfl rfl hl.1 rfl (Nat.le_of_ble_eq_true rfl) dX8_thrownOf_8 ?_
  cases h
  exact RO_i F hr hlocks dX8_thrownOf_11
/-! WireCutter$Scraps.countOf -/
def fX8_countOf_L4 (x1 : Int32) (uMn : Int32) (uMf : Nat → Int32) (uLn : Int32) : Nat → Int32 → Int32 → Option (Int32)
  | 0, _, _ => none
  | k + 1, x2, x3 =>
    (fX7_size uLn).bind fun z1 =>
    if z1 ≤ x3 then
      some (x2)
    else
      (fX7_get 40 uMn uMf x3).bind fun z4 =>
      if z4 = x1 then
        fX8_countOf_L4 x1 uMn uMf uLn k (x2 + 1) (x3 + 1)
      else
        fX8_countOf_L4 x1 uMn uMf uLn k x2 (x3 + 1)
def fX8_countOf (uMn : Int32) (uMf : Nat → Int32) (uLn : Int32) (p1 : Int32) : Option (Int32) :=
  fX8_countOf_L4 p1 uMn uMf uLn FU 0 0
theorem mbX8_countOf : MV yX8_countOf cX8_countOf 4 (some .int) 1 := ⟨⟨q1288, q5, by decide +kernel⟩, q1286, q1287⟩
set_option maxHeartbeats 4000000 in
set_option maxRecDepth 100000 in
theorem tX8_countOf_L4 {p : Program} {l : Launch} {e : Env} {s : State} {m : MethodId} {args : Array Value} {below : List Frame} {meth : Method} {c : Code} {dC : Nat → ClassId} {dI : Nat → Nat → Nat} {g : Nat → ClassId} {a0 a1 a2 a3 a4 a5 a6 : Nat} {r : Int32} (F : CF p m c cX8_countOf 4 s args RX8) (hr : meth.sig.returnType = (some .int)) (hlocks : meth.locks = false) (hE : EK dC dI g s) (hX : EXr g s) (x1 : Int32) (uMn : Int32) (uMf : Nat → Int32) (uLn : Int32) (uLf : Nat → Int32) (uTn : Int32) (uTf : Nat → Int32) (hP : va_P (dC, dI) vwCl (wX8 g a0 a1 a2 a3 a4 a5 a6 uMn uMf uLn uLf uTn uTf) s.heap) : ∀ (k : Nat) (x2 : Int32) (x3 : Int32), fX8_countOf_L4 x1 uMn uMf uLn k x2 x3 = some r → ∀ (ls : Array Slot), lv_has ls 4 [(0, .ref a0), (1, .int x1), (2, .int x2), (3, .int x3)] → W p l e { frames := 1, cells := 0, slots := 0, locals := 21 } s m args below meth c s.heap [] 0 0 (MQ below (fun _ st o t => o = .returned (some (.int r)) ∧ t.heap = st.heap) args s 0 0 (fun _ => False)) (F0 m 4 ls []) := by
  intro k
  induction k with
  | zero =>
    intro x2 x3 h
    exact absurd h (by simp [fX8_countOf_L4])
  | succ k ih =>
    intro x2 x3 h ls hl
    rw [fX8_countOf_L4] at h
    refine lv_iload_n F.1 F.2.1 dX8_countOf_4 rfl (lv_at hl 3 rfl) ?_
    refine lv_aload_n F.1 F.2.1 dX8_countOf_5 rfl (lv_at hl 0 rfl) ?_
    refine gF (v := .ref a3) F hE hP 0 rfl rfl inX8 1 (by decide) q101 rfl dX8_countOf_6 ?_
    obtain ⟨z1, k2, h⟩ := bd_ok h
    refine cRV (As := []) (rest := [.int x3]) F hE hX va_S.rf (tX7_size l dC dI g a3 a4 40 uLn uLf k2) mbX7_size q490 ⟨(Nat.le_of_ble_eq_true rfl), (Nat.le_of_ble_eq_true rfl)⟩ ⟨Nat.zero_le _, Nat.zero_le _⟩ hP [3, 4] rfl 3 rfl rfl rfl hl.1 rfl (Nat.le_of_ble_eq_true rfl) dX8_countOf_9 ?_
    refine lv_icmp_ge (tgt := 36) F.1 F.2.1 dX8_countOf_12 (by decide) (fun k3 => ?_) (fun k3 => ?_)
    · replace h := it_t k3 h
      refine lv_iload_n F.1 F.2.1 dX8_countOf_36 rfl (lv_at hl 2 rfl) ?_
      cases h
      exact RO_i F hr hlocks dX8_countOf_37
    · replace h := it_f k3 h
      refine lv_aload_n F.1 F.2.1 dX8_countOf_15 rfl (lv_at hl 0 rfl) ?_
      refine gF (v := .ref a1) F hE hP 0 rfl rfl inX8 0 (by decide) q100 rfl dX8_countOf_16 ?_
      refine lv_iload_n F.1 F.2.1 dX8_countOf_19 rfl (lv_at hl 3 rfl) ?_
      obtain ⟨z4, k5, h⟩ := bd_ok h
      refine cRV (As := [.int x3]) (rest := []) F hE hX va_S.rf (tX7_get l dC dI g a1 a2 40 uMn uMf x3 k5) mbX7_get q491 ⟨(Nat.le_of_ble_eq_true rfl), (Nat.le_of_ble_eq_true rfl)⟩ ⟨Nat.zero_le _, Nat.zero_le _⟩ hP [1, 2] rfl 1 rfl rfl rfl hl.1 rfl (Nat.le_of_ble_eq_true rfl) dX8_countOf_20 ?_
      refine lv_iload_n F.1 F.2.1 dX8_countOf_23 rfl (lv_at hl 1 rfl) ?_
      refine lv_icmp_ne (tgt := 30) F.1 F.2.1 dX8_countOf_24 (by decide) (fun k6 => ?_) (fun k6 => ?_)
      · replace h := it_f k6 h
        refine lv_iinc (v := x3 + 1) (lv' := [(3, .int (x3 + 1)), (0, .ref a0), (1, .int x1), (2, .int x2)]) F.1 F.2.1 dX8_countOf_30 hl (k := 3) rfl (by rfl) (by decide) rfl (fun ls hl => ?_)
        refine lv_goto (tgt := 4) F.1 F.2.1 dX8_countOf_33 (by decide) ?_
        exact ih x2 (x3 + 1) h ls (lv_sub hl [1, 2, 3, 0] rfl)
      · replace h := it_t k6 h
        refine lv_iinc (v := x2 + 1) (lv' := [(2, .int (x2 + 1)), (0, .ref a0), (1, .int x1), (3, .int x3)]) F.1 F.2.1 dX8_countOf_27 hl (k := 2) rfl (by rfl) (by decide) rfl (fun ls hl => ?_)
        refine lv_iinc (v := x3 + 1) (lv' := [(3, .int (x3 + 1)), (2, .int (x2 + 1)), (0, .ref a0), (1, .int x1)]) F.1 F.2.1 dX8_countOf_30 hl (k := 3) rfl (by rfl) (by decide) rfl (fun ls hl => ?_)
        refine lv_goto (tgt := 4) F.1 F.2.1 dX8_countOf_33 (by decide) ?_
        exact ih (x2 + 1) (x3 + 1) h ls (lv_sub hl [2, 3, 1, 0] rfl)
set_option maxHeartbeats 4000000 in
set_option maxRecDepth 100000 in
theorem tX8_countOf (l : Launch) (dC : Nat → ClassId) (dI : Nat → Nat → Nat) (g : Nat → ClassId) (a0 a1 a2 a3 a4 a5 a6 : Nat) (uMn : Int32) (uMf : Nat → Int32) (uLn : Int32) (uLf : Nat → Int32) (uTn : Int32) (uTf : Nat → Int32) (p1 : Int32) {r : Int32} (h : fX8_countOf uMn uMf uLn p1 = some r) : RO l yX8_countOf cX8_countOf 4 (some .int) 1 21 dC dI g [.ref a0, .int p1] (wX8 g a0 a1 a2 a3 a4 a5 a6 uMn uMf uLn uLf uTn uTf) (some (.int r)) := by
  refine RO_of (by decide) (Nat.le_of_ble_eq_true rfl) ?_
  intro p e s m below meth c ls F hr hlocks hE hX hP hl
  replace F : CF p m c cX8_countOf 4 s _ RX8 := F
  replace hl : lv_has ls 4 [(0, .ref a0), (1, .int p1)] := hl
  rw [fX8_countOf] at h
  refine lv_iconst (v := 0) F.1 F.2.1 dX8_countOf_0 (by decide) ?_
  refine lv_istore_n (lv' := [(2, .int 0), (0, .ref a0), (1, .int p1)]) F.1 F.2.1 dX8_countOf_1 rfl hl (by decide) rfl (fun ls hl => ?_)
  refine lv_iconst (v := 0) F.1 F.2.1 dX8_countOf_2 (by decide) ?_
  refine lv_istore_n (lv' := [(3, .int 0), (2, .int 0), (0, .ref a0), (1, .int p1)]) F.1 F.2.1 dX8_countOf_3 rfl hl (by decide) rfl (fun ls hl => ?_)
  exact tX8_countOf_L4 F hr hlocks hE hX p1 uMn uMf uLn uLf uTn uTf hP FU 0 0 h ls (lv_sub hl [2, 3, 1, 0] rfl)
/-! WireCutter$Scraps.sumOf -/
def fX8_sumOf_L4 (x1 : Int32) (uMn : Int32) (uMf : Nat → Int32) (uLn : Int32) (uLf : Nat → Int32) : Nat → Int32 → Int32 → Option (Int32)
  | 0, _, _ => none
  | k + 1, x2, x3 =>
    (fX7_size uLn).bind fun z1 =>
    if z1 ≤ x3 then
      some (x2)
    else
      (fX7_get 40 uMn uMf x3).bind fun z4 =>
      if z4 = x1 then
        (fX7_get 40 uLn uLf x3).bind fun z7 =>
        fX8_sumOf_L4 x1 uMn uMf uLn uLf k (x2 + z7) (x3 + 1)
      else
        fX8_sumOf_L4 x1 uMn uMf uLn uLf k x2 (x3 + 1)
def fX8_sumOf (uMn : Int32) (uMf : Nat → Int32) (uLn : Int32) (uLf : Nat → Int32) (p1 : Int32) : Option (Int32) :=
  fX8_sumOf_L4 p1 uMn uMf uLn uLf FU 0 0
theorem mbX8_sumOf : MV yX8_sumOf cX8_sumOf 4 (some .int) 1 := ⟨⟨q489, q5, by decide +kernel⟩, q487, q488⟩
set_option maxHeartbeats 4000000 in
set_option maxRecDepth 100000 in
theorem tX8_sumOf_L4 {p : Program} {l : Launch} {e : Env} {s : State} {m : MethodId} {args : Array Value} {below : List Frame} {meth : Method} {c : Code} {dC : Nat → ClassId} {dI : Nat → Nat → Nat} {g : Nat → ClassId} {a0 a1 a2 a3 a4 a5 a6 : Nat} {r : Int32} (F : CF p m c cX8_sumOf 4 s args RX8) (hr : meth.sig.returnType = (some .int)) (hlocks : meth.locks = false) (hE : EK dC dI g s) (hX : EXr g s) (x1 : Int32) (uMn : Int32) (uMf : Nat → Int32) (uLn : Int32) (uLf : Nat → Int32) (uTn : Int32) (uTf : Nat → Int32) (hP : va_P (dC, dI) vwCl (wX8 g a0 a1 a2 a3 a4 a5 a6 uMn uMf uLn uLf uTn uTf) s.heap) : ∀ (k : Nat) (x2 : Int32) (x3 : Int32), fX8_sumOf_L4 x1 uMn uMf uLn uLf k x2 x3 = some r → ∀ (ls : Array Slot), lv_has ls 4 [(0, .ref a0), (1, .int x1), (2, .int x2), (3, .int x3)] → W p l e { frames := 1, cells := 0, slots := 0, locals := 21 } s m args below meth c s.heap [] 0 0 (MQ below (fun _ st o t => o = .returned (some (.int r)) ∧ t.heap = st.heap) args s 0 0 (fun _ => False)) (F0 m 4 ls []) := by
  intro k
  induction k with
  | zero =>
    intro x2 x3 h
    exact absurd h (by simp [fX8_sumOf_L4])
  | succ k ih =>
    intro x2 x3 h ls hl
    rw [fX8_sumOf_L4] at h
    refine lv_iload_n F.1 F.2.1 dX8_sumOf_4 rfl (lv_at hl 3 rfl) ?_
    refine lv_aload_n F.1 F.2.1 dX8_sumOf_5 rfl (lv_at hl 0 rfl) ?_
    refine gF (v := .ref a3) F hE hP 0 rfl rfl inX8 1 (by decide) q101 rfl dX8_sumOf_6 ?_
    obtain ⟨z1, k2, h⟩ := bd_ok h
    refine cRV (As := []) (rest := [.int x3]) F hE hX va_S.rf (tX7_size l dC dI g a3 a4 40 uLn uLf k2) mbX7_size q490 ⟨(Nat.le_of_ble_eq_true rfl), (Nat.le_of_ble_eq_true rfl)⟩ ⟨Nat.zero_le _, Nat.zero_le _⟩ hP [3, 4] rfl 3 rfl rfl rfl hl.1 rfl (Nat.le_of_ble_eq_true rfl) dX8_sumOf_9 ?_
    refine lv_icmp_ge (tgt := 44) F.1 F.2.1 dX8_sumOf_12 (by decide) (fun k3 => ?_) (fun k3 => ?_)
    · replace h := it_t k3 h
      refine lv_iload_n F.1 F.2.1 dX8_sumOf_44 rfl (lv_at hl 2 rfl) ?_
      cases h
      exact RO_i F hr hlocks dX8_sumOf_45
    · replace h := it_f k3 h
      refine lv_aload_n F.1 F.2.1 dX8_sumOf_15 rfl (lv_at hl 0 rfl) ?_
      refine gF (v := .ref a1) F hE hP 0 rfl rfl inX8 0 (by decide) q100 rfl dX8_sumOf_16 ?_
      refine lv_iload_n F.1 F.2.1 dX8_sumOf_19 rfl (lv_at hl 3 rfl) ?_
      obtain ⟨z4, k5, h⟩ := bd_ok h
      refine cRV (As := [.int x3]) (rest := []) F hE hX va_S.rf (tX7_get l dC dI g a1 a2 40 uMn uMf x3 k5) mbX7_get q491 ⟨(Nat.le_of_ble_eq_true rfl), (Nat.le_of_ble_eq_true rfl)⟩ ⟨Nat.zero_le _, Nat.zero_le _⟩ hP [1, 2] rfl 1 rfl rfl rfl hl.1 rfl (Nat.le_of_ble_eq_true rfl) dX8_sumOf_20 ?_
      refine lv_iload_n F.1 F.2.1 dX8_sumOf_23 rfl (lv_at hl 1 rfl) ?_
      refine lv_icmp_ne (tgt := 38) F.1 F.2.1 dX8_sumOf_24 (by decide) (fun k6 => ?_) (fun k6 => ?_)
      · replace h := it_f k6 h
        refine lv_iinc (v := x3 + 1) (lv' := [(3, .int (x3 + 1)), (0, .ref a0), (1, .int x1), (2, .int x2)]) F.1 F.2.1 dX8_sumOf_38 hl (k := 3) rfl (by rfl) (by decide) rfl (fun ls hl => ?_)
        refine lv_goto (tgt := 4) F.1 F.2.1 dX8_sumOf_41 (by decide) ?_
        exact ih x2 (x3 + 1) h ls (lv_sub hl [1, 2, 3, 0] rfl)
      · replace h := it_t k6 h
        refine lv_iload_n F.1 F.2.1 dX8_sumOf_27 rfl (lv_at hl 2 rfl) ?_
        refine lv_aload_n F.1 F.2.1 dX8_sumOf_28 rfl (lv_at hl 0 rfl) ?_
        refine gF (v := .ref a3) F hE hP 0 rfl rfl inX8 1 (by decide) q101 rfl dX8_sumOf_29 ?_
        refine lv_iload_n F.1 F.2.1 dX8_sumOf_32 rfl (lv_at hl 3 rfl) ?_
        obtain ⟨z7, k8, h⟩ := bd_ok h
        refine cRV (As := [.int x3]) (rest := [.int x2]) F hE hX va_S.rf (tX7_get l dC dI g a3 a4 40 uLn uLf x3 k8) mbX7_get q491 ⟨(Nat.le_of_ble_eq_true rfl), (Nat.le_of_ble_eq_true rfl)⟩ ⟨Nat.zero_le _, Nat.zero_le _⟩ hP [3, 4] rfl 3 rfl rfl rfl hl.1 rfl (Nat.le_of_ble_eq_true rfl) dX8_sumOf_33 ?_
        refine lv_iadd F.1 F.2.1 dX8_sumOf_36 ?_
        refine lv_istore_n (lv' := [(2, .int (x2 + z7)), (0, .ref a0), (1, .int x1), (3, .int x3)]) F.1 F.2.1 dX8_sumOf_37 rfl hl (by decide) rfl (fun ls hl => ?_)
        refine lv_iinc (v := x3 + 1) (lv' := [(3, .int (x3 + 1)), (2, .int (x2 + z7)), (0, .ref a0), (1, .int x1)]) F.1 F.2.1 dX8_sumOf_38 hl (k := 3) rfl (by rfl) (by decide) rfl (fun ls hl => ?_)
        refine lv_goto (tgt := 4) F.1 F.2.1 dX8_sumOf_41 (by decide) ?_
        exact ih (x2 + z7) (x3 + 1) h ls (lv_sub hl [2, 3, 1, 0] rfl)
set_option maxHeartbeats 4000000 in
set_option maxRecDepth 100000 in
theorem tX8_sumOf (l : Launch) (dC : Nat → ClassId) (dI : Nat → Nat → Nat) (g : Nat → ClassId) (a0 a1 a2 a3 a4 a5 a6 : Nat) (uMn : Int32) (uMf : Nat → Int32) (uLn : Int32) (uLf : Nat → Int32) (uTn : Int32) (uTf : Nat → Int32) (p1 : Int32) {r : Int32} (h : fX8_sumOf uMn uMf uLn uLf p1 = some r) : RO l yX8_sumOf cX8_sumOf 4 (some .int) 1 21 dC dI g [.ref a0, .int p1] (wX8 g a0 a1 a2 a3 a4 a5 a6 uMn uMf uLn uLf uTn uTf) (some (.int r)) := by
  refine RO_of (by decide) (Nat.le_of_ble_eq_true rfl) ?_
  intro p e s m below meth c ls F hr hlocks hE hX hP hl
  replace F : CF p m c cX8_sumOf 4 s _ RX8 := F
  replace hl : lv_has ls 4 [(0, .ref a0), (1, .int p1)] := hl
  rw [fX8_sumOf] at h
  refine lv_iconst (v := 0) F.1 F.2.1 dX8_sumOf_0 (by decide) ?_
  refine lv_istore_n (lv' := [(2, .int 0), (0, .ref a0), (1, .int p1)]) F.1 F.2.1 dX8_sumOf_1 rfl hl (by decide) rfl (fun ls hl => ?_)
  refine lv_iconst (v := 0) F.1 F.2.1 dX8_sumOf_2 (by decide) ?_
  refine lv_istore_n (lv' := [(3, .int 0), (2, .int 0), (0, .ref a0), (1, .int p1)]) F.1 F.2.1 dX8_sumOf_3 rfl hl (by decide) rfl (fun ls hl => ?_)
  exact tX8_sumOf_L4 F hr hlocks hE hX p1 uMn uMf uLn uLf uTn uTf hP FU 0 0 h ls (lv_sub hl [2, 3, 1, 0] rfl)
/-! WireCutter$Scraps.indexOfRank -/
def fX8_indexOfRank_L5 (x1 : Int32) (x2 : Int32) (uMn : Int32) (uMf : Nat → Int32) (uLn : Int32) : Nat → Int32 → Int32 → Option (Int32)
  | 0, _, _ => none
  | k + 1, x3, x4 =>
    (fX7_size uLn).bind fun z1 =>
    if z1 ≤ x4 then
      some ((-1))
    else
      (fX7_get 40 uMn uMf x4).bind fun z4 =>
      if z4 = x1 then
        if x3 = x2 then
          some (x4)
        else
          fX8_indexOfRank_L5 x1 x2 uMn uMf uLn k (x3 + 1) (x4 + 1)
      else
        fX8_indexOfRank_L5 x1 x2 uMn uMf uLn k x3 (x4 + 1)
def fX8_indexOfRank (uMn : Int32) (uMf : Nat → Int32) (uLn : Int32) (p1 : Int32) (p2 : Int32) : Option (Int32) :=
  fX8_indexOfRank_L5 p1 p2 uMn uMf uLn FU 0 0
theorem mbX8_indexOfRank : MV yX8_indexOfRank cX8_indexOfRank 5 (some .int) 2 := ⟨⟨q1299, q5, by decide +kernel⟩, q1297, q1298⟩
set_option maxHeartbeats 4000000 in
set_option maxRecDepth 100000 in
theorem tX8_indexOfRank_L5 {p : Program} {l : Launch} {e : Env} {s : State} {m : MethodId} {args : Array Value} {below : List Frame} {meth : Method} {c : Code} {dC : Nat → ClassId} {dI : Nat → Nat → Nat} {g : Nat → ClassId} {a0 a1 a2 a3 a4 a5 a6 : Nat} {r : Int32} (F : CF p m c cX8_indexOfRank 5 s args RX8) (hr : meth.sig.returnType = (some .int)) (hlocks : meth.locks = false) (hE : EK dC dI g s) (hX : EXr g s) (x1 : Int32) (x2 : Int32) (uMn : Int32) (uMf : Nat → Int32) (uLn : Int32) (uLf : Nat → Int32) (uTn : Int32) (uTf : Nat → Int32) (hP : va_P (dC, dI) vwCl (wX8 g a0 a1 a2 a3 a4 a5 a6 uMn uMf uLn uLf uTn uTf) s.heap) : ∀ (k : Nat) (x3 : Int32) (x4 : Int32), fX8_indexOfRank_L5 x1 x2 uMn uMf uLn k x3 x4 = some r → ∀ (ls : Array Slot), lv_has ls 5 [(0, .ref a0), (1, .int x1), (2, .int x2), (3, .int x3), (4, .int x4)] → W p l e { frames := 1, cells := 0, slots := 0, locals := 21 } s m args below meth c s.heap [] 0 0 (MQ below (fun _ st o t => o = .returned (some (.int r)) ∧ t.heap = st.heap) args s 0 0 (fun _ => False)) (F0 m 5 ls []) := by
  intro k
  induction k with
  | zero =>
    intro x3 x4 h
    exact absurd h (by simp [fX8_indexOfRank_L5])
  | succ k ih =>
    intro x3 x4 h ls hl
    rw [fX8_indexOfRank_L5] at h
    refine lv_iload F.1 F.2.1 dX8_indexOfRank_5 (lv_at hl 4 rfl) ?_
    refine lv_aload_n F.1 F.2.1 dX8_indexOfRank_7 rfl (lv_at hl 0 rfl) ?_
    refine gF (v := .ref a3) F hE hP 0 rfl rfl inX8 1 (by decide) q101 rfl dX8_indexOfRank_8 ?_
    obtain ⟨z1, k2, h⟩ := bd_ok h
    refine cRV (As := []) (rest := [.int x4]) F hE hX va_S.rf (tX7_size l dC dI g a3 a4 40 uLn uLf k2) mbX7_size q490 ⟨(Nat.le_of_ble_eq_true rfl), (Nat.le_of_ble_eq_true rfl)⟩ ⟨Nat.zero_le _, Nat.zero_le _⟩ hP [3, 4] rfl 3 rfl rfl rfl hl.1 rfl (Nat.le_of_ble_eq_true rfl) dX8_indexOfRank_11 ?_
    refine lv_icmp_ge (tgt := 47) F.1 F.2.1 dX8_indexOfRank_14 (by decide) (fun k3 => ?_) (fun k3 => ?_)
    · replace h := it_t k3 h
      refine lv_iconst (v := (-1)) F.1 F.2.1 dX8_indexOfRank_47 (by decide) ?_
      cases h
      exact RO_i F hr hlocks dX8_indexOfRank_48
    · replace h := it_f k3 h
      refine lv_aload_n F.1 F.2.1 dX8_indexOfRank_17 rfl (lv_at hl 0 rfl) ?_
      refine gF (v := .ref a1) F hE hP 0 rfl rfl inX8 0 (by decide) q100 rfl dX8_indexOfRank_18 ?_
      refine lv_iload F.1 F.2.1 dX8_indexOfRank_21 (lv_at hl 4 rfl) ?_
      obtain ⟨z4, k5, h⟩ := bd_ok h
      refine cRV (As := [.int x4]) (rest := []) F hE hX va_S.rf (tX7_get l dC dI g a1 a2 40 uMn uMf x4 k5) mbX7_get q491 ⟨(Nat.le_of_ble_eq_true rfl), (Nat.le_of_ble_eq_true rfl)⟩ ⟨Nat.zero_le _, Nat.zero_le _⟩ hP [1, 2] rfl 1 rfl rfl rfl hl.1 rfl (Nat.le_of_ble_eq_true rfl) dX8_indexOfRank_23 ?_
      refine lv_iload_n F.1 F.2.1 dX8_indexOfRank_26 rfl (lv_at hl 1 rfl) ?_
      refine lv_icmp_ne (tgt := 41) F.1 F.2.1 dX8_indexOfRank_27 (by decide) (fun k6 => ?_) (fun k6 => ?_)
      · replace h := it_f k6 h
        refine lv_iinc (v := x4 + 1) (lv' := [(4, .int (x4 + 1)), (0, .ref a0), (1, .int x1), (2, .int x2), (3, .int x3)]) F.1 F.2.1 dX8_indexOfRank_41 hl (k := 4) rfl (by rfl) (by decide) rfl (fun ls hl => ?_)
        refine lv_goto (tgt := 5) F.1 F.2.1 dX8_indexOfRank_44 (by decide) ?_
        exact ih x3 (x4 + 1) h ls (lv_sub hl [1, 2, 3, 4, 0] rfl)
      · replace h := it_t k6 h
        refine lv_iload_n F.1 F.2.1 dX8_indexOfRank_30 rfl (lv_at hl 3 rfl) ?_
        refine lv_iload_n F.1 F.2.1 dX8_indexOfRank_31 rfl (lv_at hl 2 rfl) ?_
        refine lv_icmp_ne (tgt := 38) F.1 F.2.1 dX8_indexOfRank_32 (by decide) (fun k7 => ?_) (fun k7 => ?_)
        · replace h := it_f k7 h
          refine lv_iinc (v := x3 + 1) (lv' := [(3, .int (x3 + 1)), (0, .ref a0), (1, .int x1), (2, .int x2), (4, .int x4)]) F.1 F.2.1 dX8_indexOfRank_38 hl (k := 3) rfl (by rfl) (by decide) rfl (fun ls hl => ?_)
          refine lv_iinc (v := x4 + 1) (lv' := [(4, .int (x4 + 1)), (3, .int (x3 + 1)), (0, .ref a0), (1, .int x1), (2, .int x2)]) F.1 F.2.1 dX8_indexOfRank_41 hl (k := 4) rfl (by rfl) (by decide) rfl (fun ls hl => ?_)
          refine lv_goto (tgt := 5) F.1 F.2.1 dX8_indexOfRank_44 (by decide) ?_
          exact ih (x3 + 1) (x4 + 1) h ls (lv_sub hl [2, 3, 4, 1, 0] rfl)
        · replace h := it_t k7 h
          refine lv_iload F.1 F.2.1 dX8_indexOfRank_35 (lv_at hl 4 rfl) ?_
          cases h
          exact RO_i F hr hlocks dX8_indexOfRank_37
set_option maxHeartbeats 4000000 in
set_option maxRecDepth 100000 in
theorem tX8_indexOfRank (l : Launch) (dC : Nat → ClassId) (dI : Nat → Nat → Nat) (g : Nat → ClassId) (a0 a1 a2 a3 a4 a5 a6 : Nat) (uMn : Int32) (uMf : Nat → Int32) (uLn : Int32) (uLf : Nat → Int32) (uTn : Int32) (uTf : Nat → Int32) (p1 : Int32) (p2 : Int32) {r : Int32} (h : fX8_indexOfRank uMn uMf uLn p1 p2 = some r) : RO l yX8_indexOfRank cX8_indexOfRank 5 (some .int) 1 21 dC dI g [.ref a0, .int p1, .int p2] (wX8 g a0 a1 a2 a3 a4 a5 a6 uMn uMf uLn uLf uTn uTf) (some (.int r)) := by
  refine RO_of (by decide) (Nat.le_of_ble_eq_true rfl) ?_
  intro p e s m below meth c ls F hr hlocks hE hX hP hl
  replace F : CF p m c cX8_indexOfRank 5 s _ RX8 := F
  replace hl : lv_has ls 5 [(0, .ref a0), (1, .int p1), (2, .int p2)] := hl
  rw [fX8_indexOfRank] at h
  refine lv_iconst (v := 0) F.1 F.2.1 dX8_indexOfRank_0 (by decide) ?_
  refine lv_istore_n (lv' := [(3, .int 0), (0, .ref a0), (1, .int p1), (2, .int p2)]) F.1 F.2.1 dX8_indexOfRank_1 rfl hl (by decide) rfl (fun ls hl => ?_)
  refine lv_iconst (v := 0) F.1 F.2.1 dX8_indexOfRank_2 (by decide) ?_
  refine lv_istore (lv' := [(4, .int 0), (3, .int 0), (0, .ref a0), (1, .int p1), (2, .int p2)]) F.1 F.2.1 dX8_indexOfRank_3 hl (by decide) rfl (fun ls hl => ?_)
  exact tX8_indexOfRank_L5 F hr hlocks hE hX p1 p2 uMn uMf uLn uLf uTn uTf hP FU 0 0 h ls (lv_sub hl [2, 3, 4, 1, 0] rfl)
/-! WireCutter$Scraps.shortestFor -/
def fX8_shortestFor_L2 (x1 : Int32) (x2 : Int32) (uMn : Int32) (uMf : Nat → Int32) (uLn : Int32) (uLf : Nat → Int32) : Nat → Int32 → Option (Int32)
  | 0, _ => none
  | k + 1, x3 =>
    (fX7_size uLn).bind fun z1 =>
    if z1 ≤ x3 then
      some ((-1))
    else
      (fX7_get 40 uMn uMf x3).bind fun z4 =>
      if z4 = x1 then
        (fX7_get 40 uLn uLf x3).bind fun z7 =>
        if z7 < x2 then
          fX8_shortestFor_L2 x1 x2 uMn uMf uLn uLf k (x3 + 1)
        else
          some (x3)
      else
        fX8_shortestFor_L2 x1 x2 uMn uMf uLn uLf k (x3 + 1)
def fX8_shortestFor (uMn : Int32) (uMf : Nat → Int32) (uLn : Int32) (uLf : Nat → Int32) (p1 : Int32) (p2 : Int32) : Option (Int32) :=
  fX8_shortestFor_L2 p1 p2 uMn uMf uLn uLf FU 0
theorem mbX8_shortestFor : MV yX8_shortestFor cX8_shortestFor 4 (some .int) 2 := ⟨⟨q1117, q5, by decide +kernel⟩, q1115, q1116⟩
set_option maxHeartbeats 4000000 in
set_option maxRecDepth 100000 in
theorem tX8_shortestFor_L2 {p : Program} {l : Launch} {e : Env} {s : State} {m : MethodId} {args : Array Value} {below : List Frame} {meth : Method} {c : Code} {dC : Nat → ClassId} {dI : Nat → Nat → Nat} {g : Nat → ClassId} {a0 a1 a2 a3 a4 a5 a6 : Nat} {r : Int32} (F : CF p m c cX8_shortestFor 4 s args RX8) (hr : meth.sig.returnType = (some .int)) (hlocks : meth.locks = false) (hE : EK dC dI g s) (hX : EXr g s) (x1 : Int32) (x2 : Int32) (uMn : Int32) (uMf : Nat → Int32) (uLn : Int32) (uLf : Nat → Int32) (uTn : Int32) (uTf : Nat → Int32) (hP : va_P (dC, dI) vwCl (wX8 g a0 a1 a2 a3 a4 a5 a6 uMn uMf uLn uLf uTn uTf) s.heap) : ∀ (k : Nat) (x3 : Int32), fX8_shortestFor_L2 x1 x2 uMn uMf uLn uLf k x3 = some r → ∀ (ls : Array Slot), lv_has ls 4 [(0, .ref a0), (1, .int x1), (2, .int x2), (3, .int x3)] → W p l e { frames := 1, cells := 0, slots := 0, locals := 21 } s m args below meth c s.heap [] 0 0 (MQ below (fun _ st o t => o = .returned (some (.int r)) ∧ t.heap = st.heap) args s 0 0 (fun _ => False)) (F0 m 2 ls []) := by
  intro k
  induction k with
  | zero =>
    intro x3 h
    exact absurd h (by simp [fX8_shortestFor_L2])
  | succ k ih =>
    intro x3 h ls hl
    rw [fX8_shortestFor_L2] at h
    refine lv_iload_n F.1 F.2.1 dX8_shortestFor_2 rfl (lv_at hl 3 rfl) ?_
    refine lv_aload_n F.1 F.2.1 dX8_shortestFor_3 rfl (lv_at hl 0 rfl) ?_
    refine gF (v := .ref a3) F hE hP 0 rfl rfl inX8 1 (by decide) q101 rfl dX8_shortestFor_4 ?_
    obtain ⟨z1, k2, h⟩ := bd_ok h
    refine cRV (As := []) (rest := [.int x3]) F hE hX va_S.rf (tX7_size l dC dI g a3 a4 40 uLn uLf k2) mbX7_size q490 ⟨(Nat.le_of_ble_eq_true rfl), (Nat.le_of_ble_eq_true rfl)⟩ ⟨Nat.zero_le _, Nat.zero_le _⟩ hP [3, 4] rfl 3 rfl rfl rfl hl.1 rfl (Nat.le_of_ble_eq_true rfl) dX8_shortestFor_7 ?_
    refine lv_icmp_ge (tgt := 45) F.1 F.2.1 dX8_shortestFor_10 (by decide) (fun k3 => ?_) (fun k3 => ?_)
    · replace h := it_t k3 h
      refine lv_iconst (v := (-1)) F.1 F.2.1 dX8_shortestFor_45 (by decide) ?_
      cases h
      exact RO_i F hr hlocks dX8_shortestFor_46
    · replace h := it_f k3 h
      refine lv_aload_n F.1 F.2.1 dX8_shortestFor_13 rfl (lv_at hl 0 rfl) ?_
      refine gF (v := .ref a1) F hE hP 0 rfl rfl inX8 0 (by decide) q100 rfl dX8_shortestFor_14 ?_
      refine lv_iload_n F.1 F.2.1 dX8_shortestFor_17 rfl (lv_at hl 3 rfl) ?_
      obtain ⟨z4, k5, h⟩ := bd_ok h
      refine cRV (As := [.int x3]) (rest := []) F hE hX va_S.rf (tX7_get l dC dI g a1 a2 40 uMn uMf x3 k5) mbX7_get q491 ⟨(Nat.le_of_ble_eq_true rfl), (Nat.le_of_ble_eq_true rfl)⟩ ⟨Nat.zero_le _, Nat.zero_le _⟩ hP [1, 2] rfl 1 rfl rfl rfl hl.1 rfl (Nat.le_of_ble_eq_true rfl) dX8_shortestFor_18 ?_
      refine lv_iload_n F.1 F.2.1 dX8_shortestFor_21 rfl (lv_at hl 1 rfl) ?_
      refine lv_icmp_ne (tgt := 39) F.1 F.2.1 dX8_shortestFor_22 (by decide) (fun k6 => ?_) (fun k6 => ?_)
      · replace h := it_f k6 h
        refine lv_iinc (v := x3 + 1) (lv' := [(3, .int (x3 + 1)), (0, .ref a0), (1, .int x1), (2, .int x2)]) F.1 F.2.1 dX8_shortestFor_39 hl (k := 3) rfl (by rfl) (by decide) rfl (fun ls hl => ?_)
        refine lv_goto (tgt := 2) F.1 F.2.1 dX8_shortestFor_42 (by decide) ?_
        exact ih (x3 + 1) h ls (lv_sub hl [1, 2, 3, 0] rfl)
      · replace h := it_t k6 h
        refine lv_aload_n F.1 F.2.1 dX8_shortestFor_25 rfl (lv_at hl 0 rfl) ?_
        refine gF (v := .ref a3) F hE hP 0 rfl rfl inX8 1 (by decide) q101 rfl dX8_shortestFor_26 ?_
        refine lv_iload_n F.1 F.2.1 dX8_shortestFor_29 rfl (lv_at hl 3 rfl) ?_
        obtain ⟨z7, k8, h⟩ := bd_ok h
        refine cRV (As := [.int x3]) (rest := []) F hE hX va_S.rf (tX7_get l dC dI g a3 a4 40 uLn uLf x3 k8) mbX7_get q491 ⟨(Nat.le_of_ble_eq_true rfl), (Nat.le_of_ble_eq_true rfl)⟩ ⟨Nat.zero_le _, Nat.zero_le _⟩ hP [3, 4] rfl 3 rfl rfl rfl hl.1 rfl (Nat.le_of_ble_eq_true rfl) dX8_shortestFor_30 ?_
        refine lv_iload_n F.1 F.2.1 dX8_shortestFor_33 rfl (lv_at hl 2 rfl) ?_
        refine lv_icmp_lt (tgt := 39) F.1 F.2.1 dX8_shortestFor_34 (by decide) (fun k9 => ?_) (fun k9 => ?_)
        · replace h := it_t k9 h
          refine lv_iinc (v := x3 + 1) (lv' := [(3, .int (x3 + 1)), (0, .ref a0), (1, .int x1), (2, .int x2)]) F.1 F.2.1 dX8_shortestFor_39 hl (k := 3) rfl (by rfl) (by decide) rfl (fun ls hl => ?_)
          refine lv_goto (tgt := 2) F.1 F.2.1 dX8_shortestFor_42 (by decide) ?_
          exact ih (x3 + 1) h ls (lv_sub hl [1, 2, 3, 0] rfl)
        · replace h := it_f k9 h
          refine lv_iload_n F.1 F.2.1 dX8_shortestFor_37 rfl (lv_at hl 3 rfl) ?_
          cases h
          exact RO_i F hr hlocks dX8_shortestFor_38
set_option maxHeartbeats 4000000 in
set_option maxRecDepth 100000 in
theorem tX8_shortestFor (l : Launch) (dC : Nat → ClassId) (dI : Nat → Nat → Nat) (g : Nat → ClassId) (a0 a1 a2 a3 a4 a5 a6 : Nat) (uMn : Int32) (uMf : Nat → Int32) (uLn : Int32) (uLf : Nat → Int32) (uTn : Int32) (uTf : Nat → Int32) (p1 : Int32) (p2 : Int32) {r : Int32} (h : fX8_shortestFor uMn uMf uLn uLf p1 p2 = some r) : RO l yX8_shortestFor cX8_shortestFor 4 (some .int) 1 21 dC dI g [.ref a0, .int p1, .int p2] (wX8 g a0 a1 a2 a3 a4 a5 a6 uMn uMf uLn uLf uTn uTf) (some (.int r)) := by
  refine RO_of (by decide) (Nat.le_of_ble_eq_true rfl) ?_
  intro p e s m below meth c ls F hr hlocks hE hX hP hl
  replace F : CF p m c cX8_shortestFor 4 s _ RX8 := F
  replace hl : lv_has ls 4 [(0, .ref a0), (1, .int p1), (2, .int p2)] := hl
  rw [fX8_shortestFor] at h
  refine lv_iconst (v := 0) F.1 F.2.1 dX8_shortestFor_0 (by decide) ?_
  refine lv_istore_n (lv' := [(3, .int 0), (0, .ref a0), (1, .int p1), (2, .int p2)]) F.1 F.2.1 dX8_shortestFor_1 rfl hl (by decide) rfl (fun ls hl => ?_)
  exact tX8_shortestFor_L2 F hr hlocks hE hX p1 p2 uMn uMf uLn uLf uTn uTf hP FU 0 h ls (lv_sub hl [1, 2, 3, 0] rfl)
/-! WireCutter$Scraps.keepOrThrow -/
def fX8_keepOrThrow_L27 (x1 : Int32) (x2 : Int32) (uMn : Int32) (uMf : Nat → Int32) (uLn : Int32) (uLf : Nat → Int32) (uTf : Nat → Int32) : Nat → Int32 → Option (Int32 × (Nat → Int32) × Int32 × (Nat → Int32) × (Nat → Int32))
  | 0, _ => none
  | k + 1, x3 =>
    (fX7_size uLn).bind fun z4 =>
    if z4 ≤ x3 then
      (fX7_insert 40 uMn uMf x3 x1).bind fun z7 =>
      (fX7_insert 40 uLn uLf x3 x2).bind fun z9 =>
      some (z7.1, z7.2, z9.1, z9.2, uTf)
    else
      (fX7_get 40 uLn uLf x3).bind fun z11 =>
      if x2 ≤ z11 then
        (fX7_insert 40 uMn uMf x3 x1).bind fun z14 =>
        (fX7_insert 40 uLn uLf x3 x2).bind fun z16 =>
        some (z14.1, z14.2, z16.1, z16.2, uTf)
      else
        fX8_keepOrThrow_L27 x1 x2 uMn uMf uLn uLf uTf k (x3 + 1)
def fX8_keepOrThrow (uMn : Int32) (uMf : Nat → Int32) (uLn : Int32) (uLf : Nat → Int32) (uTn : Int32) (uTf : Nat → Int32) (p1 : Int32) (p2 : Int32) : Option (Int32 × (Nat → Int32) × Int32 × (Nat → Int32) × (Nat → Int32)) :=
  (fX7_size uLn).bind fun z1 =>
  if z1 < 40 then
    fX8_keepOrThrow_L27 p1 p2 uMn uMf uLn uLf uTf FU 0
  else
    (fX12_placeOf p1).bind fun z18 =>
    (fX7_increase 6 uTn uTf z18 p2).bind fun z20 =>
    some (uMn, uMf, uLn, uLf, z20)
theorem mbX8_keepOrThrow : MV yX8_keepOrThrow cX8_keepOrThrow 4 none 2 := ⟨⟨q1017, q5, by decide +kernel⟩, q1015, q1016⟩
set_option maxHeartbeats 4000000 in
set_option maxRecDepth 100000 in
theorem tX8_keepOrThrow_L27 {p : Program} {l : Launch} {e : Env} {s : State} {m : MethodId} {args : Array Value} {below : List Frame} {meth : Method} {c : Code} {dC : Nat → ClassId} {dI : Nat → Nat → Nat} {g : Nat → ClassId} {a0 a1 a2 a3 a4 a5 a6 : Nat} {r : Int32 × (Nat → Int32) × Int32 × (Nat → Int32) × (Nat → Int32)} {A : Nat → Prop} (F : CF p m c cX8_keepOrThrow 4 s args RX8) (hr : meth.sig.returnType = none) (hlocks : meth.locks = false) (hE : EK dC dI g s) (hX : EX g A s s.heap) (hA : ∀ q : Nat, s.heap.size ≤ q → A q) (x1 : Int32) (x2 : Int32) (uMn : Int32) (uMf : Nat → Int32) (uLn : Int32) (uLf : Nat → Int32) (uTn : Int32) (uTf : Nat → Int32) : ∀ (k : Nat) (x3 : Int32), fX8_keepOrThrow_L27 x1 x2 uMn uMf uLn uLf uTf k x3 = some r → ∀ (H : Heap) (locs : List Loc), va_P (dC, dI) vwCl (wX8 g a0 a1 a2 a3 a4 a5 a6 uMn uMf uLn uLf uTn uTf) H → va_D A (wX8 g a0 a1 a2 a3 a4 a5 a6 uMn uMf uLn uLf uTn uTf) → va_S A s.heap H locs → ∀ (ls : Array Slot), lv_has ls 4 [(0, .ref a0), (1, .int x1), (2, .int x2), (3, .int x3)] → W p l e { frames := 1, cells := 0, slots := 0, locals := 23 } s m args below meth c H locs 0 0 (MQ below (fun _ st o t => o = .returned none ∧ va_P (dC, dI) vwCl (wX8 g a0 a1 a2 a3 a4 a5 a6 r.1 r.2.1 r.2.2.1 r.2.2.2.1 uTn r.2.2.2.2) t.heap ∧ va_F A st t) args s 0 0 A) (F0 m 27 ls []) := by
  intro k
  induction k with
  | zero =>
    intro x3 h
    exact absurd h (by simp [fX8_keepOrThrow_L27])
  | succ k ih =>
    intro x3 h H locs hP hD hS ls hl
    rw [fX8_keepOrThrow_L27] at h
    refine lv_iload_n F.1 F.2.1 dX8_keepOrThrow_27 rfl (lv_at hl 3 rfl) ?_
    refine lv_aload_n F.1 F.2.1 dX8_keepOrThrow_28 rfl (lv_at hl 0 rfl) ?_
    refine gF (v := .ref a3) F hE hP 0 rfl rfl inX8 1 (by decide) q101 rfl dX8_keepOrThrow_29 ?_
    obtain ⟨z4, k5, h⟩ := bd_ok h
    refine cRV (As := []) (rest := [.int x3]) F hE hX hS (tX7_size l dC dI g a3 a4 40 uLn uLf k5) mbX7_size q490 ⟨(Nat.le_of_ble_eq_true rfl), (Nat.le_of_ble_eq_true rfl)⟩ ⟨Nat.zero_le _, Nat.zero_le _⟩ hP [3, 4] rfl 3 rfl rfl rfl hl.1 rfl (Nat.le_of_ble_eq_true rfl) dX8_keepOrThrow_32 ?_
    refine lv_icmp_ge (tgt := 56) F.1 F.2.1 dX8_keepOrThrow_35 (by decide) (fun k6 => ?_) (fun k6 => ?_)
    · replace h := it_t k6 h
      refine lv_aload_n F.1 F.2.1 dX8_keepOrThrow_56 rfl (lv_at hl 0 rfl) ?_
      refine gF (v := .ref a1) F hE hP 0 rfl rfl inX8 0 (by decide) q100 rfl dX8_keepOrThrow_57 ?_
      refine lv_iload_n F.1 F.2.1 dX8_keepOrThrow_60 rfl (lv_at hl 3 rfl) ?_
      refine lv_iload_n F.1 F.2.1 dX8_keepOrThrow_61 rfl (lv_at hl 1 rfl) ?_
      obtain ⟨z7, k8, h⟩ := bd_ok h
      refine cMV (As := [.int x3, .int x1]) (rest := []) (ws' := wX8 g a0 a1 a2 a3 a4 a5 a6 z7.1 z7.2 uLn uLf uTn uTf) F hE hX (tX7_insert l dC dI g a1 a2 40 uMn uMf x3 x1 k8) mbX7_insert q1019 ⟨(Nat.le_of_ble_eq_true rfl), (Nat.le_of_ble_eq_true rfl)⟩ ⟨(Nat.le_of_ble_eq_true rfl), (Nat.le_of_ble_eq_true rfl)⟩ hP hD hS hA [1, 2] rfl rfl rfl rfl rfl 1 rfl rfl rfl hl.1 rfl (Nat.le_of_ble_eq_true rfl) dX8_keepOrThrow_62 (fun H locs hP hD hS => ?_)
      refine lv_aload_n F.1 F.2.1 dX8_keepOrThrow_65 rfl (lv_at hl 0 rfl) ?_
      refine gF (v := .ref a3) F hE hP 0 rfl rfl inX8 1 (by decide) q101 rfl dX8_keepOrThrow_66 ?_
      refine lv_iload_n F.1 F.2.1 dX8_keepOrThrow_69 rfl (lv_at hl 3 rfl) ?_
      refine lv_iload_n F.1 F.2.1 dX8_keepOrThrow_70 rfl (lv_at hl 2 rfl) ?_
      obtain ⟨z9, k10, h⟩ := bd_ok h
      refine cMV (As := [.int x3, .int x2]) (rest := []) (ws' := wX8 g a0 a1 a2 a3 a4 a5 a6 z7.1 z7.2 z9.1 z9.2 uTn uTf) F hE hX (tX7_insert l dC dI g a3 a4 40 uLn uLf x3 x2 k10) mbX7_insert q1019 ⟨(Nat.le_of_ble_eq_true rfl), (Nat.le_of_ble_eq_true rfl)⟩ ⟨(Nat.le_of_ble_eq_true rfl), (Nat.le_of_ble_eq_true rfl)⟩ hP hD hS hA [3, 4] rfl rfl rfl rfl rfl 3 rfl rfl rfl hl.1 rfl (Nat.le_of_ble_eq_true rfl) dX8_keepOrThrow_71 (fun H locs hP hD hS => ?_)
      cases h
      exact MU_v F hr hlocks (Nat.le_refl _) (Nat.le_refl _) hP hS dX8_keepOrThrow_74
    · replace h := it_f k6 h
      refine lv_aload_n F.1 F.2.1 dX8_keepOrThrow_38 rfl (lv_at hl 0 rfl) ?_
      refine gF (v := .ref a3) F hE hP 0 rfl rfl inX8 1 (by decide) q101 rfl dX8_keepOrThrow_39 ?_
      refine lv_iload_n F.1 F.2.1 dX8_keepOrThrow_42 rfl (lv_at hl 3 rfl) ?_
      obtain ⟨z11, k12, h⟩ := bd_ok h
      refine cRV (As := [.int x3]) (rest := []) F hE hX hS (tX7_get l dC dI g a3 a4 40 uLn uLf x3 k12) mbX7_get q491 ⟨(Nat.le_of_ble_eq_true rfl), (Nat.le_of_ble_eq_true rfl)⟩ ⟨Nat.zero_le _, Nat.zero_le _⟩ hP [3, 4] rfl 3 rfl rfl rfl hl.1 rfl (Nat.le_of_ble_eq_true rfl) dX8_keepOrThrow_43 ?_
      refine lv_iload_n F.1 F.2.1 dX8_keepOrThrow_46 rfl (lv_at hl 2 rfl) ?_
      refine lv_icmp_ge (tgt := 56) F.1 F.2.1 dX8_keepOrThrow_47 (by decide) (fun k13 => ?_) (fun k13 => ?_)
      · replace h := it_t k13 h
        refine lv_aload_n F.1 F.2.1 dX8_keepOrThrow_56 rfl (lv_at hl 0 rfl) ?_
        refine gF (v := .ref a1) F hE hP 0 rfl rfl inX8 0 (by decide) q100 rfl dX8_keepOrThrow_57 ?_
        refine lv_iload_n F.1 F.2.1 dX8_keepOrThrow_60 rfl (lv_at hl 3 rfl) ?_
        refine lv_iload_n F.1 F.2.1 dX8_keepOrThrow_61 rfl (lv_at hl 1 rfl) ?_
        obtain ⟨z14, k15, h⟩ := bd_ok h
        refine cMV (As := [.int x3, .int x1]) (rest := []) (ws' := wX8 g a0 a1 a2 a3 a4 a5 a6 z14.1 z14.2 uLn uLf uTn uTf) F hE hX (tX7_insert l dC dI g a1 a2 40 uMn uMf x3 x1 k15) mbX7_insert q1019 ⟨(Nat.le_of_ble_eq_true rfl), (Nat.le_of_ble_eq_true rfl)⟩ ⟨(Nat.le_of_ble_eq_true rfl), (Nat.le_of_ble_eq_true rfl)⟩ hP hD hS hA [1, 2] rfl rfl rfl rfl rfl 1 rfl rfl rfl hl.1 rfl (Nat.le_of_ble_eq_true rfl) dX8_keepOrThrow_62 (fun H locs hP hD hS => ?_)
        refine lv_aload_n F.1 F.2.1 dX8_keepOrThrow_65 rfl (lv_at hl 0 rfl) ?_
        refine gF (v := .ref a3) F hE hP 0 rfl rfl inX8 1 (by decide) q101 rfl dX8_keepOrThrow_66 ?_
        refine lv_iload_n F.1 F.2.1 dX8_keepOrThrow_69 rfl (lv_at hl 3 rfl) ?_
        refine lv_iload_n F.1 F.2.1 dX8_keepOrThrow_70 rfl (lv_at hl 2 rfl) ?_
        obtain ⟨z16, k17, h⟩ := bd_ok h
        refine cMV (As := [.int x3, .int x2]) (rest := []) (ws' := wX8 g a0 a1 a2 a3 a4 a5 a6 z14.1 z14.2 z16.1 z16.2 uTn uTf) F hE hX (tX7_insert l dC dI g a3 a4 40 uLn uLf x3 x2 k17) mbX7_insert q1019 ⟨(Nat.le_of_ble_eq_true rfl), (Nat.le_of_ble_eq_true rfl)⟩ ⟨(Nat.le_of_ble_eq_true rfl), (Nat.le_of_ble_eq_true rfl)⟩ hP hD hS hA [3, 4] rfl rfl rfl rfl rfl 3 rfl rfl rfl hl.1 rfl (Nat.le_of_ble_eq_true rfl) dX8_keepOrThrow_71 (fun H locs hP hD hS => ?_)
        cases h
        exact MU_v F hr hlocks (Nat.le_refl _) (Nat.le_refl _) hP hS dX8_keepOrThrow_74
      · replace h := it_f k13 h
        refine lv_iinc (v := x3 + 1) (lv' := [(3, .int (x3 + 1)), (0, .ref a0), (1, .int x1), (2, .int x2)]) F.1 F.2.1 dX8_keepOrThrow_50 hl (k := 3) rfl (by rfl) (by decide) rfl (fun ls hl => ?_)
        refine lv_goto (tgt := 27) F.1 F.2.1 dX8_keepOrThrow_53 (by decide) ?_
        exact ih (x3 + 1) h _ _ hP hD hS ls (lv_sub hl [1, 2, 3, 0] rfl)
set_option maxHeartbeats 4000000 in
set_option maxRecDepth 100000 in
theorem tX8_keepOrThrow (l : Launch) (dC : Nat → ClassId) (dI : Nat → Nat → Nat) (g : Nat → ClassId) (a0 a1 a2 a3 a4 a5 a6 : Nat) (uMn : Int32) (uMf : Nat → Int32) (uLn : Int32) (uLf : Nat → Int32) (uTn : Int32) (uTf : Nat → Int32) (p1 : Int32) (p2 : Int32) {r : Int32 × (Nat → Int32) × Int32 × (Nat → Int32) × (Nat → Int32)} (h : fX8_keepOrThrow uMn uMf uLn uLf uTn uTf p1 p2 = some r) : MU l yX8_keepOrThrow cX8_keepOrThrow 4 none 1 23 0 0 dC dI g [.ref a0, .int p1, .int p2] (wX8 g a0 a1 a2 a3 a4 a5 a6 uMn uMf uLn uLf uTn uTf) (wX8 g a0 a1 a2 a3 a4 a5 a6 r.1 r.2.1 r.2.2.1 r.2.2.2.1 uTn r.2.2.2.2) none := by
  refine MU_of (by decide) (Nat.le_of_ble_eq_true rfl) ?_
  intro p e s m below meth c ls F hr hlocks hE hX hA hP hD hS hl
  generalize va_A (wX8 g a0 a1 a2 a3 a4 a5 a6 uMn uMf uLn uLf uTn uTf) s.heap.size = A at hA hD hS hX ⊢
  replace F : CF p m c cX8_keepOrThrow 4 s _ RX8 := F
  replace hl : lv_has ls 4 [(0, .ref a0), (1, .int p1), (2, .int p2)] := hl
  rw [fX8_keepOrThrow] at h
  refine lv_aload_n F.1 F.2.1 dX8_keepOrThrow_0 rfl (lv_at hl 0 rfl) ?_
  refine gF (v := .ref a3) F hE hP 0 rfl rfl inX8 1 (by decide) q101 rfl dX8_keepOrThrow_1 ?_
  obtain ⟨z1, k2, h⟩ := bd_ok h
  refine cRV (As := []) (rest := []) F hE hX hS (tX7_size l dC dI g a3 a4 40 uLn uLf k2) mbX7_size q490 ⟨(Nat.le_of_ble_eq_true rfl), (Nat.le_of_ble_eq_true rfl)⟩ ⟨Nat.zero_le _, Nat.zero_le _⟩ hP [3, 4] rfl 3 rfl rfl rfl hl.1 rfl (Nat.le_of_ble_eq_true rfl) dX8_keepOrThrow_4 ?_
  refine lv_bipush (v := 40) F.1 F.2.1 dX8_keepOrThrow_7 (by decide) ?_
  refine lv_icmp_lt (tgt := 25) F.1 F.2.1 dX8_keepOrThrow_9 (by decide) (fun k3 => ?_) (fun k3 => ?_)
  · replace h := it_t k3 h
    refine lv_iconst (v := 0) F.1 F.2.1 dX8_keepOrThrow_25 (by decide) ?_
    refine lv_istore_n (lv' := [(3, .int 0), (0, .ref a0), (1, .int p1), (2, .int p2)]) F.1 F.2.1 dX8_keepOrThrow_26 rfl hl (by decide) rfl (fun ls hl => ?_)
    exact tX8_keepOrThrow_L27 F hr hlocks hE hX hA p1 p2 uMn uMf uLn uLf uTn uTf FU 0 h _ _ hP hD hS ls (lv_sub hl [1, 2, 3, 0] rfl)
  · replace h := it_f k3 h
    refine lv_aload_n F.1 F.2.1 dX8_keepOrThrow_12 rfl (lv_at hl 0 rfl) ?_
    refine gF (v := .ref a5) F hE hP 0 rfl rfl inX8 2 (by decide) q102 rfl dX8_keepOrThrow_13 ?_
    refine lv_iload_n F.1 F.2.1 dX8_keepOrThrow_16 rfl (lv_at hl 1 rfl) ?_
    obtain ⟨z18, k19, h⟩ := bd_ok h
    refine cRSN (As := [.int p1]) (rest := [.ref a5]) F hE hX hS (tX12_placeOf l dC dI g p1 k19) mbX12_placeOf q497 ⟨(Nat.le_of_ble_eq_true rfl), (Nat.le_of_ble_eq_true rfl)⟩ ⟨Nat.zero_le _, Nat.zero_le _⟩ hP [] rfl rfl hl.1 rfl (Nat.le_of_ble_eq_true rfl) dX8_keepOrThrow_17 ?_
    refine lv_iload_n F.1 F.2.1 dX8_keepOrThrow_20 rfl (lv_at hl 2 rfl) ?_
    obtain ⟨z20, k21, h⟩ := bd_ok h
    refine cMV (As := [.int z18, .int p2]) (rest := []) (ws' := wX8 g a0 a1 a2 a3 a4 a5 a6 uMn uMf uLn uLf uTn z20) F hE hX (tX7_increase l dC dI g a5 a6 6 uTn uTf z18 p2 k21) mbX7_increase q1018 ⟨(Nat.le_of_ble_eq_true rfl), (Nat.le_of_ble_eq_true rfl)⟩ ⟨(Nat.le_of_ble_eq_true rfl), (Nat.le_of_ble_eq_true rfl)⟩ hP hD hS hA [5, 6] rfl rfl rfl rfl rfl 5 rfl rfl rfl hl.1 rfl (Nat.le_of_ble_eq_true rfl) dX8_keepOrThrow_21 (fun H locs hP hD hS => ?_)
    cases h
    exact MU_v F hr hlocks (Nat.le_refl _) (Nat.le_refl _) hP hS dX8_keepOrThrow_24
/-! WireCutter$Scraps.removeAt -/
def fX8_removeAt (uMn : Int32) (uMf : Nat → Int32) (uLn : Int32) (uLf : Nat → Int32) (p1 : Int32) : Option (Int32 × (Nat → Int32) × Int32 × (Nat → Int32)) :=
  (fX7_removeAt 40 uMn uMf p1).bind fun z1 =>
  (fX7_removeAt 40 uLn uLf p1).bind fun z3 =>
  some (z1.1, z1.2, z3.1, z3.2)
theorem mbX8_removeAt : MV yX8_removeAt cX8_removeAt 2 none 1 := ⟨⟨q1050, q5, by decide +kernel⟩, q1048, q1049⟩
set_option maxHeartbeats 4000000 in
set_option maxRecDepth 100000 in
theorem tX8_removeAt (l : Launch) (dC : Nat → ClassId) (dI : Nat → Nat → Nat) (g : Nat → ClassId) (a0 a1 a2 a3 a4 a5 a6 : Nat) (uMn : Int32) (uMf : Nat → Int32) (uLn : Int32) (uLf : Nat → Int32) (uTn : Int32) (uTf : Nat → Int32) (p1 : Int32) {r : Int32 × (Nat → Int32) × Int32 × (Nat → Int32)} (h : fX8_removeAt uMn uMf uLn uLf p1 = some r) : MU l yX8_removeAt cX8_removeAt 2 none 1 22 0 0 dC dI g [.ref a0, .int p1] (wX8 g a0 a1 a2 a3 a4 a5 a6 uMn uMf uLn uLf uTn uTf) (wX8 g a0 a1 a2 a3 a4 a5 a6 r.1 r.2.1 r.2.2.1 r.2.2.2 uTn uTf) none := by
  refine MU_of (by decide) (Nat.le_of_ble_eq_true rfl) ?_
  intro p e s m below meth c ls F hr hlocks hE hX hA hP hD hS hl
  generalize va_A (wX8 g a0 a1 a2 a3 a4 a5 a6 uMn uMf uLn uLf uTn uTf) s.heap.size = A at hA hD hS hX ⊢
  replace F : CF p m c cX8_removeAt 2 s _ RX8 := F
  replace hl : lv_has ls 2 [(0, .ref a0), (1, .int p1)] := hl
  rw [fX8_removeAt] at h
  refine lv_aload_n F.1 F.2.1 dX8_removeAt_0 rfl (lv_at hl 0 rfl) ?_
  refine gF (v := .ref a1) F hE hP 0 rfl rfl inX8 0 (by decide) q100 rfl dX8_removeAt_1 ?_
  refine lv_iload_n F.1 F.2.1 dX8_removeAt_4 rfl (lv_at hl 1 rfl) ?_
  obtain ⟨z1, k2, h⟩ := bd_ok h
  refine cMV (As := [.int p1]) (rest := []) (ws' := wX8 g a0 a1 a2 a3 a4 a5 a6 z1.1 z1.2 uLn uLf uTn uTf) F hE hX (tX7_removeAt l dC dI g a1 a2 40 uMn uMf p1 k2) mbX7_removeAt q1051 ⟨(Nat.le_of_ble_eq_true rfl), (Nat.le_of_ble_eq_true rfl)⟩ ⟨(Nat.le_of_ble_eq_true rfl), (Nat.le_of_ble_eq_true rfl)⟩ hP hD hS hA [1, 2] rfl rfl rfl rfl rfl 1 rfl rfl rfl hl.1 rfl (Nat.le_of_ble_eq_true rfl) dX8_removeAt_5 (fun H locs hP hD hS => ?_)
  refine lv_aload_n F.1 F.2.1 dX8_removeAt_8 rfl (lv_at hl 0 rfl) ?_
  refine gF (v := .ref a3) F hE hP 0 rfl rfl inX8 1 (by decide) q101 rfl dX8_removeAt_9 ?_
  refine lv_iload_n F.1 F.2.1 dX8_removeAt_12 rfl (lv_at hl 1 rfl) ?_
  obtain ⟨z3, k4, h⟩ := bd_ok h
  refine cMV (As := [.int p1]) (rest := []) (ws' := wX8 g a0 a1 a2 a3 a4 a5 a6 z1.1 z1.2 z3.1 z3.2 uTn uTf) F hE hX (tX7_removeAt l dC dI g a3 a4 40 uLn uLf p1 k4) mbX7_removeAt q1051 ⟨(Nat.le_of_ble_eq_true rfl), (Nat.le_of_ble_eq_true rfl)⟩ ⟨(Nat.le_of_ble_eq_true rfl), (Nat.le_of_ble_eq_true rfl)⟩ hP hD hS hA [3, 4] rfl rfl rfl rfl rfl 3 rfl rfl rfl hl.1 rfl (Nat.le_of_ble_eq_true rfl) dX8_removeAt_13 (fun H locs hP hD hS => ?_)
  cases h
  exact MU_v F hr hlocks (Nat.le_refl _) (Nat.le_refl _) hP hS dX8_removeAt_16
