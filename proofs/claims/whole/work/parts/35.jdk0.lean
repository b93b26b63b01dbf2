/-! jdk/internal/util/ArraysSupport.hugeLength -/
def fJ8_hugeLength_7cf53 (p0 : Int32) (p1 : Int32) : Option (Int32) :=
  if 0 ≤ (p0 + p1) then
    if 2147483639 < (p0 + p1) then
      some (p0 + p1)
    else
      some (2147483639)
  else
    none
theorem mbJ8_hugeLength_7cf53 : MS yJ8_hugeLength_7cf53 cJ8_hugeLength_7cf53 3 (some .int) 2 := ⟨⟨q550, q27, by decide +kernel⟩, q549⟩
set_option maxHeartbeats 4000000 in
set_option maxRecDepth 100000 in
theorem tJ8_hugeLength_7cf53 (l : Launch) (dC : Nat → ClassId) (dI : Nat → Nat → Nat) (g : Nat → ClassId) (p0 : Int32) (p1 : Int32) {r : Int32} (h : fJ8_hugeLength_7cf53 p0 p1 = some r) : RO l yJ8_hugeLength_7cf53 cJ8_hugeLength_7cf53 3 (some .int) 0 0 dC dI g [.int p0, .int p1] (([] : va_W)) (some (.int r)) := by
  refine RO_of (by decide +kernel) (Nat.le_of_ble_eq_true rfl) ?_
  intro p e s m below meth c ls F hr hlocks hE hX hP hl
  replace F : CF p m c cJ8_hugeLength_7cf53 3 s _ RJ8 := F
  replace hl : lv_has ls 3 [(0, .int p0), (1, .int p1)] := hl
  rw [fJ8_hugeLength_7cf53] at h
  refine lv_iload_n F.1 F.2.1 dJ8_hugeLength_7cf53_0 rfl (lv_at hl 0 rfl) ?_
  refine lv_iload_n F.1 F.2.1 dJ8_hugeLength_7cf53_1 rfl (lv_at hl 1 rfl) ?_
  refine lv_iadd F.1 F.2.1 dJ8_hugeLength_7cf53_2 ?_
  refine lv_istore_n (lv' := [(2, .int (p0 + p1)), (0, .int p0), (1, .int p1)]) F.1 F.2.1 dJ8_hugeLength_7cf53_3 rfl hl (by decide) rfl (fun ls hl => ?_)
  refine lv_iload_n F.1 F.2.1 dJ8_hugeLength_7cf53_4 rfl (lv_at hl 0 rfl) ?_
  refine lv_if_ge (tgt := 49) F.1 F.2.1 dJ8_hugeLength_7cf53_5 (by decide) (fun k1 => ?_) (fun k1 => ?_)
  · replace h := it_t k1 h
    refine lv_iload_n F.1 F.2.1 dJ8_hugeLength_7cf53_49 rfl (lv_at hl 0 rfl) ?_
    refine lv_ldc F.1 F.2.1 F.2.2.2.1 (F.2.2.2.2 _ q547) dJ8_hugeLength_7cf53_50 ?_
    refine lv_icmp_gt (tgt := 58) F.1 F.2.1 dJ8_hugeLength_7cf53_52 (by decide) (fun k2 => ?_) (fun k2 => ?_)
    · replace h := it_t k2 h
      refine lv_iload_n F.1 F.2.1 dJ8_hugeLength_7cf53_58 rfl (lv_at hl 0 rfl) ?_
      obtain rfl := Option.some.inj h
      exact RO_i F hr hlocks dJ8_hugeLength_7cf53_59
    · replace h := it_f k2 h
      refine lv_ldc F.1 F.2.1 F.2.2.2.1 (F.2.2.2.2 _ q547) dJ8_hugeLength_7cf53_55 ?_
      obtain rfl := Option.some.inj h
      exact RO_i F hr hlocks dJ8_hugeLength_7cf53_57
  · replace h := it_f k1 h
    cases h
/-! jdk/internal/util/ArraysSupport.newLength -/
def fJ8_newLength_cabcc (p0 : Int32) (p1 : Int32) (p2 : Int32) : Option (Int32) :=
  if (p0 + (mx32 p1 p2)) ≤ 0 then
    (fJ8_hugeLength_7cf53 p0 p1).bind fun z2 =>
    some (z2)
  else
    if 2147483639 < (p0 + (mx32 p1 p2)) then
      (fJ8_hugeLength_7cf53 p0 p1).bind fun z5 =>
      some (z5)
    else
      some (p0 + (mx32 p1 p2))
theorem mbJ8_newLength_cabcc : MS yJ8_newLength_cabcc cJ8_newLength_cabcc 4 (some .int) 3 := ⟨⟨q543, q27, by decide +kernel⟩, q542⟩
set_option maxHeartbeats 4000000 in
set_option maxRecDepth 100000 in
theorem tJ8_newLength_cabcc (l : Launch) (dC : Nat → ClassId) (dI : Nat → Nat → Nat) (g : Nat → ClassId) (p0 : Int32) (p1 : Int32) (p2 : Int32) {r : Int32} (h : fJ8_newLength_cabcc p0 p1 p2 = some r) : RO l yJ8_newLength_cabcc cJ8_newLength_cabcc 4 (some .int) 4 85 dC dI g [.int p0, .int p1, .int p2] (([] : va_W)) (some (.int r)) := by
  refine RO_of (by decide +kernel) (Nat.le_of_ble_eq_true rfl) ?_
  intro p e s m below meth c ls F hr hlocks hE hX hP hl
  replace F : CF p m c cJ8_newLength_cabcc 4 s _ RJ8 := F
  replace hl : lv_has ls 4 [(0, .int p0), (1, .int p1), (2, .int p2)] := hl
  rw [fJ8_newLength_cabcc] at h
  refine lv_iload_n F.1 F.2.1 dJ8_newLength_cabcc_0 rfl (lv_at hl 0 rfl) ?_
  refine lv_iload_n F.1 F.2.1 dJ8_newLength_cabcc_1 rfl (lv_at hl 1 rfl) ?_
  refine lv_iload_n F.1 F.2.1 dJ8_newLength_cabcc_2 rfl (lv_at hl 2 rfl) ?_
  refine va_mmax F.1 F.2.1 (F.2.2.1.trans hl.1.symm) F.2.2.2.1 (F.2.2.2.2 _ q544) (F.2.2.2.2 _ q545) (F.2.2.2.2 _ q28) (F.2.2.2.2 _ q546) (Nat.le_of_ble_eq_true rfl) (Nat.le_of_ble_eq_true rfl) (Nat.zero_le _) (Nat.zero_le _) dJ8_newLength_cabcc_3 ?_
  refine lv_iadd F.1 F.2.1 dJ8_newLength_cabcc_6 ?_
  refine lv_istore_n (lv' := [(3, .int (p0 + (mx32 p1 p2))), (0, .int p0), (1, .int p1), (2, .int p2)]) F.1 F.2.1 dJ8_newLength_cabcc_7 rfl hl (by decide) rfl (fun ls hl => ?_)
  refine lv_iconst (v := 0) F.1 F.2.1 dJ8_newLength_cabcc_8 (by decide) ?_
  refine lv_iload_n F.1 F.2.1 dJ8_newLength_cabcc_9 rfl (lv_at hl 0 rfl) ?_
  refine lv_icmp_ge (tgt := 21) F.1 F.2.1 dJ8_newLength_cabcc_10 (by decide) (fun k1 => ?_) (fun k1 => ?_)
  · replace h := it_t k1 h
    refine lv_iload_n F.1 F.2.1 dJ8_newLength_cabcc_21 rfl (lv_at hl 1 rfl) ?_
    refine lv_iload_n F.1 F.2.1 dJ8_newLength_cabcc_22 rfl (lv_at hl 2 rfl) ?_
    obtain ⟨z2, k3, h⟩ := bd_ok h
    refine cRS (As := [.int p0, .int p1]) (rest := []) F hE hX va_S.rf (tJ8_hugeLength_7cf53 l dC dI g p0 p1 k3) mbJ8_hugeLength_7cf53 q548 ⟨(Nat.le_of_ble_eq_true rfl), (Nat.le_of_ble_eq_true rfl)⟩ ⟨Nat.zero_le _, Nat.zero_le _⟩ hP [] rfl rfl hl.1 rfl (Nat.le_of_ble_eq_true rfl) dJ8_newLength_cabcc_23 ?_
    obtain rfl := Option.some.inj h
    exact RO_i F hr hlocks dJ8_newLength_cabcc_26
  · replace h := it_f k1 h
    refine lv_iload_n F.1 F.2.1 dJ8_newLength_cabcc_13 rfl (lv_at hl 0 rfl) ?_
    refine lv_ldc F.1 F.2.1 F.2.2.2.1 (F.2.2.2.2 _ q547) dJ8_newLength_cabcc_14 ?_
    refine lv_icmp_gt (tgt := 21) F.1 F.2.1 dJ8_newLength_cabcc_16 (by decide) (fun k4 => ?_) (fun k4 => ?_)
    · replace h := it_t k4 h
      refine lv_iload_n F.1 F.2.1 dJ8_newLength_cabcc_21 rfl (lv_at hl 1 rfl) ?_
      refine lv_iload_n F.1 F.2.1 dJ8_newLength_cabcc_22 rfl (lv_at hl 2 rfl) ?_
      obtain ⟨z5, k6, h⟩ := bd_ok h
      refine cRS (As := [.int p0, .int p1]) (rest := []) F hE hX va_S.rf (tJ8_hugeLength_7cf53 l dC dI g p0 p1 k6) mbJ8_hugeLength_7cf53 q548 ⟨(Nat.le_of_ble_eq_true rfl), (Nat.le_of_ble_eq_true rfl)⟩ ⟨Nat.zero_le _, Nat.zero_le _⟩ hP [] rfl rfl hl.1 rfl (Nat.le_of_ble_eq_true rfl) dJ8_newLength_cabcc_23 ?_
      obtain rfl := Option.some.inj h
      exact RO_i F hr hlocks dJ8_newLength_cabcc_26
    · replace h := it_f k4 h
      refine lv_iload_n F.1 F.2.1 dJ8_newLength_cabcc_19 rfl (lv_at hl 0 rfl) ?_
      obtain rfl := Option.some.inj h
      exact RO_i F hr hlocks dJ8_newLength_cabcc_20
/-! java/lang/Integer.stringSize -/
def fJ6_stringSize_0f7a4_L16 (x0 : Int32) (x1 : Int32) : Nat → Int32 → Int32 → Option (Int32)
  | 0, _, _ => none
  | k + 1, x2, x3 =>
    if 10 ≤ x3 then
      some (10 + x1)
    else
      if x0 ≤ x2 then
        fJ6_stringSize_0f7a4_L16 x0 x1 k (10 * x2) (x3 + 1)
      else
        some (x3 + x1)
def fJ6_stringSize_0f7a4 (p0 : Int32) : Option (Int32) :=
  if p0 < 0 then
    fJ6_stringSize_0f7a4_L16 p0 1 FU (-10) 1
  else
    fJ6_stringSize_0f7a4_L16 (-p0) 0 FU (-10) 1
theorem mbJ6_stringSize_0f7a4 : MS yJ6_stringSize_0f7a4 cJ6_stringSize_0f7a4 4 (some .int) 1 := ⟨⟨q651, q34, by decide +kernel⟩, q650⟩
set_option maxHeartbeats 4000000 in
set_option maxRecDepth 100000 in
theorem tJ6_stringSize_0f7a4_L16 {p : Program} {l : Launch} {e : Env} {s : State} {m : MethodId} {args : Array Value} {below : List Frame} {meth : Method} {c : Code} {dC : Nat → ClassId} {dI : Nat → Nat → Nat} {g : Nat → ClassId} {r : Int32} (F : CF p m c cJ6_stringSize_0f7a4 4 s args RJ6) (hr : meth.sig.returnType = (some .int)) (hlocks : meth.locks = false) (hE : EK dC dI g s) (hX : EXr g s) (x0 : Int32) (x1 : Int32) (hP : va_P (dC, dI) vwCl (([] : va_W)) s.heap) : ∀ (k : Nat) (x2 : Int32) (x3 : Int32), fJ6_stringSize_0f7a4_L16 x0 x1 k x2 x3 = some r → ∀ (ls : Array Slot), lv_has ls 4 [(0, .int x0), (1, .int x1), (2, .int x2), (3, .int x3)] → W p l e { frames := 0, cells := 0, slots := 0, locals := 0 } s m args below meth c s.heap [] 0 0 (MQ below (fun _ st o t => o = .returned (some (.int r)) ∧ t.heap = st.heap) args s 0 0 (fun _ => False)) (F0 m 16 ls []) := by
  intro k
  induction k with
  | zero =>
    intro x2 x3 h
    exact absurd h (by simp [fJ6_stringSize_0f7a4_L16])
  | succ k ih =>
    intro x2 x3 h ls hl
    rw [fJ6_stringSize_0f7a4_L16] at h
    refine lv_iload_n F.1 F.2.1 dJ6_stringSize_0f7a4_16 rfl (lv_at hl 3 rfl) ?_
    refine lv_bipush (v := 10) F.1 F.2.1 dJ6_stringSize_0f7a4_17 (by decide) ?_
    refine lv_icmp_ge (tgt := 42) F.1 F.2.1 dJ6_stringSize_0f7a4_19 (by decide) (fun k2 => ?_) (fun k2 => ?_)
    · replace h := it_t k2 h
      refine lv_bipush (v := 10) F.1 F.2.1 dJ6_stringSize_0f7a4_42 (by decide) ?_
      refine lv_iload_n F.1 F.2.1 dJ6_stringSize_0f7a4_44 rfl (lv_at hl 1 rfl) ?_
      refine lv_iadd F.1 F.2.1 dJ6_stringSize_0f7a4_45 ?_
      obtain rfl := Option.some.inj h
      exact RO_i F hr hlocks dJ6_stringSize_0f7a4_46
    · replace h := it_f k2 h
      refine lv_iload_n F.1 F.2.1 dJ6_stringSize_0f7a4_22 rfl (lv_at hl 0 rfl) ?_
      refine lv_iload_n F.1 F.2.1 dJ6_stringSize_0f7a4_23 rfl (lv_at hl 2 rfl) ?_
      refine lv_icmp_le (tgt := 31) F.1 F.2.1 dJ6_stringSize_0f7a4_24 (by decide) (fun k3 => ?_) (fun k3 => ?_)
      · replace h := it_t k3 h
        refine lv_bipush (v := 10) F.1 F.2.1 dJ6_stringSize_0f7a4_31 (by decide) ?_
        refine lv_iload_n F.1 F.2.1 dJ6_stringSize_0f7a4_33 rfl (lv_at hl 2 rfl) ?_
        refine lv_imul F.1 F.2.1 dJ6_stringSize_0f7a4_34 ?_
        refine lv_istore_n (lv' := [(2, .int (10 * x2)), (0, .int x0), (1, .int x1), (3, .int x3)]) F.1 F.2.1 dJ6_stringSize_0f7a4_35 rfl hl (by decide) rfl (fun ls hl => ?_)
        refine lv_iinc (v := x3 + 1) (lv' := [(3, .int (x3 + 1)), (2, .int (10 * x2)), (0, .int x0), (1, .int x1)]) F.1 F.2.1 dJ6_stringSize_0f7a4_36 hl (k := 3) rfl (by rfl) (by decide) rfl (fun ls hl => ?_)
        refine lv_goto (tgt := 16) F.1 F.2.1 dJ6_stringSize_0f7a4_39 (by decide) ?_
        exact ih (10 * x2) (x3 + 1) h ls (lv_sub hl [2, 3, 1, 0] rfl)
      · replace h := it_f k3 h
        refine lv_iload_n F.1 F.2.1 dJ6_stringSize_0f7a4_27 rfl (lv_at hl 3 rfl) ?_
        refine lv_iload_n F.1 F.2.1 dJ6_stringSize_0f7a4_28 rfl (lv_at hl 1 rfl) ?_
        refine lv_iadd F.1 F.2.1 dJ6_stringSize_0f7a4_29 ?_
        obtain rfl := Option.some.inj h
        exact RO_i F hr hlocks dJ6_stringSize_0f7a4_30
set_option maxHeartbeats 4000000 in
set_option maxRecDepth 100000 in
theorem tJ6_stringSize_0f7a4 (l : Launch) (dC : Nat → ClassId) (dI : Nat → Nat → Nat) (g : Nat → ClassId) (p0 : Int32) {r : Int32} (h : fJ6_stringSize_0f7a4 p0 = some r) : RO l yJ6_stringSize_0f7a4 cJ6_stringSize_0f7a4 4 (some .int) 0 0 dC dI g [.int p0] (([] : va_W)) (some (.int r)) := by
  refine RO_of (by decide +kernel) (Nat.le_of_ble_eq_true rfl) ?_
  intro p e s m below meth c ls F hr hlocks hE hX hP hl
  replace F : CF p m c cJ6_stringSize_0f7a4 4 s _ RJ6 := F
  replace hl : lv_has ls 4 [(0, .int p0)] := hl
  rw [fJ6_stringSize_0f7a4] at h
  refine lv_iconst (v := 1) F.1 F.2.1 dJ6_stringSize_0f7a4_0 (by decide) ?_
  refine lv_istore_n (lv' := [(1, .int 1), (0, .int p0)]) F.1 F.2.1 dJ6_stringSize_0f7a4_1 rfl hl (by decide) rfl (fun ls hl => ?_)
  refine lv_iload_n F.1 F.2.1 dJ6_stringSize_0f7a4_2 rfl (lv_at hl 1 rfl) ?_
  refine lv_if_lt (tgt := 11) F.1 F.2.1 dJ6_stringSize_0f7a4_3 (by decide) (fun k1 => ?_) (fun k1 => ?_)
  · replace h := it_t k1 h
    refine lv_bipush (v := (-10)) F.1 F.2.1 dJ6_stringSize_0f7a4_11 (by decide) ?_
    refine lv_istore_n (lv' := [(2, .int (-10)), (1, .int 1), (0, .int p0)]) F.1 F.2.1 dJ6_stringSize_0f7a4_13 rfl hl (by decide) rfl (fun ls hl => ?_)
    refine lv_iconst (v := 1) F.1 F.2.1 dJ6_stringSize_0f7a4_14 (by decide) ?_
    refine lv_istore_n (lv' := [(3, .int 1), (2, .int (-10)), (1, .int 1), (0, .int p0)]) F.1 F.2.1 dJ6_stringSize_0f7a4_15 rfl hl (by decide) rfl (fun ls hl => ?_)
    exact tJ6_stringSize_0f7a4_L16 F hr hlocks hE hX p0 1 hP FU (-10) 1 h ls (lv_sub hl [3, 2, 1, 0] rfl)
  · replace h := it_f k1 h
    refine lv_iconst (v := 0) F.1 F.2.1 dJ6_stringSize_0f7a4_6 (by decide) ?_
    refine lv_istore_n (lv' := [(1, .int 0), (0, .int p0)]) F.1 F.2.1 dJ6_stringSize_0f7a4_7 rfl hl (by decide) rfl (fun ls hl => ?_)
    refine lv_iload_n F.1 F.2.1 dJ6_stringSize_0f7a4_8 rfl (lv_at hl 1 rfl) ?_
    refine lv_ineg F.1 F.2.1 dJ6_stringSize_0f7a4_9 ?_
    refine lv_istore_n (lv' := [(0, .int (-p0)), (1, .int 0)]) F.1 F.2.1 dJ6_stringSize_0f7a4_10 rfl hl (by decide) rfl (fun ls hl => ?_)
    refine lv_bipush (v := (-10)) F.1 F.2.1 dJ6_stringSize_0f7a4_11 (by decide) ?_
    refine lv_istore_n (lv' := [(2, .int (-10)), (0, .int (-p0)), (1, .int 0)]) F.1 F.2.1 dJ6_stringSize_0f7a4_13 rfl hl (by decide) rfl (fun ls hl => ?_)
    refine lv_iconst (v := 1) F.1 F.2.1 dJ6_stringSize_0f7a4_14 (by decide) ?_
    refine lv_istore_n (lv' := [(3, .int 1), (2, .int (-10)), (0, .int (-p0)), (1, .int 0)]) F.1 F.2.1 dJ6_stringSize_0f7a4_15 rfl hl (by decide) rfl (fun ls hl => ?_)
    exact tJ6_stringSize_0f7a4_L16 F hr hlocks hE hX (-p0) 0 hP FU (-10) 1 h ls (lv_sub hl [2, 3, 1, 0] rfl)
/-! java/lang/StringLatin1.canEncode -/
def fJ1_canEncode_fc78d (p0 : Int32) : Option (Int32) :=
  if 255 < p0 then
    some (0)
  else
    some (1)
theorem mbJ1_canEncode_fc78d : MS yJ1_canEncode_fc78d cJ1_canEncode_fc78d 1 (some .boolean) 1 := ⟨⟨q863, q32, by decide +kernel⟩, q862⟩
set_option maxHeartbeats 4000000 in
set_option maxRecDepth 100000 in
theorem tJ1_canEncode_fc78d (l : Launch) (dC : Nat → ClassId) (dI : Nat → Nat → Nat) (g : Nat → ClassId) (p0 : Int32) {r : Int32} (h : fJ1_canEncode_fc78d p0 = some r) : RO l yJ1_canEncode_fc78d cJ1_canEncode_fc78d 1 (some .boolean) 0 0 dC dI g [.int p0] (([] : va_W)) (some (.int r)) := by
  refine RO_of (by decide +kernel) (Nat.le_of_ble_eq_true rfl) ?_
  intro p e s m below meth c ls F hr hlocks hE hX hP hl
  replace F : CF p m c cJ1_canEncode_fc78d 1 s _ RJ1 := F
  replace hl : lv_has ls 1 [(0, .int p0)] := hl
  rw [fJ1_canEncode_fc78d] at h
  refine lv_iload_n F.1 F.2.1 dJ1_canEncode_fc78d_0 rfl (lv_at hl 0 rfl) ?_
  refine lv_sipush (v := 255) F.1 F.2.1 dJ1_canEncode_fc78d_1 (by decide) ?_
  refine lv_icmp_gt (tgt := 11) F.1 F.2.1 dJ1_canEncode_fc78d_4 (by decide) (fun k1 => ?_) (fun k1 => ?_)
  · replace h := it_t k1 h
    refine lv_iconst (v := 0) F.1 F.2.1 dJ1_canEncode_fc78d_11 (by decide) ?_
    obtain rfl := Option.some.inj h
    exact RO_z F hr hlocks rfl dJ1_canEncode_fc78d_12
  · replace h := it_f k1 h
    refine lv_iconst (v := 1) F.1 F.2.1 dJ1_canEncode_fc78d_7 (by decide) ?_
    refine lv_goto (tgt := 12) F.1 F.2.1 dJ1_canEncode_fc78d_8 (by decide) ?_
    obtain rfl := Option.some.inj h
    exact RO_z F hr hlocks rfl dJ1_canEncode_fc78d_12
/-! java/lang/AbstractStringBuilder.isLatin1 -/
def fJ5_isLatin1_aae02 : Option (Int32) :=
  some (1)
theorem mbJ5_isLatin1_aae02 : MB yJ5_isLatin1_aae02 cJ5_isLatin1_aae02 1 (some .boolean) 0 := ⟨q572, q12, by decide +kernel⟩
set_option maxHeartbeats 4000000 in
set_option maxRecDepth 100000 in
theorem tJ5_isLatin1_aae02 (l : Launch) (dC : Nat → ClassId) (dI : Nat → Nat → Nat) (g : Nat → ClassId) (a0 a1 : Nat) (um : Int32) (un : Int32) (uq : Nat) (uv : Nat → Int32) {r : Int32} (h : fJ5_isLatin1_aae02 = some r) : RO l yJ5_isLatin1_aae02 cJ5_isLatin1_aae02 1 (some .boolean) 0 0 dC dI g [.ref a0] (wJ4 g a0 a1 um un uq uv) (some (.int r)) := by
  refine RO_of (by decide +kernel) (Nat.le_of_ble_eq_true rfl) ?_
  intro p e s m below meth c ls F hr hlocks hE hX hP hl
  replace F : CF p m c cJ5_isLatin1_aae02 1 s _ RJ5 := F
  replace hl : lv_has ls 1 [(0, .ref a0)] := hl
  rw [fJ5_isLatin1_aae02] at h
  refine va_gets F.1 F.2.1 hX.cs va_S.rf F.2.2.2.1 (F.2.2.2.2 _ q288) (fun _ h => h) dJ5_isLatin1_aae02_0 ?_
  refine lv_if_eq (tgt := 17) F.1 F.2.1 dJ5_isLatin1_aae02_3 (by decide) (fun k => absurd k (by decide)) (fun _ => ?_)
  refine lv_aload_n F.1 F.2.1 dJ5_isLatin1_aae02_6 rfl (lv_at hl 0 rfl) ?_
  refine gF (v := .int 0) F hE hP 0 rfl rfl inJ4 1 (by decide) q298 rfl dJ5_isLatin1_aae02_7 ?_
  refine lv_if_ne (tgt := 17) F.1 F.2.1 dJ5_isLatin1_aae02_10 (by decide) (fun k => absurd rfl k) (fun _ => ?_)
  refine lv_iconst (v := 1) F.1 F.2.1 dJ5_isLatin1_aae02_13 (by decide) ?_
  refine lv_goto (tgt := 18) F.1 F.2.1 dJ5_isLatin1_aae02_14 (by decide) ?_
  obtain rfl := Option.some.inj h
  exact RO_z F hr hlocks rfl dJ5_isLatin1_aae02_18
/-! java/lang/AbstractStringBuilder.newCapacity -/
def fJ5_newCapacity_0f7a4 (uq : Nat) (p1 : Int32) : Option (Int32) :=
  (fJ8_newLength_cabcc (nI uq) (p1 - (nI uq)) ((nI uq) + 2)).bind fun z1 =>
  if z1 = 2147483647 then
    none
  else
    some (z1)
theorem mbJ5_newCapacity_0f7a4 : MB yJ5_newCapacity_0f7a4 cJ5_newCapacity_0f7a4 6 (some .int) 1 := ⟨q540, q12, by decide +kernel⟩
set_option maxHeartbeats 4000000 in
set_option maxRecDepth 100000 in
theorem tJ5_newCapacity_0f7a4 (l : Launch) (dC : Nat → ClassId) (dI : Nat → Nat → Nat) (g : Nat → ClassId) (a0 a1 : Nat) (um : Int32) (un : Int32) (uq : Nat) (uv : Nat → Int32) (p1 : Int32) {r : Int32} (h : fJ5_newCapacity_0f7a4 uq p1 = some r) : RO l yJ5_newCapacity_0f7a4 cJ5_newCapacity_0f7a4 6 (some .int) 5 108 dC dI g [.ref a0, .int p1] (wJ4 g a0 a1 um un uq uv) (some (.int r)) := by
  refine RO_of (by decide +kernel) (Nat.le_of_ble_eq_true rfl) ?_
  intro p e s m below meth c ls F hr hlocks hE hX hP hl
  replace F : CF p m c cJ5_newCapacity_0f7a4 6 s _ RJ5 := F
  replace hl : lv_has ls 6 [(0, .ref a0), (1, .int p1)] := hl
  rw [fJ5_newCapacity_0f7a4] at h
  refine lv_aload_n F.1 F.2.1 dJ5_newCapacity_0f7a4_0 rfl (lv_at hl 0 rfl) ?_
  refine gF (v := .ref a1) F hE hP 0 rfl rfl inJ4 0 (by decide) q297 rfl dJ5_newCapacity_0f7a4_1 ?_
  refine va_alen (v := nI uq) F.1 F.2.1 hE.1 hP 1 5 rfl rfl rfl dJ5_newCapacity_0f7a4_4 ?_
  refine lv_istore_n (lv' := [(2, .int (nI uq)), (0, .ref a0), (1, .int p1)]) F.1 F.2.1 dJ5_newCapacity_0f7a4_5 rfl hl (by decide) rfl (fun ls hl => ?_)
  refine lv_iload_n F.1 F.2.1 dJ5_newCapacity_0f7a4_6 rfl (lv_at hl 2 rfl) ?_
  refine lv_aload_n F.1 F.2.1 dJ5_newCapacity_0f7a4_7 rfl (lv_at hl 1 rfl) ?_
  refine gF (v := .int 0) F hE hP 0 rfl rfl inJ4 1 (by decide) q298 rfl dJ5_newCapacity_0f7a4_8 ?_
  refine lv_ishl F.1 F.2.1 dJ5_newCapacity_0f7a4_11 ?_
  rw [sb_shl0]
  refine lv_istore_n (lv' := [(3, .int p1), (2, .int (nI uq)), (0, .ref a0), (1, .int p1)]) F.1 F.2.1 dJ5_newCapacity_0f7a4_12 rfl hl (by decide) rfl (fun ls hl => ?_)
  refine lv_iload_n F.1 F.2.1 dJ5_newCapacity_0f7a4_13 rfl (lv_at hl 0 rfl) ?_
  refine lv_iload_n F.1 F.2.1 dJ5_newCapacity_0f7a4_14 rfl (lv_at hl 1 rfl) ?_
  refine lv_isub F.1 F.2.1 dJ5_newCapacity_0f7a4_15 ?_
  refine lv_istore (lv' := [(4, .int (p1 - (nI uq))), (3, .int p1), (2, .int (nI uq)), (0, .ref a0), (1, .int p1)]) F.1 F.2.1 dJ5_newCapacity_0f7a4_16 hl (by decide) rfl (fun ls hl => ?_)
  refine lv_iload_n F.1 F.2.1 dJ5_newCapacity_0f7a4_18 rfl (lv_at hl 2 rfl) ?_
  refine lv_iload F.1 F.2.1 dJ5_newCapacity_0f7a4_19 (lv_at hl 0 rfl) ?_
  refine lv_iload_n F.1 F.2.1 dJ5_newCapacity_0f7a4_21 rfl (lv_at hl 2 rfl) ?_
  refine lv_iconst (v := 2) F.1 F.2.1 dJ5_newCapacity_0f7a4_22 (by decide) ?_
  refine lv_aload_n F.1 F.2.1 dJ5_newCapacity_0f7a4_23 rfl (lv_at hl 3 rfl) ?_
  refine gF (v := .int 0) F hE hP 0 rfl rfl inJ4 1 (by decide) q298 rfl dJ5_newCapacity_0f7a4_24 ?_
  refine lv_ishl F.1 F.2.1 dJ5_newCapacity_0f7a4_27 ?_
  rw [sb_shl0]
  refine lv_iadd F.1 F.2.1 dJ5_newCapacity_0f7a4_28 ?_
  obtain ⟨z1, k2, h⟩ := bd_ok h
  refine cRS (As := [.int (nI uq), .int (p1 - (nI uq)), .int ((nI uq) + 2)]) (rest := []) F hE hX va_S.rf (tJ8_newLength_cabcc l dC dI g (nI uq) (p1 - (nI uq)) ((nI uq) + 2) k2) mbJ8_newLength_cabcc q541 ⟨(Nat.le_of_ble_eq_true rfl), (Nat.le_of_ble_eq_true rfl)⟩ ⟨Nat.zero_le _, Nat.zero_le _⟩ hP [] rfl rfl hl.1 rfl (Nat.le_of_ble_eq_true rfl) dJ5_newCapacity_0f7a4_29 ?_
  refine lv_istore (lv' := [(5, .int z1), (4, .int (p1 - (nI uq))), (3, .int p1), (2, .int (nI uq)), (0, .ref a0), (1, .int p1)]) F.1 F.2.1 dJ5_newCapacity_0f7a4_32 hl (by decide) rfl (fun ls hl => ?_)
  refine lv_iload F.1 F.2.1 dJ5_newCapacity_0f7a4_34 (lv_at hl 0 rfl) ?_
  refine lv_ldc F.1 F.2.1 F.2.2.2.1 (F.2.2.2.2 _ q551) dJ5_newCapacity_0f7a4_36 ?_
  refine lv_icmp_ne (tgt := 51) F.1 F.2.1 dJ5_newCapacity_0f7a4_38 (by decide) (fun k3 => ?_) (fun k3 => ?_)
  · replace h := it_f k3 h
    refine lv_iload F.1 F.2.1 dJ5_newCapacity_0f7a4_51 (lv_at hl 0 rfl) ?_
    refine lv_aload_n F.1 F.2.1 dJ5_newCapacity_0f7a4_53 rfl (lv_at hl 4 rfl) ?_
    refine gF (v := .int 0) F hE hP 0 rfl rfl inJ4 1 (by decide) q298 rfl dJ5_newCapacity_0f7a4_54 ?_
    refine lv_ishr F.1 F.2.1 dJ5_newCapacity_0f7a4_57 ?_
    rw [sb_shr0]
    obtain rfl := Option.some.inj h
    exact RO_i F hr hlocks dJ5_newCapacity_0f7a4_58
  · replace h := it_t k3 h
    cases h
/-! java/lang/AbstractStringBuilder.length -/
def fJ5_length_8abf5 (un : Int32) : Option (Int32) :=
  some (un)
theorem mbJ5_length_8abf5 : MB yJ5_length_8abf5 cJ5_length_8abf5 1 (some .int) 0 := ⟨q692, q12, by decide +kernel⟩
set_option maxHeartbeats 4000000 in
set_option maxRecDepth 100000 in
theorem tJ5_length_8abf5 (l : Launch) (dC : Nat → ClassId) (dI : Nat → Nat → Nat) (g : Nat → ClassId) (a0 a1 : Nat) (um : Int32) (un : Int32) (uq : Nat) (uv : Nat → Int32) {r : Int32} (h : fJ5_length_8abf5 un = some r) : RO l yJ5_length_8abf5 cJ5_length_8abf5 1 (some .int) 0 0 dC dI g [.ref a0] (wJ4 g a0 a1 um un uq uv) (some (.int r)) := by
  refine RO_of (by decide +kernel) (Nat.le_of_ble_eq_true rfl) ?_
  intro p e s m below meth c ls F hr hlocks hE hX hP hl
  replace F : CF p m c cJ5_length_8abf5 1 s _ RJ5 := F
  replace hl : lv_has ls 1 [(0, .ref a0)] := hl
  rw [fJ5_length_8abf5] at h
  refine lv_aload_n F.1 F.2.1 dJ5_length_8abf5_0 rfl (lv_at hl 0 rfl) ?_
  refine gF (v := .int un) F hE hP 0 rfl rfl inJ4 3 (by decide) q301 rfl dJ5_length_8abf5_1 ?_
  obtain rfl := Option.some.inj h
  exact RO_i F hr hlocks dJ5_length_8abf5_4
/-! java/lang/AbstractStringBuilder.charAt -/
def fJ5_charAt_5068e (un : Int32) (uq : Nat) (uv : Nat → Int32) (p1 : Int32) : Option (Int32) :=
  gd (cki p1 (mn32 un (nI uq))) <|
  gd (inR p1 uq) <|
  some ((((uv p1.toNatClampNeg) &&& 255).toUInt32 % 65536).toInt32)
theorem mbJ5_charAt_5068e : MB yJ5_charAt_5068e cJ5_charAt_5068e 5 (some .char) 1 := ⟨q1479, q12, by decide +kernel⟩
set_option maxHeartbeats 4000000 in
set_option maxRecDepth 100000 in
theorem tJ5_charAt_5068e (l : Launch) (dC : Nat → ClassId) (dI : Nat → Nat → Nat) (g : Nat → ClassId) (a0 a1 : Nat) (um : Int32) (un : Int32) (uq : Nat) (uv : Nat → Int32) (p1 : Int32) {r : Int32} (h : fJ5_charAt_5068e un uq uv p1 = some r) : RO l yJ5_charAt_5068e cJ5_charAt_5068e 5 (some .char) 4 85 dC dI g [.ref a0, .int p1] (wJ4 g a0 a1 um un uq uv) (some (.int r)) := by
  refine RO_of (by decide +kernel) (Nat.le_of_ble_eq_true rfl) ?_
  intro p e s m below meth c ls F hr hlocks hE hX hP hl
  replace F : CF p m c cJ5_charAt_5068e 5 s _ RJ5 := F
  replace hl : lv_has ls 5 [(0, .ref a0), (1, .int p1)] := hl
  rw [fJ5_charAt_5068e] at h
  refine lv_aload_n F.1 F.2.1 dJ5_charAt_5068e_0 rfl (lv_at hl 0 rfl) ?_
  refine gF (v := .int 0) F hE hP 0 rfl rfl inJ4 1 (by decide) q298 rfl dJ5_charAt_5068e_1 ?_
  refine lv_istore_n (lv' := [(2, .int 0), (0, .ref a0), (1, .int p1)]) F.1 F.2.1 dJ5_charAt_5068e_4 rfl hl (by decide) rfl (fun ls hl => ?_)
  refine lv_aload_n F.1 F.2.1 dJ5_charAt_5068e_5 rfl (lv_at hl 1 rfl) ?_
  refine gF (v := .ref a1) F hE hP 0 rfl rfl inJ4 0 (by decide) q297 rfl dJ5_charAt_5068e_6 ?_
  refine lv_astore_n (lv' := [(3, .ref a1), (2, .int 0), (0, .ref a0), (1, .int p1)]) F.1 F.2.1 dJ5_charAt_5068e_9 rfl hl (by decide) rfl (fun ls hl => ?_)
  refine lv_aload_n F.1 F.2.1 dJ5_charAt_5068e_10 rfl (lv_at hl 2 rfl) ?_
  refine gF (v := .int un) F hE hP 0 rfl rfl inJ4 3 (by decide) q301 rfl dJ5_charAt_5068e_11 ?_
  refine lv_aload_n F.1 F.2.1 dJ5_charAt_5068e_14 rfl (lv_at hl 0 rfl) ?_
  refine va_alen (v := nI uq) F.1 F.2.1 hE.1 hP 1 5 rfl rfl rfl dJ5_charAt_5068e_15 ?_
  refine lv_iload_n F.1 F.2.1 dJ5_charAt_5068e_16 rfl (lv_at hl 1 rfl) ?_
  refine lv_ishr F.1 F.2.1 dJ5_charAt_5068e_17 ?_
  rw [sb_shr0]
  refine va_mmin F.1 F.2.1 (F.2.2.1.trans hl.1.symm) F.2.2.2.1 (F.2.2.2.2 _ q1480) (F.2.2.2.2 _ q563) (F.2.2.2.2 _ q28) (F.2.2.2.2 _ q564) (Nat.le_of_ble_eq_true rfl) (Nat.le_of_ble_eq_true rfl) (Nat.zero_le _) (Nat.zero_le _) dJ5_charAt_5068e_18 ?_
  refine lv_istore (lv' := [(4, .int (mn32 un (nI uq))), (3, .ref a1), (2, .int 0), (0, .ref a0), (1, .int p1)]) F.1 F.2.1 dJ5_charAt_5068e_21 hl (by decide) rfl (fun ls hl => ?_)
  refine lv_iload_n F.1 F.2.1 dJ5_charAt_5068e_23 rfl (lv_at hl 4 rfl) ?_
  refine lv_iload F.1 F.2.1 dJ5_charAt_5068e_24 (lv_at hl 0 rfl) ?_
  obtain ⟨k1, h⟩ := gd_ok h
  refine cRS0 (As := [.int p1, .int (mn32 un (nI uq))]) (rest := []) F hE hX va_S.rf (tJ0_checkIndex_df160 l dC dI g p1 (mn32 un (nI uq)) (cki_1 k1) (cki_2 k1)) mbJ0_checkIndex_df160 q1481 ⟨(Nat.le_of_ble_eq_true rfl), (Nat.le_of_ble_eq_true rfl)⟩ ⟨Nat.zero_le _, Nat.zero_le _⟩ hP rfl hl.1 rfl (Nat.le_of_ble_eq_true rfl) dJ5_charAt_5068e_26 ?_
  refine lv_iload_n F.1 F.2.1 dJ5_charAt_5068e_29 rfl (lv_at hl 2 rfl) ?_
  refine lv_if_ne (tgt := 42) F.1 F.2.1 dJ5_charAt_5068e_30 (by decide) (fun k => absurd rfl k) (fun _ => ?_)
  refine lv_aload_n F.1 F.2.1 dJ5_charAt_5068e_33 rfl (lv_at hl 1 rfl) ?_
  refine lv_iload_n F.1 F.2.1 dJ5_charAt_5068e_34 rfl (lv_at hl 4 rfl) ?_
  obtain ⟨k2, h⟩ := gd_ok h
  refine va_bald F.1 F.2.1 hE.1 hP 1 5 rfl rfl (inR_in k2) dJ5_charAt_5068e_35 ?_
  refine lv_sipush (v := 255) F.1 F.2.1 dJ5_charAt_5068e_36 (by decide) ?_
  refine lv_iand F.1 F.2.1 dJ5_charAt_5068e_39 ?_
  refine lv_i2c F.1 F.2.1 dJ5_charAt_5068e_40 rfl ?_
  obtain rfl := Option.some.inj h
  exact RO_z F hr hlocks (pk_nc _) dJ5_charAt_5068e_41
/-! java/lang/Integer.getChars -/
def fJ6_getChars_ba4f3_L22 (x6 : Int32) (vq : Nat) : Nat → Int32 → Int32 → (Nat → Int32) → Option (Int32 × (Nat → Int32))
  | 0, _, _, _ => none
  | k + 1, x0, x5, vv =>
    if (-100) < x0 then
      gd (inR (-x0) 100) <|
      gd (inR (x5 + (-1)) vq) <|
      if (-9) ≤ x0 then
        if x6 = 0 then
          some (x5 + (-1), upd vv ((x5 + (-1)).toNatClampNeg) (vp_nar .byte (dOnes ((-x0).toNatClampNeg))))
        else
          gd (inR ((x5 + (-1)) + (-1)) vq) <|
          some ((x5 + (-1)) + (-1), upd (upd vv ((x5 + (-1)).toNatClampNeg) (vp_nar .byte (dOnes ((-x0).toNatClampNeg)))) (((x5 + (-1)) + (-1)).toNatClampNeg) (vp_nar .byte 45))
      else
        gd (inR (-x0) 100) <|
        gd (inR ((x5 + (-1)) + (-1)) vq) <|
        if x6 = 0 then
          some ((x5 + (-1)) + (-1), upd (upd vv ((x5 + (-1)).toNatClampNeg) (vp_nar .byte (dOnes ((-x0).toNatClampNeg)))) (((x5 + (-1)) + (-1)).toNatClampNeg) (vp_nar .byte (dTens ((-x0).toNatClampNeg))))
        else
          gd (inR (((x5 + (-1)) + (-1)) + (-1)) vq) <|
          some (((x5 + (-1)) + (-1)) + (-1), upd (upd (upd vv ((x5 + (-1)).toNatClampNeg) (vp_nar .byte (dOnes ((-x0).toNatClampNeg)))) (((x5 + (-1)) + (-1)).toNatClampNeg) (vp_nar .byte (dTens ((-x0).toNatClampNeg)))) ((((x5 + (-1)) + (-1)) + (-1)).toNatClampNeg) (vp_nar .byte 45))
    else
      gd (inR (((x0 / 100) * 100) - x0) 100) <|
      gd (inR (x5 + (-1)) vq) <|
      gd (inR (((x0 / 100) * 100) - x0) 100) <|
      gd (inR ((x5 + (-1)) + (-1)) vq) <|
      fJ6_getChars_ba4f3_L22 x6 vq k (x0 / 100) ((x5 + (-1)) + (-1)) (upd (upd vv ((x5 + (-1)).toNatClampNeg) (vp_nar .byte (dOnes ((((x0 / 100) * 100) - x0).toNatClampNeg)))) (((x5 + (-1)) + (-1)).toNatClampNeg) (vp_nar .byte (dTens ((((x0 / 100) * 100) - x0).toNatClampNeg))))
def fJ6_getChars_ba4f3 (vq : Nat) (vv : Nat → Int32) (p0 : Int32) (p1 : Int32) : Option (Int32 × (Nat → Int32)) :=
  if 0 ≤ p0 then
    fJ6_getChars_ba4f3_L22 0 vq FU (-p0) p1 vv
  else
    fJ6_getChars_ba4f3_L22 1 vq FU p0 p1 vv
theorem mbJ6_getChars_ba4f3 : MS yJ6_getChars_ba4f3 cJ6_getChars_ba4f3 7 (some .int) 3 := ⟨⟨q654, q34, by decide +kernel⟩, q653⟩
set_option maxHeartbeats 4000000 in
set_option maxRecDepth 100000 in
theorem tJ6_getChars_ba4f3_L22 {p : Program} {l : Launch} {e : Env} {s : State} {m : MethodId} {args : Array Value} {below : List Frame} {meth : Method} {c : Code} {dC : Nat → ClassId} {dI : Nat → Nat → Nat} {g : Nat → ClassId} {b0 : Nat} {r : Int32 × (Nat → Int32)} {A : Nat → Prop} (F : CF p m c cJ6_getChars_ba4f3 7 s args RJ6) (hr : meth.sig.returnType = (some .int)) (hlocks : meth.locks = false) (hE : EK dC dI g s) (hX : EX g A s s.heap) (hA : ∀ q : Nat, s.heap.size ≤ q → A q) (x6 : Int32) (vq : Nat) : ∀ (k : Nat) (x0 : Int32) (x5 : Int32) (vv : Nat → Int32), fJ6_getChars_ba4f3_L22 x6 vq k x0 x5 vv = some r → ∀ (H : Heap) (locs : List Loc), va_P (dC, dI) vwCl ([(b0, .inl (g 5, vq, .inl vv))]) H → va_D A ([(b0, .inl (g 5, vq, .inl vv))]) → va_S A s.heap H locs → ∀ (ls : Array Slot), lv_has ls 7 [(0, .int x0), (2, .ref b0), (5, .int x5), (6, .int x6)] → W p l e { frames := 0, cells := 0, slots := 0, locals := 0 } s m args below meth c H locs 0 0 (MQ below (fun _ st o t => o = .returned (some (.int r.1)) ∧ va_P (dC, dI) vwCl ([(b0, .inl (g 5, vq, .inl r.2))]) t.heap ∧ va_F A st t) args s 0 0 A) (F0 m 22 ls []) := by
  intro k
  induction k with
  | zero =>
    intro x0 x5 vv h
    exact absurd h (by simp [fJ6_getChars_ba4f3_L22])
  | succ k ih =>
    intro x0 x5 vv h H locs hP hD hS ls hl
    rw [fJ6_getChars_ba4f3_L22] at h
    refine lv_iload_n F.1 F.2.1 dJ6_getChars_ba4f3_22 rfl (lv_at hl 0 rfl) ?_
    refine lv_bipush (v := (-100)) F.1 F.2.1 dJ6_getChars_ba4f3_23 (by decide) ?_
    refine lv_icmp_gt (tgt := 72) F.1 F.2.1 dJ6_getChars_ba4f3_25 (by decide) (fun k2 => ?_) (fun k2 => ?_)
    · replace h := it_t k2 h
      refine lv_aload_n F.1 F.2.1 dJ6_getChars_ba4f3_72 rfl (lv_at hl 1 rfl) ?_
      refine lv_iinc (v := x5 + (-1)) (lv' := [(5, .int (x5 + (-1))), (0, .int x0), (2, .ref b0), (6, .int x6)]) F.1 F.2.1 dJ6_getChars_ba4f3_73 hl (k := 2) rfl (by rfl) (by decide) rfl (fun ls hl => ?_)
      refine lv_iload F.1 F.2.1 dJ6_getChars_ba4f3_76 (lv_at hl 0 rfl) ?_
      refine va_gets F.1 F.2.1 hX.d1 hS F.2.2.2.1 (F.2.2.2.2 _ q655) (fun _ h => h) dJ6_getChars_ba4f3_78 ?_
      refine lv_iload_n F.1 F.2.1 dJ6_getChars_ba4f3_81 rfl (lv_at hl 1 rfl) ?_
      refine lv_ineg F.1 F.2.1 dJ6_getChars_ba4f3_82 ?_
      obtain ⟨k3, h⟩ := gd_ok h
      refine va_tb F.1 F.2.1 hX.d1T hS (inR_in k3) rfl dJ6_getChars_ba4f3_83 ?_
      obtain ⟨k4, h⟩ := gd_ok h
      refine va_bast F.1 F.2.1 hE.1 hP hD hS 0 5 rfl rfl (inR_in k4) dJ6_getChars_ba4f3_84 (fun H locs hP hD hS => ?_)
      replace hP : va_P (dC, dI) vwCl ([(b0, .inl (g 5, vq, .inl (upd vv ((x5 + (-1)).toNatClampNeg) (vp_nar .byte (dOnes ((-x0).toNatClampNeg))))))]) H := hP
      replace hD : va_D A ([(b0, .inl (g 5, vq, .inl (upd vv ((x5 + (-1)).toNatClampNeg) (vp_nar .byte (dOnes ((-x0).toNatClampNeg))))))]) := hD
      refine lv_iload_n F.1 F.2.1 dJ6_getChars_ba4f3_85 rfl (lv_at hl 1 rfl) ?_
      refine lv_bipush (v := (-9)) F.1 F.2.1 dJ6_getChars_ba4f3_86 (by decide) ?_
      refine lv_icmp_ge (tgt := 104) F.1 F.2.1 dJ6_getChars_ba4f3_88 (by decide) (fun k5 => ?_) (fun k5 => ?_)
      · replace h := it_t k5 h
        refine lv_iload F.1 F.2.1 dJ6_getChars_ba4f3_104 (lv_at hl 3 rfl) ?_
        refine lv_if_eq (tgt := 118) F.1 F.2.1 dJ6_getChars_ba4f3_106 (by decide) (fun k6 => ?_) (fun k6 => ?_)
        · replace h := it_t k6 h
          refine lv_iload F.1 F.2.1 dJ6_getChars_ba4f3_118 (lv_at hl 0 rfl) ?_
          obtain rfl := Option.some.inj h
          exact MU_i F hr hlocks (Nat.le_refl _) (Nat.le_refl _) hP hS dJ6_getChars_ba4f3_120
        · replace h := it_f k6 h
          refine lv_aload_n F.1 F.2.1 dJ6_getChars_ba4f3_109 rfl (lv_at hl 2 rfl) ?_
          refine lv_iinc (v := (x5 + (-1)) + (-1)) (lv' := [(5, .int ((x5 + (-1)) + (-1))), (0, .int x0), (2, .ref b0), (6, .int x6)]) F.1 F.2.1 dJ6_getChars_ba4f3_110 hl (k := 0) rfl (by rfl) (by decide) rfl (fun ls hl => ?_)
          refine lv_iload F.1 F.2.1 dJ6_getChars_ba4f3_113 (lv_at hl 0 rfl) ?_
          refine lv_bipush (v := 45) F.1 F.2.1 dJ6_getChars_ba4f3_115 (by decide) ?_
          obtain ⟨k7, h⟩ := gd_ok h
          refine va_bast F.1 F.2.1 hE.1 hP hD hS 0 5 rfl rfl (inR_in k7) dJ6_getChars_ba4f3_117 (fun H locs hP hD hS => ?_)
          replace hP : va_P (dC, dI) vwCl ([(b0, .inl (g 5, vq, .inl (upd (upd vv ((x5 + (-1)).toNatClampNeg) (vp_nar .byte (dOnes ((-x0).toNatClampNeg)))) (((x5 + (-1)) + (-1)).toNatClampNeg) (vp_nar .byte 45))))]) H := hP
          replace hD : va_D A ([(b0, .inl (g 5, vq, .inl (upd (upd vv ((x5 + (-1)).toNatClampNeg) (vp_nar .byte (dOnes ((-x0).toNatClampNeg)))) (((x5 + (-1)) + (-1)).toNatClampNeg) (vp_nar .byte 45))))]) := hD
          refine lv_iload F.1 F.2.1 dJ6_getChars_ba4f3_118 (lv_at hl 0 rfl) ?_
          obtain rfl := Option.some.inj h
          exact MU_i F hr hlocks (Nat.le_refl _) (Nat.le_refl _) hP hS dJ6_getChars_ba4f3_120
      · replace h := it_f k5 h
        refine lv_aload_n F.1 F.2.1 dJ6_getChars_ba4f3_91 rfl (lv_at hl 2 rfl) ?_
        refine lv_iinc (v := (x5 + (-1)) + (-1)) (lv' := [(5, .int ((x5 + (-1)) + (-1))), (0, .int x0), (2, .ref b0), (6, .int x6)]) F.1 F.2.1 dJ6_getChars_ba4f3_92 hl (k := 0) rfl (by rfl) (by decide) rfl (fun ls hl => ?_)
        refine lv_iload F.1 F.2.1 dJ6_getChars_ba4f3_95 (lv_at hl 0 rfl) ?_
        refine va_gets F.1 F.2.1 hX.d2 hS F.2.2.2.1 (F.2.2.2.2 _ q657) (fun _ h => h) dJ6_getChars_ba4f3_97 ?_
        refine lv_iload_n F.1 F.2.1 dJ6_getChars_ba4f3_100 rfl (lv_at hl 1 rfl) ?_
        refine lv_ineg F.1 F.2.1 dJ6_getChars_ba4f3_101 ?_
        obtain ⟨k8, h⟩ := gd_ok h
        refine va_tb F.1 F.2.1 hX.d2T hS (inR_in k8) rfl dJ6_getChars_ba4f3_102 ?_
        obtain ⟨k9, h⟩ := gd_ok h
        refine va_bast F.1 F.2.1 hE.1 hP hD hS 0 5 rfl rfl (inR_in k9) dJ6_getChars_ba4f3_103 (fun H locs hP hD hS => ?_)
        replace hP : va_P (dC, dI) vwCl ([(b0, .inl (g 5, vq, .inl (upd (upd vv ((x5 + (-1)).toNatClampNeg) (vp_nar .byte (dOnes ((-x0).toNatClampNeg)))) (((x5 + (-1)) + (-1)).toNatClampNeg) (vp_nar .byte (dTens ((-x0).toNatClampNeg))))))]) H := hP
        replace hD : va_D A ([(b0, .inl (g 5, vq, .inl (upd (upd vv ((x5 + (-1)).toNatClampNeg) (vp_nar .byte (dOnes ((-x0).toNatClampNeg)))) (((x5 + (-1)) + (-1)).toNatClampNeg) (vp_nar .byte (dTens ((-x0).toNatClampNeg))))))]) := hD
        refine lv_iload F.1 F.2.1 dJ6_getChars_ba4f3_104 (lv_at hl 3 rfl) ?_
        refine lv_if_eq (tgt := 118) F.1 F.2.1 dJ6_getChars_ba4f3_106 (by decide) (fun k10 => ?_) (fun k10 => ?_)
        · replace h := it_t k10 h
          refine lv_iload F.1 F.2.1 dJ6_getChars_ba4f3_118 (lv_at hl 0 rfl) ?_
          obtain rfl := Option.some.inj h
          exact MU_i F hr hlocks (Nat.le_refl _) (Nat.le_refl _) hP hS dJ6_getChars_ba4f3_120
        · replace h := it_f k10 h
          refine lv_aload_n F.1 F.2.1 dJ6_getChars_ba4f3_109 rfl (lv_at hl 2 rfl) ?_
          refine lv_iinc (v := ((x5 + (-1)) + (-1)) + (-1)) (lv' := [(5, .int (((x5 + (-1)) + (-1)) + (-1))), (0, .int x0), (2, .ref b0), (6, .int x6)]) F.1 F.2.1 dJ6_getChars_ba4f3_110 hl (k := 0) rfl (by rfl) (by decide) rfl (fun ls hl => ?_)
          refine lv_iload F.1 F.2.1 dJ6_getChars_ba4f3_113 (lv_at hl 0 rfl) ?_
          refine lv_bipush (v := 45) F.1 F.2.1 dJ6_getChars_ba4f3_115 (by decide) ?_
          obtain ⟨k11, h⟩ := gd_ok h
          refine va_bast F.1 F.2.1 hE.1 hP hD hS 0 5 rfl rfl (inR_in k11) dJ6_getChars_ba4f3_117 (fun H locs hP hD hS => ?_)
          replace hP : va_P (dC, dI) vwCl ([(b0, .inl (g 5, vq, .inl (upd (upd (upd vv ((x5 + (-1)).toNatClampNeg) (vp_nar .byte (dOnes ((-x0).toNatClampNeg)))) (((x5 + (-1)) + (-1)).toNatClampNeg) (vp_nar .byte (dTens ((-x0).toNatClampNeg)))) ((((x5 + (-1)) + (-1)) + (-1)).toNatClampNeg) (vp_nar .byte 45))))]) H := hP
          replace hD : va_D A ([(b0, .inl (g 5, vq, .inl (upd (upd (upd vv ((x5 + (-1)).toNatClampNeg) (vp_nar .byte (dOnes ((-x0).toNatClampNeg)))) (((x5 + (-1)) + (-1)).toNatClampNeg) (vp_nar .byte (dTens ((-x0).toNatClampNeg)))) ((((x5 + (-1)) + (-1)) + (-1)).toNatClampNeg) (vp_nar .byte 45))))]) := hD
          refine lv_iload F.1 F.2.1 dJ6_getChars_ba4f3_118 (lv_at hl 0 rfl) ?_
          obtain rfl := Option.some.inj h
          exact MU_i F hr hlocks (Nat.le_refl _) (Nat.le_refl _) hP hS dJ6_getChars_ba4f3_120
    · replace h := it_f k2 h
      refine lv_iload_n F.1 F.2.1 dJ6_getChars_ba4f3_28 rfl (lv_at hl 0 rfl) ?_
      refine lv_bipush (v := 100) F.1 F.2.1 dJ6_getChars_ba4f3_29 (by decide) ?_
      refine lv_idiv F.1 F.2.1 dJ6_getChars_ba4f3_31 (by decide) ?_
      refine lv_istore_n (lv' := [(3, .int (x0 / 100)), (0, .int x0), (2, .ref b0), (5, .int x5), (6, .int x6)]) F.1 F.2.1 dJ6_getChars_ba4f3_32 rfl hl (by decide) rfl (fun ls hl => ?_)
      refine lv_iload_n F.1 F.2.1 dJ6_getChars_ba4f3_33 rfl (lv_at hl 0 rfl) ?_
      refine lv_bipush (v := 100) F.1 F.2.1 dJ6_getChars_ba4f3_34 (by decide) ?_
      refine lv_imul F.1 F.2.1 dJ6_getChars_ba4f3_36 ?_
      refine lv_iload_n F.1 F.2.1 dJ6_getChars_ba4f3_37 rfl (lv_at hl 1 rfl) ?_
      refine lv_isub F.1 F.2.1 dJ6_getChars_ba4f3_38 ?_
      refine lv_istore (lv' := [(4, .int (((x0 / 100) * 100) - x0)), (3, .int (x0 / 100)), (0, .int x0), (2, .ref b0), (5, .int x5), (6, .int x6)]) F.1 F.2.1 dJ6_getChars_ba4f3_39 hl (by decide) rfl (fun ls hl => ?_)
      refine lv_iload_n F.1 F.2.1 dJ6_getChars_ba4f3_41 rfl (lv_at hl 1 rfl) ?_
      refine lv_istore_n (lv' := [(0, .int (x0 / 100)), (4, .int (((x0 / 100) * 100) - x0)), (3, .int (x0 / 100)), (2, .ref b0), (5, .int x5), (6, .int x6)]) F.1 F.2.1 dJ6_getChars_ba4f3_42 rfl hl (by decide) rfl (fun ls hl => ?_)
      refine lv_aload_n F.1 F.2.1 dJ6_getChars_ba4f3_43 rfl (lv_at hl 3 rfl) ?_
      refine lv_iinc (v := x5 + (-1)) (lv' := [(5, .int (x5 + (-1))), (0, .int (x0 / 100)), (4, .int (((x0 / 100) * 100) - x0)), (3, .int (x0 / 100)), (2, .ref b0), (6, .int x6)]) F.1 F.2.1 dJ6_getChars_ba4f3_44 hl (k := 4) rfl (by rfl) (by decide) rfl (fun ls hl => ?_)
      refine lv_iload F.1 F.2.1 dJ6_getChars_ba4f3_47 (lv_at hl 0 rfl) ?_
      refine va_gets F.1 F.2.1 hX.d1 hS F.2.2.2.1 (F.2.2.2.2 _ q655) (fun _ h => h) dJ6_getChars_ba4f3_49 ?_
      refine lv_iload F.1 F.2.1 dJ6_getChars_ba4f3_52 (lv_at hl 2 rfl) ?_
      obtain ⟨k12, h⟩ := gd_ok h
      refine va_tb F.1 F.2.1 hX.d1T hS (inR_in k12) rfl dJ6_getChars_ba4f3_54 ?_
      obtain ⟨k13, h⟩ := gd_ok h
      refine va_bast F.1 F.2.1 hE.1 hP hD hS 0 5 rfl rfl (inR_in k13) dJ6_getChars_ba4f3_55 (fun H locs hP hD hS => ?_)
      replace hP : va_P (dC, dI) vwCl ([(b0, .inl (g 5, vq, .inl (upd vv ((x5 + (-1)).toNatClampNeg) (vp_nar .byte (dOnes ((((x0 / 100) * 100) - x0).toNatClampNeg))))))]) H := hP
      replace hD : va_D A ([(b0, .inl (g 5, vq, .inl (upd vv ((x5 + (-1)).toNatClampNeg) (vp_nar .byte (dOnes ((((x0 / 100) * 100) - x0).toNatClampNeg))))))]) := hD
      refine lv_aload_n F.1 F.2.1 dJ6_getChars_ba4f3_56 rfl (lv_at hl 4 rfl) ?_
      refine lv_iinc (v := (x5 + (-1)) + (-1)) (lv' := [(5, .int ((x5 + (-1)) + (-1))), (0, .int (x0 / 100)), (4, .int (((x0 / 100) * 100) - x0)), (3, .int (x0 / 100)), (2, .ref b0), (6, .int x6)]) F.1 F.2.1 dJ6_getChars_ba4f3_57 hl (k := 0) rfl (by rfl) (by decide) rfl (fun ls hl => ?_)
      refine lv_iload F.1 F.2.1 dJ6_getChars_ba4f3_60 (lv_at hl 0 rfl) ?_
      refine va_gets F.1 F.2.1 hX.d2 hS F.2.2.2.1 (F.2.2.2.2 _ q657) (fun _ h => h) dJ6_getChars_ba4f3_62 ?_
      refine lv_iload F.1 F.2.1 dJ6_getChars_ba4f3_65 (lv_at hl 2 rfl) ?_
      obtain ⟨k14, h⟩ := gd_ok h
      refine va_tb F.1 F.2.1 hX.d2T hS (inR_in k14) rfl dJ6_getChars_ba4f3_67 ?_
      obtain ⟨k15, h⟩ := gd_ok h
      refine va_bast F.1 F.2.1 hE.1 hP hD hS 0 5 rfl rfl (inR_in k15) dJ6_getChars_ba4f3_68 (fun H locs hP hD hS => ?_)
      replace hP : va_P (dC, dI) vwCl ([(b0, .inl (g 5, vq, .inl (upd (upd vv ((x5 + (-1)).toNatClampNeg) (vp_nar .byte (dOnes ((((x0 / 100) * 100) - x0).toNatClampNeg)))) (((x5 + (-1)) + (-1)).toNatClampNeg) (vp_nar .byte (dTens ((((x0 / 100) * 100) - x0).toNatClampNeg))))))]) H := hP
      replace hD : va_D A ([(b0, .inl (g 5, vq, .inl (upd (upd vv ((x5 + (-1)).toNatClampNeg) (vp_nar .byte (dOnes ((((x0 / 100) * 100) - x0).toNatClampNeg)))) (((x5 + (-1)) + (-1)).toNatClampNeg) (vp_nar .byte (dTens ((((x0 / 100) * 100) - x0).toNatClampNeg))))))]) := hD
      refine lv_goto (tgt := 22) F.1 F.2.1 dJ6_getChars_ba4f3_69 (by decide) ?_
      exact ih (x0 / 100) ((x5 + (-1)) + (-1)) (upd (upd vv ((x5 + (-1)).toNatClampNeg) (vp_nar .byte (dOnes ((((x0 / 100) * 100) - x0).toNatClampNeg)))) (((x5 + (-1)) + (-1)).toNatClampNeg) (vp_nar .byte (dTens ((((x0 / 100) * 100) - x0).toNatClampNeg)))) h _ _ hP hD hS ls (lv_sub hl [1, 4, 0, 5] rfl)
set_option maxHeartbeats 4000000 in
set_option maxRecDepth 100000 in
theorem tJ6_getChars_ba4f3 (l : Launch) (dC : Nat → ClassId) (dI : Nat → Nat → Nat) (g : Nat → ClassId) (b0 : Nat) (vq : Nat) (vv : Nat → Int32) (p0 : Int32) (p1 : Int32) {r : Int32 × (Nat → Int32)} (h : fJ6_getChars_ba4f3 vq vv p0 p1 = some r) : MU l yJ6_getChars_ba4f3 cJ6_getChars_ba4f3 7 (some .int) 0 0 0 0 dC dI g [.int p0, .int p1, .ref b0] ([(b0, .inl (g 5, vq, .inl vv))]) ([(b0, .inl (g 5, vq, .inl r.2))]) (some (.int r.1)) := by
  refine MU_of (by decide +kernel) (Nat.le_of_ble_eq_true rfl) ?_
  intro p e s m below meth c ls F hr hlocks hE hX hA hP hD hS hl
  generalize va_A ([(b0, .inl (g 5, vq, .inl vv))]) s.heap.size = A at hA hD hS hX ⊢
  replace F : CF p m c cJ6_getChars_ba4f3 7 s _ RJ6 := F
  replace hl : lv_has ls 7 [(0, .int p0), (1, .int p1), (2, .ref b0)] := hl
  rw [fJ6_getChars_ba4f3] at h
  refine lv_iload_n F.1 F.2.1 dJ6_getChars_ba4f3_0 rfl (lv_at hl 1 rfl) ?_
  refine lv_istore (lv' := [(5, .int p1), (0, .int p0), (1, .int p1), (2, .ref b0)]) F.1 F.2.1 dJ6_getChars_ba4f3_1 hl (by decide) rfl (fun ls hl => ?_)
  refine lv_iload_n F.1 F.2.1 dJ6_getChars_ba4f3_3 rfl (lv_at hl 1 rfl) ?_
  refine lv_if_ge (tgt := 11) F.1 F.2.1 dJ6_getChars_ba4f3_4 (by decide) (fun k1 => ?_) (fun k1 => ?_)
  · replace h := it_t k1 h
    refine lv_iconst (v := 0) F.1 F.2.1 dJ6_getChars_ba4f3_11 (by decide) ?_
    refine lv_istore (lv' := [(6, .int 0), (5, .int p1), (0, .int p0), (1, .int p1), (2, .ref b0)]) F.1 F.2.1 dJ6_getChars_ba4f3_12 hl (by decide) rfl (fun ls hl => ?_)
    refine lv_iload F.1 F.2.1 dJ6_getChars_ba4f3_14 (lv_at hl 0 rfl) ?_
    refine lv_if_ne (tgt := 22) F.1 F.2.1 dJ6_getChars_ba4f3_16 (by decide) (fun k => absurd rfl k) (fun _ => ?_)
    refine lv_iload_n F.1 F.2.1 dJ6_getChars_ba4f3_19 rfl (lv_at hl 2 rfl) ?_
    refine lv_ineg F.1 F.2.1 dJ6_getChars_ba4f3_20 ?_
    refine lv_istore_n (lv' := [(0, .int (-p0)), (6, .int 0), (5, .int p1), (1, .int p1), (2, .ref b0)]) F.1 F.2.1 dJ6_getChars_ba4f3_21 rfl hl (by decide) rfl (fun ls hl => ?_)
    exact tJ6_getChars_ba4f3_L22 F hr hlocks hE hX hA 0 vq FU (-p0) p1 vv h _ _ hP hD hS ls (lv_sub hl [0, 4, 2, 1] rfl)
  · replace h := it_f k1 h
    refine lv_iconst (v := 1) F.1 F.2.1 dJ6_getChars_ba4f3_7 (by decide) ?_
    refine lv_goto (tgt := 12) F.1 F.2.1 dJ6_getChars_ba4f3_8 (by decide) ?_
    refine lv_istore (lv' := [(6, .int 1), (5, .int p1), (0, .int p0), (1, .int p1), (2, .ref b0)]) F.1 F.2.1 dJ6_getChars_ba4f3_12 hl (by decide) rfl (fun ls hl => ?_)
    refine lv_iload F.1 F.2.1 dJ6_getChars_ba4f3_14 (lv_at hl 0 rfl) ?_
    refine lv_if_ne (tgt := 22) F.1 F.2.1 dJ6_getChars_ba4f3_16 (by decide) (fun _ => ?_) (fun k => absurd k (by decide))
    exact tJ6_getChars_ba4f3_L22 F hr hlocks hE hX hA 1 vq FU p0 p1 vv h _ _ hP hD hS ls (lv_sub hl [2, 4, 1, 0] rfl)
