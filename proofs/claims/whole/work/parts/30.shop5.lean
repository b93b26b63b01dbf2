/-! WireCutter$Loads.enterPiece -/
def fX4_enterPiece_L23 (x1 : Int32) (x4 : Int32) : Nat → Int32 → (Nat → Int32) → Option ((Nat → Int32))
  | 0, _, _ => none
  | k + 1, x5, ut =>
    if x5 < x4 then
      some (ut)
    else
      gd (inR (x5 - x4) 1005) <|
      gd (inR x5 1005) <|
      if ((ut ((x5 - x4).toNatClampNeg)) + x1) ≤ (ut x5.toNatClampNeg) then
        fX4_enterPiece_L23 x1 x4 k (x5 + (-1)) ut
      else
        gd (inR x5 1005) <|
        fX4_enterPiece_L23 x1 x4 k (x5 + (-1)) (upd ut x5.toNatClampNeg ((ut ((x5 - x4).toNatClampNeg)) + x1))
def fX4_enterPiece (ut : Nat → Int32) (p1 : Int32) (p2 : Int32) (p3 : Int32) : Option ((Nat → Int32)) :=
  if (p1 + p2) < 0 then
    some (ut)
  else
    if p3 < (nI 1005) then
      fX4_enterPiece_L23 p1 (p1 + p2) FU p3 ut
    else
      some (ut)
theorem mbX4_enterPiece : MV yX4_enterPiece cX4_enterPiece 7 none 3 := ⟨⟨q460, q9, by decide +kernel⟩, q459, qs2⟩
set_option maxHeartbeats 4000000 in
set_option maxRecDepth 100000 in
theorem tX4_enterPiece_L23 {p : Program} {l : Launch} {e : Env} {s : State} {m : MethodId} {args : Array Value} {below : List Frame} {meth : Method} {c : Code} {dC : Nat → ClassId} {dI : Nat → Nat → Nat} {g : Nat → ClassId} {a0 a1 a2 a3 : Nat} {r : (Nat → Int32)} {A : Nat → Prop} (F : CF p m c cX4_enterPiece 7 s args RX4) (hr : meth.sig.returnType = none) (hlocks : meth.locks = false) (hE : EK dC dI g s) (hX : EX g A s s.heap) (hA : ∀ q : Nat, s.heap.size ≤ q → A q) (x1 : Int32) (x4 : Int32) (upn : Int32) (upf : Nat → Int32) : ∀ (k : Nat) (x5 : Int32) (ut : Nat → Int32), fX4_enterPiece_L23 x1 x4 k x5 ut = some r → ∀ (H : Heap) (locs : List Loc), va_P (dC, dI) vwCl (catp [[(a0, .inr (7, [.ref a1, .ref a2]))], [(a1, .inl (g 0, 1005, .inl ut))], wX7 g a2 a3 12 upn upf] []) H → va_D A (catp [[(a0, .inr (7, [.ref a1, .ref a2]))], [(a1, .inl (g 0, 1005, .inl ut))], wX7 g a2 a3 12 upn upf] []) → va_S A s.heap H locs → ∀ (ls : Array Slot), lv_has ls 7 [(0, .ref a0), (1, .int x1), (4, .int x4), (5, .int x5)] → W p l e { frames := 0, cells := 0, slots := 0, locals := 0 } s m args below meth c H locs 0 0 (MQ below (fun _ st o t => o = .returned none ∧ va_P (dC, dI) vwCl (wX4 g a0 a1 a2 a3 r upn upf) t.heap ∧ va_F A st t) args s 0 0 A) (F0 m 23 ls []) := by
  intro k
  induction k with
  | zero =>
    intro x5 ut h
    exact absurd h (by simp [fX4_enterPiece_L23])
  | succ k ih =>
    intro x5 ut h H locs hP hD hS ls hl
    rw [fX4_enterPiece_L23] at h
    refine lv_iload F.1 F.2.1 dX4_enterPiece_23 (lv_at hl 3 rfl) ?_
    refine lv_iload F.1 F.2.1 dX4_enterPiece_25 (lv_at hl 2 rfl) ?_
    refine lv_icmp_lt (tgt := 71) F.1 F.2.1 dX4_enterPiece_27 (by decide) (fun k3 => ?_) (fun k3 => ?_)
    · replace h := it_t k3 h
      cases h
      exact MU_v F hr hlocks (Nat.le_refl _) (Nat.le_refl _) hP hS dX4_enterPiece_71
    · replace h := it_f k3 h
      refine lv_aload_n F.1 F.2.1 dX4_enterPiece_30 rfl (lv_at hl 0 rfl) ?_
      refine gF (v := .ref a1) F hE hP 0 rfl rfl inX4 0 (by decide) q221 rfl dX4_enterPiece_31 ?_
      refine lv_iload F.1 F.2.1 dX4_enterPiece_34 (lv_at hl 3 rfl) ?_
      refine lv_iload F.1 F.2.1 dX4_enterPiece_36 (lv_at hl 2 rfl) ?_
      refine lv_isub F.1 F.2.1 dX4_enterPiece_38 ?_
      obtain ⟨k4, h⟩ := gd_ok h
      refine aLi (k := (x5 - x4).toNatClampNeg) F hE hP 1 0 rfl rfl k4 rfl dX4_enterPiece_39 ?_
      refine lv_iload_n F.1 F.2.1 dX4_enterPiece_40 rfl (lv_at hl 1 rfl) ?_
      refine lv_iadd F.1 F.2.1 dX4_enterPiece_41 ?_
      refine lv_istore (lv' := [(6, .int ((ut ((x5 - x4).toNatClampNeg)) + x1)), (0, .ref a0), (1, .int x1), (4, .int x4), (5, .int x5)]) F.1 F.2.1 dX4_enterPiece_42 hl (by decide) rfl (fun ls hl => ?_)
      refine lv_iload F.1 F.2.1 dX4_enterPiece_44 (lv_at hl 0 rfl) ?_
      refine lv_aload_n F.1 F.2.1 dX4_enterPiece_46 rfl (lv_at hl 1 rfl) ?_
      refine gF (v := .ref a1) F hE hP 0 rfl rfl inX4 0 (by decide) q221 rfl dX4_enterPiece_47 ?_
      refine lv_iload F.1 F.2.1 dX4_enterPiece_50 (lv_at hl 4 rfl) ?_
      obtain ⟨k5, h⟩ := gd_ok h
      refine aLi (k := x5.toNatClampNeg) F hE hP 1 0 rfl rfl k5 rfl dX4_enterPiece_52 ?_
      refine lv_icmp_le (tgt := 65) F.1 F.2.1 dX4_enterPiece_53 (by decide) (fun k6 => ?_) (fun k6 => ?_)
      · replace h := it_t k6 h
        refine lv_iinc (v := x5 + (-1)) (lv' := [(5, .int (x5 + (-1))), (6, .int ((ut ((x5 - x4).toNatClampNeg)) + x1)), (0, .ref a0), (1, .int x1), (4, .int x4)]) F.1 F.2.1 dX4_enterPiece_65 hl (k := 4) rfl (by rfl) (by decide) rfl (fun ls hl => ?_)
        refine lv_goto (tgt := 23) F.1 F.2.1 dX4_enterPiece_68 (by decide) ?_
        exact ih (x5 + (-1)) ut h _ _ hP hD hS ls (lv_sub hl [2, 3, 4, 0] rfl)
      · replace h := it_f k6 h
        refine lv_aload_n F.1 F.2.1 dX4_enterPiece_56 rfl (lv_at hl 1 rfl) ?_
        refine gF (v := .ref a1) F hE hP 0 rfl rfl inX4 0 (by decide) q221 rfl dX4_enterPiece_57 ?_
        refine lv_iload F.1 F.2.1 dX4_enterPiece_60 (lv_at hl 4 rfl) ?_
        refine lv_iload F.1 F.2.1 dX4_enterPiece_62 (lv_at hl 0 rfl) ?_
        obtain ⟨k7, h⟩ := gd_ok h
        refine aSi (k := x5.toNatClampNeg) F hE hP hD hS 1 0 rfl rfl k7 rfl dX4_enterPiece_64 (fun H locs hP hD hS => ?_)
        replace hP : va_P (dC, dI) vwCl (catp [[(a0, .inr (7, [.ref a1, .ref a2]))], [(a1, .inl (g 0, 1005, .inl (upd ut x5.toNatClampNeg ((ut ((x5 - x4).toNatClampNeg)) + x1))))], wX7 g a2 a3 12 upn upf] []) H := hP
        replace hD : va_D A (catp [[(a0, .inr (7, [.ref a1, .ref a2]))], [(a1, .inl (g 0, 1005, .inl (upd ut x5.toNatClampNeg ((ut ((x5 - x4).toNatClampNeg)) + x1))))], wX7 g a2 a3 12 upn upf] []) := hD
        refine lv_iinc (v := x5 + (-1)) (lv' := [(5, .int (x5 + (-1))), (6, .int ((ut ((x5 - x4).toNatClampNeg)) + x1)), (0, .ref a0), (1, .int x1), (4, .int x4)]) F.1 F.2.1 dX4_enterPiece_65 hl (k := 4) rfl (by rfl) (by decide) rfl (fun ls hl => ?_)
        refine lv_goto (tgt := 23) F.1 F.2.1 dX4_enterPiece_68 (by decide) ?_
        exact ih (x5 + (-1)) (upd ut x5.toNatClampNeg ((ut ((x5 - x4).toNatClampNeg)) + x1)) h _ _ hP hD hS ls (lv_sub hl [2, 3, 4, 0] rfl)
set_option maxHeartbeats 4000000 in
set_option maxRecDepth 100000 in
theorem tX4_enterPiece (l : Launch) (dC : Nat → ClassId) (dI : Nat → Nat → Nat) (g : Nat → ClassId) (a0 a1 a2 a3 : Nat) (ut : Nat → Int32) (upn : Int32) (upf : Nat → Int32) (p1 : Int32) (p2 : Int32) (p3 : Int32) {r : (Nat → Int32)} (h : fX4_enterPiece ut p1 p2 p3 = some r) : MU l yX4_enterPiece cX4_enterPiece 7 none 0 0 0 0 dC dI g [.ref a0, .int p1, .int p2, .int p3] (wX4 g a0 a1 a2 a3 ut upn upf) (wX4 g a0 a1 a2 a3 r upn upf) none := by
  refine MU_of (by decide) (Nat.le_of_ble_eq_true rfl) ?_
  intro p e s m below meth c ls F hr hlocks hE hX hA hP hD hS hl
  generalize va_A (wX4 g a0 a1 a2 a3 ut upn upf) s.heap.size = A at hA hD hS hX ⊢
  replace F : CF p m c cX4_enterPiece 7 s _ RX4 := F
  replace hl : lv_has ls 7 [(0, .ref a0), (1, .int p1), (2, .int p2), (3, .int p3)] := hl
  rw [fX4_enterPiece] at h
  replace hP : va_P (dC, dI) vwCl (catp [[(a0, .inr (7, [.ref a1, .ref a2]))], [(a1, .inl (g 0, 1005, .inl ut))], wX7 g a2 a3 12 upn upf] []) s.heap := hP
  replace hD : va_D A (catp [[(a0, .inr (7, [.ref a1, .ref a2]))], [(a1, .inl (g 0, 1005, .inl ut))], wX7 g a2 a3 12 upn upf] []) := hD
  refine lv_iload_n F.1 F.2.1 dX4_enterPiece_0 rfl (lv_at hl 1 rfl) ?_
  refine lv_iload_n F.1 F.2.1 dX4_enterPiece_1 rfl (lv_at hl 2 rfl) ?_
  refine lv_iadd F.1 F.2.1 dX4_enterPiece_2 ?_
  refine lv_istore (lv' := [(4, .int (p1 + p2)), (0, .ref a0), (1, .int p1), (2, .int p2), (3, .int p3)]) F.1 F.2.1 dX4_enterPiece_3 hl (by decide) rfl (fun ls hl => ?_)
  refine lv_iload F.1 F.2.1 dX4_enterPiece_5 (lv_at hl 0 rfl) ?_
  refine lv_if_lt (tgt := 19) F.1 F.2.1 dX4_enterPiece_7 (by decide) (fun k1 => ?_) (fun k1 => ?_)
  · replace h := it_t k1 h
    cases h
    exact MU_v F hr hlocks (Nat.le_refl _) (Nat.le_refl _) hP hS dX4_enterPiece_19
  · replace h := it_f k1 h
    refine lv_iload_n F.1 F.2.1 dX4_enterPiece_10 rfl (lv_at hl 4 rfl) ?_
    refine lv_aload_n F.1 F.2.1 dX4_enterPiece_11 rfl (lv_at hl 1 rfl) ?_
    refine gF (v := .ref a1) F hE hP 0 rfl rfl inX4 0 (by decide) q221 rfl dX4_enterPiece_12 ?_
    refine va_alen (v := nI 1005) F.1 F.2.1 hE.1 hP 1 0 rfl rfl rfl dX4_enterPiece_15 ?_
    refine lv_icmp_lt (tgt := 20) F.1 F.2.1 dX4_enterPiece_16 (by decide) (fun k2 => ?_) (fun k2 => ?_)
    · replace h := it_t k2 h
      refine lv_iload_n F.1 F.2.1 dX4_enterPiece_20 rfl (lv_at hl 4 rfl) ?_
      refine lv_istore (lv' := [(5, .int p3), (4, .int (p1 + p2)), (0, .ref a0), (1, .int p1), (2, .int p2), (3, .int p3)]) F.1 F.2.1 dX4_enterPiece_21 hl (by decide) rfl (fun ls hl => ?_)
      exact tX4_enterPiece_L23 F hr hlocks hE hX hA p1 (p1 + p2) upn upf FU p3 ut h _ _ hP hD hS ls (lv_sub hl [2, 3, 1, 0] rfl)
    · replace h := it_f k2 h
      cases h
      exact MU_v F hr hlocks (Nat.le_refl _) (Nat.le_refl _) hP hS dX4_enterPiece_19
/-! WireCutter$Loads.byTable -/
def fX4_byTable_L63 (x3 : Int32) (upn : Int32) (upf : Nat → Int32) (vk : Int32) : Nat → Int32 → (Nat → Int32) → Option (Int32 × (Nat → Int32) × Int32 × (Nat → Int32))
  | 0, _, _ => none
  | k + 1, x4, ut =>
    (fX7_size upn).bind fun z10 =>
    if z10 ≤ x4 then
      gd (inR x3 1005) <|
      some (ut x3.toNatClampNeg, ut, upn, upf)
    else
      (fX7_get 12 upn upf x4).bind fun z14 =>
      (fX4_enterPiece ut z14 vk x3).bind fun z16 =>
      fX4_byTable_L63 x3 upn upf vk k (x4 + 1) z16
def fX4_byTable_L40 (x3 : Int32) (upn : Int32) (upf : Nat → Int32) (vk : Int32) : Nat → Int32 → (Nat → Int32) → Option (Int32 × (Nat → Int32) × Int32 × (Nat → Int32))
  | 0, _, _ => none
  | k + 1, x4, ut =>
    if x3 < x4 then
      fX4_byTable_L63 x3 upn upf vk FU 0 ut
    else
      gd (inR x4 1005) <|
      fX4_byTable_L40 x3 upn upf vk k (x4 + 1) (upd ut x4.toNatClampNeg 0)
def fX4_byTable (ut : Nat → Int32) (upf : Nat → Int32) (vk : Int32) (vsMn : Int32) (vsMf : Nat → Int32) (vsLn : Int32) (vsLf : Nat → Int32) (voNn : Int32) (voMn : Int32) (voMf : Nat → Int32) (voLn : Int32) (voLf : Nat → Int32) (p2 : Int32) : Option (Int32 × (Nat → Int32) × Int32 × (Nat → Int32)) :=
  (fX9_materialAt vsMn vsMf p2).bind fun z1 =>
  (fX4_gatherPieces upf voNn voMn voMf voLn voLf z1).bind fun z3 =>
  (fX4_roomOf vk vsLn vsLf p2).bind fun z5 =>
  if z5 < 0 then
    some (0, ut, z3.1, z3.2)
  else
    if z5 < (nI 1005) then
      fX4_byTable_L40 z5 z3.1 z3.2 vk FU 0 ut
    else
      some (0, ut, z3.1, z3.2)
theorem mbX4_byTable : MV yX4_byTable cX4_byTable 5 (some .int) 2 := ⟨⟨q417, q9, by decide +kernel⟩, q415, q416⟩
set_option maxHeartbeats 4000000 in
set_option maxRecDepth 100000 in
theorem tX4_byTable_L63 {p : Program} {l : Launch} {e : Env} {s : State} {m : MethodId} {args : Array Value} {below : List Frame} {meth : Method} {c : Code} {dC : Nat → ClassId} {dI : Nat → Nat → Nat} {g : Nat → ClassId} {a0 a1 a2 a3 b0 b1 b2 b3 b4 b5 b6 b7 b8 b9 b10 b11 b12 b13 b14 b15 b16 b17 b18 b19 b20 b21 b22 b23 b24 b25 b26 b27 b28 b29 b30 b31 b32 : Nat} {r : Int32 × (Nat → Int32) × Int32 × (Nat → Int32)} {A : Nat → Prop} (F : CF p m c cX4_byTable 5 s args RX4) (hr : meth.sig.returnType = (some .int)) (hlocks : meth.locks = false) (hE : EK dC dI g s) (hX : EX g A s s.heap) (hA : ∀ q : Nat, s.heap.size ≤ q → A q) (x3 : Int32) (upn : Int32) (upf : Nat → Int32) (vk : Int32) (vl : Int32) (vr : Int32) (vsx : Int32) (vsNn : Int32) (vsNf : Nat → Int32) (vsMn : Int32) (vsMf : Nat → Int32) (vsLn : Int32) (vsLf : Nat → Int32) (vsKn : Int32) (vsKf : Nat → Int32) (vcMn : Int32) (vcMf : Nat → Int32) (vcLn : Int32) (vcLf : Nat → Int32) (vcTn : Int32) (vcTf : Nat → Int32) (vox : Int32) (voNn : Int32) (voNf : Nat → Int32) (voMn : Int32) (voMf : Nat → Int32) (voLn : Int32) (voLf : Nat → Int32) (voDn : Int32) (voDf : Nat → Int32) (vac : Int32) (vaWn : Int32) (vaWf : Nat → Int32) (vaDn : Int32) (vaDf : Nat → Int32) (vaLn : Int32) (vaLf : Nat → Int32) : ∀ (k : Nat) (x4 : Int32) (ut : Nat → Int32), fX4_byTable_L63 x3 upn upf vk k x4 ut = some r → ∀ (H : Heap) (locs : List Loc), va_P (dC, dI) vwCl (catp [[(a0, .inr (7, [.ref a1, .ref a2]))], [(a1, .inl (g 0, 1005, .inl ut))], wX7 g a2 a3 12 upn upf, [(b0, .inr (13, [.ref b1, .ref b10, .ref b17, .ref b26, .int vk, .int vl, .int vr]))], wX9 g b1 b2 b3 b4 b5 b6 b7 b8 b9 vsx vsNn vsNf vsMn vsMf vsLn vsLf vsKn vsKf, wX8 g b10 b11 b12 b13 b14 b15 b16 vcMn vcMf vcLn vcLf vcTn vcTf, wX5 g b17 b18 b19 b20 b21 b22 b23 b24 b25 vox voNn voNf voMn voMf voLn voLf voDn voDf, wX1 g b26 b27 b28 b29 b30 b31 b32 vac vaWn vaWf vaDn vaDf vaLn vaLf] []) H → va_D A (catp [[(a0, .inr (7, [.ref a1, .ref a2]))], [(a1, .inl (g 0, 1005, .inl ut))], wX7 g a2 a3 12 upn upf, [(b0, .inr (13, [.ref b1, .ref b10, .ref b17, .ref b26, .int vk, .int vl, .int vr]))], wX9 g b1 b2 b3 b4 b5 b6 b7 b8 b9 vsx vsNn vsNf vsMn vsMf vsLn vsLf vsKn vsKf, wX8 g b10 b11 b12 b13 b14 b15 b16 vcMn vcMf vcLn vcLf vcTn vcTf, wX5 g b17 b18 b19 b20 b21 b22 b23 b24 b25 vox voNn voNf voMn voMf voLn voLf voDn voDf, wX1 g b26 b27 b28 b29 b30 b31 b32 vac vaWn vaWf vaDn vaDf vaLn vaLf] []) → va_S A s.heap H locs → ∀ (ls : Array Slot), lv_has ls 5 [(0, .ref a0), (1, .ref b0), (3, .int x3), (4, .int x4)] → W p l e { frames := 3, cells := 0, slots := 0, locals := 65 } s m args below meth c H locs 0 0 (MQ below (fun _ st o t => o = .returned (some (.int r.1)) ∧ va_P (dC, dI) vwCl (wX4 g a0 a1 a2 a3 r.2.1 r.2.2.1 r.2.2.2 ++ wX11 g b0 b1 b2 b3 b4 b5 b6 b7 b8 b9 b10 b11 b12 b13 b14 b15 b16 b17 b18 b19 b20 b21 b22 b23 b24 b25 b26 b27 b28 b29 b30 b31 b32 vk vl vr vsx vsNn vsNf vsMn vsMf vsLn vsLf vsKn vsKf vcMn vcMf vcLn vcLf vcTn vcTf vox voNn voNf voMn voMf voLn voLf voDn voDf vac vaWn vaWf vaDn vaDf vaLn vaLf) t.heap ∧ va_F A st t) args s 0 0 A) (F0 m 63 ls []) := by
  intro k
  induction k with
  | zero =>
    intro x4 ut h
    exact absurd h (by simp [fX4_byTable_L63])
  | succ k ih =>
    intro x4 ut h H locs hP hD hS ls hl
    rw [fX4_byTable_L63] at h
    refine lv_iload F.1 F.2.1 dX4_byTable_63 (lv_at hl 3 rfl) ?_
    refine lv_aload_n F.1 F.2.1 dX4_byTable_65 rfl (lv_at hl 0 rfl) ?_
    refine gF (v := .ref a2) F hE hP 0 rfl rfl inX4 1 (by decide) q222 rfl dX4_byTable_66 ?_
    obtain ⟨z10, k11, h⟩ := bd_ok h
    refine cRV1 (As := []) (rest := [.int x4]) (post := catp [[(b0, .inr (13, [.ref b1, .ref b10, .ref b17, .ref b26, .int vk, .int vl, .int vr]))], wX9 g b1 b2 b3 b4 b5 b6 b7 b8 b9 vsx vsNn vsNf vsMn vsMf vsLn vsLf vsKn vsKf, wX8 g b10 b11 b12 b13 b14 b15 b16 vcMn vcMf vcLn vcLf vcTn vcTf, wX5 g b17 b18 b19 b20 b21 b22 b23 b24 b25 vox voNn voNf voMn voMf voLn voLf voDn voDf, wX1 g b26 b27 b28 b29 b30 b31 b32 vac vaWn vaWf vaDn vaDf vaLn vaLf] []) F hE hX hS (tX7_size l dC dI g a2 a3 12 upn upf k11) mbX7_size q455 ⟨(Nat.le_of_ble_eq_true rfl), (Nat.le_of_ble_eq_true rfl)⟩ ⟨Nat.zero_le _, Nat.zero_le _⟩ hP [[(a0, .inr (7, [.ref a1, .ref a2]))], [(a1, .inl (g 0, 1005, .inl ut))]] rfl 0 rfl rfl rfl hl.1 rfl (Nat.le_of_ble_eq_true rfl) dX4_byTable_69 ?_
    refine lv_icmp_ge (tgt := 99) F.1 F.2.1 dX4_byTable_72 (by decide) (fun k12 => ?_) (fun k12 => ?_)
    · replace h := it_t k12 h
      refine lv_aload_n F.1 F.2.1 dX4_byTable_99 rfl (lv_at hl 0 rfl) ?_
      refine gF (v := .ref a1) F hE hP 0 rfl rfl inX4 0 (by decide) q221 rfl dX4_byTable_100 ?_
      refine lv_iload_n F.1 F.2.1 dX4_byTable_103 rfl (lv_at hl 2 rfl) ?_
      obtain ⟨k13, h⟩ := gd_ok h
      refine aLi (k := x3.toNatClampNeg) F hE hP 1 0 rfl rfl k13 rfl dX4_byTable_104 ?_
      cases h
      exact MU_i F hr hlocks (Nat.le_refl _) (Nat.le_refl _) hP hS dX4_byTable_105
    · replace h := it_f k12 h
      refine lv_aload_n F.1 F.2.1 dX4_byTable_75 rfl (lv_at hl 0 rfl) ?_
      refine lv_aload_n F.1 F.2.1 dX4_byTable_76 rfl (lv_at hl 0 rfl) ?_
      refine gF (v := .ref a2) F hE hP 0 rfl rfl inX4 1 (by decide) q222 rfl dX4_byTable_77 ?_
      refine lv_iload F.1 F.2.1 dX4_byTable_80 (lv_at hl 3 rfl) ?_
      obtain ⟨z14, k15, h⟩ := bd_ok h
      refine cRV1 (As := [.int x4]) (rest := [.ref a0]) (post := catp [[(b0, .inr (13, [.ref b1, .ref b10, .ref b17, .ref b26, .int vk, .int vl, .int vr]))], wX9 g b1 b2 b3 b4 b5 b6 b7 b8 b9 vsx vsNn vsNf vsMn vsMf vsLn vsLf vsKn vsKf, wX8 g b10 b11 b12 b13 b14 b15 b16 vcMn vcMf vcLn vcLf vcTn vcTf, wX5 g b17 b18 b19 b20 b21 b22 b23 b24 b25 vox voNn voNf voMn voMf voLn voLf voDn voDf, wX1 g b26 b27 b28 b29 b30 b31 b32 vac vaWn vaWf vaDn vaDf vaLn vaLf] []) F hE hX hS (tX7_get l dC dI g a2 a3 12 upn upf x4 k15) mbX7_get q456 ⟨(Nat.le_of_ble_eq_true rfl), (Nat.le_of_ble_eq_true rfl)⟩ ⟨Nat.zero_le _, Nat.zero_le _⟩ hP [[(a0, .inr (7, [.ref a1, .ref a2]))], [(a1, .inl (g 0, 1005, .inl ut))]] rfl 0 rfl rfl rfl hl.1 rfl (Nat.le_of_ble_eq_true rfl) dX4_byTable_82 ?_
      refine lv_aload_n F.1 F.2.1 dX4_byTable_85 rfl (lv_at hl 1 rfl) ?_
      refine gFN (v := .int vk) F hE hP 4 rfl rfl inX11 4 (by decide) q173 rfl dX4_byTable_86 ?_
      refine lv_iload_n F.1 F.2.1 dX4_byTable_89 rfl (lv_at hl 2 rfl) ?_
      obtain ⟨z16, k17, h⟩ := bd_ok h
      refine cMV1 (As := [.int z14, .int vk, .int x3]) (rest := []) (post := catp [[(b0, .inr (13, [.ref b1, .ref b10, .ref b17, .ref b26, .int vk, .int vl, .int vr]))], wX9 g b1 b2 b3 b4 b5 b6 b7 b8 b9 vsx vsNn vsNf vsMn vsMf vsLn vsLf vsKn vsKf, wX8 g b10 b11 b12 b13 b14 b15 b16 vcMn vcMf vcLn vcLf vcTn vcTf, wX5 g b17 b18 b19 b20 b21 b22 b23 b24 b25 vox voNn voNf voMn voMf voLn voLf voDn voDf, wX1 g b26 b27 b28 b29 b30 b31 b32 vac vaWn vaWf vaDn vaDf vaLn vaLf] []) (ws' := catp [[(a0, .inr (7, [.ref a1, .ref a2]))], [(a1, .inl (g 0, 1005, .inl z16))], wX7 g a2 a3 12 upn upf, [(b0, .inr (13, [.ref b1, .ref b10, .ref b17, .ref b26, .int vk, .int vl, .int vr]))], wX9 g b1 b2 b3 b4 b5 b6 b7 b8 b9 vsx vsNn vsNf vsMn vsMf vsLn vsLf vsKn vsKf, wX8 g b10 b11 b12 b13 b14 b15 b16 vcMn vcMf vcLn vcLf vcTn vcTf, wX5 g b17 b18 b19 b20 b21 b22 b23 b24 b25 vox voNn voNf voMn voMf voLn voLf voDn voDf, wX1 g b26 b27 b28 b29 b30 b31 b32 vac vaWn vaWf vaDn vaDf vaLn vaLf] []) F hE hX (tX4_enterPiece l dC dI g a0 a1 a2 a3 ut upn upf z14 vk x3 k17) mbX4_enterPiece q457 ⟨(Nat.le_of_ble_eq_true rfl), (Nat.le_of_ble_eq_true rfl)⟩ ⟨(Nat.le_of_ble_eq_true rfl), (Nat.le_of_ble_eq_true rfl)⟩ hP hD hS hA [] rfl rfl rfl 0 rfl rfl rfl hl.1 rfl (Nat.le_of_ble_eq_true rfl) dX4_byTable_90 (fun H locs hP hD hS => ?_)
      refine lv_iinc (v := x4 + 1) (lv' := [(4, .int (x4 + 1)), (0, .ref a0), (1, .ref b0), (3, .int x3)]) F.1 F.2.1 dX4_byTable_93 hl (k := 3) rfl (by rfl) (by decide) rfl (fun ls hl => ?_)
      refine lv_goto (tgt := 63) F.1 F.2.1 dX4_byTable_96 (by decide) ?_
      exact ih (x4 + 1) z16 h _ _ hP hD hS ls (lv_sub hl [1, 2, 3, 0] rfl)
set_option maxHeartbeats 4000000 in
set_option maxRecDepth 100000 in
theorem tX4_byTable_L40 {p : Program} {l : Launch} {e : Env} {s : State} {m : MethodId} {args : Array Value} {below : List Frame} {meth : Method} {c : Code} {dC : Nat → ClassId} {dI : Nat → Nat → Nat} {g : Nat → ClassId} {a0 a1 a2 a3 b0 b1 b2 b3 b4 b5 b6 b7 b8 b9 b10 b11 b12 b13 b14 b15 b16 b17 b18 b19 b20 b21 b22 b23 b24 b25 b26 b27 b28 b29 b30 b31 b32 : Nat} {r : Int32 × (Nat → Int32) × Int32 × (Nat → Int32)} {A : Nat → Prop} (F : CF p m c cX4_byTable 5 s args RX4) (hr : meth.sig.returnType = (some .int)) (hlocks : meth.locks = false) (hE : EK dC dI g s) (hX : EX g A s s.heap) (hA : ∀ q : Nat, s.heap.size ≤ q → A q) (x3 : Int32) (upn : Int32) (upf : Nat → Int32) (vk : Int32) (vl : Int32) (vr : Int32) (vsx : Int32) (vsNn : Int32) (vsNf : Nat → Int32) (vsMn : Int32) (vsMf : Nat → Int32) (vsLn : Int32) (vsLf : Nat → Int32) (vsKn : Int32) (vsKf : Nat → Int32) (vcMn : Int32) (vcMf : Nat → Int32) (vcLn : Int32) (vcLf : Nat → Int32) (vcTn : Int32) (vcTf : Nat → Int32) (vox : Int32) (voNn : Int32) (voNf : Nat → Int32) (voMn : Int32) (voMf : Nat → Int32) (voLn : Int32) (voLf : Nat → Int32) (voDn : Int32) (voDf : Nat → Int32) (vac : Int32) (vaWn : Int32) (vaWf : Nat → Int32) (vaDn : Int32) (vaDf : Nat → Int32) (vaLn : Int32) (vaLf : Nat → Int32) : ∀ (k : Nat) (x4 : Int32) (ut : Nat → Int32), fX4_byTable_L40 x3 upn upf vk k x4 ut = some r → ∀ (H : Heap) (locs : List Loc), va_P (dC, dI) vwCl (catp [[(a0, .inr (7, [.ref a1, .ref a2]))], [(a1, .inl (g 0, 1005, .inl ut))], wX7 g a2 a3 12 upn upf, [(b0, .inr (13, [.ref b1, .ref b10, .ref b17, .ref b26, .int vk, .int vl, .int vr]))], wX9 g b1 b2 b3 b4 b5 b6 b7 b8 b9 vsx vsNn vsNf vsMn vsMf vsLn vsLf vsKn vsKf, wX8 g b10 b11 b12 b13 b14 b15 b16 vcMn vcMf vcLn vcLf vcTn vcTf, wX5 g b17 b18 b19 b20 b21 b22 b23 b24 b25 vox voNn voNf voMn voMf voLn voLf voDn voDf, wX1 g b26 b27 b28 b29 b30 b31 b32 vac vaWn vaWf vaDn vaDf vaLn vaLf] []) H → va_D A (catp [[(a0, .inr (7, [.ref a1, .ref a2]))], [(a1, .inl (g 0, 1005, .inl ut))], wX7 g a2 a3 12 upn upf, [(b0, .inr (13, [.ref b1, .ref b10, .ref b17, .ref b26, .int vk, .int vl, .int vr]))], wX9 g b1 b2 b3 b4 b5 b6 b7 b8 b9 vsx vsNn vsNf vsMn vsMf vsLn vsLf vsKn vsKf, wX8 g b10 b11 b12 b13 b14 b15 b16 vcMn vcMf vcLn vcLf vcTn vcTf, wX5 g b17 b18 b19 b20 b21 b22 b23 b24 b25 vox voNn voNf voMn voMf voLn voLf voDn voDf, wX1 g b26 b27 b28 b29 b30 b31 b32 vac vaWn vaWf vaDn vaDf vaLn vaLf] []) → va_S A s.heap H locs → ∀ (ls : Array Slot), lv_has ls 5 [(0, .ref a0), (1, .ref b0), (3, .int x3), (4, .int x4)] → W p l e { frames := 3, cells := 0, slots := 0, locals := 65 } s m args below meth c H locs 0 0 (MQ below (fun _ st o t => o = .returned (some (.int r.1)) ∧ va_P (dC, dI) vwCl (wX4 g a0 a1 a2 a3 r.2.1 r.2.2.1 r.2.2.2 ++ wX11 g b0 b1 b2 b3 b4 b5 b6 b7 b8 b9 b10 b11 b12 b13 b14 b15 b16 b17 b18 b19 b20 b21 b22 b23 b24 b25 b26 b27 b28 b29 b30 b31 b32 vk vl vr vsx vsNn vsNf vsMn vsMf vsLn vsLf vsKn vsKf vcMn vcMf vcLn vcLf vcTn vcTf vox voNn voNf voMn voMf voLn voLf voDn voDf vac vaWn vaWf vaDn vaDf vaLn vaLf) t.heap ∧ va_F A st t) args s 0 0 A) (F0 m 40 ls []) := by
  intro k
  induction k with
  | zero =>
    intro x4 ut h
    exact absurd h (by simp [fX4_byTable_L40])
  | succ k ih =>
    intro x4 ut h H locs hP hD hS ls hl
    rw [fX4_byTable_L40] at h
    refine lv_iload F.1 F.2.1 dX4_byTable_40 (lv_at hl 3 rfl) ?_
    refine lv_iload_n F.1 F.2.1 dX4_byTable_42 rfl (lv_at hl 2 rfl) ?_
    refine lv_icmp_gt (tgt := 60) F.1 F.2.1 dX4_byTable_43 (by decide) (fun k9 => ?_) (fun k9 => ?_)
    · replace h := it_t k9 h
      refine lv_iconst (v := 0) F.1 F.2.1 dX4_byTable_60 (by decide) ?_
      refine lv_istore (lv' := [(4, .int 0), (0, .ref a0), (1, .ref b0), (3, .int x3)]) F.1 F.2.1 dX4_byTable_61 hl (by decide) rfl (fun ls hl => ?_)
      exact tX4_byTable_L63 F hr hlocks hE hX hA x3 upn upf vk vl vr vsx vsNn vsNf vsMn vsMf vsLn vsLf vsKn vsKf vcMn vcMf vcLn vcLf vcTn vcTf vox voNn voNf voMn voMf voLn voLf voDn voDf vac vaWn vaWf vaDn vaDf vaLn vaLf FU 0 ut h _ _ hP hD hS ls (lv_sub hl [1, 2, 3, 0] rfl)
    · replace h := it_f k9 h
      refine lv_aload_n F.1 F.2.1 dX4_byTable_46 rfl (lv_at hl 0 rfl) ?_
      refine gF (v := .ref a1) F hE hP 0 rfl rfl inX4 0 (by decide) q221 rfl dX4_byTable_47 ?_
      refine lv_iload F.1 F.2.1 dX4_byTable_50 (lv_at hl 3 rfl) ?_
      refine lv_iconst (v := 0) F.1 F.2.1 dX4_byTable_52 (by decide) ?_
      obtain ⟨k18, h⟩ := gd_ok h
      refine aSi (k := x4.toNatClampNeg) F hE hP hD hS 1 0 rfl rfl k18 rfl dX4_byTable_53 (fun H locs hP hD hS => ?_)
      replace hP : va_P (dC, dI) vwCl (catp [[(a0, .inr (7, [.ref a1, .ref a2]))], [(a1, .inl (g 0, 1005, .inl (upd ut x4.toNatClampNeg 0)))], wX7 g a2 a3 12 upn upf, [(b0, .inr (13, [.ref b1, .ref b10, .ref b17, .ref b26, .int vk, .int vl, .int vr]))], wX9 g b1 b2 b3 b4 b5 b6 b7 b8 b9 vsx vsNn vsNf vsMn vsMf vsLn vsLf vsKn vsKf, wX8 g b10 b11 b12 b13 b14 b15 b16 vcMn vcMf vcLn vcLf vcTn vcTf, wX5 g b17 b18 b19 b20 b21 b22 b23 b24 b25 vox voNn voNf voMn voMf voLn voLf voDn voDf, wX1 g b26 b27 b28 b29 b30 b31 b32 vac vaWn vaWf vaDn vaDf vaLn vaLf] []) H := hP
      replace hD : va_D A (catp [[(a0, .inr (7, [.ref a1, .ref a2]))], [(a1, .inl (g 0, 1005, .inl (upd ut x4.toNatClampNeg 0)))], wX7 g a2 a3 12 upn upf, [(b0, .inr (13, [.ref b1, .ref b10, .ref b17, .ref b26, .int vk, .int vl, .int vr]))], wX9 g b1 b2 b3 b4 b5 b6 b7 b8 b9 vsx vsNn vsNf vsMn vsMf vsLn vsLf vsKn vsKf, wX8 g b10 b11 b12 b13 b14 b15 b16 vcMn vcMf vcLn vcLf vcTn vcTf, wX5 g b17 b18 b19 b20 b21 b22 b23 b24 b25 vox voNn voNf voMn voMf voLn voLf voDn voDf, wX1 g b26 b27 b28 b29 b30 b31 b32 vac vaWn vaWf vaDn vaDf vaLn vaLf] []) := hD
      refine lv_iinc (v := x4 + 1) (lv' := [(4, .int (x4 + 1)), (0, .ref a0), (1, .ref b0), (3, .int x3)]) F.1 F.2.1 dX4_byTable_54 hl (k := 3) rfl (by rfl) (by decide) rfl (fun ls hl => ?_)
      refine lv_goto (tgt := 40) F.1 F.2.1 dX4_byTable_57 (by decide) ?_
      exact ih (x4 + 1) (upd ut x4.toNatClampNeg 0) h _ _ hP hD hS ls (lv_sub hl [1, 2, 3, 0] rfl)
set_option maxHeartbeats 4000000 in
set_option maxRecDepth 100000 in
theorem tX4_byTable (l : Launch) (dC : Nat → ClassId) (dI : Nat → Nat → Nat) (g : Nat → ClassId) (a0 a1 a2 a3 b0 b1 b2 b3 b4 b5 b6 b7 b8 b9 b10 b11 b12 b13 b14 b15 b16 b17 b18 b19 b20 b21 b22 b23 b24 b25 b26 b27 b28 b29 b30 b31 b32 : Nat) (ut : Nat → Int32) (upn : Int32) (upf : Nat → Int32) (vk : Int32) (vl : Int32) (vr : Int32) (vsx : Int32) (vsNn : Int32) (vsNf : Nat → Int32) (vsMn : Int32) (vsMf : Nat → Int32) (vsLn : Int32) (vsLf : Nat → Int32) (vsKn : Int32) (vsKf : Nat → Int32) (vcMn : Int32) (vcMf : Nat → Int32) (vcLn : Int32) (vcLf : Nat → Int32) (vcTn : Int32) (vcTf : Nat → Int32) (vox : Int32) (voNn : Int32) (voNf : Nat → Int32) (voMn : Int32) (voMf : Nat → Int32) (voLn : Int32) (voLf : Nat → Int32) (voDn : Int32) (voDf : Nat → Int32) (vac : Int32) (vaWn : Int32) (vaWf : Nat → Int32) (vaDn : Int32) (vaDf : Nat → Int32) (vaLn : Int32) (vaLf : Nat → Int32) (p2 : Int32) {r : Int32 × (Nat → Int32) × Int32 × (Nat → Int32)} (h : fX4_byTable ut upf vk vsMn vsMf vsLn vsLf voNn voMn voMf voLn voLf p2 = some r) : MU l yX4_byTable cX4_byTable 5 (some .int) 3 65 0 0 dC dI g [.ref a0, .ref b0, .int p2] (wX4 g a0 a1 a2 a3 ut upn upf ++ wX11 g b0 b1 b2 b3 b4 b5 b6 b7 b8 b9 b10 b11 b12 b13 b14 b15 b16 b17 b18 b19 b20 b21 b22 b23 b24 b25 b26 b27 b28 b29 b30 b31 b32 vk vl vr vsx vsNn vsNf vsMn vsMf vsLn vsLf vsKn vsKf vcMn vcMf vcLn vcLf vcTn vcTf vox voNn voNf voMn voMf voLn voLf voDn voDf vac vaWn vaWf vaDn vaDf vaLn vaLf) (wX4 g a0 a1 a2 a3 r.2.1 r.2.2.1 r.2.2.2 ++ wX11 g b0 b1 b2 b3 b4 b5 b6 b7 b8 b9 b10 b11 b12 b13 b14 b15 b16 b17 b18 b19 b20 b21 b22 b23 b24 b25 b26 b27 b28 b29 b30 b31 b32 vk vl vr vsx vsNn vsNf vsMn vsMf vsLn vsLf vsKn vsKf vcMn vcMf vcLn vcLf vcTn vcTf vox voNn voNf voMn voMf voLn voLf voDn voDf vac vaWn vaWf vaDn vaDf vaLn vaLf) (some (.int r.1)) := by
  refine MU_of (by decide) (Nat.le_of_ble_eq_true rfl) ?_
  intro p e s m below meth c ls F hr hlocks hE hX hA hP hD hS hl
  generalize va_A (wX4 g a0 a1 a2 a3 ut upn upf ++ wX11 g b0 b1 b2 b3 b4 b5 b6 b7 b8 b9 b10 b11 b12 b13 b14 b15 b16 b17 b18 b19 b20 b21 b22 b23 b24 b25 b26 b27 b28 b29 b30 b31 b32 vk vl vr vsx vsNn vsNf vsMn vsMf vsLn vsLf vsKn vsKf vcMn vcMf vcLn vcLf vcTn vcTf vox voNn voNf voMn voMf voLn voLf voDn voDf vac vaWn vaWf vaDn vaDf vaLn vaLf) s.heap.size = A at hA hD hS hX ⊢
  replace F : CF p m c cX4_byTable 5 s _ RX4 := F
  replace hl : lv_has ls 5 [(0, .ref a0), (1, .ref b0), (2, .int p2)] := hl
  rw [fX4_byTable] at h
  replace hP : va_P (dC, dI) vwCl (catp [[(a0, .inr (7, [.ref a1, .ref a2]))], [(a1, .inl (g 0, 1005, .inl ut))], wX7 g a2 a3 12 upn upf, [(b0, .inr (13, [.ref b1, .ref b10, .ref b17, .ref b26, .int vk, .int vl, .int vr]))], wX9 g b1 b2 b3 b4 b5 b6 b7 b8 b9 vsx vsNn vsNf vsMn vsMf vsLn vsLf vsKn vsKf, wX8 g b10 b11 b12 b13 b14 b15 b16 vcMn vcMf vcLn vcLf vcTn vcTf, wX5 g b17 b18 b19 b20 b21 b22 b23 b24 b25 vox voNn voNf voMn voMf voLn voLf voDn voDf, wX1 g b26 b27 b28 b29 b30 b31 b32 vac vaWn vaWf vaDn vaDf vaLn vaLf] []) s.heap := hP
  replace hD : va_D A (catp [[(a0, .inr (7, [.ref a1, .ref a2]))], [(a1, .inl (g 0, 1005, .inl ut))], wX7 g a2 a3 12 upn upf, [(b0, .inr (13, [.ref b1, .ref b10, .ref b17, .ref b26, .int vk, .int vl, .int vr]))], wX9 g b1 b2 b3 b4 b5 b6 b7 b8 b9 vsx vsNn vsNf vsMn vsMf vsLn vsLf vsKn vsKf, wX8 g b10 b11 b12 b13 b14 b15 b16 vcMn vcMf vcLn vcLf vcTn vcTf, wX5 g b17 b18 b19 b20 b21 b22 b23 b24 b25 vox voNn voNf voMn voMf voLn voLf voDn voDf, wX1 g b26 b27 b28 b29 b30 b31 b32 vac vaWn vaWf vaDn vaDf vaLn vaLf] []) := hD
  refine lv_aload_n F.1 F.2.1 dX4_byTable_0 rfl (lv_at hl 0 rfl) ?_
  refine lv_aload_n F.1 F.2.1 dX4_byTable_1 rfl (lv_at hl 1 rfl) ?_
  refine gFN (v := .ref b17) F hE hP 4 rfl rfl inX11 2 (by decide) q168 rfl dX4_byTable_2 ?_
  refine lv_aload_n F.1 F.2.1 dX4_byTable_5 rfl (lv_at hl 1 rfl) ?_
  refine gFN (v := .ref b1) F hE hP 4 rfl rfl inX11 0 (by decide) q163 rfl dX4_byTable_6 ?_
  refine lv_iload_n F.1 F.2.1 dX4_byTable_9 rfl (lv_at hl 2 rfl) ?_
  obtain ⟨z1, k2, h⟩ := bd_ok h
  refine cRV1 (As := [.int p2]) (rest := [.ref b17, .ref a0]) (post := catp [wX8 g b10 b11 b12 b13 b14 b15 b16 vcMn vcMf vcLn vcLf vcTn vcTf, wX5 g b17 b18 b19 b20 b21 b22 b23 b24 b25 vox voNn voNf voMn voMf voLn voLf voDn voDf, wX1 g b26 b27 b28 b29 b30 b31 b32 vac vaWn vaWf vaDn vaDf vaLn vaLf] []) F hE hX hS (tX9_materialAt l dC dI g b1 b2 b3 b4 b5 b6 b7 b8 b9 vsx vsNn vsNf vsMn vsMf vsLn vsLf vsKn vsKf p2 k2) mbX9_materialAt q418 ⟨(Nat.le_of_ble_eq_true rfl), (Nat.le_of_ble_eq_true rfl)⟩ ⟨Nat.zero_le _, Nat.zero_le _⟩ hP [[(a0, .inr (7, [.ref a1, .ref a2]))], [(a1, .inl (g 0, 1005, .inl ut))], wX7 g a2 a3 12 upn upf, [(b0, .inr (13, [.ref b1, .ref b10, .ref b17, .ref b26, .int vk, .int vl, .int vr]))]] rfl 0 rfl rfl rfl hl.1 rfl (Nat.le_of_ble_eq_true rfl) dX4_byTable_10 ?_
  obtain ⟨z3, k4, h⟩ := bd_ok h
  refine cMV2 (As := [.ref b17, .int z1]) (rest := []) (post := catp [wX1 g b26 b27 b28 b29 b30 b31 b32 vac vaWn vaWf vaDn vaDf vaLn vaLf] []) (ws' := catp [[(a0, .inr (7, [.ref a1, .ref a2]))], [(a1, .inl (g 0, 1005, .inl ut))], wX7 g a2 a3 12 z3.1 z3.2, [(b0, .inr (13, [.ref b1, .ref b10, .ref b17, .ref b26, .int vk, .int vl, .int vr]))], wX9 g b1 b2 b3 b4 b5 b6 b7 b8 b9 vsx vsNn vsNf vsMn vsMf vsLn vsLf vsKn vsKf, wX8 g b10 b11 b12 b13 b14 b15 b16 vcMn vcMf vcLn vcLf vcTn vcTf, wX5 g b17 b18 b19 b20 b21 b22 b23 b24 b25 vox voNn voNf voMn voMf voLn voLf voDn voDf, wX1 g b26 b27 b28 b29 b30 b31 b32 vac vaWn vaWf vaDn vaDf vaLn vaLf] []) F hE hX (tX4_gatherPieces l dC dI g a0 a1 a2 a3 b17 b18 b19 b20 b21 b22 b23 b24 b25 ut upn upf vox voNn voNf voMn voMf voLn voLf voDn voDf z1 k4) mbX4_gatherPieces q426 ⟨(Nat.le_of_ble_eq_true rfl), (Nat.le_of_ble_eq_true rfl)⟩ ⟨(Nat.le_of_ble_eq_true rfl), (Nat.le_of_ble_eq_true rfl)⟩ hP hD hS hA [] [[(b0, .inr (13, [.ref b1, .ref b10, .ref b17, .ref b26, .int vk, .int vl, .int vr]))], wX9 g b1 b2 b3 b4 b5 b6 b7 b8 b9 vsx vsNn vsNf vsMn vsMf vsLn vsLf vsKn vsKf, wX8 g b10 b11 b12 b13 b14 b15 b16 vcMn vcMf vcLn vcLf vcTn vcTf] rfl rfl rfl rfl 0 rfl rfl rfl hl.1 rfl (Nat.le_of_ble_eq_true rfl) dX4_byTable_13 (fun H locs hP hD hS => ?_)
  refine lv_aload_n F.1 F.2.1 dX4_byTable_16 rfl (lv_at hl 1 rfl) ?_
  refine lv_iload_n F.1 F.2.1 dX4_byTable_17 rfl (lv_at hl 2 rfl) ?_
  obtain ⟨z5, k6, h⟩ := bd_ok h
  refine cRS1 (As := [.ref b0, .int p2]) (rest := []) (post := catp [] []) F hE hX hS (tX4_roomOf l dC dI g b0 b1 b2 b3 b4 b5 b6 b7 b8 b9 b10 b11 b12 b13 b14 b15 b16 b17 b18 b19 b20 b21 b22 b23 b24 b25 b26 b27 b28 b29 b30 b31 b32 vk vl vr vsx vsNn vsNf vsMn vsMf vsLn vsLf vsKn vsKf vcMn vcMf vcLn vcLf vcTn vcTf vox voNn voNf voMn voMf voLn voLf voDn voDf vac vaWn vaWf vaDn vaDf vaLn vaLf p2 k6) mbX4_roomOf q448 ⟨(Nat.le_of_ble_eq_true rfl), (Nat.le_of_ble_eq_true rfl)⟩ ⟨Nat.zero_le _, Nat.zero_le _⟩ hP [[(a0, .inr (7, [.ref a1, .ref a2]))], [(a1, .inl (g 0, 1005, .inl ut))], wX7 g a2 a3 12 z3.1 z3.2] rfl rfl hl.1 rfl (Nat.le_of_ble_eq_true rfl) dX4_byTable_18 ?_
  refine lv_istore_n (lv' := [(3, .int z5), (0, .ref a0), (1, .ref b0), (2, .int p2)]) F.1 F.2.1 dX4_byTable_21 rfl hl (by decide) rfl (fun ls hl => ?_)
  refine lv_iload_n F.1 F.2.1 dX4_byTable_22 rfl (lv_at hl 0 rfl) ?_
  refine lv_if_lt (tgt := 35) F.1 F.2.1 dX4_byTable_23 (by decide) (fun k7 => ?_) (fun k7 => ?_)
  · replace h := it_t k7 h
    refine lv_iconst (v := 0) F.1 F.2.1 dX4_byTable_35 (by decide) ?_
    cases h
    exact MU_i F hr hlocks (Nat.le_refl _) (Nat.le_refl _) hP hS dX4_byTable_36
  · replace h := it_f k7 h
    refine lv_iload_n F.1 F.2.1 dX4_byTable_26 rfl (lv_at hl 0 rfl) ?_
    refine lv_aload_n F.1 F.2.1 dX4_byTable_27 rfl (lv_at hl 1 rfl) ?_
    refine gF (v := .ref a1) F hE hP 0 rfl rfl inX4 0 (by decide) q221 rfl dX4_byTable_28 ?_
    refine va_alen (v := nI 1005) F.1 F.2.1 hE.1 hP 1 0 rfl rfl rfl dX4_byTable_31 ?_
    refine lv_icmp_lt (tgt := 37) F.1 F.2.1 dX4_byTable_32 (by decide) (fun k8 => ?_) (fun k8 => ?_)
    · replace h := it_t k8 h
      refine lv_iconst (v := 0) F.1 F.2.1 dX4_byTable_37 (by decide) ?_
      refine lv_istore (lv' := [(4, .int 0), (3, .int z5), (0, .ref a0), (1, .ref b0), (2, .int p2)]) F.1 F.2.1 dX4_byTable_38 hl (by decide) rfl (fun ls hl => ?_)
      exact tX4_byTable_L40 F hr hlocks hE hX hA z5 z3.1 z3.2 vk vl vr vsx vsNn vsNf vsMn vsMf vsLn vsLf vsKn vsKf vcMn vcMf vcLn vcLf vcTn vcTf vox voNn voNf voMn voMf voLn voLf voDn voDf vac vaWn vaWf vaDn vaDf vaLn vaLf FU 0 ut h _ _ hP hD hS ls (lv_sub hl [2, 3, 1, 0] rfl)
    · replace h := it_f k8 h
      refine lv_iconst (v := 0) F.1 F.2.1 dX4_byTable_35 (by decide) ?_
      cases h
      exact MU_i F hr hlocks (Nat.le_refl _) (Nat.le_refl _) hP hS dX4_byTable_36
