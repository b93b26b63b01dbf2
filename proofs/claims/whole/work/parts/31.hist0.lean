/-- a state of the workshop: the contents of its cells, in their order -/
abbrev WT : Type := Int32 × Int32 × Int32 × Int32 × Int32 × (Nat → Int32) × Int32 × (Nat → Int32) × Int32 × (Nat → Int32) × Int32 × (Nat → Int32) × Int32 × (Nat → Int32) × Int32 × (Nat → Int32) × Int32 × (Nat → Int32) × Int32 × Int32 × (Nat → Int32) × Int32 × (Nat → Int32) × Int32 × (Nat → Int32) × Int32 × (Nat → Int32) × Int32 × Int32 × (Nat → Int32) × Int32 × (Nat → Int32) × Int32 × (Nat → Int32)
abbrev wX11t (g : Nat → ClassId) (A : Nat → Nat) (u : WT) : va_W := wX11 g (A 0) (A 1) (A 2) (A 3) (A 4) (A 5) (A 6) (A 7) (A 8) (A 9) (A 10) (A 11) (A 12) (A 13) (A 14) (A 15) (A 16) (A 17) (A 18) (A 19) (A 20) (A 21) (A 22) (A 23) (A 24) (A 25) (A 26) (A 27) (A 28) (A 29) (A 30) (A 31) (A 32) u.1 u.2.1 u.2.2.1 u.2.2.2.1 u.2.2.2.2.1 u.2.2.2.2.2.1 u.2.2.2.2.2.2.1 u.2.2.2.2.2.2.2.1 u.2.2.2.2.2.2.2.2.1 u.2.2.2.2.2.2.2.2.2.1 u.2.2.2.2.2.2.2.2.2.2.1 u.2.2.2.2.2.2.2.2.2.2.2.1 u.2.2.2.2.2.2.2.2.2.2.2.2.1 u.2.2.2.2.2.2.2.2.2.2.2.2.2.1 u.2.2.2.2.2.2.2.2.2.2.2.2.2.2.1 u.2.2.2.2.2.2.2.2.2.2.2.2.2.2.2.1 u.2.2.2.2.2.2.2.2.2.2.2.2.2.2.2.2.1 u.2.2.2.2.2.2.2.2.2.2.2.2.2.2.2.2.2.1 u.2.2.2.2.2.2.2.2.2.2.2.2.2.2.2.2.2.2.1 u.2.2.2.2.2.2.2.2.2.2.2.2.2.2.2.2.2.2.2.1 u.2.2.2.2.2.2.2.2.2.2.2.2.2.2.2.2.2.2.2.2.1 u.2.2.2.2.2.2.2.2.2.2.2.2.2.2.2.2.2.2.2.2.2.1 u.2.2.2.2.2.2.2.2.2.2.2.2.2.2.2.2.2.2.2.2.2.2.1 u.2.2.2.2.2.2.2.2.2.2.2.2.2.2.2.2.2.2.2.2.2.2.2.1 u.2.2.2.2.2.2.2.2.2.2.2.2.2.2.2.2.2.2.2.2.2.2.2.2.1 u.2.2.2.2.2.2.2.2.2.2.2.2.2.2.2.2.2.2.2.2.2.2.2.2.2.1 u.2.2.2.2.2.2.2.2.2.2.2.2.2.2.2.2.2.2.2.2.2.2.2.2.2.2.1 u.2.2.2.2.2.2.2.2.2.2.2.2.2.2.2.2.2.2.2.2.2.2.2.2.2.2.2.1 u.2.2.2.2.2.2.2.2.2.2.2.2.2.2.2.2.2.2.2.2.2.2.2.2.2.2.2.2.1 u.2.2.2.2.2.2.2.2.2.2.2.2.2.2.2.2.2.2.2.2.2.2.2.2.2.2.2.2.2.1 u.2.2.2.2.2.2.2.2.2.2.2.2.2.2.2.2.2.2.2.2.2.2.2.2.2.2.2.2.2.2.1 u.2.2.2.2.2.2.2.2.2.2.2.2.2.2.2.2.2.2.2.2.2.2.2.2.2.2.2.2.2.2.2.1 u.2.2.2.2.2.2.2.2.2.2.2.2.2.2.2.2.2.2.2.2.2.2.2.2.2.2.2.2.2.2.2.2.1 u.2.2.2.2.2.2.2.2.2.2.2.2.2.2.2.2.2.2.2.2.2.2.2.2.2.2.2.2.2.2.2.2.2
def wH (g : Nat → ClassId) (b : Nat) (bA : Nat → Nat → Nat) (uS : Nat → WT) : va_W := catp ([(b, .inl (g 2, 9, .inr (.inr (.inr (.inr (fun i => some (bA i 0)))))))] :: (List.range 9).map (fun i => wX11t g (bA i) (uS i))) []
theorem inR_lt {i : Int32} {n : Nat} (h : inR i n = true) : i.toNatClampNeg < n := by
  have h1 := inR_in h
  unfold vp_in at h1
  omega
theorem range_cut {k : Nat} (hk : k < 9) : List.range 9 = List.range k ++ (k :: List.range' (k + 1) (8 - k)) := by
  rw [List.range_eq_range', List.range_eq_range', ← List.range'_succ, show 8 - k + 1 = 9 - k by omega]
  have h := @List.range'_append 0 k (9 - k) 1
  rw [Nat.one_mul, Nat.zero_add, show k + (9 - k) = 9 by omega] at h
  exact h.symm
theorem wH_cut (g : Nat → ClassId) (b : Nat) (bA : Nat → Nat → Nat) (uS : Nat → WT) {k : Nat} (hk : k < 9) (pre post : va_W) :
    catp (pre :: [(b, .inl (g 2, 9, .inr (.inr (.inr (.inr (fun i => some (bA i 0)))))))] :: (List.range k).map (fun i => wX11t g (bA i) (uS i))) (wX11t g (bA k) (uS k) ++ catp ((List.range' (k + 1) (8 - k)).map (fun i => wX11t g (bA i) (uS i))) post) = pre ++ (wH g b bA uS ++ post) := by
  simp only [wH, range_cut hk, List.map_append, List.map_cons, catp_eq, List.flatten_cons, List.flatten_append, List.append_assoc, List.append_nil]
theorem wH_put (g : Nat → ClassId) (b : Nat) (bA : Nat → Nat → Nat) (uS : Nat → WT) {k : Nat} (hk : k < 9) (z : WT) (pre post : va_W) :
    catp (pre :: [(b, .inl (g 2, 9, .inr (.inr (.inr (.inr (fun i => some (bA i 0)))))))] :: (List.range k).map (fun i => wX11t g (bA i) (uS i))) (wX11t g (bA k) z ++ catp ((List.range' (k + 1) (8 - k)).map (fun i => wX11t g (bA i) (uS i))) post) = pre ++ (wH g b bA (va_up uS k z) ++ post) := by
  have h := wH_cut g b bA (va_up uS k z) hk pre post
  have e1 : (List.range k).map (fun i => wX11t g (bA i) (va_up uS k z i)) = (List.range k).map (fun i => wX11t g (bA i) (uS i)) := by
    refine List.map_congr_left (fun i hi => ?_)
    rw [va_up_ne _ _ (Nat.ne_of_lt (List.mem_range.mp hi))]
  have e2 : (List.range' (k + 1) (8 - k)).map (fun i => wX11t g (bA i) (va_up uS k z i)) = (List.range' (k + 1) (8 - k)).map (fun i => wX11t g (bA i) (uS i)) := by
    refine List.map_congr_left (fun i hi => ?_)
    have := List.mem_range'_1.mp hi
    rw [va_up_ne _ _ (by omega : i ≠ k)]
  rw [e1, e2, va_up_self] at h
  exact h
abbrev wX3 (g : Nat → ClassId) (a0 a1 : Nat) (a1A : Nat → Nat → Nat) (un : Int32) (uc : Int32) (uS : Nat → WT) : va_W := catp [[(a0, .inr (6, [.ref a1, .int un, .int uc]))], wH g a1 a1A uS] []
/-! WireCutter$History.count -/
def fX3_count (uc : Int32) : Option (Int32) :=
  some (uc)
theorem mbX3_count : MV yX3_count cX3_count 1 (some .int) 0 := ⟨⟨q1655, q8, by decide +kernel⟩, q1653, q1654⟩
set_option maxHeartbeats 4000000 in
set_option maxRecDepth 100000 in
theorem tX3_count (l : Launch) (dC : Nat → ClassId) (dI : Nat → Nat → Nat) (g : Nat → ClassId) (a0 a1 : Nat) (a1A : Nat → Nat → Nat) (un : Int32) (uc : Int32) (uS : Nat → WT) {r : Int32} (h : fX3_count uc = some r) : RO l yX3_count cX3_count 1 (some .int) 0 0 dC dI g [.ref a0] (wX3 g a0 a1 a1A un uc uS) (some (.int r)) := by
  refine RO_of (by decide) (Nat.le_of_ble_eq_true rfl) ?_
  intro p e s m below meth c ls F hr hlocks hE hX hP hl
  replace F : CF p m c cX3_count 1 s _ RX3 := F
  replace hl : lv_has ls 1 [(0, .ref a0)] := hl
  rw [fX3_count] at h
  replace hP : va_P (dC, dI) vwCl (catp [[(a0, .inr (6, [.ref a1, .int un, .int uc]))], wH g a1 a1A uS] []) s.heap := hP
  refine lv_aload_n F.1 F.2.1 dX3_count_0 rfl (lv_at hl 0 rfl) ?_
  refine gF (v := .int uc) F hE hP 0 rfl rfl inX3 2 (by decide) q205 rfl dX3_count_1 ?_
  cases h
  exact RO_i F hr hlocks dX3_count_4
/-! WireCutter$History.prepare -/
def fX3_prepare (un : Int32) (uS : Nat → WT) (vk : Int32) (vl : Int32) (vr : Int32) (vsx : Int32) (vsNn : Int32) (vsNf : Nat → Int32) (vsMn : Int32) (vsMf : Nat → Int32) (vsLn : Int32) (vsLf : Nat → Int32) (vsKn : Int32) (vsKf : Nat → Int32) (vcMn : Int32) (vcMf : Nat → Int32) (vcLn : Int32) (vcLf : Nat → Int32) (vcTn : Int32) (vcTf : Nat → Int32) (vox : Int32) (voNn : Int32) (voNf : Nat → Int32) (voMn : Int32) (voMf : Nat → Int32) (voLn : Int32) (voLf : Nat → Int32) (voDn : Int32) (voDf : Nat → Int32) (vac : Int32) (vaWn : Int32) (vaWf : Nat → Int32) (vaDn : Int32) (vaDf : Nat → Int32) (vaLn : Int32) (vaLf : Nat → Int32) : Option ((Nat → WT)) :=
  if un < 0 then
    some (uS)
  else
    if (nI 9) ≤ un then
      some (uS)
    else
      gd (inR un 9) <|
      gd (inR un 9) <|
      (fX11_copyFrom ((uS un.toNatClampNeg).2.2.2.2.1) ((uS un.toNatClampNeg).2.2.2.2.2.1) ((uS un.toNatClampNeg).2.2.2.2.2.2.1) ((uS un.toNatClampNeg).2.2.2.2.2.2.2.1) ((uS un.toNatClampNeg).2.2.2.2.2.2.2.2.1) ((uS un.toNatClampNeg).2.2.2.2.2.2.2.2.2.1) ((uS un.toNatClampNeg).2.2.2.2.2.2.2.2.2.2.1) ((uS un.toNatClampNeg).2.2.2.2.2.2.2.2.2.2.2.1) ((uS un.toNatClampNeg).2.2.2.2.2.2.2.2.2.2.2.2.1) ((uS un.toNatClampNeg).2.2.2.2.2.2.2.2.2.2.2.2.2.1) ((uS un.toNatClampNeg).2.2.2.2.2.2.2.2.2.2.2.2.2.2.1) ((uS un.toNatClampNeg).2.2.2.2.2.2.2.2.2.2.2.2.2.2.2.1) ((uS un.toNatClampNeg).2.2.2.2.2.2.2.2.2.2.2.2.2.2.2.2.1) ((uS un.toNatClampNeg).2.2.2.2.2.2.2.2.2.2.2.2.2.2.2.2.2.1) ((uS un.toNatClampNeg).2.2.2.2.2.2.2.2.2.2.2.2.2.2.2.2.2.2.2.1) ((uS un.toNatClampNeg).2.2.2.2.2.2.2.2.2.2.2.2.2.2.2.2.2.2.2.2.1) ((uS un.toNatClampNeg).2.2.2.2.2.2.2.2.2.2.2.2.2.2.2.2.2.2.2.2.2.1) ((uS un.toNatClampNeg).2.2.2.2.2.2.2.2.2.2.2.2.2.2.2.2.2.2.2.2.2.2.1) ((uS un.toNatClampNeg).2.2.2.2.2.2.2.2.2.2.2.2.2.2.2.2.2.2.2.2.2.2.2.1) ((uS un.toNatClampNeg).2.2.2.2.2.2.2.2.2.2.2.2.2.2.2.2.2.2.2.2.2.2.2.2.1) ((uS un.toNatClampNeg).2.2.2.2.2.2.2.2.2.2.2.2.2.2.2.2.2.2.2.2.2.2.2.2.2.1) ((uS un.toNatClampNeg).2.2.2.2.2.2.2.2.2.2.2.2.2.2.2.2.2.2.2.2.2.2.2.2.2.2.1) ((uS un.toNatClampNeg).2.2.2.2.2.2.2.2.2.2.2.2.2.2.2.2.2.2.2.2.2.2.2.2.2.2.2.2.1) ((uS un.toNatClampNeg).2.2.2.2.2.2.2.2.2.2.2.2.2.2.2.2.2.2.2.2.2.2.2.2.2.2.2.2.2.1) ((uS un.toNatClampNeg).2.2.2.2.2.2.2.2.2.2.2.2.2.2.2.2.2.2.2.2.2.2.2.2.2.2.2.2.2.2.1) ((uS un.toNatClampNeg).2.2.2.2.2.2.2.2.2.2.2.2.2.2.2.2.2.2.2.2.2.2.2.2.2.2.2.2.2.2.2.1) ((uS un.toNatClampNeg).2.2.2.2.2.2.2.2.2.2.2.2.2.2.2.2.2.2.2.2.2.2.2.2.2.2.2.2.2.2.2.2.1) ((uS un.toNatClampNeg).2.2.2.2.2.2.2.2.2.2.2.2.2.2.2.2.2.2.2.2.2.2.2.2.2.2.2.2.2.2.2.2.2) vk vl vr vsx vsNn vsNf vsMn vsMf vsLn vsLf vsKn vsKf vcMn vcMf vcLn vcLf vcTn vcTf vox voNn voNf voMn voMf voLn voLf voDn voDf vac vaWn vaWf vaDn vaDf vaLn vaLf).bind fun z5 =>
      some (va_up uS un.toNatClampNeg z5)
theorem mbX3_prepare : MV yX3_prepare cX3_prepare 2 none 1 := ⟨⟨q931, q8, by decide +kernel⟩, q929, q930⟩
set_option maxHeartbeats 4000000 in
set_option maxRecDepth 100000 in
theorem tX3_prepare (l : Launch) (dC : Nat → ClassId) (dI : Nat → Nat → Nat) (g : Nat → ClassId) (a0 a1 : Nat) (a1A : Nat → Nat → Nat) (b0 b1 b2 b3 b4 b5 b6 b7 b8 b9 b10 b11 b12 b13 b14 b15 b16 b17 b18 b19 b20 b21 b22 b23 b24 b25 b26 b27 b28 b29 b30 b31 b32 : Nat) (un : Int32) (uc : Int32) (uS : Nat → WT) (vk : Int32) (vl : Int32) (vr : Int32) (vsx : Int32) (vsNn : Int32) (vsNf : Nat → Int32) (vsMn : Int32) (vsMf : Nat → Int32) (vsLn : Int32) (vsLf : Nat → Int32) (vsKn : Int32) (vsKf : Nat → Int32) (vcMn : Int32) (vcMf : Nat → Int32) (vcLn : Int32) (vcLf : Nat → Int32) (vcTn : Int32) (vcTf : Nat → Int32) (vox : Int32) (voNn : Int32) (voNf : Nat → Int32) (voMn : Int32) (voMf : Nat → Int32) (voLn : Int32) (voLf : Nat → Int32) (voDn : Int32) (voDf : Nat → Int32) (vac : Int32) (vaWn : Int32) (vaWf : Nat → Int32) (vaDn : Int32) (vaDf : Nat → Int32) (vaLn : Int32) (vaLf : Nat → Int32) {r : (Nat → WT)} (h : fX3_prepare un uS vk vl vr vsx vsNn vsNf vsMn vsMf vsLn vsLf vsKn vsKf vcMn vcMf vcLn vcLf vcTn vcTf vox voNn voNf voMn voMf voLn voLf voDn voDf vac vaWn vaWf vaDn vaDf vaLn vaLf = some r) : MU l yX3_prepare cX3_prepare 2 none 3 65 0 0 dC dI g [.ref a0, .ref b0] (wX3 g a0 a1 a1A un uc uS ++ wX11 g b0 b1 b2 b3 b4 b5 b6 b7 b8 b9 b10 b11 b12 b13 b14 b15 b16 b17 b18 b19 b20 b21 b22 b23 b24 b25 b26 b27 b28 b29 b30 b31 b32 vk vl vr vsx vsNn vsNf vsMn vsMf vsLn vsLf vsKn vsKf vcMn vcMf vcLn vcLf vcTn vcTf vox voNn voNf voMn voMf voLn voLf voDn voDf vac vaWn vaWf vaDn vaDf vaLn vaLf) (wX3 g a0 a1 a1A un uc r ++ wX11 g b0 b1 b2 b3 b4 b5 b6 b7 b8 b9 b10 b11 b12 b13 b14 b15 b16 b17 b18 b19 b20 b21 b22 b23 b24 b25 b26 b27 b28 b29 b30 b31 b32 vk vl vr vsx vsNn vsNf vsMn vsMf vsLn vsLf vsKn vsKf vcMn vcMf vcLn vcLf vcTn vcTf vox voNn voNf voMn voMf voLn voLf voDn voDf vac vaWn vaWf vaDn vaDf vaLn vaLf) none := by
  refine MU_of (by decide) (Nat.le_of_ble_eq_true rfl) ?_
  intro p e s m below meth c ls F hr hlocks hE hX hA hP hD hS hl
  generalize va_A (wX3 g a0 a1 a1A un uc uS ++ wX11 g b0 b1 b2 b3 b4 b5 b6 b7 b8 b9 b10 b11 b12 b13 b14 b15 b16 b17 b18 b19 b20 b21 b22 b23 b24 b25 b26 b27 b28 b29 b30 b31 b32 vk vl vr vsx vsNn vsNf vsMn vsMf vsLn vsLf vsKn vsKf vcMn vcMf vcLn vcLf vcTn vcTf vox voNn voNf voMn voMf voLn voLf voDn voDf vac vaWn vaWf vaDn vaDf vaLn vaLf) s.heap.size = A at hA hD hS hX ⊢
  replace F : CF p m c cX3_prepare 2 s _ RX3 := F
  replace hl : lv_has ls 2 [(0, .ref a0), (1, .ref b0)] := hl
  rw [fX3_prepare] at h
  replace hP : va_P (dC, dI) vwCl (catp [[(a0, .inr (6, [.ref a1, .int un, .int uc]))], wH g a1 a1A uS, wX11 g b0 b1 b2 b3 b4 b5 b6 b7 b8 b9 b10 b11 b12 b13 b14 b15 b16 b17 b18 b19 b20 b21 b22 b23 b24 b25 b26 b27 b28 b29 b30 b31 b32 vk vl vr vsx vsNn vsNf vsMn vsMf vsLn vsLf vsKn vsKf vcMn vcMf vcLn vcLf vcTn vcTf vox voNn voNf voMn voMf voLn voLf voDn voDf vac vaWn vaWf vaDn vaDf vaLn vaLf] []) s.heap := hP
  replace hD : va_D A (catp [[(a0, .inr (6, [.ref a1, .int un, .int uc]))], wH g a1 a1A uS, wX11 g b0 b1 b2 b3 b4 b5 b6 b7 b8 b9 b10 b11 b12 b13 b14 b15 b16 b17 b18 b19 b20 b21 b22 b23 b24 b25 b26 b27 b28 b29 b30 b31 b32 vk vl vr vsx vsNn vsNf vsMn vsMf vsLn vsLf vsKn vsKf vcMn vcMf vcLn vcLf vcTn vcTf vox voNn voNf voMn voMf voLn voLf voDn voDf vac vaWn vaWf vaDn vaDf vaLn vaLf] []) := hD
  refine lv_aload_n F.1 F.2.1 dX3_prepare_0 rfl (lv_at hl 0 rfl) ?_
  refine gF (v := .int un) F hE hP 0 rfl rfl inX3 1 (by decide) q204 rfl dX3_prepare_1 ?_
  refine lv_if_lt (tgt := 44) F.1 F.2.1 dX3_prepare_4 (by decide) (fun k1 => ?_) (fun k1 => ?_)
  · replace h := it_t k1 h
    cases h
    exact MU_v F hr hlocks (Nat.le_refl _) (Nat.le_refl _) hP hS dX3_prepare_44
  · replace h := it_f k1 h
    refine lv_aload_n F.1 F.2.1 dX3_prepare_7 rfl (lv_at hl 0 rfl) ?_
    refine gF (v := .int un) F hE hP 0 rfl rfl inX3 1 (by decide) q204 rfl dX3_prepare_8 ?_
    refine lv_aload_n F.1 F.2.1 dX3_prepare_11 rfl (lv_at hl 0 rfl) ?_
    refine gF (v := .ref a1) F hE hP 0 rfl rfl inX3 0 (by decide) q203 rfl dX3_prepare_12 ?_
    refine va_alen (v := nI 9) F.1 F.2.1 hE.1 hP 1 2 rfl rfl rfl dX3_prepare_15 ?_
    refine lv_icmp_ge (tgt := 44) F.1 F.2.1 dX3_prepare_16 (by decide) (fun k2 => ?_) (fun k2 => ?_)
    · replace h := it_t k2 h
      cases h
      exact MU_v F hr hlocks (Nat.le_refl _) (Nat.le_refl _) hP hS dX3_prepare_44
    · replace h := it_f k2 h
      refine lv_aload_n F.1 F.2.1 dX3_prepare_19 rfl (lv_at hl 0 rfl) ?_
      refine gF (v := .ref a1) F hE hP 0 rfl rfl inX3 0 (by decide) q203 rfl dX3_prepare_20 ?_
      refine lv_aload_n F.1 F.2.1 dX3_prepare_23 rfl (lv_at hl 0 rfl) ?_
      refine gF (v := .int un) F hE hP 0 rfl rfl inX3 1 (by decide) q204 rfl dX3_prepare_24 ?_
      obtain ⟨k3, h⟩ := gd_ok h
      refine va_aldq (f := fun i => some (a1A i 0)) F.1 F.2.1 hE.1 hP 1 2 rfl rfl (inR_in k3) dX3_prepare_27 ?_
      refine lv_ifnull F.1 F.2.1 dX3_prepare_28 ?_
      refine lv_aload_n F.1 F.2.1 dX3_prepare_31 rfl (lv_at hl 0 rfl) ?_
      refine gF (v := .ref a1) F hE hP 0 rfl rfl inX3 0 (by decide) q203 rfl dX3_prepare_32 ?_
      refine lv_aload_n F.1 F.2.1 dX3_prepare_35 rfl (lv_at hl 0 rfl) ?_
      refine gF (v := .int un) F hE hP 0 rfl rfl inX3 1 (by decide) q204 rfl dX3_prepare_36 ?_
      obtain ⟨k4, h⟩ := gd_ok h
      refine va_aldq (f := fun i => some (a1A i 0)) F.1 F.2.1 hE.1 hP 1 2 rfl rfl (inR_in k4) dX3_prepare_39 ?_
      refine lv_aload_n F.1 F.2.1 dX3_prepare_40 rfl (lv_at hl 1 rfl) ?_
      obtain ⟨z5, k6, h⟩ := bd_ok h
      refine cMV2 (As := [.ref b0]) (rest := []) (post := []) (ws' := catp [[(a0, .inr (6, [.ref a1, .int un, .int uc]))], wH g a1 a1A (va_up uS un.toNatClampNeg z5), wX11 g b0 b1 b2 b3 b4 b5 b6 b7 b8 b9 b10 b11 b12 b13 b14 b15 b16 b17 b18 b19 b20 b21 b22 b23 b24 b25 b26 b27 b28 b29 b30 b31 b32 vk vl vr vsx vsNn vsNf vsMn vsMf vsLn vsLf vsKn vsKf vcMn vcMf vcLn vcLf vcTn vcTf vox voNn voNf voMn voMf voLn voLf voDn voDf vac vaWn vaWf vaDn vaDf vaLn vaLf] []) F hE hX (tX11_copyFrom l dC dI g (a1A un.toNatClampNeg 0) (a1A un.toNatClampNeg 1) (a1A un.toNatClampNeg 2) (a1A un.toNatClampNeg 3) (a1A un.toNatClampNeg 4) (a1A un.toNatClampNeg 5) (a1A un.toNatClampNeg 6) (a1A un.toNatClampNeg 7) (a1A un.toNatClampNeg 8) (a1A un.toNatClampNeg 9) (a1A un.toNatClampNeg 10) (a1A un.toNatClampNeg 11) (a1A un.toNatClampNeg 12) (a1A un.toNatClampNeg 13) (a1A un.toNatClampNeg 14) (a1A un.toNatClampNeg 15) (a1A un.toNatClampNeg 16) (a1A un.toNatClampNeg 17) (a1A un.toNatClampNeg 18) (a1A un.toNatClampNeg 19) (a1A un.toNatClampNeg 20) (a1A un.toNatClampNeg 21) (a1A un.toNatClampNeg 22) (a1A un.toNatClampNeg 23) (a1A un.toNatClampNeg 24) (a1A un.toNatClampNeg 25) (a1A un.toNatClampNeg 26) (a1A un.toNatClampNeg 27) (a1A un.toNatClampNeg 28) (a1A un.toNatClampNeg 29) (a1A un.toNatClampNeg 30) (a1A un.toNatClampNeg 31) (a1A un.toNatClampNeg 32) b0 b1 b2 b3 b4 b5 b6 b7 b8 b9 b10 b11 b12 b13 b14 b15 b16 b17 b18 b19 b20 b21 b22 b23 b24 b25 b26 b27 b28 b29 b30 b31 b32 ((uS un.toNatClampNeg).1) ((uS un.toNatClampNeg).2.1) ((uS un.toNatClampNeg).2.2.1) ((uS un.toNatClampNeg).2.2.2.1) ((uS un.toNatClampNeg).2.2.2.2.1) ((uS un.toNatClampNeg).2.2.2.2.2.1) ((uS un.toNatClampNeg).2.2.2.2.2.2.1) ((uS un.toNatClampNeg).2.2.2.2.2.2.2.1) ((uS un.toNatClampNeg).2.2.2.2.2.2.2.2.1) ((uS un.toNatClampNeg).2.2.2.2.2.2.2.2.2.1) ((uS un.toNatClampNeg).2.2.2.2.2.2.2.2.2.2.1) ((uS un.toNatClampNeg).2.2.2.2.2.2.2.2.2.2.2.1) ((uS un.toNatClampNeg).2.2.2.2.2.2.2.2.2.2.2.2.1) ((uS un.toNatClampNeg).2.2.2.2.2.2.2.2.2.2.2.2.2.1) ((uS un.toNatClampNeg).2.2.2.2.2.2.2.2.2.2.2.2.2.2.1) ((uS un.toNatClampNeg).2.2.2.2.2.2.2.2.2.2.2.2.2.2.2.1) ((uS un.toNatClampNeg).2.2.2.2.2.2.2.2.2.2.2.2.2.2.2.2.1) ((uS un.toNatClampNeg).2.2.2.2.2.2.2.2.2.2.2.2.2.2.2.2.2.1) ((uS un.toNatClampNeg).2.2.2.2.2.2.2.2.2.2.2.2.2.2.2.2.2.2.1) ((uS un.toNatClampNeg).2.2.2.2.2.2.2.2.2.2.2.2.2.2.2.2.2.2.2.1) ((uS un.toNatClampNeg).2.2.2.2.2.2.2.2.2.2.2.2.2.2.2.2.2.2.2.2.1) ((uS un.toNatClampNeg).2.2.2.2.2.2.2.2.2.2.2.2.2.2.2.2.2.2.2.2.2.1) ((uS un.toNatClampNeg).2.2.2.2.2.2.2.2.2.2.2.2.2.2.2.2.2.2.2.2.2.2.1) ((uS un.toNatClampNeg).2.2.2.2.2.2.2.2.2.2.2.2.2.2.2.2.2.2.2.2.2.2.2.1) ((uS un.toNatClampNeg).2.2.2.2.2.2.2.2.2.2.2.2.2.2.2.2.2.2.2.2.2.2.2.2.1) ((uS un.toNatClampNeg).2.2.2.2.2.2.2.2.2.2.2.2.2.2.2.2.2.2.2.2.2.2.2.2.2.1) ((uS un.toNatClampNeg).2.2.2.2.2.2.2.2.2.2.2.2.2.2.2.2.2.2.2.2.2.2.2.2.2.2.1) ((uS un.toNatClampNeg).2.2.2.2.2.2.2.2.2.2.2.2.2.2.2.2.2.2.2.2.2.2.2.2.2.2.2.1) ((uS un.toNatClampNeg).2.2.2.2.2.2.2.2.2.2.2.2.2.2.2.2.2.2.2.2.2.2.2.2.2.2.2.2.1) ((uS un.toNatClampNeg).2.2.2.2.2.2.2.2.2.2.2.2.2.2.2.2.2.2.2.2.2.2.2.2.2.2.2.2.2.1) ((uS un.toNatClampNeg).2.2.2.2.2.2.2.2.2.2.2.2.2.2.2.2.2.2.2.2.2.2.2.2.2.2.2.2.2.2.1) ((uS un.toNatClampNeg).2.2.2.2.2.2.2.2.2.2.2.2.2.2.2.2.2.2.2.2.2.2.2.2.2.2.2.2.2.2.2.1) ((uS un.toNatClampNeg).2.2.2.2.2.2.2.2.2.2.2.2.2.2.2.2.2.2.2.2.2.2.2.2.2.2.2.2.2.2.2.2.1) ((uS un.toNatClampNeg).2.2.2.2.2.2.2.2.2.2.2.2.2.2.2.2.2.2.2.2.2.2.2.2.2.2.2.2.2.2.2.2.2) vk vl vr vsx vsNn vsNf vsMn vsMf vsLn vsLf vsKn vsKf vcMn vcMf vcLn vcLf vcTn vcTf vox voNn voNf voMn voMf voLn voLf voDn voDf vac vaWn vaWf vaDn vaDf vaLn vaLf k6) mbX11_copyFrom q932 ⟨(Nat.le_of_ble_eq_true rfl), (Nat.le_of_ble_eq_true rfl)⟩ ⟨(Nat.le_of_ble_eq_true rfl), (Nat.le_of_ble_eq_true rfl)⟩ hP hD hS hA ([(a0, .inr (6, [.ref a1, .int un, .int uc]))] :: [(a1, .inl (g 2, 9, .inr (.inr (.inr (.inr (fun i => some (a1A i 0)))))))] :: (List.range un.toNatClampNeg).map (fun i => wX11t g (a1A i) (uS i))) ((List.range' (un.toNatClampNeg + 1) (8 - un.toNatClampNeg)).map (fun i => wX11t g (a1A i) (uS i))) (wH_cut g a1 a1A uS (inR_lt k4) [(a0, .inr (6, [.ref a1, .int un, .int uc]))] (wX11 g b0 b1 b2 b3 b4 b5 b6 b7 b8 b9 b10 b11 b12 b13 b14 b15 b16 b17 b18 b19 b20 b21 b22 b23 b24 b25 b26 b27 b28 b29 b30 b31 b32 vk vl vr vsx vsNn vsNf vsMn vsMf vsLn vsLf vsKn vsKf vcMn vcMf vcLn vcLf vcTn vcTf vox voNn voNf voMn voMf voLn voLf voDn voDf vac vaWn vaWf vaDn vaDf vaLn vaLf ++ [])) rfl rfl (wH_put g a1 a1A uS (inR_lt k4) z5 [(a0, .inr (6, [.ref a1, .int un, .int uc]))] (wX11 g b0 b1 b2 b3 b4 b5 b6 b7 b8 b9 b10 b11 b12 b13 b14 b15 b16 b17 b18 b19 b20 b21 b22 b23 b24 b25 b26 b27 b28 b29 b30 b31 b32 vk vl vr vsx vsNn vsNf vsMn vsMf vsLn vsLf vsKn vsKf vcMn vcMf vcLn vcLf vcTn vcTf vox voNn voNf voMn voMf voLn voLf voDn voDf vac vaWn vaWf vaDn vaDf vaLn vaLf ++ [])) 0 rfl rfl rfl hl.1 rfl (Nat.le_of_ble_eq_true rfl) dX3_prepare_41 (fun H locs hP hD hS => ?_)
      cases h
      exact MU_v F hr hlocks (Nat.le_refl _) (Nat.le_refl _) hP hS dX3_prepare_44
/-! WireCutter$History.commit -/
def fX3_commit (un : Int32) (uc : Int32) : Option (Int32 × Int32) :=
  if 9 ≤ (un + 1) then
    if 8 ≤ uc then
      some (0, 8)
    else
      some (0, uc + 1)
  else
    if 8 ≤ uc then
      some (un + 1, 8)
    else
      some (un + 1, uc + 1)
theorem mbX3_commit : MV yX3_commit cX3_commit 1 none 0 := ⟨⟨q978, q8, by decide +kernel⟩, q976, q977⟩
set_option maxHeartbeats 4000000 in
set_option maxRecDepth 100000 in
theorem tX3_commit (l : Launch) (dC : Nat → ClassId) (dI : Nat → Nat → Nat) (g : Nat → ClassId) (a0 a1 : Nat) (a1A : Nat → Nat → Nat) (un : Int32) (uc : Int32) (uS : Nat → WT) {r : Int32 × Int32} (h : fX3_commit un uc = some r) : MU l yX3_commit cX3_commit 1 none 0 0 0 0 dC dI g [.ref a0] (wX3 g a0 a1 a1A un uc uS) (wX3 g a0 a1 a1A r.1 r.2 uS) none := by
  refine MU_of (by decide) (Nat.le_of_ble_eq_true rfl) ?_
  intro p e s m below meth c ls F hr hlocks hE hX hA hP hD hS hl
  generalize va_A (wX3 g a0 a1 a1A un uc uS) s.heap.size = A at hA hD hS hX ⊢
  replace F : CF p m c cX3_commit 1 s _ RX3 := F
  replace hl : lv_has ls 1 [(0, .ref a0)] := hl
  rw [fX3_commit] at h
  replace hP : va_P (dC, dI) vwCl (catp [[(a0, .inr (6, [.ref a1, .int un, .int uc]))], wH g a1 a1A uS] []) s.heap := hP
  replace hD : va_D A (catp [[(a0, .inr (6, [.ref a1, .int un, .int uc]))], wH g a1 a1A uS] []) := hD
  refine lv_aload_n F.1 F.2.1 dX3_commit_0 rfl (lv_at hl 0 rfl) ?_
  refine lv_aload_n F.1 F.2.1 dX3_commit_1 rfl (lv_at hl 0 rfl) ?_
  refine gF (v := .int un) F hE hP 0 rfl rfl inX3 1 (by decide) q204 rfl dX3_commit_2 ?_
  refine lv_iconst (v := 1) F.1 F.2.1 dX3_commit_5 (by decide) ?_
  refine lv_iadd F.1 F.2.1 dX3_commit_6 ?_
  refine lv_bipush (v := 9) F.1 F.2.1 dX3_commit_7 (by decide) ?_
  refine lv_icmp_ge (tgt := 21) F.1 F.2.1 dX3_commit_9 (by decide) (fun k1 => ?_) (fun k1 => ?_)
  · replace h := it_t k1 h
    refine lv_iconst (v := 0) F.1 F.2.1 dX3_commit_21 (by decide) ?_
    refine pF (v := .int 0) F hE hP hD hS 0 rfl rfl inX3 tyX3 tyX3_ok nmX3 1 (by decide) q204 rfl rfl rfl (Nat.le_of_ble_eq_true rfl) dX3_commit_22 (fun H locs hP hD hS => ?_)
    replace hP : va_P (dC, dI) vwCl (catp [[(a0, .inr (6, [.ref a1, .int 0, .int uc]))], wH g a1 a1A uS] []) H := hP
    replace hD : va_D A (catp [[(a0, .inr (6, [.ref a1, .int 0, .int uc]))], wH g a1 a1A uS] []) := hD
    refine lv_aload_n F.1 F.2.1 dX3_commit_25 rfl (lv_at hl 0 rfl) ?_
    refine lv_aload_n F.1 F.2.1 dX3_commit_26 rfl (lv_at hl 0 rfl) ?_
    refine gF (v := .int uc) F hE hP 0 rfl rfl inX3 2 (by decide) q205 rfl dX3_commit_27 ?_
    refine lv_bipush (v := 8) F.1 F.2.1 dX3_commit_30 (by decide) ?_
    refine lv_icmp_ge (tgt := 44) F.1 F.2.1 dX3_commit_32 (by decide) (fun k2 => ?_) (fun k2 => ?_)
    · replace h := it_t k2 h
      refine lv_bipush (v := 8) F.1 F.2.1 dX3_commit_44 (by decide) ?_
      refine pF (v := .int 8) F hE hP hD hS 0 rfl rfl inX3 tyX3 tyX3_ok nmX3 2 (by decide) q205 rfl rfl rfl (Nat.le_of_ble_eq_true rfl) dX3_commit_46 (fun H locs hP hD hS => ?_)
      replace hP : va_P (dC, dI) vwCl (catp [[(a0, .inr (6, [.ref a1, .int 0, .int 8]))], wH g a1 a1A uS] []) H := hP
      replace hD : va_D A (catp [[(a0, .inr (6, [.ref a1, .int 0, .int 8]))], wH g a1 a1A uS] []) := hD
      cases h
      exact MU_v F hr hlocks (Nat.le_refl _) (Nat.le_refl _) hP hS dX3_commit_49
    · replace h := it_f k2 h
      refine lv_aload_n F.1 F.2.1 dX3_commit_35 rfl (lv_at hl 0 rfl) ?_
      refine gF (v := .int uc) F hE hP 0 rfl rfl inX3 2 (by decide) q205 rfl dX3_commit_36 ?_
      refine lv_iconst (v := 1) F.1 F.2.1 dX3_commit_39 (by decide) ?_
      refine lv_iadd F.1 F.2.1 dX3_commit_40 ?_
      refine lv_goto (tgt := 46) F.1 F.2.1 dX3_commit_41 (by decide) ?_
      refine pF (v := .int (uc + 1)) F hE hP hD hS 0 rfl rfl inX3 tyX3 tyX3_ok nmX3 2 (by decide) q205 rfl rfl rfl (Nat.le_of_ble_eq_true rfl) dX3_commit_46 (fun H locs hP hD hS => ?_)
      replace hP : va_P (dC, dI) vwCl (catp [[(a0, .inr (6, [.ref a1, .int 0, .int (uc + 1)]))], wH g a1 a1A uS] []) H := hP
      replace hD : va_D A (catp [[(a0, .inr (6, [.ref a1, .int 0, .int (uc + 1)]))], wH g a1 a1A uS] []) := hD
      cases h
      exact MU_v F hr hlocks (Nat.le_refl _) (Nat.le_refl _) hP hS dX3_commit_49
  · replace h := it_f k1 h
    refine lv_aload_n F.1 F.2.1 dX3_commit_12 rfl (lv_at hl 0 rfl) ?_
    refine gF (v := .int un) F hE hP 0 rfl rfl inX3 1 (by decide) q204 rfl dX3_commit_13 ?_
    refine lv_iconst (v := 1) F.1 F.2.1 dX3_commit_16 (by decide) ?_
    refine lv_iadd F.1 F.2.1 dX3_commit_17 ?_
    refine lv_goto (tgt := 22) F.1 F.2.1 dX3_commit_18 (by decide) ?_
    refine pF (v := .int (un + 1)) F hE hP hD hS 0 rfl rfl inX3 tyX3 tyX3_ok nmX3 1 (by decide) q204 rfl rfl rfl (Nat.le_of_ble_eq_true rfl) dX3_commit_22 (fun H locs hP hD hS => ?_)
    replace hP : va_P (dC, dI) vwCl (catp [[(a0, .inr (6, [.ref a1, .int (un + 1), .int uc]))], wH g a1 a1A uS] []) H := hP
    replace hD : va_D A (catp [[(a0, .inr (6, [.ref a1, .int (un + 1), .int uc]))], wH g a1 a1A uS] []) := hD
    refine lv_aload_n F.1 F.2.1 dX3_commit_25 rfl (lv_at hl 0 rfl) ?_
    refine lv_aload_n F.1 F.2.1 dX3_commit_26 rfl (lv_at hl 0 rfl) ?_
    refine gF (v := .int uc) F hE hP 0 rfl rfl inX3 2 (by decide) q205 rfl dX3_commit_27 ?_
    refine lv_bipush (v := 8) F.1 F.2.1 dX3_commit_30 (by decide) ?_
    refine lv_icmp_ge (tgt := 44) F.1 F.2.1 dX3_commit_32 (by decide) (fun k3 => ?_) (fun k3 => ?_)
    · replace h := it_t k3 h
      refine lv_bipush (v := 8) F.1 F.2.1 dX3_commit_44 (by decide) ?_
      refine pF (v := .int 8) F hE hP hD hS 0 rfl rfl inX3 tyX3 tyX3_ok nmX3 2 (by decide) q205 rfl rfl rfl (Nat.le_of_ble_eq_true rfl) dX3_commit_46 (fun H locs hP hD hS => ?_)
      replace hP : va_P (dC, dI) vwCl (catp [[(a0, .inr (6, [.ref a1, .int (un + 1), .int 8]))], wH g a1 a1A uS] []) H := hP
      replace hD : va_D A (catp [[(a0, .inr (6, [.ref a1, .int (un + 1), .int 8]))], wH g a1 a1A uS] []) := hD
      cases h
      exact MU_v F hr hlocks (Nat.le_refl _) (Nat.le_refl _) hP hS dX3_commit_49
    · replace h := it_f k3 h
      refine lv_aload_n F.1 F.2.1 dX3_commit_35 rfl (lv_at hl 0 rfl) ?_
      refine gF (v := .int uc) F hE hP 0 rfl rfl inX3 2 (by decide) q205 rfl dX3_commit_36 ?_
      refine lv_iconst (v := 1) F.1 F.2.1 dX3_commit_39 (by decide) ?_
      refine lv_iadd F.1 F.2.1 dX3_commit_40 ?_
      refine lv_goto (tgt := 46) F.1 F.2.1 dX3_commit_41 (by decide) ?_
      refine pF (v := .int (uc + 1)) F hE hP hD hS 0 rfl rfl inX3 tyX3 tyX3_ok nmX3 2 (by decide) q205 rfl rfl rfl (Nat.le_of_ble_eq_true rfl) dX3_commit_46 (fun H locs hP hD hS => ?_)
      replace hP : va_P (dC, dI) vwCl (catp [[(a0, .inr (6, [.ref a1, .int (un + 1), .int (uc + 1)]))], wH g a1 a1A uS] []) H := hP
      replace hD : va_D A (catp [[(a0, .inr (6, [.ref a1, .int (un + 1), .int (uc + 1)]))], wH g a1 a1A uS] []) := hD
      cases h
      exact MU_v F hr hlocks (Nat.le_refl _) (Nat.le_refl _) hP hS dX3_commit_49
/-! WireCutter$History.abandon -/
def fX3_abandon (un : Int32) (uS : Nat → WT) (vk : Int32) (vl : Int32) (vr : Int32) (vsx : Int32) (vsNn : Int32) (vsNf : Nat → Int32) (vsMn : Int32) (vsMf : Nat → Int32) (vsLn : Int32) (vsLf : Nat → Int32) (vsKn : Int32) (vsKf : Nat → Int32) (vcMn : Int32) (vcMf : Nat → Int32) (vcLn : Int32) (vcLf : Nat → Int32) (vcTn : Int32) (vcTf : Nat → Int32) (vox : Int32) (voNn : Int32) (voNf : Nat → Int32) (voMn : Int32) (voMf : Nat → Int32) (voLn : Int32) (voLf : Nat → Int32) (voDn : Int32) (voDf : Nat → Int32) (vac : Int32) (vaWn : Int32) (vaWf : Nat → Int32) (vaDn : Int32) (vaDf : Nat → Int32) (vaLn : Int32) (vaLf : Nat → Int32) : Option (Int32 × Int32 × Int32 × Int32 × Int32 × (Nat → Int32) × Int32 × (Nat → Int32) × Int32 × (Nat → Int32) × Int32 × (Nat → Int32) × Int32 × (Nat → Int32) × Int32 × (Nat → Int32) × Int32 × (Nat → Int32) × Int32 × Int32 × (Nat → Int32) × Int32 × (Nat → Int32) × Int32 × (Nat → Int32) × Int32 × (Nat → Int32) × Int32 × Int32 × (Nat → Int32) × Int32 × (Nat → Int32) × Int32 × (Nat → Int32)) :=
  if un < 0 then
    some (vk, vl, vr, vsx, vsNn, vsNf, vsMn, vsMf, vsLn, vsLf, vsKn, vsKf, vcMn, vcMf, vcLn, vcLf, vcTn, vcTf, vox, voNn, voNf, voMn, voMf, voLn, voLf, voDn, voDf, vac, vaWn, vaWf, vaDn, vaDf, vaLn, vaLf)
  else
    if (nI 9) ≤ un then
      some (vk, vl, vr, vsx, vsNn, vsNf, vsMn, vsMf, vsLn, vsLf, vsKn, vsKf, vcMn, vcMf, vcLn, vcLf, vcTn, vcTf, vox, voNn, voNf, voMn, voMf, voLn, voLf, voDn, voDf, vac, vaWn, vaWf, vaDn, vaDf, vaLn, vaLf)
    else
      gd (inR un 9) <|
      gd (inR un 9) <|
      (fX11_copyFrom vsNn vsNf vsMn vsMf vsLn vsLf vsKn vsKf vcMn vcMf vcLn vcLf vcTn vcTf voNn voNf voMn voMf voLn voLf voDn voDf vaWn vaWf vaDn vaDf vaLn vaLf ((uS un.toNatClampNeg).1) ((uS un.toNatClampNeg).2.1) ((uS un.toNatClampNeg).2.2.1) ((uS un.toNatClampNeg).2.2.2.1) ((uS un.toNatClampNeg).2.2.2.2.1) ((uS un.toNatClampNeg).2.2.2.2.2.1) ((uS un.toNatClampNeg).2.2.2.2.2.2.1) ((uS un.toNatClampNeg).2.2.2.2.2.2.2.1) ((uS un.toNatClampNeg).2.2.2.2.2.2.2.2.1) ((uS un.toNatClampNeg).2.2.2.2.2.2.2.2.2.1) ((uS un.toNatClampNeg).2.2.2.2.2.2.2.2.2.2.1) ((uS un.toNatClampNeg).2.2.2.2.2.2.2.2.2.2.2.1) ((uS un.toNatClampNeg).2.2.2.2.2.2.2.2.2.2.2.2.1) ((uS un.toNatClampNeg).2.2.2.2.2.2.2.2.2.2.2.2.2.1) ((uS un.toNatClampNeg).2.2.2.2.2.2.2.2.2.2.2.2.2.2.1) ((uS un.toNatClampNeg).2.2.2.2.2.2.2.2.2.2.2.2.2.2.2.1) ((uS un.toNatClampNeg).2.2.2.2.2.2.2.2.2.2.2.2.2.2.2.2.1) ((uS un.toNatClampNeg).2.2.2.2.2.2.2.2.2.2.2.2.2.2.2.2.2.1) ((uS un.toNatClampNeg).2.2.2.2.2.2.2.2.2.2.2.2.2.2.2.2.2.2.1) ((uS un.toNatClampNeg).2.2.2.2.2.2.2.2.2.2.2.2.2.2.2.2.2.2.2.1) ((uS un.toNatClampNeg).2.2.2.2.2.2.2.2.2.2.2.2.2.2.2.2.2.2.2.2.1) ((uS un.toNatClampNeg).2.2.2.2.2.2.2.2.2.2.2.2.2.2.2.2.2.2.2.2.2.1) ((uS un.toNatClampNeg).2.2.2.2.2.2.2.2.2.2.2.2.2.2.2.2.2.2.2.2.2.2.1) ((uS un.toNatClampNeg).2.2.2.2.2.2.2.2.2.2.2.2.2.2.2.2.2.2.2.2.2.2.2.1) ((uS un.toNatClampNeg).2.2.2.2.2.2.2.2.2.2.2.2.2.2.2.2.2.2.2.2.2.2.2.2.1) ((uS un.toNatClampNeg).2.2.2.2.2.2.2.2.2.2.2.2.2.2.2.2.2.2.2.2.2.2.2.2.2.1) ((uS un.toNatClampNeg).2.2.2.2.2.2.2.2.2.2.2.2.2.2.2.2.2.2.2.2.2.2.2.2.2.2.1) ((uS un.toNatClampNeg).2.2.2.2.2.2.2.2.2.2.2.2.2.2.2.2.2.2.2.2.2.2.2.2.2.2.2.1) ((uS un.toNatClampNeg).2.2.2.2.2.2.2.2.2.2.2.2.2.2.2.2.2.2.2.2.2.2.2.2.2.2.2.2.1) ((uS un.toNatClampNeg).2.2.2.2.2.2.2.2.2.2.2.2.2.2.2.2.2.2.2.2.2.2.2.2.2.2.2.2.2.1) ((uS un.toNatClampNeg).2.2.2.2.2.2.2.2.2.2.2.2.2.2.2.2.2.2.2.2.2.2.2.2.2.2.2.2.2.2.1) ((uS un.toNatClampNeg).2.2.2.2.2.2.2.2.2.2.2.2.2.2.2.2.2.2.2.2.2.2.2.2.2.2.2.2.2.2.2.1) ((uS un.toNatClampNeg).2.2.2.2.2.2.2.2.2.2.2.2.2.2.2.2.2.2.2.2.2.2.2.2.2.2.2.2.2.2.2.2.1) ((uS un.toNatClampNeg).2.2.2.2.2.2.2.2.2.2.2.2.2.2.2.2.2.2.2.2.2.2.2.2.2.2.2.2.2.2.2.2.2)).bind fun z5 =>
      some (z5.1, z5.2.1, z5.2.2.1, z5.2.2.2.1, z5.2.2.2.2.1, z5.2.2.2.2.2.1, z5.2.2.2.2.2.2.1, z5.2.2.2.2.2.2.2.1, z5.2.2.2.2.2.2.2.2.1, z5.2.2.2.2.2.2.2.2.2.1, z5.2.2.2.2.2.2.2.2.2.2.1, z5.2.2.2.2.2.2.2.2.2.2.2.1, z5.2.2.2.2.2.2.2.2.2.2.2.2.1, z5.2.2.2.2.2.2.2.2.2.2.2.2.2.1, z5.2.2.2.2.2.2.2.2.2.2.2.2.2.2.1, z5.2.2.2.2.2.2.2.2.2.2.2.2.2.2.2.1, z5.2.2.2.2.2.2.2.2.2.2.2.2.2.2.2.2.1, z5.2.2.2.2.2.2.2.2.2.2.2.2.2.2.2.2.2.1, z5.2.2.2.2.2.2.2.2.2.2.2.2.2.2.2.2.2.2.1, z5.2.2.2.2.2.2.2.2.2.2.2.2.2.2.2.2.2.2.2.1, z5.2.2.2.2.2.2.2.2.2.2.2.2.2.2.2.2.2.2.2.2.1, z5.2.2.2.2.2.2.2.2.2.2.2.2.2.2.2.2.2.2.2.2.2.1, z5.2.2.2.2.2.2.2.2.2.2.2.2.2.2.2.2.2.2.2.2.2.2.1, z5.2.2.2.2.2.2.2.2.2.2.2.2.2.2.2.2.2.2.2.2.2.2.2.1, z5.2.2.2.2.2.2.2.2.2.2.2.2.2.2.2.2.2.2.2.2.2.2.2.2.1, z5.2.2.2.2.2.2.2.2.2.2.2.2.2.2.2.2.2.2.2.2.2.2.2.2.2.1, z5.2.2.2.2.2.2.2.2.2.2.2.2.2.2.2.2.2.2.2.2.2.2.2.2.2.2.1, z5.2.2.2.2.2.2.2.2.2.2.2.2.2.2.2.2.2.2.2.2.2.2.2.2.2.2.2.1, z5.2.2.2.2.2.2.2.2.2.2.2.2.2.2.2.2.2.2.2.2.2.2.2.2.2.2.2.2.1, z5.2.2.2.2.2.2.2.2.2.2.2.2.2.2.2.2.2.2.2.2.2.2.2.2.2.2.2.2.2.1, z5.2.2.2.2.2.2.2.2.2.2.2.2.2.2.2.2.2.2.2.2.2.2.2.2.2.2.2.2.2.2.1, z5.2.2.2.2.2.2.2.2.2.2.2.2.2.2.2.2.2.2.2.2.2.2.2.2.2.2.2.2.2.2.2.1, z5.2.2.2.2.2.2.2.2.2.2.2.2.2.2.2.2.2.2.2.2.2.2.2.2.2.2.2.2.2.2.2.2.1, z5.2.2.2.2.2.2.2.2.2.2.2.2.2.2.2.2.2.2.2.2.2.2.2.2.2.2.2.2.2.2.2.2.2)
theorem mbX3_abandon : MV yX3_abandon cX3_abandon 2 none 1 := ⟨⟨q1626, q8, by decide +kernel⟩, q1624, q1625⟩
set_option maxHeartbeats 4000000 in
set_option maxRecDepth 100000 in
theorem tX3_abandon (l : Launch) (dC : Nat → ClassId) (dI : Nat → Nat → Nat) (g : Nat → ClassId) (a0 a1 : Nat) (a1A : Nat → Nat → Nat) (b0 b1 b2 b3 b4 b5 b6 b7 b8 b9 b10 b11 b12 b13 b14 b15 b16 b17 b18 b19 b20 b21 b22 b23 b24 b25 b26 b27 b28 b29 b30 b31 b32 : Nat) (un : Int32) (uc : Int32) (uS : Nat → WT) (vk : Int32) (vl : Int32) (vr : Int32) (vsx : Int32) (vsNn : Int32) (vsNf : Nat → Int32) (vsMn : Int32) (vsMf : Nat → Int32) (vsLn : Int32) (vsLf : Nat → Int32) (vsKn : Int32) (vsKf : Nat → Int32) (vcMn : Int32) (vcMf : Nat → Int32) (vcLn : Int32) (vcLf : Nat → Int32) (vcTn : Int32) (vcTf : Nat → Int32) (vox : Int32) (voNn : Int32) (voNf : Nat → Int32) (voMn : Int32) (voMf : Nat → Int32) (voLn : Int32) (voLf : Nat → Int32) (voDn : Int32) (voDf : Nat → Int32) (vac : Int32) (vaWn : Int32) (vaWf : Nat → Int32) (vaDn : Int32) (vaDf : Nat → Int32) (vaLn : Int32) (vaLf : Nat → Int32) {r : Int32 × Int32 × Int32 × Int32 × Int32 × (Nat → Int32) × Int32 × (Nat → Int32) × Int32 × (Nat → Int32) × Int32 × (Nat → Int32) × Int32 × (Nat → Int32) × Int32 × (Nat → Int32) × Int32 × (Nat → Int32) × Int32 × Int32 × (Nat → Int32) × Int32 × (Nat → Int32) × Int32 × (Nat → Int32) × Int32 × (Nat → Int32) × Int32 × Int32 × (Nat → Int32) × Int32 × (Nat → Int32) × Int32 × (Nat → Int32)} (h : fX3_abandon un uS vk vl vr vsx vsNn vsNf vsMn vsMf vsLn vsLf vsKn vsKf vcMn vcMf vcLn vcLf vcTn vcTf vox voNn voNf voMn voMf voLn voLf voDn voDf vac vaWn vaWf vaDn vaDf vaLn vaLf = some r) : MU l yX3_abandon cX3_abandon 2 none 3 65 0 0 dC dI g [.ref a0, .ref b0] (wX3 g a0 a1 a1A un uc uS ++ wX11 g b0 b1 b2 b3 b4 b5 b6 b7 b8 b9 b10 b11 b12 b13 b14 b15 b16 b17 b18 b19 b20 b21 b22 b23 b24 b25 b26 b27 b28 b29 b30 b31 b32 vk vl vr vsx vsNn vsNf vsMn vsMf vsLn vsLf vsKn vsKf vcMn vcMf vcLn vcLf vcTn vcTf vox voNn voNf voMn voMf voLn voLf voDn voDf vac vaWn vaWf vaDn vaDf vaLn vaLf) (wX3 g a0 a1 a1A un uc uS ++ wX11 g b0 b1 b2 b3 b4 b5 b6 b7 b8 b9 b10 b11 b12 b13 b14 b15 b16 b17 b18 b19 b20 b21 b22 b23 b24 b25 b26 b27 b28 b29 b30 b31 b32 r.1 r.2.1 r.2.2.1 r.2.2.2.1 r.2.2.2.2.1 r.2.2.2.2.2.1 r.2.2.2.2.2.2.1 r.2.2.2.2.2.2.2.1 r.2.2.2.2.2.2.2.2.1 r.2.2.2.2.2.2.2.2.2.1 r.2.2.2.2.2.2.2.2.2.2.1 r.2.2.2.2.2.2.2.2.2.2.2.1 r.2.2.2.2.2.2.2.2.2.2.2.2.1 r.2.2.2.2.2.2.2.2.2.2.2.2.2.1 r.2.2.2.2.2.2.2.2.2.2.2.2.2.2.1 r.2.2.2.2.2.2.2.2.2.2.2.2.2.2.2.1 r.2.2.2.2.2.2.2.2.2.2.2.2.2.2.2.2.1 r.2.2.2.2.2.2.2.2.2.2.2.2.2.2.2.2.2.1 r.2.2.2.2.2.2.2.2.2.2.2.2.2.2.2.2.2.2.1 r.2.2.2.2.2.2.2.2.2.2.2.2.2.2.2.2.2.2.2.1 r.2.2.2.2.2.2.2.2.2.2.2.2.2.2.2.2.2.2.2.2.1 r.2.2.2.2.2.2.2.2.2.2.2.2.2.2.2.2.2.2.2.2.2.1 r.2.2.2.2.2.2.2.2.2.2.2.2.2.2.2.2.2.2.2.2.2.2.1 r.2.2.2.2.2.2.2.2.2.2.2.2.2.2.2.2.2.2.2.2.2.2.2.1 r.2.2.2.2.2.2.2.2.2.2.2.2.2.2.2.2.2.2.2.2.2.2.2.2.1 r.2.2.2.2.2.2.2.2.2.2.2.2.2.2.2.2.2.2.2.2.2.2.2.2.2.1 r.2.2.2.2.2.2.2.2.2.2.2.2.2.2.2.2.2.2.2.2.2.2.2.2.2.2.1 r.2.2.2.2.2.2.2.2.2.2.2.2.2.2.2.2.2.2.2.2.2.2.2.2.2.2.2.1 r.2.2.2.2.2.2.2.2.2.2.2.2.2.2.2.2.2.2.2.2.2.2.2.2.2.2.2.2.1 r.2.2.2.2.2.2.2.2.2.2.2.2.2.2.2.2.2.2.2.2.2.2.2.2.2.2.2.2.2.1 r.2.2.2.2.2.2.2.2.2.2.2.2.2.2.2.2.2.2.2.2.2.2.2.2.2.2.2.2.2.2.1 r.2.2.2.2.2.2.2.2.2.2.2.2.2.2.2.2.2.2.2.2.2.2.2.2.2.2.2.2.2.2.2.1 r.2.2.2.2.2.2.2.2.2.2.2.2.2.2.2.2.2.2.2.2.2.2.2.2.2.2.2.2.2.2.2.2.1 r.2.2.2.2.2.2.2.2.2.2.2.2.2.2.2.2.2.2.2.2.2.2.2.2.2.2.2.2.2.2.2.2.2) none := by
  refine MU_of (by decide) (Nat.le_of_ble_eq_true rfl) ?_
  intro p e s m below meth c ls F hr hlocks hE hX hA hP hD hS hl
  generalize va_A (wX3 g a0 a1 a1A un uc uS ++ wX11 g b0 b1 b2 b3 b4 b5 b6 b7 b8 b9 b10 b11 b12 b13 b14 b15 b16 b17 b18 b19 b20 b21 b22 b23 b24 b25 b26 b27 b28 b29 b30 b31 b32 vk vl vr vsx vsNn vsNf vsMn vsMf vsLn vsLf vsKn vsKf vcMn vcMf vcLn vcLf vcTn vcTf vox voNn voNf voMn voMf voLn voLf voDn voDf vac vaWn vaWf vaDn vaDf vaLn vaLf) s.heap.size = A at hA hD hS hX ⊢
  replace F : CF p m c cX3_abandon 2 s _ RX3 := F
  replace hl : lv_has ls 2 [(0, .ref a0), (1, .ref b0)] := hl
  rw [fX3_abandon] at h
  replace hP : va_P (dC, dI) vwCl (catp [[(a0, .inr (6, [.ref a1, .int un, .int uc]))], wH g a1 a1A uS, wX11 g b0 b1 b2 b3 b4 b5 b6 b7 b8 b9 b10 b11 b12 b13 b14 b15 b16 b17 b18 b19 b20 b21 b22 b23 b24 b25 b26 b27 b28 b29 b30 b31 b32 vk vl vr vsx vsNn vsNf vsMn vsMf vsLn vsLf vsKn vsKf vcMn vcMf vcLn vcLf vcTn vcTf vox voNn voNf voMn voMf voLn voLf voDn voDf vac vaWn vaWf vaDn vaDf vaLn vaLf] []) s.heap := hP
  replace hD : va_D A (catp [[(a0, .inr (6, [.ref a1, .int un, .int uc]))], wH g a1 a1A uS, wX11 g b0 b1 b2 b3 b4 b5 b6 b7 b8 b9 b10 b11 b12 b13 b14 b15 b16 b17 b18 b19 b20 b21 b22 b23 b24 b25 b26 b27 b28 b29 b30 b31 b32 vk vl vr vsx vsNn vsNf vsMn vsMf vsLn vsLf vsKn vsKf vcMn vcMf vcLn vcLf vcTn vcTf vox voNn voNf voMn voMf voLn voLf voDn voDf vac vaWn vaWf vaDn vaDf vaLn vaLf] []) := hD
  refine lv_aload_n F.1 F.2.1 dX3_abandon_0 rfl (lv_at hl 0 rfl) ?_
  refine gF (v := .int un) F hE hP 0 rfl rfl inX3 1 (by decide) q204 rfl dX3_abandon_1 ?_
  refine lv_if_lt (tgt := 44) F.1 F.2.1 dX3_abandon_4 (by decide) (fun k1 => ?_) (fun k1 => ?_)
  · replace h := it_t k1 h
    cases h
    exact MU_v F hr hlocks (Nat.le_refl _) (Nat.le_refl _) hP hS dX3_abandon_44
  · replace h := it_f k1 h
    refine lv_aload_n F.1 F.2.1 dX3_abandon_7 rfl (lv_at hl 0 rfl) ?_
    refine gF (v := .int un) F hE hP 0 rfl rfl inX3 1 (by decide) q204 rfl dX3_abandon_8 ?_
    refine lv_aload_n F.1 F.2.1 dX3_abandon_11 rfl (lv_at hl 0 rfl) ?_
    refine gF (v := .ref a1) F hE hP 0 rfl rfl inX3 0 (by decide) q203 rfl dX3_abandon_12 ?_
    refine va_alen (v := nI 9) F.1 F.2.1 hE.1 hP 1 2 rfl rfl rfl dX3_abandon_15 ?_
    refine lv_icmp_ge (tgt := 44) F.1 F.2.1 dX3_abandon_16 (by decide) (fun k2 => ?_) (fun k2 => ?_)
    · replace h := it_t k2 h
      cases h
      exact MU_v F hr hlocks (Nat.le_refl _) (Nat.le_refl _) hP hS dX3_abandon_44
    · replace h := it_f k2 h
      refine lv_aload_n F.1 F.2.1 dX3_abandon_19 rfl (lv_at hl 0 rfl) ?_
      refine gF (v := .ref a1) F hE hP 0 rfl rfl inX3 0 (by decide) q203 rfl dX3_abandon_20 ?_
      refine lv_aload_n F.1 F.2.1 dX3_abandon_23 rfl (lv_at hl 0 rfl) ?_
      refine gF (v := .int un) F hE hP 0 rfl rfl inX3 1 (by decide) q204 rfl dX3_abandon_24 ?_
      obtain ⟨k3, h⟩ := gd_ok h
      refine va_aldq (f := fun i => some (a1A i 0)) F.1 F.2.1 hE.1 hP 1 2 rfl rfl (inR_in k3) dX3_abandon_27 ?_
      refine lv_ifnull F.1 F.2.1 dX3_abandon_28 ?_
      refine lv_aload_n F.1 F.2.1 dX3_abandon_31 rfl (lv_at hl 1 rfl) ?_
      refine lv_aload_n F.1 F.2.1 dX3_abandon_32 rfl (lv_at hl 0 rfl) ?_
      refine gF (v := .ref a1) F hE hP 0 rfl rfl inX3 0 (by decide) q203 rfl dX3_abandon_33 ?_
      refine lv_aload_n F.1 F.2.1 dX3_abandon_36 rfl (lv_at hl 0 rfl) ?_
      refine gF (v := .int un) F hE hP 0 rfl rfl inX3 1 (by decide) q204 rfl dX3_abandon_37 ?_
      obtain ⟨k4, h⟩ := gd_ok h
      refine va_aldq (f := fun i => some (a1A i 0)) F.1 F.2.1 hE.1 hP 1 2 rfl rfl (inR_in k4) dX3_abandon_40 ?_
      obtain ⟨z5, k6, h⟩ := bd_ok h
      refine cMVT (As := [.ref (a1A un.toNatClampNeg 0)]) (rest := []) (post := []) (ws' := catp [[(a0, .inr (6, [.ref a1, .int un, .int uc]))], wH g a1 a1A uS, wX11 g b0 b1 b2 b3 b4 b5 b6 b7 b8 b9 b10 b11 b12 b13 b14 b15 b16 b17 b18 b19 b20 b21 b22 b23 b24 b25 b26 b27 b28 b29 b30 b31 b32 z5.1 z5.2.1 z5.2.2.1 z5.2.2.2.1 z5.2.2.2.2.1 z5.2.2.2.2.2.1 z5.2.2.2.2.2.2.1 z5.2.2.2.2.2.2.2.1 z5.2.2.2.2.2.2.2.2.1 z5.2.2.2.2.2.2.2.2.2.1 z5.2.2.2.2.2.2.2.2.2.2.1 z5.2.2.2.2.2.2.2.2.2.2.2.1 z5.2.2.2.2.2.2.2.2.2.2.2.2.1 z5.2.2.2.2.2.2.2.2.2.2.2.2.2.1 z5.2.2.2.2.2.2.2.2.2.2.2.2.2.2.1 z5.2.2.2.2.2.2.2.2.2.2.2.2.2.2.2.1 z5.2.2.2.2.2.2.2.2.2.2.2.2.2.2.2.2.1 z5.2.2.2.2.2.2.2.2.2.2.2.2.2.2.2.2.2.1 z5.2.2.2.2.2.2.2.2.2.2.2.2.2.2.2.2.2.2.1 z5.2.2.2.2.2.2.2.2.2.2.2.2.2.2.2.2.2.2.2.1 z5.2.2.2.2.2.2.2.2.2.2.2.2.2.2.2.2.2.2.2.2.1 z5.2.2.2.2.2.2.2.2.2.2.2.2.2.2.2.2.2.2.2.2.2.1 z5.2.2.2.2.2.2.2.2.2.2.2.2.2.2.2.2.2.2.2.2.2.2.1 z5.2.2.2.2.2.2.2.2.2.2.2.2.2.2.2.2.2.2.2.2.2.2.2.1 z5.2.2.2.2.2.2.2.2.2.2.2.2.2.2.2.2.2.2.2.2.2.2.2.2.1 z5.2.2.2.2.2.2.2.2.2.2.2.2.2.2.2.2.2.2.2.2.2.2.2.2.2.1 z5.2.2.2.2.2.2.2.2.2.2.2.2.2.2.2.2.2.2.2.2.2.2.2.2.2.2.1 z5.2.2.2.2.2.2.2.2.2.2.2.2.2.2.2.2.2.2.2.2.2.2.2.2.2.2.2.1 z5.2.2.2.2.2.2.2.2.2.2.2.2.2.2.2.2.2.2.2.2.2.2.2.2.2.2.2.2.1 z5.2.2.2.2.2.2.2.2.2.2.2.2.2.2.2.2.2.2.2.2.2.2.2.2.2.2.2.2.2.1 z5.2.2.2.2.2.2.2.2.2.2.2.2.2.2.2.2.2.2.2.2.2.2.2.2.2.2.2.2.2.2.1 z5.2.2.2.2.2.2.2.2.2.2.2.2.2.2.2.2.2.2.2.2.2.2.2.2.2.2.2.2.2.2.2.1 z5.2.2.2.2.2.2.2.2.2.2.2.2.2.2.2.2.2.2.2.2.2.2.2.2.2.2.2.2.2.2.2.2.1 z5.2.2.2.2.2.2.2.2.2.2.2.2.2.2.2.2.2.2.2.2.2.2.2.2.2.2.2.2.2.2.2.2.2] []) F hE hX (tX11_copyFrom l dC dI g b0 b1 b2 b3 b4 b5 b6 b7 b8 b9 b10 b11 b12 b13 b14 b15 b16 b17 b18 b19 b20 b21 b22 b23 b24 b25 b26 b27 b28 b29 b30 b31 b32 (a1A un.toNatClampNeg 0) (a1A un.toNatClampNeg 1) (a1A un.toNatClampNeg 2) (a1A un.toNatClampNeg 3) (a1A un.toNatClampNeg 4) (a1A un.toNatClampNeg 5) (a1A un.toNatClampNeg 6) (a1A un.toNatClampNeg 7) (a1A un.toNatClampNeg 8) (a1A un.toNatClampNeg 9) (a1A un.toNatClampNeg 10) (a1A un.toNatClampNeg 11) (a1A un.toNatClampNeg 12) (a1A un.toNatClampNeg 13) (a1A un.toNatClampNeg 14) (a1A un.toNatClampNeg 15) (a1A un.toNatClampNeg 16) (a1A un.toNatClampNeg 17) (a1A un.toNatClampNeg 18) (a1A un.toNatClampNeg 19) (a1A un.toNatClampNeg 20) (a1A un.toNatClampNeg 21) (a1A un.toNatClampNeg 22) (a1A un.toNatClampNeg 23) (a1A un.toNatClampNeg 24) (a1A un.toNatClampNeg 25) (a1A un.toNatClampNeg 26) (a1A un.toNatClampNeg 27) (a1A un.toNatClampNeg 28) (a1A un.toNatClampNeg 29) (a1A un.toNatClampNeg 30) (a1A un.toNatClampNeg 31) (a1A un.toNatClampNeg 32) vk vl vr vsx vsNn vsNf vsMn vsMf vsLn vsLf vsKn vsKf vcMn vcMf vcLn vcLf vcTn vcTf vox voNn voNf voMn voMf voLn voLf voDn voDf vac vaWn vaWf vaDn vaDf vaLn vaLf ((uS un.toNatClampNeg).1) ((uS un.toNatClampNeg).2.1) ((uS un.toNatClampNeg).2.2.1) ((uS un.toNatClampNeg).2.2.2.1) ((uS un.toNatClampNeg).2.2.2.2.1) ((uS un.toNatClampNeg).2.2.2.2.2.1) ((uS un.toNatClampNeg).2.2.2.2.2.2.1) ((uS un.toNatClampNeg).2.2.2.2.2.2.2.1) ((uS un.toNatClampNeg).2.2.2.2.2.2.2.2.1) ((uS un.toNatClampNeg).2.2.2.2.2.2.2.2.2.1) ((uS un.toNatClampNeg).2.2.2.2.2.2.2.2.2.2.1) ((uS un.toNatClampNeg).2.2.2.2.2.2.2.2.2.2.2.1) ((uS un.toNatClampNeg).2.2.2.2.2.2.2.2.2.2.2.2.1) ((uS un.toNatClampNeg).2.2.2.2.2.2.2.2.2.2.2.2.2.1) ((uS un.toNatClampNeg).2.2.2.2.2.2.2.2.2.2.2.2.2.2.1) ((uS un.toNatClampNeg).2.2.2.2.2.2.2.2.2.2.2.2.2.2.2.1) ((uS un.toNatClampNeg).2.2.2.2.2.2.2.2.2.2.2.2.2.2.2.2.1) ((uS un.toNatClampNeg).2.2.2.2.2.2.2.2.2.2.2.2.2.2.2.2.2.1) ((uS un.toNatClampNeg).2.2.2.2.2.2.2.2.2.2.2.2.2.2.2.2.2.2.1) ((uS un.toNatClampNeg).2.2.2.2.2.2.2.2.2.2.2.2.2.2.2.2.2.2.2.1) ((uS un.toNatClampNeg).2.2.2.2.2.2.2.2.2.2.2.2.2.2.2.2.2.2.2.2.1) ((uS un.toNatClampNeg).2.2.2.2.2.2.2.2.2.2.2.2.2.2.2.2.2.2.2.2.2.1) ((uS un.toNatClampNeg).2.2.2.2.2.2.2.2.2.2.2.2.2.2.2.2.2.2.2.2.2.2.1) ((uS un.toNatClampNeg).2.2.2.2.2.2.2.2.2.2.2.2.2.2.2.2.2.2.2.2.2.2.2.1) ((uS un.toNatClampNeg).2.2.2.2.2.2.2.2.2.2.2.2.2.2.2.2.2.2.2.2.2.2.2.2.1) ((uS un.toNatClampNeg).2.2.2.2.2.2.2.2.2.2.2.2.2.2.2.2.2.2.2.2.2.2.2.2.2.1) ((uS un.toNatClampNeg).2.2.2.2.2.2.2.2.2.2.2.2.2.2.2.2.2.2.2.2.2.2.2.2.2.2.1) ((uS un.toNatClampNeg).2.2.2.2.2.2.2.2.2.2.2.2.2.2.2.2.2.2.2.2.2.2.2.2.2.2.2.1) ((uS un.toNatClampNeg).2.2.2.2.2.2.2.2.2.2.2.2.2.2.2.2.2.2.2.2.2.2.2.2.2.2.2.2.1) ((uS un.toNatClampNeg).2.2.2.2.2.2.2.2.2.2.2.2.2.2.2.2.2.2.2.2.2.2.2.2.2.2.2.2.2.1) ((uS un.toNatClampNeg).2.2.2.2.2.2.2.2.2.2.2.2.2.2.2.2.2.2.2.2.2.2.2.2.2.2.2.2.2.2.1) ((uS un.toNatClampNeg).2.2.2.2.2.2.2.2.2.2.2.2.2.2.2.2.2.2.2.2.2.2.2.2.2.2.2.2.2.2.2.1) ((uS un.toNatClampNeg).2.2.2.2.2.2.2.2.2.2.2.2.2.2.2.2.2.2.2.2.2.2.2.2.2.2.2.2.2.2.2.2.1) ((uS un.toNatClampNeg).2.2.2.2.2.2.2.2.2.2.2.2.2.2.2.2.2.2.2.2.2.2.2.2.2.2.2.2.2.2.2.2.2) k6) mbX11_copyFrom q932 ⟨(Nat.le_of_ble_eq_true rfl), (Nat.le_of_ble_eq_true rfl)⟩ ⟨(Nat.le_of_ble_eq_true rfl), (Nat.le_of_ble_eq_true rfl)⟩ hP hD hS hA ([(a0, .inr (6, [.ref a1, .int un, .int uc]))] :: [(a1, .inl (g 2, 9, .inr (.inr (.inr (.inr (fun i => some (a1A i 0)))))))] :: (List.range un.toNatClampNeg).map (fun i => wX11t g (a1A i) (uS i))) ((List.range' (un.toNatClampNeg + 1) (8 - un.toNatClampNeg)).map (fun i => wX11t g (a1A i) (uS i))) (wH_cut g a1 a1A uS (inR_lt k4) [(a0, .inr (6, [.ref a1, .int un, .int uc]))] (wX11 g b0 b1 b2 b3 b4 b5 b6 b7 b8 b9 b10 b11 b12 b13 b14 b15 b16 b17 b18 b19 b20 b21 b22 b23 b24 b25 b26 b27 b28 b29 b30 b31 b32 vk vl vr vsx vsNn vsNf vsMn vsMf vsLn vsLf vsKn vsKf vcMn vcMf vcLn vcLf vcTn vcTf vox voNn voNf voMn voMf voLn voLf voDn voDf vac vaWn vaWf vaDn vaDf vaLn vaLf ++ [])) rfl rfl (wH_cut g a1 a1A uS (inR_lt k4) [(a0, .inr (6, [.ref a1, .int un, .int uc]))] (wX11 g b0 b1 b2 b3 b4 b5 b6 b7 b8 b9 b10 b11 b12 b13 b14 b15 b16 b17 b18 b19 b20 b21 b22 b23 b24 b25 b26 b27 b28 b29 b30 b31 b32 z5.1 z5.2.1 z5.2.2.1 z5.2.2.2.1 z5.2.2.2.2.1 z5.2.2.2.2.2.1 z5.2.2.2.2.2.2.1 z5.2.2.2.2.2.2.2.1 z5.2.2.2.2.2.2.2.2.1 z5.2.2.2.2.2.2.2.2.2.1 z5.2.2.2.2.2.2.2.2.2.2.1 z5.2.2.2.2.2.2.2.2.2.2.2.1 z5.2.2.2.2.2.2.2.2.2.2.2.2.1 z5.2.2.2.2.2.2.2.2.2.2.2.2.2.1 z5.2.2.2.2.2.2.2.2.2.2.2.2.2.2.1 z5.2.2.2.2.2.2.2.2.2.2.2.2.2.2.2.1 z5.2.2.2.2.2.2.2.2.2.2.2.2.2.2.2.2.1 z5.2.2.2.2.2.2.2.2.2.2.2.2.2.2.2.2.2.1 z5.2.2.2.2.2.2.2.2.2.2.2.2.2.2.2.2.2.2.1 z5.2.2.2.2.2.2.2.2.2.2.2.2.2.2.2.2.2.2.2.1 z5.2.2.2.2.2.2.2.2.2.2.2.2.2.2.2.2.2.2.2.2.1 z5.2.2.2.2.2.2.2.2.2.2.2.2.2.2.2.2.2.2.2.2.2.1 z5.2.2.2.2.2.2.2.2.2.2.2.2.2.2.2.2.2.2.2.2.2.2.1 z5.2.2.2.2.2.2.2.2.2.2.2.2.2.2.2.2.2.2.2.2.2.2.2.1 z5.2.2.2.2.2.2.2.2.2.2.2.2.2.2.2.2.2.2.2.2.2.2.2.2.1 z5.2.2.2.2.2.2.2.2.2.2.2.2.2.2.2.2.2.2.2.2.2.2.2.2.2.1 z5.2.2.2.2.2.2.2.2.2.2.2.2.2.2.2.2.2.2.2.2.2.2.2.2.2.2.1 z5.2.2.2.2.2.2.2.2.2.2.2.2.2.2.2.2.2.2.2.2.2.2.2.2.2.2.2.1 z5.2.2.2.2.2.2.2.2.2.2.2.2.2.2.2.2.2.2.2.2.2.2.2.2.2.2.2.2.1 z5.2.2.2.2.2.2.2.2.2.2.2.2.2.2.2.2.2.2.2.2.2.2.2.2.2.2.2.2.2.1 z5.2.2.2.2.2.2.2.2.2.2.2.2.2.2.2.2.2.2.2.2.2.2.2.2.2.2.2.2.2.2.1 z5.2.2.2.2.2.2.2.2.2.2.2.2.2.2.2.2.2.2.2.2.2.2.2.2.2.2.2.2.2.2.2.1 z5.2.2.2.2.2.2.2.2.2.2.2.2.2.2.2.2.2.2.2.2.2.2.2.2.2.2.2.2.2.2.2.2.1 z5.2.2.2.2.2.2.2.2.2.2.2.2.2.2.2.2.2.2.2.2.2.2.2.2.2.2.2.2.2.2.2.2.2 ++ [])) 0 rfl rfl rfl hl.1 rfl (Nat.le_of_ble_eq_true rfl) dX3_abandon_41 (fun H locs hP hD hS => ?_)
      cases h
      exact MU_v F hr hlocks (Nat.le_refl _) (Nat.le_refl _) hP hS dX3_abandon_44
/-! WireCutter$History.takeBack -/
def fX3_takeBack (un : Int32) (uc : Int32) (uS : Nat → WT) (vk : Int32) (vl : Int32) (vr : Int32) (vsx : Int32) (vsNn : Int32) (vsNf : Nat → Int32) (vsMn : Int32) (vsMf : Nat → Int32) (vsLn : Int32) (vsLf : Nat → Int32) (vsKn : Int32) (vsKf : Nat → Int32) (vcMn : Int32) (vcMf : Nat → Int32) (vcLn : Int32) (vcLf : Nat → Int32) (vcTn : Int32) (vcTf : Nat → Int32) (vox : Int32) (voNn : Int32) (voNf : Nat → Int32) (voMn : Int32) (voMf : Nat → Int32) (voLn : Int32) (voLf : Nat → Int32) (voDn : Int32) (voDf : Nat → Int32) (vac : Int32) (vaWn : Int32) (vaWf : Nat → Int32) (vaDn : Int32) (vaDf : Nat → Int32) (vaLn : Int32) (vaLf : Nat → Int32) : Option (Int32 × Int32 × Int32 × Int32 × Int32 × Int32 × Int32 × (Nat → Int32) × Int32 × (Nat → Int32) × Int32 × (Nat → Int32) × Int32 × (Nat → Int32) × Int32 × (Nat → Int32) × Int32 × (Nat → Int32) × Int32 × (Nat → Int32) × Int32 × Int32 × (Nat → Int32) × Int32 × (Nat → Int32) × Int32 × (Nat → Int32) × Int32 × (Nat → Int32) × Int32 × Int32 × (Nat → Int32) × Int32 × (Nat → Int32) × Int32 × (Nat → Int32)) :=
  if un ≤ 0 then
    (fX3_abandon 8 uS vk vl vr vsx vsNn vsNf vsMn vsMf vsLn vsLf vsKn vsKf vcMn vcMf vcLn vcLf vcTn vcTf vox voNn voNf voMn voMf voLn voLf voDn voDf vac vaWn vaWf vaDn vaDf vaLn vaLf).bind fun z2 =>
    some (8, uc - 1, z2.1, z2.2.1, z2.2.2.1, z2.2.2.2.1, z2.2.2.2.2.1, z2.2.2.2.2.2.1, z2.2.2.2.2.2.2.1, z2.2.2.2.2.2.2.2.1, z2.2.2.2.2.2.2.2.2.1, z2.2.2.2.2.2.2.2.2.2.1, z2.2.2.2.2.2.2.2.2.2.2.1, z2.2.2.2.2.2.2.2.2.2.2.2.1, z2.2.2.2.2.2.2.2.2.2.2.2.2.1, z2.2.2.2.2.2.2.2.2.2.2.2.2.2.1, z2.2.2.2.2.2.2.2.2.2.2.2.2.2.2.1, z2.2.2.2.2.2.2.2.2.2.2.2.2.2.2.2.1, z2.2.2.2.2.2.2.2.2.2.2.2.2.2.2.2.2.1, z2.2.2.2.2.2.2.2.2.2.2.2.2.2.2.2.2.2.1, z2.2.2.2.2.2.2.2.2.2.2.2.2.2.2.2.2.2.2.1, z2.2.2.2.2.2.2.2.2.2.2.2.2.2.2.2.2.2.2.2.1, z2.2.2.2.2.2.2.2.2.2.2.2.2.2.2.2.2.2.2.2.2.1, z2.2.2.2.2.2.2.2.2.2.2.2.2.2.2.2.2.2.2.2.2.2.1, z2.2.2.2.2.2.2.2.2.2.2.2.2.2.2.2.2.2.2.2.2.2.2.1, z2.2.2.2.2.2.2.2.2.2.2.2.2.2.2.2.2.2.2.2.2.2.2.2.1, z2.2.2.2.2.2.2.2.2.2.2.2.2.2.2.2.2.2.2.2.2.2.2.2.2.1, z2.2.2.2.2.2.2.2.2.2.2.2.2.2.2.2.2.2.2.2.2.2.2.2.2.2.1, z2.2.2.2.2.2.2.2.2.2.2.2.2.2.2.2.2.2.2.2.2.2.2.2.2.2.2.1, z2.2.2.2.2.2.2.2.2.2.2.2.2.2.2.2.2.2.2.2.2.2.2.2.2.2.2.2.1, z2.2.2.2.2.2.2.2.2.2.2.2.2.2.2.2.2.2.2.2.2.2.2.2.2.2.2.2.2.1, z2.2.2.2.2.2.2.2.2.2.2.2.2.2.2.2.2.2.2.2.2.2.2.2.2.2.2.2.2.2.1, z2.2.2.2.2.2.2.2.2.2.2.2.2.2.2.2.2.2.2.2.2.2.2.2.2.2.2.2.2.2.2.1, z2.2.2.2.2.2.2.2.2.2.2.2.2.2.2.2.2.2.2.2.2.2.2.2.2.2.2.2.2.2.2.2.1, z2.2.2.2.2.2.2.2.2.2.2.2.2.2.2.2.2.2.2.2.2.2.2.2.2.2.2.2.2.2.2.2.2.1, z2.2.2.2.2.2.2.2.2.2.2.2.2.2.2.2.2.2.2.2.2.2.2.2.2.2.2.2.2.2.2.2.2.2)
  else
    (fX3_abandon (un - 1) uS vk vl vr vsx vsNn vsNf vsMn vsMf vsLn vsLf vsKn vsKf vcMn vcMf vcLn vcLf vcTn vcTf vox voNn voNf voMn voMf voLn voLf voDn voDf vac vaWn vaWf vaDn vaDf vaLn vaLf).bind fun z4 =>
    some (un - 1, uc - 1, z4.1, z4.2.1, z4.2.2.1, z4.2.2.2.1, z4.2.2.2.2.1, z4.2.2.2.2.2.1, z4.2.2.2.2.2.2.1, z4.2.2.2.2.2.2.2.1, z4.2.2.2.2.2.2.2.2.1, z4.2.2.2.2.2.2.2.2.2.1, z4.2.2.2.2.2.2.2.2.2.2.1, z4.2.2.2.2.2.2.2.2.2.2.2.1, z4.2.2.2.2.2.2.2.2.2.2.2.2.1, z4.2.2.2.2.2.2.2.2.2.2.2.2.2.1, z4.2.2.2.2.2.2.2.2.2.2.2.2.2.2.1, z4.2.2.2.2.2.2.2.2.2.2.2.2.2.2.2.1, z4.2.2.2.2.2.2.2.2.2.2.2.2.2.2.2.2.1, z4.2.2.2.2.2.2.2.2.2.2.2.2.2.2.2.2.2.1, z4.2.2.2.2.2.2.2.2.2.2.2.2.2.2.2.2.2.2.1, z4.2.2.2.2.2.2.2.2.2.2.2.2.2.2.2.2.2.2.2.1, z4.2.2.2.2.2.2.2.2.2.2.2.2.2.2.2.2.2.2.2.2.1, z4.2.2.2.2.2.2.2.2.2.2.2.2.2.2.2.2.2.2.2.2.2.1, z4.2.2.2.2.2.2.2.2.2.2.2.2.2.2.2.2.2.2.2.2.2.2.1, z4.2.2.2.2.2.2.2.2.2.2.2.2.2.2.2.2.2.2.2.2.2.2.2.1, z4.2.2.2.2.2.2.2.2.2.2.2.2.2.2.2.2.2.2.2.2.2.2.2.2.1, z4.2.2.2.2.2.2.2.2.2.2.2.2.2.2.2.2.2.2.2.2.2.2.2.2.2.1, z4.2.2.2.2.2.2.2.2.2.2.2.2.2.2.2.2.2.2.2.2.2.2.2.2.2.2.1, z4.2.2.2.2.2.2.2.2.2.2.2.2.2.2.2.2.2.2.2.2.2.2.2.2.2.2.2.1, z4.2.2.2.2.2.2.2.2.2.2.2.2.2.2.2.2.2.2.2.2.2.2.2.2.2.2.2.2.1, z4.2.2.2.2.2.2.2.2.2.2.2.2.2.2.2.2.2.2.2.2.2.2.2.2.2.2.2.2.2.1, z4.2.2.2.2.2.2.2.2.2.2.2.2.2.2.2.2.2.2.2.2.2.2.2.2.2.2.2.2.2.2.1, z4.2.2.2.2.2.2.2.2.2.2.2.2.2.2.2.2.2.2.2.2.2.2.2.2.2.2.2.2.2.2.2.1, z4.2.2.2.2.2.2.2.2.2.2.2.2.2.2.2.2.2.2.2.2.2.2.2.2.2.2.2.2.2.2.2.2.1, z4.2.2.2.2.2.2.2.2.2.2.2.2.2.2.2.2.2.2.2.2.2.2.2.2.2.2.2.2.2.2.2.2.2)
theorem mbX3_takeBack : MV yX3_takeBack cX3_takeBack 2 none 1 := ⟨⟨q1660, q8, by decide +kernel⟩, q1658, q1659⟩
set_option maxHeartbeats 4000000 in
set_option maxRecDepth 100000 in
theorem tX3_takeBack (l : Launch) (dC : Nat → ClassId) (dI : Nat → Nat → Nat) (g : Nat → ClassId) (a0 a1 : Nat) (a1A : Nat → Nat → Nat) (b0 b1 b2 b3 b4 b5 b6 b7 b8 b9 b10 b11 b12 b13 b14 b15 b16 b17 b18 b19 b20 b21 b22 b23 b24 b25 b26 b27 b28 b29 b30 b31 b32 : Nat) (un : Int32) (uc : Int32) (uS : Nat → WT) (vk : Int32) (vl : Int32) (vr : Int32) (vsx : Int32) (vsNn : Int32) (vsNf : Nat → Int32) (vsMn : Int32) (vsMf : Nat → Int32) (vsLn : Int32) (vsLf : Nat → Int32) (vsKn : Int32) (vsKf : Nat → Int32) (vcMn : Int32) (vcMf : Nat → Int32) (vcLn : Int32) (vcLf : Nat → Int32) (vcTn : Int32) (vcTf : Nat → Int32) (vox : Int32) (voNn : Int32) (voNf : Nat → Int32) (voMn : Int32) (voMf : Nat → Int32) (voLn : Int32) (voLf : Nat → Int32) (voDn : Int32) (voDf : Nat → Int32) (vac : Int32) (vaWn : Int32) (vaWf : Nat → Int32) (vaDn : Int32) (vaDf : Nat → Int32) (vaLn : Int32) (vaLf : Nat → Int32) {r : Int32 × Int32 × Int32 × Int32 × Int32 × Int32 × Int32 × (Nat → Int32) × Int32 × (Nat → Int32) × Int32 × (Nat → Int32) × Int32 × (Nat → Int32) × Int32 × (Nat → Int32) × Int32 × (Nat → Int32) × Int32 × (Nat → Int32) × Int32 × Int32 × (Nat → Int32) × Int32 × (Nat → Int32) × Int32 × (Nat → Int32) × Int32 × (Nat → Int32) × Int32 × Int32 × (Nat → Int32) × Int32 × (Nat → Int32) × Int32 × (Nat → Int32)} (h : fX3_takeBack un uc uS vk vl vr vsx vsNn vsNf vsMn vsMf vsLn vsLf vsKn vsKf vcMn vcMf vcLn vcLf vcTn vcTf vox voNn voNf voMn voMf voLn voLf voDn voDf vac vaWn vaWf vaDn vaDf vaLn vaLf = some r) : MU l yX3_takeBack cX3_takeBack 2 none 4 86 0 0 dC dI g [.ref a0, .ref b0] (wX3 g a0 a1 a1A un uc uS ++ wX11 g b0 b1 b2 b3 b4 b5 b6 b7 b8 b9 b10 b11 b12 b13 b14 b15 b16 b17 b18 b19 b20 b21 b22 b23 b24 b25 b26 b27 b28 b29 b30 b31 b32 vk vl vr vsx vsNn vsNf vsMn vsMf vsLn vsLf vsKn vsKf vcMn vcMf vcLn vcLf vcTn vcTf vox voNn voNf voMn voMf voLn voLf voDn voDf vac vaWn vaWf vaDn vaDf vaLn vaLf) (wX3 g a0 a1 a1A r.1 r.2.1 uS ++ wX11 g b0 b1 b2 b3 b4 b5 b6 b7 b8 b9 b10 b11 b12 b13 b14 b15 b16 b17 b18 b19 b20 b21 b22 b23 b24 b25 b26 b27 b28 b29 b30 b31 b32 r.2.2.1 r.2.2.2.1 r.2.2.2.2.1 r.2.2.2.2.2.1 r.2.2.2.2.2.2.1 r.2.2.2.2.2.2.2.1 r.2.2.2.2.2.2.2.2.1 r.2.2.2.2.2.2.2.2.2.1 r.2.2.2.2.2.2.2.2.2.2.1 r.2.2.2.2.2.2.2.2.2.2.2.1 r.2.2.2.2.2.2.2.2.2.2.2.2.1 r.2.2.2.2.2.2.2.2.2.2.2.2.2.1 r.2.2.2.2.2.2.2.2.2.2.2.2.2.2.1 r.2.2.2.2.2.2.2.2.2.2.2.2.2.2.2.1 r.2.2.2.2.2.2.2.2.2.2.2.2.2.2.2.2.1 r.2.2.2.2.2.2.2.2.2.2.2.2.2.2.2.2.2.1 r.2.2.2.2.2.2.2.2.2.2.2.2.2.2.2.2.2.2.1 r.2.2.2.2.2.2.2.2.2.2.2.2.2.2.2.2.2.2.2.1 r.2.2.2.2.2.2.2.2.2.2.2.2.2.2.2.2.2.2.2.2.1 r.2.2.2.2.2.2.2.2.2.2.2.2.2.2.2.2.2.2.2.2.2.1 r.2.2.2.2.2.2.2.2.2.2.2.2.2.2.2.2.2.2.2.2.2.2.1 r.2.2.2.2.2.2.2.2.2.2.2.2.2.2.2.2.2.2.2.2.2.2.2.1 r.2.2.2.2.2.2.2.2.2.2.2.2.2.2.2.2.2.2.2.2.2.2.2.2.1 r.2.2.2.2.2.2.2.2.2.2.2.2.2.2.2.2.2.2.2.2.2.2.2.2.2.1 r.2.2.2.2.2.2.2.2.2.2.2.2.2.2.2.2.2.2.2.2.2.2.2.2.2.2.1 r.2.2.2.2.2.2.2.2.2.2.2.2.2.2.2.2.2.2.2.2.2.2.2.2.2.2.2.1 r.2.2.2.2.2.2.2.2.2.2.2.2.2.2.2.2.2.2.2.2.2.2.2.2.2.2.2.2.1 r.2.2.2.2.2.2.2.2.2.2.2.2.2.2.2.2.2.2.2.2.2.2.2.2.2.2.2.2.2.1 r.2.2.2.2.2.2.2.2.2.2.2.2.2.2.2.2.2.2.2.2.2.2.2.2.2.2.2.2.2.2.1 r.2.2.2.2.2.2.2.2.2.2.2.2.2.2.2.2.2.2.2.2.2.2.2.2.2.2.2.2.2.2.2.1 r.2.2.2.2.2.2.2.2.2.2.2.2.2.2.2.2.2.2.2.2.2.2.2.2.2.2.2.2.2.2.2.2.1 r.2.2.2.2.2.2.2.2.2.2.2.2.2.2.2.2.2.2.2.2.2.2.2.2.2.2.2.2.2.2.2.2.2.1 r.2.2.2.2.2.2.2.2.2.2.2.2.2.2.2.2.2.2.2.2.2.2.2.2.2.2.2.2.2.2.2.2.2.2.1 r.2.2.2.2.2.2.2.2.2.2.2.2.2.2.2.2.2.2.2.2.2.2.2.2.2.2.2.2.2.2.2.2.2.2.2) none := by
  refine MU_of (by decide) (Nat.le_of_ble_eq_true rfl) ?_
  intro p e s m below meth c ls F hr hlocks hE hX hA hP hD hS hl
  generalize va_A (wX3 g a0 a1 a1A un uc uS ++ wX11 g b0 b1 b2 b3 b4 b5 b6 b7 b8 b9 b10 b11 b12 b13 b14 b15 b16 b17 b18 b19 b20 b21 b22 b23 b24 b25 b26 b27 b28 b29 b30 b31 b32 vk vl vr vsx vsNn vsNf vsMn vsMf vsLn vsLf vsKn vsKf vcMn vcMf vcLn vcLf vcTn vcTf vox voNn voNf voMn voMf voLn voLf voDn voDf vac vaWn vaWf vaDn vaDf vaLn vaLf) s.heap.size = A at hA hD hS hX ⊢
  replace F : CF p m c cX3_takeBack 2 s _ RX3 := F
  replace hl : lv_has ls 2 [(0, .ref a0), (1, .ref b0)] := hl
  rw [fX3_takeBack] at h
  replace hP : va_P (dC, dI) vwCl (catp [[(a0, .inr (6, [.ref a1, .int un, .int uc]))], wH g a1 a1A uS, wX11 g b0 b1 b2 b3 b4 b5 b6 b7 b8 b9 b10 b11 b12 b13 b14 b15 b16 b17 b18 b19 b20 b21 b22 b23 b24 b25 b26 b27 b28 b29 b30 b31 b32 vk vl vr vsx vsNn vsNf vsMn vsMf vsLn vsLf vsKn vsKf vcMn vcMf vcLn vcLf vcTn vcTf vox voNn voNf voMn voMf voLn voLf voDn voDf vac vaWn vaWf vaDn vaDf vaLn vaLf] []) s.heap := hP
  replace hD : va_D A (catp [[(a0, .inr (6, [.ref a1, .int un, .int uc]))], wH g a1 a1A uS, wX11 g b0 b1 b2 b3 b4 b5 b6 b7 b8 b9 b10 b11 b12 b13 b14 b15 b16 b17 b18 b19 b20 b21 b22 b23 b24 b25 b26 b27 b28 b29 b30 b31 b32 vk vl vr vsx vsNn vsNf vsMn vsMf vsLn vsLf vsKn vsKf vcMn vcMf vcLn vcLf vcTn vcTf vox voNn voNf voMn voMf voLn voLf voDn voDf vac vaWn vaWf vaDn vaDf vaLn vaLf] []) := hD
  refine lv_aload_n F.1 F.2.1 dX3_takeBack_0 rfl (lv_at hl 0 rfl) ?_
  refine lv_aload_n F.1 F.2.1 dX3_takeBack_1 rfl (lv_at hl 0 rfl) ?_
  refine gF (v := .int un) F hE hP 0 rfl rfl inX3 1 (by decide) q204 rfl dX3_takeBack_2 ?_
  refine lv_if_le (tgt := 17) F.1 F.2.1 dX3_takeBack_5 (by decide) (fun k1 => ?_) (fun k1 => ?_)
  · replace h := it_t k1 h
    refine lv_bipush (v := 8) F.1 F.2.1 dX3_takeBack_17 (by decide) ?_
    refine pF (v := .int 8) F hE hP hD hS 0 rfl rfl inX3 tyX3 tyX3_ok nmX3 1 (by decide) q204 rfl rfl rfl (Nat.le_of_ble_eq_true rfl) dX3_takeBack_19 (fun H locs hP hD hS => ?_)
    replace hP : va_P (dC, dI) vwCl (catp [[(a0, .inr (6, [.ref a1, .int 8, .int uc]))], wH g a1 a1A uS, wX11 g b0 b1 b2 b3 b4 b5 b6 b7 b8 b9 b10 b11 b12 b13 b14 b15 b16 b17 b18 b19 b20 b21 b22 b23 b24 b25 b26 b27 b28 b29 b30 b31 b32 vk vl vr vsx vsNn vsNf vsMn vsMf vsLn vsLf vsKn vsKf vcMn vcMf vcLn vcLf vcTn vcTf vox voNn voNf voMn voMf voLn voLf voDn voDf vac vaWn vaWf vaDn vaDf vaLn vaLf] []) H := hP
    replace hD : va_D A (catp [[(a0, .inr (6, [.ref a1, .int 8, .int uc]))], wH g a1 a1A uS, wX11 g b0 b1 b2 b3 b4 b5 b6 b7 b8 b9 b10 b11 b12 b13 b14 b15 b16 b17 b18 b19 b20 b21 b22 b23 b24 b25 b26 b27 b28 b29 b30 b31 b32 vk vl vr vsx vsNn vsNf vsMn vsMf vsLn vsLf vsKn vsKf vcMn vcMf vcLn vcLf vcTn vcTf vox voNn voNf voMn voMf voLn voLf voDn voDf vac vaWn vaWf vaDn vaDf vaLn vaLf] []) := hD
    refine lv_aload_n F.1 F.2.1 dX3_takeBack_22 rfl (lv_at hl 0 rfl) ?_
    refine lv_dup F.1 F.2.1 dX3_takeBack_23 rfl ?_
    refine gF (v := .int uc) F hE hP 0 rfl rfl inX3 2 (by decide) q205 rfl dX3_takeBack_24 ?_
    refine lv_iconst (v := 1) F.1 F.2.1 dX3_takeBack_27 (by decide) ?_
    refine lv_isub F.1 F.2.1 dX3_takeBack_28 ?_
    refine pF (v := .int (uc - 1)) F hE hP hD hS 0 rfl rfl inX3 tyX3 tyX3_ok nmX3 2 (by decide) q205 rfl rfl rfl (Nat.le_of_ble_eq_true rfl) dX3_takeBack_29 (fun H locs hP hD hS => ?_)
    replace hP : va_P (dC, dI) vwCl (catp [[(a0, .inr (6, [.ref a1, .int 8, .int (uc - 1)]))], wH g a1 a1A uS, wX11 g b0 b1 b2 b3 b4 b5 b6 b7 b8 b9 b10 b11 b12 b13 b14 b15 b16 b17 b18 b19 b20 b21 b22 b23 b24 b25 b26 b27 b28 b29 b30 b31 b32 vk vl vr vsx vsNn vsNf vsMn vsMf vsLn vsLf vsKn vsKf vcMn vcMf vcLn vcLf vcTn vcTf vox voNn voNf voMn voMf voLn voLf voDn voDf vac vaWn vaWf vaDn vaDf vaLn vaLf] []) H := hP
    replace hD : va_D A (catp [[(a0, .inr (6, [.ref a1, .int 8, .int (uc - 1)]))], wH g a1 a1A uS, wX11 g b0 b1 b2 b3 b4 b5 b6 b7 b8 b9 b10 b11 b12 b13 b14 b15 b16 b17 b18 b19 b20 b21 b22 b23 b24 b25 b26 b27 b28 b29 b30 b31 b32 vk vl vr vsx vsNn vsNf vsMn vsMf vsLn vsLf vsKn vsKf vcMn vcMf vcLn vcLf vcTn vcTf vox voNn voNf voMn voMf voLn voLf voDn voDf vac vaWn vaWf vaDn vaDf vaLn vaLf] []) := hD
    refine lv_aload_n F.1 F.2.1 dX3_takeBack_32 rfl (lv_at hl 0 rfl) ?_
    refine lv_aload_n F.1 F.2.1 dX3_takeBack_33 rfl (lv_at hl 1 rfl) ?_
    obtain ⟨z2, k3, h⟩ := bd_ok h
    refine cMVA (As := [.ref b0]) (rest := []) (ws' := catp [[(a0, .inr (6, [.ref a1, .int 8, .int (uc - 1)]))], wH g a1 a1A uS, wX11 g b0 b1 b2 b3 b4 b5 b6 b7 b8 b9 b10 b11 b12 b13 b14 b15 b16 b17 b18 b19 b20 b21 b22 b23 b24 b25 b26 b27 b28 b29 b30 b31 b32 z2.1 z2.2.1 z2.2.2.1 z2.2.2.2.1 z2.2.2.2.2.1 z2.2.2.2.2.2.1 z2.2.2.2.2.2.2.1 z2.2.2.2.2.2.2.2.1 z2.2.2.2.2.2.2.2.2.1 z2.2.2.2.2.2.2.2.2.2.1 z2.2.2.2.2.2.2.2.2.2.2.1 z2.2.2.2.2.2.2.2.2.2.2.2.1 z2.2.2.2.2.2.2.2.2.2.2.2.2.1 z2.2.2.2.2.2.2.2.2.2.2.2.2.2.1 z2.2.2.2.2.2.2.2.2.2.2.2.2.2.2.1 z2.2.2.2.2.2.2.2.2.2.2.2.2.2.2.2.1 z2.2.2.2.2.2.2.2.2.2.2.2.2.2.2.2.2.1 z2.2.2.2.2.2.2.2.2.2.2.2.2.2.2.2.2.2.1 z2.2.2.2.2.2.2.2.2.2.2.2.2.2.2.2.2.2.2.1 z2.2.2.2.2.2.2.2.2.2.2.2.2.2.2.2.2.2.2.2.1 z2.2.2.2.2.2.2.2.2.2.2.2.2.2.2.2.2.2.2.2.2.1 z2.2.2.2.2.2.2.2.2.2.2.2.2.2.2.2.2.2.2.2.2.2.1 z2.2.2.2.2.2.2.2.2.2.2.2.2.2.2.2.2.2.2.2.2.2.2.1 z2.2.2.2.2.2.2.2.2.2.2.2.2.2.2.2.2.2.2.2.2.2.2.2.1 z2.2.2.2.2.2.2.2.2.2.2.2.2.2.2.2.2.2.2.2.2.2.2.2.2.1 z2.2.2.2.2.2.2.2.2.2.2.2.2.2.2.2.2.2.2.2.2.2.2.2.2.2.1 z2.2.2.2.2.2.2.2.2.2.2.2.2.2.2.2.2.2.2.2.2.2.2.2.2.2.2.1 z2.2.2.2.2.2.2.2.2.2.2.2.2.2.2.2.2.2.2.2.2.2.2.2.2.2.2.2.1 z2.2.2.2.2.2.2.2.2.2.2.2.2.2.2.2.2.2.2.2.2.2.2.2.2.2.2.2.2.1 z2.2.2.2.2.2.2.2.2.2.2.2.2.2.2.2.2.2.2.2.2.2.2.2.2.2.2.2.2.2.1 z2.2.2.2.2.2.2.2.2.2.2.2.2.2.2.2.2.2.2.2.2.2.2.2.2.2.2.2.2.2.2.1 z2.2.2.2.2.2.2.2.2.2.2.2.2.2.2.2.2.2.2.2.2.2.2.2.2.2.2.2.2.2.2.2.1 z2.2.2.2.2.2.2.2.2.2.2.2.2.2.2.2.2.2.2.2.2.2.2.2.2.2.2.2.2.2.2.2.2.1 z2.2.2.2.2.2.2.2.2.2.2.2.2.2.2.2.2.2.2.2.2.2.2.2.2.2.2.2.2.2.2.2.2.2] []) F hE hX (tX3_abandon l dC dI g a0 a1 a1A b0 b1 b2 b3 b4 b5 b6 b7 b8 b9 b10 b11 b12 b13 b14 b15 b16 b17 b18 b19 b20 b21 b22 b23 b24 b25 b26 b27 b28 b29 b30 b31 b32 8 (uc - 1) uS vk vl vr vsx vsNn vsNf vsMn vsMf vsLn vsLf vsKn vsKf vcMn vcMf vcLn vcLf vcTn vcTf vox voNn voNf voMn voMf voLn voLf voDn voDf vac vaWn vaWf vaDn vaDf vaLn vaLf k3) mbX3_abandon q1661 ⟨(Nat.le_of_ble_eq_true rfl), (Nat.le_of_ble_eq_true rfl)⟩ ⟨(Nat.le_of_ble_eq_true rfl), (Nat.le_of_ble_eq_true rfl)⟩ hP hD hS hA rfl rfl rfl 0 rfl rfl rfl hl.1 rfl (Nat.le_of_ble_eq_true rfl) dX3_takeBack_34 (fun H locs hP hD hS => ?_)
    cases h
    exact MU_v F hr hlocks (Nat.le_refl _) (Nat.le_refl _) hP hS dX3_takeBack_37
  · replace h := it_f k1 h
    refine lv_aload_n F.1 F.2.1 dX3_takeBack_8 rfl (lv_at hl 0 rfl) ?_
    refine gF (v := .int un) F hE hP 0 rfl rfl inX3 1 (by decide) q204 rfl dX3_takeBack_9 ?_
    refine lv_iconst (v := 1) F.1 F.2.1 dX3_takeBack_12 (by decide) ?_
    refine lv_isub F.1 F.2.1 dX3_takeBack_13 ?_
    refine lv_goto (tgt := 19) F.1 F.2.1 dX3_takeBack_14 (by decide) ?_
    refine pF (v := .int (un - 1)) F hE hP hD hS 0 rfl rfl inX3 tyX3 tyX3_ok nmX3 1 (by decide) q204 rfl rfl rfl (Nat.le_of_ble_eq_true rfl) dX3_takeBack_19 (fun H locs hP hD hS => ?_)
    replace hP : va_P (dC, dI) vwCl (catp [[(a0, .inr (6, [.ref a1, .int (un - 1), .int uc]))], wH g a1 a1A uS, wX11 g b0 b1 b2 b3 b4 b5 b6 b7 b8 b9 b10 b11 b12 b13 b14 b15 b16 b17 b18 b19 b20 b21 b22 b23 b24 b25 b26 b27 b28 b29 b30 b31 b32 vk vl vr vsx vsNn vsNf vsMn vsMf vsLn vsLf vsKn vsKf vcMn vcMf vcLn vcLf vcTn vcTf vox voNn voNf voMn voMf voLn voLf voDn voDf vac vaWn vaWf vaDn vaDf vaLn vaLf] []) H := hP
    replace hD : va_D A (catp [[(a0, .inr (6, [.ref a1, .int (un - 1), .int uc]))], wH g a1 a1A uS, wX11 g b0 b1 b2 b3 b4 b5 b6 b7 b8 b9 b10 b11 b12 b13 b14 b15 b16 b17 b18 b19 b20 b21 b22 b23 b24 b25 b26 b27 b28 b29 b30 b31 b32 vk vl vr vsx vsNn vsNf vsMn vsMf vsLn vsLf vsKn vsKf vcMn vcMf vcLn vcLf vcTn vcTf vox voNn voNf voMn voMf voLn voLf voDn voDf vac vaWn vaWf vaDn vaDf vaLn vaLf] []) := hD
    refine lv_aload_n F.1 F.2.1 dX3_takeBack_22 rfl (lv_at hl 0 rfl) ?_
    refine lv_dup F.1 F.2.1 dX3_takeBack_23 rfl ?_
    refine gF (v := .int uc) F hE hP 0 rfl rfl inX3 2 (by decide) q205 rfl dX3_takeBack_24 ?_
    refine lv_iconst (v := 1) F.1 F.2.1 dX3_takeBack_27 (by decide) ?_
    refine lv_isub F.1 F.2.1 dX3_takeBack_28 ?_
    refine pF (v := .int (uc - 1)) F hE hP hD hS 0 rfl rfl inX3 tyX3 tyX3_ok nmX3 2 (by decide) q205 rfl rfl rfl (Nat.le_of_ble_eq_true rfl) dX3_takeBack_29 (fun H locs hP hD hS => ?_)
    replace hP : va_P (dC, dI) vwCl (catp [[(a0, .inr (6, [.ref a1, .int (un - 1), .int (uc - 1)]))], wH g a1 a1A uS, wX11 g b0 b1 b2 b3 b4 b5 b6 b7 b8 b9 b10 b11 b12 b13 b14 b15 b16 b17 b18 b19 b20 b21 b22 b23 b24 b25 b26 b27 b28 b29 b30 b31 b32 vk vl vr vsx vsNn vsNf vsMn vsMf vsLn vsLf vsKn vsKf vcMn vcMf vcLn vcLf vcTn vcTf vox voNn voNf voMn voMf voLn voLf voDn voDf vac vaWn vaWf vaDn vaDf vaLn vaLf] []) H := hP
    replace hD : va_D A (catp [[(a0, .inr (6, [.ref a1, .int (un - 1), .int (uc - 1)]))], wH g a1 a1A uS, wX11 g b0 b1 b2 b3 b4 b5 b6 b7 b8 b9 b10 b11 b12 b13 b14 b15 b16 b17 b18 b19 b20 b21 b22 b23 b24 b25 b26 b27 b28 b29 b30 b31 b32 vk vl vr vsx vsNn vsNf vsMn vsMf vsLn vsLf vsKn vsKf vcMn vcMf vcLn vcLf vcTn vcTf vox voNn voNf voMn voMf voLn voLf voDn voDf vac vaWn vaWf vaDn vaDf vaLn vaLf] []) := hD
    refine lv_aload_n F.1 F.2.1 dX3_takeBack_32 rfl (lv_at hl 0 rfl) ?_
    refine lv_aload_n F.1 F.2.1 dX3_takeBack_33 rfl (lv_at hl 1 rfl) ?_
    obtain ⟨z4, k5, h⟩ := bd_ok h
    refine cMVA (As := [.ref b0]) (rest := []) (ws' := catp [[(a0, .inr (6, [.ref a1, .int (un - 1), .int (uc - 1)]))], wH g a1 a1A uS, wX11 g b0 b1 b2 b3 b4 b5 b6 b7 b8 b9 b10 b11 b12 b13 b14 b15 b16 b17 b18 b19 b20 b21 b22 b23 b24 b25 b26 b27 b28 b29 b30 b31 b32 z4.1 z4.2.1 z4.2.2.1 z4.2.2.2.1 z4.2.2.2.2.1 z4.2.2.2.2.2.1 z4.2.2.2.2.2.2.1 z4.2.2.2.2.2.2.2.1 z4.2.2.2.2.2.2.2.2.1 z4.2.2.2.2.2.2.2.2.2.1 z4.2.2.2.2.2.2.2.2.2.2.1 z4.2.2.2.2.2.2.2.2.2.2.2.1 z4.2.2.2.2.2.2.2.2.2.2.2.2.1 z4.2.2.2.2.2.2.2.2.2.2.2.2.2.1 z4.2.2.2.2.2.2.2.2.2.2.2.2.2.2.1 z4.2.2.2.2.2.2.2.2.2.2.2.2.2.2.2.1 z4.2.2.2.2.2.2.2.2.2.2.2.2.2.2.2.2.1 z4.2.2.2.2.2.2.2.2.2.2.2.2.2.2.2.2.2.1 z4.2.2.2.2.2.2.2.2.2.2.2.2.2.2.2.2.2.2.1 z4.2.2.2.2.2.2.2.2.2.2.2.2.2.2.2.2.2.2.2.1 z4.2.2.2.2.2.2.2.2.2.2.2.2.2.2.2.2.2.2.2.2.1 z4.2.2.2.2.2.2.2.2.2.2.2.2.2.2.2.2.2.2.2.2.2.1 z4.2.2.2.2.2.2.2.2.2.2.2.2.2.2.2.2.2.2.2.2.2.2.1 z4.2.2.2.2.2.2.2.2.2.2.2.2.2.2.2.2.2.2.2.2.2.2.2.1 z4.2.2.2.2.2.2.2.2.2.2.2.2.2.2.2.2.2.2.2.2.2.2.2.2.1 z4.2.2.2.2.2.2.2.2.2.2.2.2.2.2.2.2.2.2.2.2.2.2.2.2.2.1 z4.2.2.2.2.2.2.2.2.2.2.2.2.2.2.2.2.2.2.2.2.2.2.2.2.2.2.1 z4.2.2.2.2.2.2.2.2.2.2.2.2.2.2.2.2.2.2.2.2.2.2.2.2.2.2.2.1 z4.2.2.2.2.2.2.2.2.2.2.2.2.2.2.2.2.2.2.2.2.2.2.2.2.2.2.2.2.1 z4.2.2.2.2.2.2.2.2.2.2.2.2.2.2.2.2.2.2.2.2.2.2.2.2.2.2.2.2.2.1 z4.2.2.2.2.2.2.2.2.2.2.2.2.2.2.2.2.2.2.2.2.2.2.2.2.2.2.2.2.2.2.1 z4.2.2.2.2.2.2.2.2.2.2.2.2.2.2.2.2.2.2.2.2.2.2.2.2.2.2.2.2.2.2.2.1 z4.2.2.2.2.2.2.2.2.2.2.2.2.2.2.2.2.2.2.2.2.2.2.2.2.2.2.2.2.2.2.2.2.1 z4.2.2.2.2.2.2.2.2.2.2.2.2.2.2.2.2.2.2.2.2.2.2.2.2.2.2.2.2.2.2.2.2.2] []) F hE hX (tX3_abandon l dC dI g a0 a1 a1A b0 b1 b2 b3 b4 b5 b6 b7 b8 b9 b10 b11 b12 b13 b14 b15 b16 b17 b18 b19 b20 b21 b22 b23 b24 b25 b26 b27 b28 b29 b30 b31 b32 (un - 1) (uc - 1) uS vk vl vr vsx vsNn vsNf vsMn vsMf vsLn vsLf vsKn vsKf vcMn vcMf vcLn vcLf vcTn vcTf vox voNn voNf voMn voMf voLn voLf voDn voDf vac vaWn vaWf vaDn vaDf vaLn vaLf k5) mbX3_abandon q1661 ⟨(Nat.le_of_ble_eq_true rfl), (Nat.le_of_ble_eq_true rfl)⟩ ⟨(Nat.le_of_ble_eq_true rfl), (Nat.le_of_ble_eq_true rfl)⟩ hP hD hS hA rfl rfl rfl 0 rfl rfl rfl hl.1 rfl (Nat.le_of_ble_eq_true rfl) dX3_takeBack_34 (fun H locs hP hD hS => ?_)
    cases h
    exact MU_v F hr hlocks (Nat.le_refl _) (Nat.le_refl _) hP hS dX3_takeBack_37
/-! WireCutter$History.forget -/
def fX3_forget : Option (Int32) :=
  some (0)
theorem mbX3_forget : MV yX3_forget cX3_forget 1 none 0 := ⟨⟨q1673, q8, by decide +kernel⟩, q1671, q1672⟩
set_option maxHeartbeats 4000000 in
set_option maxRecDepth 100000 in
theorem tX3_forget (l : Launch) (dC : Nat → ClassId) (dI : Nat → Nat → Nat) (g : Nat → ClassId) (a0 a1 : Nat) (a1A : Nat → Nat → Nat) (un : Int32) (uc : Int32) (uS : Nat → WT) {r : Int32} (h : fX3_forget = some r) : MU l yX3_forget cX3_forget 1 none 0 0 0 0 dC dI g [.ref a0] (wX3 g a0 a1 a1A un uc uS) (wX3 g a0 a1 a1A un r uS) none := by
  refine MU_of (by decide) (Nat.le_of_ble_eq_true rfl) ?_
  intro p e s m below meth c ls F hr hlocks hE hX hA hP hD hS hl
  generalize va_A (wX3 g a0 a1 a1A un uc uS) s.heap.size = A at hA hD hS hX ⊢
  replace F : CF p m c cX3_forget 1 s _ RX3 := F
  replace hl : lv_has ls 1 [(0, .ref a0)] := hl
  rw [fX3_forget] at h
  replace hP : va_P (dC, dI) vwCl (catp [[(a0, .inr (6, [.ref a1, .int un, .int uc]))], wH g a1 a1A uS] []) s.heap := hP
  replace hD : va_D A (catp [[(a0, .inr (6, [.ref a1, .int un, .int uc]))], wH g a1 a1A uS] []) := hD
  refine lv_aload_n F.1 F.2.1 dX3_forget_0 rfl (lv_at hl 0 rfl) ?_
  refine lv_iconst (v := 0) F.1 F.2.1 dX3_forget_1 (by decide) ?_
  refine pF (v := .int 0) F hE hP hD hS 0 rfl rfl inX3 tyX3 tyX3_ok nmX3 2 (by decide) q205 rfl rfl rfl (Nat.le_of_ble_eq_true rfl) dX3_forget_2 (fun H locs hP hD hS => ?_)
  replace hP : va_P (dC, dI) vwCl (catp [[(a0, .inr (6, [.ref a1, .int un, .int 0]))], wH g a1 a1A uS] []) H := hP
  replace hD : va_D A (catp [[(a0, .inr (6, [.ref a1, .int un, .int 0]))], wH g a1 a1A uS] []) := hD
  cases h
  exact MU_v F hr hlocks (Nat.le_refl _) (Nat.le_refl _) hP hS dX3_forget_5
