/-- a command's cells: the verb by its number, the letter, the two numbers, how many -/
abbrev CT : Type := Option Nat × Int32 × Int32 × Int32 × Int32
abbrev wX2 (g : Nat → ClassId) (a0 : Nat) (uv : Option Nat) (ul : Int32) (uf : Int32) (us : Int32) (un : Int32) : va_W := [(a0, .inr (5, [vbR g uv, .int ul, .int uf, .int us, .int un]))]
abbrev wX2t (g : Nat → ClassId) (A : Nat → Nat) (u : CT) : va_W := wX2 g (A 0) u.1 u.2.1 u.2.2.1 u.2.2.2.1 u.2.2.2.2
def wK (g : Nat → ClassId) (b : Nat) (bA : Nat → Nat → Nat) (uK : Nat → CT) : va_W := catp ([(b, .inl (g 3, 12, .inr (.inr (.inr (.inr (fun i => some (bA i 0)))))))] :: (List.range 12).map (fun i => wX2t g (bA i) (uK i))) []
theorem range_cut12 {k : Nat} (hk : k < 12) : List.range 12 = List.range k ++ (k :: List.range' (k + 1) (11 - k)) := by
  rw [List.range_eq_range', List.range_eq_range', ← List.range'_succ, show 11 - k + 1 = 12 - k by omega]
  have h := @List.range'_append 0 k (12 - k) 1
  rw [Nat.one_mul, Nat.zero_add, show k + (12 - k) = 12 by omega] at h
  exact h.symm
theorem wK_cut (g : Nat → ClassId) (b : Nat) (bA : Nat → Nat → Nat) (uK : Nat → CT) {k : Nat} (hk : k < 12) (post : va_W) :
    catp ([(b, .inl (g 3, 12, .inr (.inr (.inr (.inr (fun i => some (bA i 0)))))))] :: (List.range k).map (fun i => wX2t g (bA i) (uK i))) (wX2t g (bA k) (uK k) ++ catp ((List.range' (k + 1) (11 - k)).map (fun i => wX2t g (bA i) (uK i))) post) = wK g b bA uK ++ post := by
  simp only [wK, range_cut12 hk, List.map_append, List.map_cons, catp_eq, List.flatten_cons, List.flatten_append, List.append_assoc, List.append_nil]
theorem wK_put (g : Nat → ClassId) (b : Nat) (bA : Nat → Nat → Nat) (uK : Nat → CT) {k : Nat} (hk : k < 12) (z : CT) (post : va_W) :
    catp ([(b, .inl (g 3, 12, .inr (.inr (.inr (.inr (fun i => some (bA i 0)))))))] :: (List.range k).map (fun i => wX2t g (bA i) (uK i))) (wX2t g (bA k) z ++ catp ((List.range' (k + 1) (11 - k)).map (fun i => wX2t g (bA i) (uK i))) post) = wK g b bA (va_up uK k z) ++ post := by
  have h := wK_cut g b bA (va_up uK k z) hk post
  have e1 : (List.range k).map (fun i => wX2t g (bA i) (va_up uK k z i)) = (List.range k).map (fun i => wX2t g (bA i) (uK i)) := by
    refine List.map_congr_left (fun i hi => ?_)
    rw [va_up_ne _ _ (Nat.ne_of_lt (List.mem_range.mp hi))]
  have e2 : (List.range' (k + 1) (11 - k)).map (fun i => wX2t g (bA i) (va_up uK k z i)) = (List.range' (k + 1) (11 - k)).map (fun i => wX2t g (bA i) (uK i)) := by
    refine List.map_congr_left (fun i hi => ?_)
    have := List.mem_range'_1.mp hi
    rw [va_up_ne _ _ (by omega : i ≠ k)]
  rw [e1, e2, va_up_self] at h
  exact h
abbrev wX6r (g : Nat → ClassId) (a0 : Nat) (a2 : Nat) (a1 : Nat) (ul : Int32) (up : Int32) (uc : Int32) (ut : Nat → Int32) : va_W := [(a0, .inr (9, [.ref a1, .ref a2, .int ul, .int up, .int uc])), (a1, .inl (g 1, 60, .inl ut))]
abbrev wX6 (g : Nat → ClassId) (a0 a1 a2 : Nat) (a2A : Nat → Nat → Nat) (ul : Int32) (up : Int32) (uc : Int32) (ut : Nat → Int32) (uK : Nat → CT) : va_W := catp [[(a0, .inr (9, [.ref a1, .ref a2, .int ul, .int up, .int uc]))], [(a1, .inl (g 1, 60, .inl ut))], wK g a2 a2A uK] []
abbrev wJ4 (g : Nat → ClassId) (a0 a1 : Nat) (um : Int32) (un : Int32) (uq : Nat) (uv : Nat → Int32) : va_W := [(a0, .inr (1, [.ref a1, .int 0, .int um, .int un])), (a1, .inl (g 5, uq, .inl uv))]
abbrev wX12 (g : Nat → ClassId) (a0 a1 a2 a3 a4 a5 a6 a7 a8 a9 a10 a11 a12 a13 a14 a15 a16 a17 a18 a19 a20 a21 a22 a23 a24 a25 a26 a27 a28 a29 a30 a31 a32 a33 a34 a35 a36 a37 a38 a39 a40 a41 a42 a43 a44 a45 a46 a47 a48 a49 a50 a51 a52 a53 a54 a55 a56 a57 a58 a59 a60 a61 a62 a63 a64 a65 a66 a67 a68 : Nat) (a68A : Nat → Nat → Nat) (a69 a70 a71 a72 a73 a74 a75 : Nat) (a75A : Nat → Nat → Nat) (a76 a77 : Nat) (ui : Int32) (ue : Int32) (uf : Int32) (uwk : Int32) (uwl : Int32) (uwr : Int32) (uwsx : Int32) (uwsNn : Int32) (uwsNf : Nat → Int32) (uwsMn : Int32) (uwsMf : Nat → Int32) (uwsLn : Int32) (uwsLf : Nat → Int32) (uwsKn : Int32) (uwsKf : Nat → Int32) (uwcMn : Int32) (uwcMf : Nat → Int32) (uwcLn : Int32) (uwcLf : Nat → Int32) (uwcTn : Int32) (uwcTf : Nat → Int32) (uwox : Int32) (uwoNn : Int32) (uwoNf : Nat → Int32) (uwoMn : Int32) (uwoMf : Nat → Int32) (uwoLn : Int32) (uwoLf : Nat → Int32) (uwoDn : Int32) (uwoDf : Nat → Int32) (uwac : Int32) (uwaWn : Int32) (uwaWf : Nat → Int32) (uwaDn : Int32) (uwaDf : Nat → Int32) (uwaLn : Int32) (uwaLf : Nat → Int32) (uvk : Int32) (uvl : Int32) (uvr : Int32) (uvsx : Int32) (uvsNn : Int32) (uvsNf : Nat → Int32) (uvsMn : Int32) (uvsMf : Nat → Int32) (uvsLn : Int32) (uvsLf : Nat → Int32) (uvsKn : Int32) (uvsKf : Nat → Int32) (uvcMn : Int32) (uvcMf : Nat → Int32) (uvcLn : Int32) (uvcLf : Nat → Int32) (uvcTn : Int32) (uvcTf : Nat → Int32) (uvox : Int32) (uvoNn : Int32) (uvoNf : Nat → Int32) (uvoMn : Int32) (uvoMf : Nat → Int32) (uvoLn : Int32) (uvoLf : Nat → Int32) (uvoDn : Int32) (uvoDf : Nat → Int32) (uvac : Int32) (uvaWn : Int32) (uvaWf : Nat → Int32) (uvaDn : Int32) (uvaDf : Nat → Int32) (uvaLn : Int32) (uvaLf : Nat → Int32) (uhn : Int32) (uhc : Int32) (uhS : Nat → WT) (ult : Nat → Int32) (ulpn : Int32) (ulpf : Nat → Int32) (upl : Int32) (upp : Int32) (upc : Int32) (upt : Nat → Int32) (upK : Nat → CT) (ubm : Int32) (ubn : Int32) (ubq : Nat) (ubv : Nat → Int32) : va_W := catp [[(a0, .inr (14, [.ref a1, .ref a34, .ref a67, .ref a69, .ref a73, .ref a76, .int ui, .int ue, .int uf]))], wX11 g a1 a2 a3 a4 a5 a6 a7 a8 a9 a10 a11 a12 a13 a14 a15 a16 a17 a18 a19 a20 a21 a22 a23 a24 a25 a26 a27 a28 a29 a30 a31 a32 a33 uwk uwl uwr uwsx uwsNn uwsNf uwsMn uwsMf uwsLn uwsLf uwsKn uwsKf uwcMn uwcMf uwcLn uwcLf uwcTn uwcTf uwox uwoNn uwoNf uwoMn uwoMf uwoLn uwoLf uwoDn uwoDf uwac uwaWn uwaWf uwaDn uwaDf uwaLn uwaLf, wX11 g a34 a35 a36 a37 a38 a39 a40 a41 a42 a43 a44 a45 a46 a47 a48 a49 a50 a51 a52 a53 a54 a55 a56 a57 a58 a59 a60 a61 a62 a63 a64 a65 a66 uvk uvl uvr uvsx uvsNn uvsNf uvsMn uvsMf uvsLn uvsLf uvsKn uvsKf uvcMn uvcMf uvcLn uvcLf uvcTn uvcTf uvox uvoNn uvoNf uvoMn uvoMf uvoLn uvoLf uvoDn uvoDf uvac uvaWn uvaWf uvaDn uvaDf uvaLn uvaLf, wX3 g a67 a68 a68A uhn uhc uhS, wX4 g a69 a70 a71 a72 ult ulpn ulpf, wX6 g a73 a74 a75 a75A upl upp upc upt upK, wJ4 g a76 a77 ubm ubn ubq ubv] []
/-! WireCutter$Command.begin -/
def fX2_begin (p1 : Nat) : Option (Option Nat × Int32) :=
  some (some p1, 0)
theorem mbX2_begin : MV yX2_begin cX2_begin 2 none 1 := ⟨⟨q1553, q11, by decide +kernel⟩, q1551, q1552⟩
set_option maxHeartbeats 4000000 in
set_option maxRecDepth 100000 in
theorem tX2_begin (l : Launch) (dC : Nat → ClassId) (dI : Nat → Nat → Nat) (g : Nat → ClassId) (a0 : Nat) (uv : Option Nat) (ul : Int32) (uf : Int32) (us : Int32) (un : Int32) (p1 : Nat) {r : Option Nat × Int32} (h : fX2_begin p1 = some r) : MU l yX2_begin cX2_begin 2 none 0 0 0 0 dC dI g [.ref a0, .ref (g (100 + p1))] (wX2 g a0 uv ul uf us un) (wX2 g a0 r.1 ul uf us r.2) none := by
  refine MU_of (by decide) (Nat.le_of_ble_eq_true rfl) ?_
  intro p e s m below meth c ls F hr hlocks hE hX hA hP hD hS hl
  generalize va_A (wX2 g a0 uv ul uf us un) s.heap.size = A at hA hD hS hX ⊢
  replace F : CF p m c cX2_begin 2 s _ RX2 := F
  replace hl : lv_has ls 2 [(0, .ref a0), (1, .ref (g (100 + p1)))] := hl
  rw [fX2_begin] at h
  refine lv_aload_n F.1 F.2.1 dX2_begin_0 rfl (lv_at hl 0 rfl) ?_
  refine lv_aload_n F.1 F.2.1 dX2_begin_1 rfl (lv_at hl 1 rfl) ?_
  refine pF (v := .ref (g (100 + p1))) F hE hP hD hS 0 rfl rfl inX2 tyX2 tyX2_ok nmX2 0 (by decide) q241 rfl rfl rfl (Nat.le_of_ble_eq_true rfl) dX2_begin_2 (fun H locs hP hD hS => ?_)
  replace hP : va_P (dC, dI) vwCl (wX2 g a0 (some p1) ul uf us un) H := hP
  replace hD : va_D A (wX2 g a0 (some p1) ul uf us un) := hD
  refine lv_aload_n F.1 F.2.1 dX2_begin_5 rfl (lv_at hl 0 rfl) ?_
  refine lv_iconst (v := 0) F.1 F.2.1 dX2_begin_6 (by decide) ?_
  refine pF (v := .int 0) F hE hP hD hS 0 rfl rfl inX2 tyX2 tyX2_ok nmX2 4 (by decide) q250 rfl rfl rfl (Nat.le_of_ble_eq_true rfl) dX2_begin_7 (fun H locs hP hD hS => ?_)
  replace hP : va_P (dC, dI) vwCl (wX2 g a0 (some p1) ul uf us 0) H := hP
  replace hD : va_D A (wX2 g a0 (some p1) ul uf us 0) := hD
  cases h
  exact MU_v F hr hlocks (Nat.le_refl _) (Nat.le_refl _) hP hS dX2_begin_10
/-! WireCutter$Command.putLetter -/
def fX2_putLetter (p1 : Int32) : Option (Int32) :=
  gd (isC p1) <|
  some (p1)
theorem mbX2_putLetter : MV yX2_putLetter cX2_putLetter 2 none 1 := ⟨⟨q1570, q11, by decide +kernel⟩, q1568, q1569⟩
set_option maxHeartbeats 4000000 in
set_option maxRecDepth 100000 in
theorem tX2_putLetter (l : Launch) (dC : Nat → ClassId) (dI : Nat → Nat → Nat) (g : Nat → ClassId) (a0 : Nat) (uv : Option Nat) (ul : Int32) (uf : Int32) (us : Int32) (un : Int32) (p1 : Int32) {r : Int32} (h : fX2_putLetter p1 = some r) : MU l yX2_putLetter cX2_putLetter 2 none 0 0 0 0 dC dI g [.ref a0, .int p1] (wX2 g a0 uv ul uf us un) (wX2 g a0 uv r uf us un) none := by
  refine MU_of (by decide) (Nat.le_of_ble_eq_true rfl) ?_
  intro p e s m below meth c ls F hr hlocks hE hX hA hP hD hS hl
  generalize va_A (wX2 g a0 uv ul uf us un) s.heap.size = A at hA hD hS hX ⊢
  replace F : CF p m c cX2_putLetter 2 s _ RX2 := F
  replace hl : lv_has ls 2 [(0, .ref a0), (1, .int p1)] := hl
  rw [fX2_putLetter] at h
  refine lv_aload_n F.1 F.2.1 dX2_putLetter_0 rfl (lv_at hl 0 rfl) ?_
  refine lv_iload_n F.1 F.2.1 dX2_putLetter_1 rfl (lv_at hl 1 rfl) ?_
  obtain ⟨k1, h⟩ := gd_ok h
  refine pF (v := .int p1) F hE hP hD hS 0 rfl rfl inX2 tyX2 tyX2_ok nmX2 1 (by decide) q244 rfl (isC_n k1).1 (isC_n k1).2 (Nat.le_of_ble_eq_true rfl) dX2_putLetter_2 (fun H locs hP hD hS => ?_)
  replace hP : va_P (dC, dI) vwCl (wX2 g a0 uv p1 uf us un) H := hP
  replace hD : va_D A (wX2 g a0 uv p1 uf us un) := hD
  cases h
  exact MU_v F hr hlocks (Nat.le_refl _) (Nat.le_refl _) hP hS dX2_putLetter_5
/-! WireCutter$Command.putNumber -/
def fX2_putNumber (uf : Int32) (us : Int32) (un : Int32) (p1 : Int32) : Option (Int32 × Int32 × Int32) :=
  if un = 0 then
    some (p1, us, un + 1)
  else
    some (uf, p1, un + 1)
theorem mbX2_putNumber : MV yX2_putNumber cX2_putNumber 2 none 1 := ⟨⟨q1582, q11, by decide +kernel⟩, q1580, q1581⟩
set_option maxHeartbeats 4000000 in
set_option maxRecDepth 100000 in
theorem tX2_putNumber (l : Launch) (dC : Nat → ClassId) (dI : Nat → Nat → Nat) (g : Nat → ClassId) (a0 : Nat) (uv : Option Nat) (ul : Int32) (uf : Int32) (us : Int32) (un : Int32) (p1 : Int32) {r : Int32 × Int32 × Int32} (h : fX2_putNumber uf us un p1 = some r) : MU l yX2_putNumber cX2_putNumber 2 none 0 0 0 0 dC dI g [.ref a0, .int p1] (wX2 g a0 uv ul uf us un) (wX2 g a0 uv ul r.1 r.2.1 r.2.2) none := by
  refine MU_of (by decide) (Nat.le_of_ble_eq_true rfl) ?_
  intro p e s m below meth c ls F hr hlocks hE hX hA hP hD hS hl
  generalize va_A (wX2 g a0 uv ul uf us un) s.heap.size = A at hA hD hS hX ⊢
  replace F : CF p m c cX2_putNumber 2 s _ RX2 := F
  replace hl : lv_has ls 2 [(0, .ref a0), (1, .int p1)] := hl
  rw [fX2_putNumber] at h
  refine lv_aload_n F.1 F.2.1 dX2_putNumber_0 rfl (lv_at hl 0 rfl) ?_
  refine gF (v := .int un) F hE hP 0 rfl rfl inX2 4 (by decide) q250 rfl dX2_putNumber_1 ?_
  refine lv_if_ne (tgt := 15) F.1 F.2.1 dX2_putNumber_4 (by decide) (fun k1 => ?_) (fun k1 => ?_)
  · replace h := it_f k1 h
    refine lv_aload_n F.1 F.2.1 dX2_putNumber_15 rfl (lv_at hl 0 rfl) ?_
    refine lv_iload_n F.1 F.2.1 dX2_putNumber_16 rfl (lv_at hl 1 rfl) ?_
    refine pF (v := .int p1) F hE hP hD hS 0 rfl rfl inX2 tyX2 tyX2_ok nmX2 3 (by decide) q248 rfl rfl rfl (Nat.le_of_ble_eq_true rfl) dX2_putNumber_17 (fun H locs hP hD hS => ?_)
    replace hP : va_P (dC, dI) vwCl (wX2 g a0 uv ul uf p1 un) H := hP
    replace hD : va_D A (wX2 g a0 uv ul uf p1 un) := hD
    refine lv_aload_n F.1 F.2.1 dX2_putNumber_20 rfl (lv_at hl 0 rfl) ?_
    refine lv_dup F.1 F.2.1 dX2_putNumber_21 rfl ?_
    refine gF (v := .int un) F hE hP 0 rfl rfl inX2 4 (by decide) q250 rfl dX2_putNumber_22 ?_
    refine lv_iconst (v := 1) F.1 F.2.1 dX2_putNumber_25 (by decide) ?_
    refine lv_iadd F.1 F.2.1 dX2_putNumber_26 ?_
    refine pF (v := .int (un + 1)) F hE hP hD hS 0 rfl rfl inX2 tyX2 tyX2_ok nmX2 4 (by decide) q250 rfl rfl rfl (Nat.le_of_ble_eq_true rfl) dX2_putNumber_27 (fun H locs hP hD hS => ?_)
    replace hP : va_P (dC, dI) vwCl (wX2 g a0 uv ul uf p1 (un + 1)) H := hP
    replace hD : va_D A (wX2 g a0 uv ul uf p1 (un + 1)) := hD
    cases h
    exact MU_v F hr hlocks (Nat.le_refl _) (Nat.le_refl _) hP hS dX2_putNumber_30
  · replace h := it_t k1 h
    refine lv_aload_n F.1 F.2.1 dX2_putNumber_7 rfl (lv_at hl 0 rfl) ?_
    refine lv_iload_n F.1 F.2.1 dX2_putNumber_8 rfl (lv_at hl 1 rfl) ?_
    refine pF (v := .int p1) F hE hP hD hS 0 rfl rfl inX2 tyX2 tyX2_ok nmX2 2 (by decide) q246 rfl rfl rfl (Nat.le_of_ble_eq_true rfl) dX2_putNumber_9 (fun H locs hP hD hS => ?_)
    replace hP : va_P (dC, dI) vwCl (wX2 g a0 uv ul p1 us un) H := hP
    replace hD : va_D A (wX2 g a0 uv ul p1 us un) := hD
    refine lv_goto (tgt := 20) F.1 F.2.1 dX2_putNumber_12 (by decide) ?_
    refine lv_aload_n F.1 F.2.1 dX2_putNumber_20 rfl (lv_at hl 0 rfl) ?_
    refine lv_dup F.1 F.2.1 dX2_putNumber_21 rfl ?_
    refine gF (v := .int un) F hE hP 0 rfl rfl inX2 4 (by decide) q250 rfl dX2_putNumber_22 ?_
    refine lv_iconst (v := 1) F.1 F.2.1 dX2_putNumber_25 (by decide) ?_
    refine lv_iadd F.1 F.2.1 dX2_putNumber_26 ?_
    refine pF (v := .int (un + 1)) F hE hP hD hS 0 rfl rfl inX2 tyX2 tyX2_ok nmX2 4 (by decide) q250 rfl rfl rfl (Nat.le_of_ble_eq_true rfl) dX2_putNumber_27 (fun H locs hP hD hS => ?_)
    replace hP : va_P (dC, dI) vwCl (wX2 g a0 uv ul p1 us (un + 1)) H := hP
    replace hD : va_D A (wX2 g a0 uv ul p1 us (un + 1)) := hD
    cases h
    exact MU_v F hr hlocks (Nat.le_refl _) (Nat.le_refl _) hP hS dX2_putNumber_30
/-! WireCutter$Program.isFull -/
def fX6_isFull (ul : Int32) : Option (Int32) :=
  if ul < (nI 60) then
    some (0)
  else
    some (1)
theorem mbX6_isFull : MV yX6_isFull cX6_isFull 1 (some .boolean) 0 := ⟨⟨q1493, q10, by decide +kernel⟩, q1491, q1492⟩
set_option maxHeartbeats 4000000 in
set_option maxRecDepth 100000 in
theorem tX6_isFull (l : Launch) (dC : Nat → ClassId) (dI : Nat → Nat → Nat) (g : Nat → ClassId) (a0 a1 a2 : Nat) (a2A : Nat → Nat → Nat) (ul : Int32) (up : Int32) (uc : Int32) (ut : Nat → Int32) (uK : Nat → CT) {r : Int32} (h : fX6_isFull ul = some r) : RO l yX6_isFull cX6_isFull 1 (some .boolean) 0 0 dC dI g [.ref a0] (wX6 g a0 a1 a2 a2A ul up uc ut uK) (some (.int r)) := by
  refine RO_of (by decide) (Nat.le_of_ble_eq_true rfl) ?_
  intro p e s m below meth c ls F hr hlocks hE hX hP hl
  replace F : CF p m c cX6_isFull 1 s _ RX6 := F
  replace hl : lv_has ls 1 [(0, .ref a0)] := hl
  rw [fX6_isFull] at h
  replace hP : va_P (dC, dI) vwCl (catp [[(a0, .inr (9, [.ref a1, .ref a2, .int ul, .int up, .int uc]))], [(a1, .inl (g 1, 60, .inl ut))], wK g a2 a2A uK] []) s.heap := hP
  refine lv_aload_n F.1 F.2.1 dX6_isFull_0 rfl (lv_at hl 0 rfl) ?_
  refine gF (v := .int ul) F hE hP 0 rfl rfl inX6 2 (by decide) q265 rfl dX6_isFull_1 ?_
  refine lv_aload_n F.1 F.2.1 dX6_isFull_4 rfl (lv_at hl 0 rfl) ?_
  refine gF (v := .ref a1) F hE hP 0 rfl rfl inX6 0 (by decide) q263 rfl dX6_isFull_5 ?_
  refine va_alen (v := nI 60) F.1 F.2.1 hE.1 hP 1 1 rfl rfl rfl dX6_isFull_8 ?_
  refine lv_icmp_lt (tgt := 16) F.1 F.2.1 dX6_isFull_9 (by decide) (fun k1 => ?_) (fun k1 => ?_)
  · replace h := it_t k1 h
    refine lv_iconst (v := 0) F.1 F.2.1 dX6_isFull_16 (by decide) ?_
    cases h
    exact RO_z F hr hlocks rfl dX6_isFull_17
  · replace h := it_f k1 h
    refine lv_iconst (v := 1) F.1 F.2.1 dX6_isFull_12 (by decide) ?_
    refine lv_goto (tgt := 17) F.1 F.2.1 dX6_isFull_13 (by decide) ?_
    cases h
    exact RO_z F hr hlocks rfl dX6_isFull_17
/-! WireCutter$Program.append -/
def fX6_append (ul : Int32) (ut : Nat → Int32) (p1 : Int32) : Option (Int32 × Int32 × (Nat → Int32)) :=
  if ul < 0 then
    some (ul, ul, ut)
  else
    if (nI 60) ≤ ul then
      some (ul, ul, ut)
    else
      gd (inR ul 60) <|
      some (ul + 1, ul + 1, upd ut ul.toNatClampNeg (vp_nar .char p1))
theorem mbX6_append : MV yX6_append cX6_append 2 (some .int) 1 := ⟨⟨q1500, q10, by decide +kernel⟩, q1498, q1499⟩
set_option maxHeartbeats 4000000 in
set_option maxRecDepth 100000 in
theorem tX6_append (l : Launch) (dC : Nat → ClassId) (dI : Nat → Nat → Nat) (g : Nat → ClassId) (a0 a1 a2 : Nat) (a2A : Nat → Nat → Nat) (ul : Int32) (up : Int32) (uc : Int32) (ut : Nat → Int32) (uK : Nat → CT) (p1 : Int32) {r : Int32 × Int32 × (Nat → Int32)} (h : fX6_append ul ut p1 = some r) : MU l yX6_append cX6_append 2 (some .int) 0 0 0 0 dC dI g [.ref a0, .int p1] (wX6 g a0 a1 a2 a2A ul up uc ut uK) (wX6 g a0 a1 a2 a2A r.2.1 up uc r.2.2 uK) (some (.int r.1)) := by
  refine MU_of (by decide) (Nat.le_of_ble_eq_true rfl) ?_
  intro p e s m below meth c ls F hr hlocks hE hX hA hP hD hS hl
  generalize va_A (wX6 g a0 a1 a2 a2A ul up uc ut uK) s.heap.size = A at hA hD hS hX ⊢
  replace F : CF p m c cX6_append 2 s _ RX6 := F
  replace hl : lv_has ls 2 [(0, .ref a0), (1, .int p1)] := hl
  rw [fX6_append] at h
  replace hP : va_P (dC, dI) vwCl (catp [[(a0, .inr (9, [.ref a1, .ref a2, .int ul, .int up, .int uc]))], [(a1, .inl (g 1, 60, .inl ut))], wK g a2 a2A uK] []) s.heap := hP
  replace hD : va_D A (catp [[(a0, .inr (9, [.ref a1, .ref a2, .int ul, .int up, .int uc]))], [(a1, .inl (g 1, 60, .inl ut))], wK g a2 a2A uK] []) := hD
  refine lv_aload_n F.1 F.2.1 dX6_append_0 rfl (lv_at hl 0 rfl) ?_
  refine gF (v := .int ul) F hE hP 0 rfl rfl inX6 2 (by decide) q265 rfl dX6_append_1 ?_
  refine lv_if_lt (tgt := 39) F.1 F.2.1 dX6_append_4 (by decide) (fun k1 => ?_) (fun k1 => ?_)
  · replace h := it_t k1 h
    refine lv_aload_n F.1 F.2.1 dX6_append_39 rfl (lv_at hl 0 rfl) ?_
    refine gF (v := .int ul) F hE hP 0 rfl rfl inX6 2 (by decide) q265 rfl dX6_append_40 ?_
    cases h
    exact MU_i F hr hlocks (Nat.le_refl _) (Nat.le_refl _) hP hS dX6_append_43
  · replace h := it_f k1 h
    refine lv_aload_n F.1 F.2.1 dX6_append_7 rfl (lv_at hl 0 rfl) ?_
    refine gF (v := .int ul) F hE hP 0 rfl rfl inX6 2 (by decide) q265 rfl dX6_append_8 ?_
    refine lv_aload_n F.1 F.2.1 dX6_append_11 rfl (lv_at hl 0 rfl) ?_
    refine gF (v := .ref a1) F hE hP 0 rfl rfl inX6 0 (by decide) q263 rfl dX6_append_12 ?_
    refine va_alen (v := nI 60) F.1 F.2.1 hE.1 hP 1 1 rfl rfl rfl dX6_append_15 ?_
    refine lv_icmp_ge (tgt := 39) F.1 F.2.1 dX6_append_16 (by decide) (fun k2 => ?_) (fun k2 => ?_)
    · replace h := it_t k2 h
      refine lv_aload_n F.1 F.2.1 dX6_append_39 rfl (lv_at hl 0 rfl) ?_
      refine gF (v := .int ul) F hE hP 0 rfl rfl inX6 2 (by decide) q265 rfl dX6_append_40 ?_
      cases h
      exact MU_i F hr hlocks (Nat.le_refl _) (Nat.le_refl _) hP hS dX6_append_43
    · replace h := it_f k2 h
      refine lv_aload_n F.1 F.2.1 dX6_append_19 rfl (lv_at hl 0 rfl) ?_
      refine gF (v := .ref a1) F hE hP 0 rfl rfl inX6 0 (by decide) q263 rfl dX6_append_20 ?_
      refine lv_aload_n F.1 F.2.1 dX6_append_23 rfl (lv_at hl 0 rfl) ?_
      refine gF (v := .int ul) F hE hP 0 rfl rfl inX6 2 (by decide) q265 rfl dX6_append_24 ?_
      refine lv_iload_n F.1 F.2.1 dX6_append_27 rfl (lv_at hl 1 rfl) ?_
      obtain ⟨k3, h⟩ := gd_ok h
      refine aSc (k := ul.toNatClampNeg) F hE hP hD hS 1 1 rfl rfl k3 rfl dX6_append_28 (fun H locs hP hD hS => ?_)
      replace hP : va_P (dC, dI) vwCl (catp [[(a0, .inr (9, [.ref a1, .ref a2, .int ul, .int up, .int uc]))], [(a1, .inl (g 1, 60, .inl (upd ut ul.toNatClampNeg (vp_nar .char p1))))], wK g a2 a2A uK] []) H := hP
      replace hD : va_D A (catp [[(a0, .inr (9, [.ref a1, .ref a2, .int ul, .int up, .int uc]))], [(a1, .inl (g 1, 60, .inl (upd ut ul.toNatClampNeg (vp_nar .char p1))))], wK g a2 a2A uK] []) := hD
      refine lv_aload_n F.1 F.2.1 dX6_append_29 rfl (lv_at hl 0 rfl) ?_
      refine lv_dup F.1 F.2.1 dX6_append_30 rfl ?_
      refine gF (v := .int ul) F hE hP 0 rfl rfl inX6 2 (by decide) q265 rfl dX6_append_31 ?_
      refine lv_iconst (v := 1) F.1 F.2.1 dX6_append_34 (by decide) ?_
      refine lv_iadd F.1 F.2.1 dX6_append_35 ?_
      refine pF (v := .int (ul + 1)) F hE hP hD hS 0 rfl rfl inX6 tyX6 tyX6_ok nmX6 2 (by decide) q265 rfl rfl rfl (Nat.le_of_ble_eq_true rfl) dX6_append_36 (fun H locs hP hD hS => ?_)
      replace hP : va_P (dC, dI) vwCl (catp [[(a0, .inr (9, [.ref a1, .ref a2, .int (ul + 1), .int up, .int uc]))], [(a1, .inl (g 1, 60, .inl (upd ut ul.toNatClampNeg (vp_nar .char p1))))], wK g a2 a2A uK] []) H := hP
      replace hD : va_D A (catp [[(a0, .inr (9, [.ref a1, .ref a2, .int (ul + 1), .int up, .int uc]))], [(a1, .inl (g 1, 60, .inl (upd ut ul.toNatClampNeg (vp_nar .char p1))))], wK g a2 a2A uK] []) := hD
      refine lv_aload_n F.1 F.2.1 dX6_append_39 rfl (lv_at hl 0 rfl) ?_
      refine gF (v := .int (ul + 1)) F hE hP 0 rfl rfl inX6 2 (by decide) q265 rfl dX6_append_40 ?_
      cases h
      exact MU_i F hr hlocks (Nat.le_refl _) (Nat.le_refl _) hP hS dX6_append_43
/-! WireCutter$Program.count -/
def fX6_count (uc : Int32) : Option (Int32) :=
  some (uc)
theorem mbX6_count : MV yX6_count cX6_count 1 (some .int) 0 := ⟨⟨q1591, q10, by decide +kernel⟩, q1589, q1590⟩
set_option maxHeartbeats 4000000 in
set_option maxRecDepth 100000 in
theorem tX6_count (l : Launch) (dC : Nat → ClassId) (dI : Nat → Nat → Nat) (g : Nat → ClassId) (a0 a1 a2 : Nat) (a2A : Nat → Nat → Nat) (ul : Int32) (up : Int32) (uc : Int32) (ut : Nat → Int32) (uK : Nat → CT) {r : Int32} (h : fX6_count uc = some r) : RO l yX6_count cX6_count 1 (some .int) 0 0 dC dI g [.ref a0] (wX6 g a0 a1 a2 a2A ul up uc ut uK) (some (.int r)) := by
  refine RO_of (by decide) (Nat.le_of_ble_eq_true rfl) ?_
  intro p e s m below meth c ls F hr hlocks hE hX hP hl
  replace F : CF p m c cX6_count 1 s _ RX6 := F
  replace hl : lv_has ls 1 [(0, .ref a0)] := hl
  rw [fX6_count] at h
  replace hP : va_P (dC, dI) vwCl (catp [[(a0, .inr (9, [.ref a1, .ref a2, .int ul, .int up, .int uc]))], [(a1, .inl (g 1, 60, .inl ut))], wK g a2 a2A uK] []) s.heap := hP
  refine lv_aload_n F.1 F.2.1 dX6_count_0 rfl (lv_at hl 0 rfl) ?_
  refine gF (v := .int uc) F hE hP 0 rfl rfl inX6 4 (by decide) q267 rfl dX6_count_1 ?_
  cases h
  exact RO_i F hr hlocks dX6_count_4
/-! WireCutter$Program.commandAt -/
def fX6_commandAt (uc : Int32) (p1 : Int32) : Option (Option Nat) :=
  if p1 < 0 then
    some none
  else
    if uc ≤ p1 then
      some none
    else
      if (nI 12) ≤ p1 then
        some none
      else
        gd (inR p1 12) <|
        some (some p1.toNatClampNeg)
theorem mbX6_commandAt : MV yX6_commandAt cX6_commandAt 2 (some (.object RX2)) 1 := ⟨⟨q1595, q10, by decide +kernel⟩, q1593, q1594⟩
set_option maxHeartbeats 4000000 in
set_option maxRecDepth 100000 in
theorem tX6_commandAt (l : Launch) (dC : Nat → ClassId) (dI : Nat → Nat → Nat) (g : Nat → ClassId) (a0 a1 a2 : Nat) (a2A : Nat → Nat → Nat) (ul : Int32) (up : Int32) (uc : Int32) (ut : Nat → Int32) (uK : Nat → CT) (p1 : Int32) {r : Option Nat} (h : fX6_commandAt uc p1 = some r) : RO l yX6_commandAt cX6_commandAt 2 (some (.object RX2)) 0 0 dC dI g [.ref a0, .int p1] (wX6 g a0 a1 a2 a2A ul up uc ut uK) (some (cmR a2A r)) := by
  refine RO_of (by decide) (Nat.le_of_ble_eq_true rfl) ?_
  intro p e s m below meth c ls F hr hlocks hE hX hP hl
  replace F : CF p m c cX6_commandAt 2 s _ RX6 := F
  replace hl : lv_has ls 2 [(0, .ref a0), (1, .int p1)] := hl
  rw [fX6_commandAt] at h
  replace hP : va_P (dC, dI) vwCl (catp [[(a0, .inr (9, [.ref a1, .ref a2, .int ul, .int up, .int uc]))], [(a1, .inl (g 1, 60, .inl ut))], wK g a2 a2A uK] []) s.heap := hP
  refine lv_iload_n F.1 F.2.1 dX6_commandAt_0 rfl (lv_at hl 1 rfl) ?_
  refine lv_if_lt (tgt := 30) F.1 F.2.1 dX6_commandAt_1 (by decide) (fun k1 => ?_) (fun k1 => ?_)
  · replace h := it_t k1 h
    refine lv_null F.1 F.2.1 dX6_commandAt_30 ?_
    cases h
    exact RO_a (v := cmR a2A none) F hr hlocks (cmR_v _ _) dX6_commandAt_31
  · replace h := it_f k1 h
    refine lv_iload_n F.1 F.2.1 dX6_commandAt_4 rfl (lv_at hl 1 rfl) ?_
    refine lv_aload_n F.1 F.2.1 dX6_commandAt_5 rfl (lv_at hl 0 rfl) ?_
    refine gF (v := .int uc) F hE hP 0 rfl rfl inX6 4 (by decide) q267 rfl dX6_commandAt_6 ?_
    refine lv_icmp_ge (tgt := 30) F.1 F.2.1 dX6_commandAt_9 (by decide) (fun k2 => ?_) (fun k2 => ?_)
    · replace h := it_t k2 h
      refine lv_null F.1 F.2.1 dX6_commandAt_30 ?_
      cases h
      exact RO_a (v := cmR a2A none) F hr hlocks (cmR_v _ _) dX6_commandAt_31
    · replace h := it_f k2 h
      refine lv_iload_n F.1 F.2.1 dX6_commandAt_12 rfl (lv_at hl 1 rfl) ?_
      refine lv_aload_n F.1 F.2.1 dX6_commandAt_13 rfl (lv_at hl 0 rfl) ?_
      refine gF (v := .ref a2) F hE hP 0 rfl rfl inX6 1 (by decide) q264 rfl dX6_commandAt_14 ?_
      refine va_alen (v := nI 12) F.1 F.2.1 hE.1 hP 2 3 rfl rfl rfl dX6_commandAt_17 ?_
      refine lv_icmp_ge (tgt := 30) F.1 F.2.1 dX6_commandAt_18 (by decide) (fun k3 => ?_) (fun k3 => ?_)
      · replace h := it_t k3 h
        refine lv_null F.1 F.2.1 dX6_commandAt_30 ?_
        cases h
        exact RO_a (v := cmR a2A none) F hr hlocks (cmR_v _ _) dX6_commandAt_31
      · replace h := it_f k3 h
        refine lv_aload_n F.1 F.2.1 dX6_commandAt_21 rfl (lv_at hl 0 rfl) ?_
        refine gF (v := .ref a2) F hE hP 0 rfl rfl inX6 1 (by decide) q264 rfl dX6_commandAt_22 ?_
        refine lv_iload_n F.1 F.2.1 dX6_commandAt_25 rfl (lv_at hl 1 rfl) ?_
        obtain ⟨k4, h⟩ := gd_ok h
        refine va_aldq (f := fun i => some (a2A i 0)) F.1 F.2.1 hE.1 hP 2 3 rfl rfl (inR_in k4) dX6_commandAt_26 ?_
        refine lv_goto (tgt := 31) F.1 F.2.1 dX6_commandAt_27 (by decide) ?_
        cases h
        exact RO_a (v := cmR a2A (some p1.toNatClampNeg)) F hr hlocks (cmR_v _ _) dX6_commandAt_31
/-! WireCutter$Program.isAt -/
def fX6_isAt (ul : Int32) (ut : Nat → Int32) (p1 : Int32) (p2 : Int32) : Option (Int32) :=
  if p1 < 0 then
    some (0)
  else
    if ul ≤ p1 then
      some (0)
    else
      if (nI 60) ≤ p1 then
        some (0)
      else
        gd (inR p1 60) <|
        if (ut p1.toNatClampNeg) = p2 then
          some (1)
        else
          some (0)
theorem mbX6_isAt : MV yX6_isAt cX6_isAt 3 (some .boolean) 2 := ⟨⟨q1549, q10, by decide +kernel⟩, q1548, qs15⟩
set_option maxHeartbeats 4000000 in
set_option maxRecDepth 100000 in
theorem tX6_isAt (l : Launch) (dC : Nat → ClassId) (dI : Nat → Nat → Nat) (g : Nat → ClassId) (a0 : Nat) (a2 : Nat) (a1 : Nat) (ul : Int32) (up : Int32) (uc : Int32) (ut : Nat → Int32) (p1 : Int32) (p2 : Int32) {r : Int32} (h : fX6_isAt ul ut p1 p2 = some r) : RO l yX6_isAt cX6_isAt 3 (some .boolean) 0 0 dC dI g [.ref a0, .int p1, .int p2] (wX6r g a0 a2 a1 ul up uc ut) (some (.int r)) := by
  refine RO_of (by decide) (Nat.le_of_ble_eq_true rfl) ?_
  intro p e s m below meth c ls F hr hlocks hE hX hP hl
  replace F : CF p m c cX6_isAt 3 s _ RX6 := F
  replace hl : lv_has ls 3 [(0, .ref a0), (1, .int p1), (2, .int p2)] := hl
  rw [fX6_isAt] at h
  refine lv_iload_n F.1 F.2.1 dX6_isAt_0 rfl (lv_at hl 1 rfl) ?_
  refine lv_if_lt (tgt := 35) F.1 F.2.1 dX6_isAt_1 (by decide) (fun k1 => ?_) (fun k1 => ?_)
  · replace h := it_t k1 h
    refine lv_iconst (v := 0) F.1 F.2.1 dX6_isAt_35 (by decide) ?_
    cases h
    exact RO_z F hr hlocks rfl dX6_isAt_36
  · replace h := it_f k1 h
    refine lv_iload_n F.1 F.2.1 dX6_isAt_4 rfl (lv_at hl 1 rfl) ?_
    refine lv_aload_n F.1 F.2.1 dX6_isAt_5 rfl (lv_at hl 0 rfl) ?_
    refine gF (v := .int ul) F hE hP 0 rfl rfl inX6 2 (by decide) q265 rfl dX6_isAt_6 ?_
    refine lv_icmp_ge (tgt := 35) F.1 F.2.1 dX6_isAt_9 (by decide) (fun k2 => ?_) (fun k2 => ?_)
    · replace h := it_t k2 h
      refine lv_iconst (v := 0) F.1 F.2.1 dX6_isAt_35 (by decide) ?_
      cases h
      exact RO_z F hr hlocks rfl dX6_isAt_36
    · replace h := it_f k2 h
      refine lv_iload_n F.1 F.2.1 dX6_isAt_12 rfl (lv_at hl 1 rfl) ?_
      refine lv_aload_n F.1 F.2.1 dX6_isAt_13 rfl (lv_at hl 0 rfl) ?_
      refine gF (v := .ref a1) F hE hP 0 rfl rfl inX6 0 (by decide) q263 rfl dX6_isAt_14 ?_
      refine va_alen (v := nI 60) F.1 F.2.1 hE.1 hP 1 1 rfl rfl rfl dX6_isAt_17 ?_
      refine lv_icmp_ge (tgt := 35) F.1 F.2.1 dX6_isAt_18 (by decide) (fun k3 => ?_) (fun k3 => ?_)
      · replace h := it_t k3 h
        refine lv_iconst (v := 0) F.1 F.2.1 dX6_isAt_35 (by decide) ?_
        cases h
        exact RO_z F hr hlocks rfl dX6_isAt_36
      · replace h := it_f k3 h
        refine lv_aload_n F.1 F.2.1 dX6_isAt_21 rfl (lv_at hl 0 rfl) ?_
        refine gF (v := .ref a1) F hE hP 0 rfl rfl inX6 0 (by decide) q263 rfl dX6_isAt_22 ?_
        refine lv_iload_n F.1 F.2.1 dX6_isAt_25 rfl (lv_at hl 1 rfl) ?_
        obtain ⟨k4, h⟩ := gd_ok h
        refine aLc (k := p1.toNatClampNeg) F hE hP 1 1 rfl rfl k4 rfl dX6_isAt_26 ?_
        refine lv_iload_n F.1 F.2.1 dX6_isAt_27 rfl (lv_at hl 2 rfl) ?_
        refine lv_icmp_ne (tgt := 35) F.1 F.2.1 dX6_isAt_28 (by decide) (fun k5 => ?_) (fun k5 => ?_)
        · replace h := it_f k5 h
          refine lv_iconst (v := 0) F.1 F.2.1 dX6_isAt_35 (by decide) ?_
          cases h
          exact RO_z F hr hlocks rfl dX6_isAt_36
        · replace h := it_t k5 h
          refine lv_iconst (v := 1) F.1 F.2.1 dX6_isAt_31 (by decide) ?_
          refine lv_goto (tgt := 36) F.1 F.2.1 dX6_isAt_32 (by decide) ?_
          cases h
          exact RO_z F hr hlocks rfl dX6_isAt_36
/-! WireCutter$Program.matchingSigns -/
def fX6_matchingSigns_L2 (x1 : Nat) (ul : Int32) (up : Int32) (ut : Nat → Int32) : Nat → Int32 → Option (Int32)
  | 0, _ => none
  | k + 1, x2 =>
    gd (ltN x1 16) <|
    if (nI (stL.getD x1 0)) ≤ x2 then
      some (x2)
    else
      gd (ltN x1 16) <|
      gd (inR x2 (stL.getD x1 0)) <|
      (fX6_isAt ul ut (up + x2) (chS x1 x2.toNatClampNeg)).bind fun z5 =>
      if z5 = 0 then
        some (x2)
      else
        fX6_matchingSigns_L2 x1 ul up ut k (x2 + 1)
def fX6_matchingSigns (ul : Int32) (up : Int32) (ut : Nat → Int32) (p1 : Nat) : Option (Int32) :=
  fX6_matchingSigns_L2 p1 ul up ut FU 0
theorem mbX6_matchingSigns : MV yX6_matchingSigns cX6_matchingSigns 3 (some .int) 1 := ⟨⟨q1529, q10, by decide +kernel⟩, q1528, qs14⟩
set_option maxHeartbeats 4000000 in
set_option maxRecDepth 100000 in
theorem tX6_matchingSigns_L2 {p : Program} {l : Launch} {e : Env} {s : State} {m : MethodId} {args : Array Value} {below : List Frame} {meth : Method} {c : Code} {dC : Nat → ClassId} {dI : Nat → Nat → Nat} {g : Nat → ClassId} {a0 : Nat} {a2 : Nat} {a1 : Nat} {r : Int32} (F : CF p m c cX6_matchingSigns 3 s args RX6) (hr : meth.sig.returnType = (some .int)) (hlocks : meth.locks = false) (hE : EK dC dI g s) (hX : EXr g s) (x1 : Nat) (ul : Int32) (up : Int32) (uc : Int32) (ut : Nat → Int32) (hP : va_P (dC, dI) vwCl (wX6r g a0 a2 a1 ul up uc ut) s.heap) : ∀ (k : Nat) (x2 : Int32), fX6_matchingSigns_L2 x1 ul up ut k x2 = some r → ∀ (ls : Array Slot), lv_has ls 3 [(0, .ref a0), (1, .ref (g (200 + x1))), (2, .int x2)] → W p l e { frames := 4, cells := 0, slots := 0, locals := 85 } s m args below meth c s.heap [] 0 0 (MQ below (fun _ st o t => o = .returned (some (.int r)) ∧ t.heap = st.heap) args s 0 0 (fun _ => False)) (F0 m 2 ls []) := by
  intro k
  induction k with
  | zero =>
    intro x2 h
    exact absurd h (by simp [fX6_matchingSigns_L2])
  | succ k ih =>
    intro x2 h ls hl
    rw [fX6_matchingSigns_L2] at h
    refine lv_iload_n F.1 F.2.1 dX6_matchingSigns_2 rfl (lv_at hl 2 rfl) ?_
    refine lv_aload_n F.1 F.2.1 dX6_matchingSigns_3 rfl (lv_at hl 1 rfl) ?_
    obtain ⟨k1, h⟩ := gd_ok h
    refine cRVc (As := []) (rest := [.int x2]) F hE hX va_S.rf (tJ0_length_8abf5 l dC dI g (ltN_lt k1)) mbJ0_length_8abf5 q1530 ⟨(Nat.le_of_ble_eq_true rfl), (Nat.le_of_ble_eq_true rfl)⟩ ⟨Nat.zero_le _, Nat.zero_le _⟩ (hX.S (ltN_lt k1)).1 rfl hl.1 rfl (Nat.le_of_ble_eq_true rfl) dX6_matchingSigns_4 ?_
    refine lv_icmp_ge (tgt := 34) F.1 F.2.1 dX6_matchingSigns_7 (by decide) (fun k2 => ?_) (fun k2 => ?_)
    · replace h := it_t k2 h
      refine lv_iload_n F.1 F.2.1 dX6_matchingSigns_34 rfl (lv_at hl 2 rfl) ?_
      cases h
      exact RO_i F hr hlocks dX6_matchingSigns_35
    · replace h := it_f k2 h
      refine lv_aload_n F.1 F.2.1 dX6_matchingSigns_10 rfl (lv_at hl 0 rfl) ?_
      refine lv_aload_n F.1 F.2.1 dX6_matchingSigns_11 rfl (lv_at hl 0 rfl) ?_
      refine gF (v := .int up) F hE hP 0 rfl rfl inX6 3 (by decide) q266 rfl dX6_matchingSigns_12 ?_
      refine lv_iload_n F.1 F.2.1 dX6_matchingSigns_15 rfl (lv_at hl 2 rfl) ?_
      refine lv_iadd F.1 F.2.1 dX6_matchingSigns_16 ?_
      refine lv_aload_n F.1 F.2.1 dX6_matchingSigns_17 rfl (lv_at hl 1 rfl) ?_
      refine lv_iload_n F.1 F.2.1 dX6_matchingSigns_18 rfl (lv_at hl 2 rfl) ?_
      obtain ⟨k3, h⟩ := gd_ok h
      obtain ⟨k4, h⟩ := gd_ok h
      refine cRVc (As := [.int x2]) (rest := [.int (up + x2), .ref a0]) F hE hX va_S.rf (tJ0_charAt_5068e l dC dI g (ltN_lt k3) x2 k4) mbJ0_charAt_5068e q1531 ⟨(Nat.le_of_ble_eq_true rfl), (Nat.le_of_ble_eq_true rfl)⟩ ⟨Nat.zero_le _, Nat.zero_le _⟩ (hX.S (ltN_lt k3)).1 rfl hl.1 rfl (Nat.le_of_ble_eq_true rfl) dX6_matchingSigns_19 ?_
      obtain ⟨z5, k6, h⟩ := bd_ok h
      refine cRV (As := [.int (up + x2), .int (chS x1 x2.toNatClampNeg)]) (rest := []) F hE hX va_S.rf (tX6_isAt l dC dI g a0 a2 a1 ul up uc ut (up + x2) (chS x1 x2.toNatClampNeg) k6) mbX6_isAt q1546 ⟨(Nat.le_of_ble_eq_true rfl), (Nat.le_of_ble_eq_true rfl)⟩ ⟨Nat.zero_le _, Nat.zero_le _⟩ hP [0, 1] rfl 0 rfl rfl rfl hl.1 rfl (Nat.le_of_ble_eq_true rfl) dX6_matchingSigns_22 ?_
      refine lv_if_eq (tgt := 34) F.1 F.2.1 dX6_matchingSigns_25 (by decide) (fun k7 => ?_) (fun k7 => ?_)
      · replace h := it_t k7 h
        refine lv_iload_n F.1 F.2.1 dX6_matchingSigns_34 rfl (lv_at hl 2 rfl) ?_
        cases h
        exact RO_i F hr hlocks dX6_matchingSigns_35
      · replace h := it_f k7 h
        refine lv_iinc (v := x2 + 1) (lv' := [(2, .int (x2 + 1)), (0, .ref a0), (1, .ref (g (200 + x1)))]) F.1 F.2.1 dX6_matchingSigns_28 hl (k := 2) rfl (by rfl) (by decide) rfl (fun ls hl => ?_)
        refine lv_goto (tgt := 2) F.1 F.2.1 dX6_matchingSigns_31 (by decide) ?_
        exact ih (x2 + 1) h ls (lv_sub hl [1, 2, 0] rfl)
set_option maxHeartbeats 4000000 in
set_option maxRecDepth 100000 in
theorem tX6_matchingSigns (l : Launch) (dC : Nat → ClassId) (dI : Nat → Nat → Nat) (g : Nat → ClassId) (a0 : Nat) (a2 : Nat) (a1 : Nat) (ul : Int32) (up : Int32) (uc : Int32) (ut : Nat → Int32) (p1 : Nat) {r : Int32} (h : fX6_matchingSigns ul up ut p1 = some r) : RO l yX6_matchingSigns cX6_matchingSigns 3 (some .int) 4 85 dC dI g [.ref a0, .ref (g (200 + p1))] (wX6r g a0 a2 a1 ul up uc ut) (some (.int r)) := by
  refine RO_of (by decide) (Nat.le_of_ble_eq_true rfl) ?_
  intro p e s m below meth c ls F hr hlocks hE hX hP hl
  replace F : CF p m c cX6_matchingSigns 3 s _ RX6 := F
  replace hl : lv_has ls 3 [(0, .ref a0), (1, .ref (g (200 + p1)))] := hl
  rw [fX6_matchingSigns] at h
  refine lv_iconst (v := 0) F.1 F.2.1 dX6_matchingSigns_0 (by decide) ?_
  refine lv_istore_n (lv' := [(2, .int 0), (0, .ref a0), (1, .ref (g (200 + p1)))]) F.1 F.2.1 dX6_matchingSigns_1 rfl hl (by decide) rfl (fun ls hl => ?_)
  exact tX6_matchingSigns_L2 F hr hlocks hE hX p1 ul up uc ut hP FU 0 h ls (lv_sub hl [1, 2, 0] rfl)
/-! WireCutter$Program.parseVerb -/
def fX6_parseVerb_L4 (ul : Int32) (up : Int32) (ut : Nat → Int32) : Nat → Int32 → Int32 → Option (Option Nat × Int32)
  | 0, _, _ => none
  | k + 1, x1, x2 =>
    if (nI 10) ≤ x2 then
      some (none, up + x1)
    else
      gd (inR x2 10) <|
      (fX6_matchingSigns ul up ut (wIx.getD x2.toNatClampNeg 0)).bind fun z3 =>
      gd (inR x2 10) <|
      if z3 = (nI (stL.getD (wIx.getD x2.toNatClampNeg 0) 0)) then
        gd (inR x2 10) <|
        some (some x2.toNatClampNeg, up + z3)
      else
        if z3 ≤ x1 then
          fX6_parseVerb_L4 ul up ut k x1 (x2 + 1)
        else
          fX6_parseVerb_L4 ul up ut k z3 (x2 + 1)
def fX6_parseVerb (ul : Int32) (up : Int32) (ut : Nat → Int32) : Option (Option Nat × Int32) :=
  fX6_parseVerb_L4 ul up ut FU 0 0
theorem mbX6_parseVerb : MV yX6_parseVerb cX6_parseVerb 4 (some (.object RX10)) 0 := ⟨⟨q1523, q10, by decide +kernel⟩, q1522, qs13⟩
set_option maxHeartbeats 4000000 in
set_option maxRecDepth 100000 in
theorem tX6_parseVerb_L4 {p : Program} {l : Launch} {e : Env} {s : State} {m : MethodId} {args : Array Value} {below : List Frame} {meth : Method} {c : Code} {dC : Nat → ClassId} {dI : Nat → Nat → Nat} {g : Nat → ClassId} {a0 : Nat} {a2 : Nat} {a1 : Nat} {r : Option Nat × Int32} {A : Nat → Prop} (F : CF p m c cX6_parseVerb 4 s args RX6) (hr : meth.sig.returnType = (some (.object RX10))) (hlocks : meth.locks = false) (hE : EK dC dI g s) (hX : EX g A s s.heap) (hA : ∀ q : Nat, s.heap.size ≤ q → A q) (ul : Int32) (up : Int32) (uc : Int32) (ut : Nat → Int32) : ∀ (k : Nat) (x1 : Int32) (x2 : Int32), fX6_parseVerb_L4 ul up ut k x1 x2 = some r → ∀ (H : Heap) (locs : List Loc), va_P (dC, dI) vwCl (wX6r g a0 a2 a1 ul up uc ut) H → va_D A (wX6r g a0 a2 a1 ul up uc ut) → va_S A s.heap H locs → ∀ (ls : Array Slot), lv_has ls 4 [(0, .ref a0), (1, .int x1), (2, .int x2)] → W p l e { frames := 5, cells := 0, slots := 0, locals := 107 } s m args below meth c H locs 0 0 (MQ below (fun _ st o t => o = .returned (some (vbR g r.1)) ∧ va_P (dC, dI) vwCl (wX6r g a0 a2 a1 ul r.2 uc ut) t.heap ∧ va_F A st t) args s 0 0 A) (F0 m 4 ls []) := by
  intro k
  induction k with
  | zero =>
    intro x1 x2 h
    exact absurd h (by simp [fX6_parseVerb_L4])
  | succ k ih =>
    intro x1 x2 h H locs hP hD hS ls hl
    rw [fX6_parseVerb_L4] at h
    refine lv_iload_n F.1 F.2.1 dX6_parseVerb_4 rfl (lv_at hl 2 rfl) ?_
    refine gVB F hE hX hS q1524 dX6_parseVerb_5 ?_
    refine lVB F hX hS dX6_parseVerb_8 ?_
    refine lv_icmp_ge (tgt := 73) F.1 F.2.1 dX6_parseVerb_9 (by decide) (fun k1 => ?_) (fun k1 => ?_)
    · replace h := it_t k1 h
      refine lv_aload_n F.1 F.2.1 dX6_parseVerb_73 rfl (lv_at hl 0 rfl) ?_
      refine lv_dup F.1 F.2.1 dX6_parseVerb_74 rfl ?_
      refine gF (v := .int up) F hE hP 0 rfl rfl inX6 3 (by decide) q266 rfl dX6_parseVerb_75 ?_
      refine lv_iload_n F.1 F.2.1 dX6_parseVerb_78 rfl (lv_at hl 1 rfl) ?_
      refine lv_iadd F.1 F.2.1 dX6_parseVerb_79 ?_
      refine pF (v := .int (up + x1)) F hE hP hD hS 0 rfl rfl inX6 tyX6 tyX6_ok nmX6 3 (by decide) q266 rfl rfl rfl (Nat.le_of_ble_eq_true rfl) dX6_parseVerb_80 (fun H locs hP hD hS => ?_)
      replace hP : va_P (dC, dI) vwCl (wX6r g a0 a2 a1 ul (up + x1) uc ut) H := hP
      replace hD : va_D A (wX6r g a0 a2 a1 ul (up + x1) uc ut) := hD
      refine lv_null F.1 F.2.1 dX6_parseVerb_83 ?_
      cases h
      exact MU_a (v := vbR g none) F hr hlocks (Nat.le_refl _) (Nat.le_refl _) (vbR_v g _) hP hS dX6_parseVerb_84
    · replace h := it_f k1 h
      refine lv_aload_n F.1 F.2.1 dX6_parseVerb_12 rfl (lv_at hl 0 rfl) ?_
      refine gVB F hE hX hS q1524 dX6_parseVerb_13 ?_
      refine lv_iload_n F.1 F.2.1 dX6_parseVerb_16 rfl (lv_at hl 2 rfl) ?_
      obtain ⟨k2, h⟩ := gd_ok h
      refine aVB F hX hS k2 dX6_parseVerb_17 ?_
      refine gON F hE (hX.wd _ (inR_lt2 k2)) hS q2249 dX6_parseVerb_18 ?_
      obtain ⟨z3, k4, h⟩ := bd_ok h
      refine cRV (As := [.ref (g (200 + (wIx.getD x2.toNatClampNeg 0)))]) (rest := []) F hE hX hS (tX6_matchingSigns l dC dI g a0 a2 a1 ul up uc ut (wIx.getD x2.toNatClampNeg 0) k4) mbX6_matchingSigns q1526 ⟨(Nat.le_of_ble_eq_true rfl), (Nat.le_of_ble_eq_true rfl)⟩ ⟨Nat.zero_le _, Nat.zero_le _⟩ hP [0, 1] rfl 0 rfl rfl rfl hl.1 rfl (Nat.le_of_ble_eq_true rfl) dX6_parseVerb_21 ?_
      refine lv_istore_n (lv' := [(3, .int z3), (0, .ref a0), (1, .int x1), (2, .int x2)]) F.1 F.2.1 dX6_parseVerb_24 rfl hl (by decide) rfl (fun ls hl => ?_)
      refine lv_iload_n F.1 F.2.1 dX6_parseVerb_25 rfl (lv_at hl 0 rfl) ?_
      refine gVB F hE hX hS q1524 dX6_parseVerb_26 ?_
      refine lv_iload_n F.1 F.2.1 dX6_parseVerb_29 rfl (lv_at hl 3 rfl) ?_
      obtain ⟨k5, h⟩ := gd_ok h
      refine aVB F hX hS k5 dX6_parseVerb_30 ?_
      refine gON F hE (hX.wd _ (inR_lt2 k5)) hS q2249 dX6_parseVerb_31 ?_
      refine cRVc (As := []) (rest := [.int z3]) F hE hX hS (tJ0_length_8abf5 l dC dI g (wIx_lt (inR_lt2 k5))) mbJ0_length_8abf5 q1530 ⟨(Nat.le_of_ble_eq_true rfl), (Nat.le_of_ble_eq_true rfl)⟩ ⟨(Nat.le_of_ble_eq_true rfl), (Nat.le_of_ble_eq_true rfl)⟩ (hX.S (wIx_lt (inR_lt2 k5))).1 rfl hl.1 rfl (Nat.le_of_ble_eq_true rfl) dX6_parseVerb_34 ?_
      refine lv_icmp_ne (tgt := 56) F.1 F.2.1 dX6_parseVerb_37 (by decide) (fun k6 => ?_) (fun k6 => ?_)
      · replace h := it_f k6 h
        refine lv_iload_n F.1 F.2.1 dX6_parseVerb_56 rfl (lv_at hl 0 rfl) ?_
        refine lv_iload_n F.1 F.2.1 dX6_parseVerb_57 rfl (lv_at hl 2 rfl) ?_
        refine lv_icmp_le (tgt := 65) F.1 F.2.1 dX6_parseVerb_58 (by decide) (fun k7 => ?_) (fun k7 => ?_)
        · replace h := it_t k7 h
          refine lv_iload_n F.1 F.2.1 dX6_parseVerb_65 rfl (lv_at hl 2 rfl) ?_
          refine lv_istore_n (lv' := [(1, .int x1), (3, .int z3), (0, .ref a0), (2, .int x2)]) F.1 F.2.1 dX6_parseVerb_66 rfl hl (by decide) rfl (fun ls hl => ?_)
          refine lv_iinc (v := x2 + 1) (lv' := [(2, .int (x2 + 1)), (1, .int x1), (3, .int z3), (0, .ref a0)]) F.1 F.2.1 dX6_parseVerb_67 hl (k := 3) rfl (by rfl) (by decide) rfl (fun ls hl => ?_)
          refine lv_goto (tgt := 4) F.1 F.2.1 dX6_parseVerb_70 (by decide) ?_
          exact ih x1 (x2 + 1) h _ _ hP hD hS ls (lv_sub hl [3, 1, 0] rfl)
        · replace h := it_f k7 h
          refine lv_iload_n F.1 F.2.1 dX6_parseVerb_61 rfl (lv_at hl 0 rfl) ?_
          refine lv_goto (tgt := 66) F.1 F.2.1 dX6_parseVerb_62 (by decide) ?_
          refine lv_istore_n (lv' := [(1, .int z3), (3, .int z3), (0, .ref a0), (2, .int x2)]) F.1 F.2.1 dX6_parseVerb_66 rfl hl (by decide) rfl (fun ls hl => ?_)
          refine lv_iinc (v := x2 + 1) (lv' := [(2, .int (x2 + 1)), (1, .int z3), (3, .int z3), (0, .ref a0)]) F.1 F.2.1 dX6_parseVerb_67 hl (k := 3) rfl (by rfl) (by decide) rfl (fun ls hl => ?_)
          refine lv_goto (tgt := 4) F.1 F.2.1 dX6_parseVerb_70 (by decide) ?_
          exact ih z3 (x2 + 1) h _ _ hP hD hS ls (lv_sub hl [3, 1, 0] rfl)
      · replace h := it_t k6 h
        refine lv_aload_n F.1 F.2.1 dX6_parseVerb_40 rfl (lv_at hl 1 rfl) ?_
        refine lv_dup F.1 F.2.1 dX6_parseVerb_41 rfl ?_
        refine gF (v := .int up) F hE hP 0 rfl rfl inX6 3 (by decide) q266 rfl dX6_parseVerb_42 ?_
        refine lv_iload_n F.1 F.2.1 dX6_parseVerb_45 rfl (lv_at hl 0 rfl) ?_
        refine lv_iadd F.1 F.2.1 dX6_parseVerb_46 ?_
        refine pF (v := .int (up + z3)) F hE hP hD hS 0 rfl rfl inX6 tyX6 tyX6_ok nmX6 3 (by decide) q266 rfl rfl rfl (Nat.le_of_ble_eq_true rfl) dX6_parseVerb_47 (fun H locs hP hD hS => ?_)
        replace hP : va_P (dC, dI) vwCl (wX6r g a0 a2 a1 ul (up + z3) uc ut) H := hP
        replace hD : va_D A (wX6r g a0 a2 a1 ul (up + z3) uc ut) := hD
        refine gVB F hE hX hS q1524 dX6_parseVerb_50 ?_
        refine lv_iload_n F.1 F.2.1 dX6_parseVerb_53 rfl (lv_at hl 3 rfl) ?_
        obtain ⟨k8, h⟩ := gd_ok h
        refine aVB F hX hS k8 dX6_parseVerb_54 ?_
        cases h
        exact MU_a (v := vbR g (some x2.toNatClampNeg)) F hr hlocks (Nat.le_refl _) (Nat.le_refl _) (vbR_v g _) hP hS dX6_parseVerb_55
set_option maxHeartbeats 4000000 in
set_option maxRecDepth 100000 in
theorem tX6_parseVerb (l : Launch) (dC : Nat → ClassId) (dI : Nat → Nat → Nat) (g : Nat → ClassId) (a0 : Nat) (a2 : Nat) (a1 : Nat) (ul : Int32) (up : Int32) (uc : Int32) (ut : Nat → Int32) {r : Option Nat × Int32} (h : fX6_parseVerb ul up ut = some r) : MU l yX6_parseVerb cX6_parseVerb 4 (some (.object RX10)) 5 107 0 0 dC dI g [.ref a0] (wX6r g a0 a2 a1 ul up uc ut) (wX6r g a0 a2 a1 ul r.2 uc ut) (some (vbR g r.1)) := by
  refine MU_of (by decide) (Nat.le_of_ble_eq_true rfl) ?_
  intro p e s m below meth c ls F hr hlocks hE hX hA hP hD hS hl
  generalize va_A (wX6r g a0 a2 a1 ul up uc ut) s.heap.size = A at hA hD hS hX ⊢
  replace F : CF p m c cX6_parseVerb 4 s _ RX6 := F
  replace hl : lv_has ls 4 [(0, .ref a0)] := hl
  rw [fX6_parseVerb] at h
  refine lv_iconst (v := 0) F.1 F.2.1 dX6_parseVerb_0 (by decide) ?_
  refine lv_istore_n (lv' := [(1, .int 0), (0, .ref a0)]) F.1 F.2.1 dX6_parseVerb_1 rfl hl (by decide) rfl (fun ls hl => ?_)
  refine lv_iconst (v := 0) F.1 F.2.1 dX6_parseVerb_2 (by decide) ?_
  refine lv_istore_n (lv' := [(2, .int 0), (1, .int 0), (0, .ref a0)]) F.1 F.2.1 dX6_parseVerb_3 rfl hl (by decide) rfl (fun ls hl => ?_)
  exact tX6_parseVerb_L4 F hr hlocks hE hX hA ul up uc ut FU 0 0 h _ _ hP hD hS ls (lv_sub hl [2, 1, 0] rfl)
/-! WireCutter$Program.current -/
def fX6_current (ul : Int32) (up : Int32) (ut : Nat → Int32) : Option (Int32) :=
  if up < 0 then
    some (0)
  else
    if ul ≤ up then
      some (0)
    else
      if (nI 60) ≤ up then
        some (0)
      else
        gd (inR up 60) <|
        gd (isC (ut up.toNatClampNeg)) <|
        some (ut up.toNatClampNeg)
theorem mbX6_current : MV yX6_current cX6_current 1 (some .char) 0 := ⟨⟨q1561, q10, by decide +kernel⟩, q1560, qs17⟩
set_option maxHeartbeats 4000000 in
set_option maxRecDepth 100000 in
theorem tX6_current (l : Launch) (dC : Nat → ClassId) (dI : Nat → Nat → Nat) (g : Nat → ClassId) (a0 : Nat) (a2 : Nat) (a1 : Nat) (ul : Int32) (up : Int32) (uc : Int32) (ut : Nat → Int32) {r : Int32} (h : fX6_current ul up ut = some r) : RO l yX6_current cX6_current 1 (some .char) 0 0 dC dI g [.ref a0] (wX6r g a0 a2 a1 ul up uc ut) (some (.int r)) := by
  refine RO_of (by decide) (Nat.le_of_ble_eq_true rfl) ?_
  intro p e s m below meth c ls F hr hlocks hE hX hP hl
  replace F : CF p m c cX6_current 1 s _ RX6 := F
  replace hl : lv_has ls 1 [(0, .ref a0)] := hl
  rw [fX6_current] at h
  refine lv_aload_n F.1 F.2.1 dX6_current_0 rfl (lv_at hl 0 rfl) ?_
  refine gF (v := .int up) F hE hP 0 rfl rfl inX6 3 (by decide) q266 rfl dX6_current_1 ?_
  refine lv_if_lt (tgt := 42) F.1 F.2.1 dX6_current_4 (by decide) (fun k1 => ?_) (fun k1 => ?_)
  · replace h := it_t k1 h
    refine lv_iconst (v := 0) F.1 F.2.1 dX6_current_42 (by decide) ?_
    cases h
    exact RO_z F hr hlocks rfl dX6_current_43
  · replace h := it_f k1 h
    refine lv_aload_n F.1 F.2.1 dX6_current_7 rfl (lv_at hl 0 rfl) ?_
    refine gF (v := .int up) F hE hP 0 rfl rfl inX6 3 (by decide) q266 rfl dX6_current_8 ?_
    refine lv_aload_n F.1 F.2.1 dX6_current_11 rfl (lv_at hl 0 rfl) ?_
    refine gF (v := .int ul) F hE hP 0 rfl rfl inX6 2 (by decide) q265 rfl dX6_current_12 ?_
    refine lv_icmp_ge (tgt := 42) F.1 F.2.1 dX6_current_15 (by decide) (fun k2 => ?_) (fun k2 => ?_)
    · replace h := it_t k2 h
      refine lv_iconst (v := 0) F.1 F.2.1 dX6_current_42 (by decide) ?_
      cases h
      exact RO_z F hr hlocks rfl dX6_current_43
    · replace h := it_f k2 h
      refine lv_aload_n F.1 F.2.1 dX6_current_18 rfl (lv_at hl 0 rfl) ?_
      refine gF (v := .int up) F hE hP 0 rfl rfl inX6 3 (by decide) q266 rfl dX6_current_19 ?_
      refine lv_aload_n F.1 F.2.1 dX6_current_22 rfl (lv_at hl 0 rfl) ?_
      refine gF (v := .ref a1) F hE hP 0 rfl rfl inX6 0 (by decide) q263 rfl dX6_current_23 ?_
      refine va_alen (v := nI 60) F.1 F.2.1 hE.1 hP 1 1 rfl rfl rfl dX6_current_26 ?_
      refine lv_icmp_ge (tgt := 42) F.1 F.2.1 dX6_current_27 (by decide) (fun k3 => ?_) (fun k3 => ?_)
      · replace h := it_t k3 h
        refine lv_iconst (v := 0) F.1 F.2.1 dX6_current_42 (by decide) ?_
        cases h
        exact RO_z F hr hlocks rfl dX6_current_43
      · replace h := it_f k3 h
        refine lv_aload_n F.1 F.2.1 dX6_current_30 rfl (lv_at hl 0 rfl) ?_
        refine gF (v := .ref a1) F hE hP 0 rfl rfl inX6 0 (by decide) q263 rfl dX6_current_31 ?_
        refine lv_aload_n F.1 F.2.1 dX6_current_34 rfl (lv_at hl 0 rfl) ?_
        refine gF (v := .int up) F hE hP 0 rfl rfl inX6 3 (by decide) q266 rfl dX6_current_35 ?_
        obtain ⟨k4, h⟩ := gd_ok h
        refine aLc (k := up.toNatClampNeg) F hE hP 1 1 rfl rfl k4 rfl dX6_current_38 ?_
        refine lv_goto (tgt := 43) F.1 F.2.1 dX6_current_39 (by decide) ?_
        obtain ⟨k5, h⟩ := gd_ok h
        cases h
        exact RO_z F hr hlocks (isC_n k5).1 dX6_current_43
/-! WireCutter.isDigit -/
def fX12_isDigit (p0 : Int32) : Option (Int32) :=
  if p0 < 48 then
    some (0)
  else
    if 57 < p0 then
      some (0)
    else
      some (1)
theorem mbX12_isDigit : MS yX12_isDigit cX12_isDigit 1 (some .boolean) 1 := ⟨⟨q1578, q1, by decide +kernel⟩, q1577⟩
set_option maxHeartbeats 4000000 in
set_option maxRecDepth 100000 in
theorem tX12_isDigit (l : Launch) (dC : Nat → ClassId) (dI : Nat → Nat → Nat) (g : Nat → ClassId) (p0 : Int32) {r : Int32} (h : fX12_isDigit p0 = some r) : RO l yX12_isDigit cX12_isDigit 1 (some .boolean) 0 0 dC dI g [.int p0] (([] : va_W)) (some (.int r)) := by
  refine RO_of (by decide) (Nat.le_of_ble_eq_true rfl) ?_
  intro p e s m below meth c ls F hr hlocks hE hX hP hl
  replace F : CF p m c cX12_isDigit 1 s _ RX12 := F
  replace hl : lv_has ls 1 [(0, .int p0)] := hl
  rw [fX12_isDigit] at h
  refine lv_iload_n F.1 F.2.1 dX12_isDigit_0 rfl (lv_at hl 0 rfl) ?_
  refine lv_bipush (v := 48) F.1 F.2.1 dX12_isDigit_1 (by decide) ?_
  refine lv_icmp_lt (tgt := 16) F.1 F.2.1 dX12_isDigit_3 (by decide) (fun k1 => ?_) (fun k1 => ?_)
  · replace h := it_t k1 h
    refine lv_iconst (v := 0) F.1 F.2.1 dX12_isDigit_16 (by decide) ?_
    cases h
    exact RO_z F hr hlocks rfl dX12_isDigit_17
  · replace h := it_f k1 h
    refine lv_iload_n F.1 F.2.1 dX12_isDigit_6 rfl (lv_at hl 0 rfl) ?_
    refine lv_bipush (v := 57) F.1 F.2.1 dX12_isDigit_7 (by decide) ?_
    refine lv_icmp_gt (tgt := 16) F.1 F.2.1 dX12_isDigit_9 (by decide) (fun k2 => ?_) (fun k2 => ?_)
    · replace h := it_t k2 h
      refine lv_iconst (v := 0) F.1 F.2.1 dX12_isDigit_16 (by decide) ?_
      cases h
      exact RO_z F hr hlocks rfl dX12_isDigit_17
    · replace h := it_f k2 h
      refine lv_iconst (v := 1) F.1 F.2.1 dX12_isDigit_12 (by decide) ?_
      refine lv_goto (tgt := 17) F.1 F.2.1 dX12_isDigit_13 (by decide) ?_
      cases h
      exact RO_z F hr hlocks rfl dX12_isDigit_17
