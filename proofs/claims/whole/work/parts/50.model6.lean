/-! WireCutterModel.readsC -/
def fX13_readsC (ubl : Int32) (uba : Int32) (uso : Int32) (ubu : Nat → Int32) (unu : Nat → Int32) : Option (Int32 × Int32 × Int32 × (Nat → Int32)) :=
  (fX13_reads ubl uba ubu 97).bind fun z1 =>
  if z1.1 = 0 then
    (fX13_reads ubl z1.2 ubu 108).bind fun z4 =>
    if z4.1 = 0 then
      some (0, z4.2, 101, unu)
    else
      (fX13_reads ubl z4.2 ubu 101).bind fun z7 =>
      if z7.1 = 0 then
        some (0, z7.2, 101, unu)
      else
        (fX13_reads ubl z7.2 ubu 97).bind fun z10 =>
        if z10.1 = 0 then
          some (0, z10.2, 101, unu)
        else
          (fX13_reads ubl z10.2 ubu 114).bind fun z13 =>
          if z13.1 = 0 then
            some (0, z13.2, 101, unu)
          else
            (fX13_reads ubl z13.2 ubu 32).bind fun z16 =>
            if z16.1 = 0 then
              some (0, z16.2, 101, unu)
            else
              (fX13_readsMaterial ubl z16.2 ubu unu).bind fun z19 =>
              if z19.1 = 0 then
                some (0, z19.2.1, 101, z19.2.2)
              else
                some (1, z19.2.1, 101, z19.2.2)
  else
    (fX13_reads ubl z1.2 ubu 110).bind fun z22 =>
    if z22.1 = 0 then
      some (0, z22.2, uso, unu)
    else
      (fX13_reads ubl z22.2 ubu 99).bind fun z25 =>
      if z25.1 = 0 then
        some (0, z25.2, uso, unu)
      else
        (fX13_reads ubl z25.2 ubu 101).bind fun z28 =>
        if z28.1 = 0 then
          some (0, z28.2, uso, unu)
        else
          (fX13_reads ubl z28.2 ubu 108).bind fun z31 =>
          if z31.1 = 0 then
            some (0, z31.2, uso, unu)
          else
            (fX13_reads ubl z31.2 ubu 32).bind fun z34 =>
            if z34.1 = 0 then
              some (0, z34.2, uso, unu)
            else
              (fX13_readsNumber ubl z34.2 ubu unu 0).bind fun z37 =>
              if z37.1 = 0 then
                some (0, z37.2.1, uso, z37.2.2)
              else
                some (1, z37.2.1, uso, z37.2.2)
theorem mbX13_readsC : MV yX13_readsC cX13_readsC 1 (some .boolean) 0 := ⟨⟨q2167, q16, by decide +kernel⟩, q2166, qs76⟩
set_option maxHeartbeats 4000000 in
set_option maxRecDepth 100000 in
theorem tX13_readsC (l : Launch) (dC : Nat → ClassId) (dI : Nat → Nat → Nat) (g : Nat → ClassId) (a0 a1 a2 a3 a4 a5 a6 a7 a8 : Nat) (uth : Int32) (uch : Int32) (ufc : Int32) (usv : Int32) (ull : Int32) (ubl : Int32) (uba : Int32) (uea : Int32) (ufa : Int32) (uso : Int32) (udn : Int32) (uw : Nat → Int32) (uun : Nat → Int32) (usr : Nat → Int32) (ube : Nat → Int32) (ubs : Nat → Int32) (uln : Nat → Int32) (ubu : Nat → Int32) (unu : Nat → Int32) {r : Int32 × Int32 × Int32 × (Nat → Int32)} (h : fX13_readsC ubl uba uso ubu unu = some r) : MU l yX13_readsC cX13_readsC 1 (some .boolean) 4 85 0 0 dC dI g [.ref a0] (wX13 g a0 a1 a2 a3 a4 a5 a6 a7 a8 uth uch ufc usv ull ubl uba uea ufa uso udn uw uun usr ube ubs uln ubu unu) (wX13 g a0 a1 a2 a3 a4 a5 a6 a7 a8 uth uch ufc usv ull ubl r.2.1 uea ufa r.2.2.1 udn uw uun usr ube ubs uln ubu r.2.2.2) (some (.int r.1)) := by
  refine MU_of (by decide) (Nat.le_of_ble_eq_true rfl) ?_
  intro p e s m below meth c ls F hr hlocks hE hX hA hP hD hS hl
  generalize va_A (wX13 g a0 a1 a2 a3 a4 a5 a6 a7 a8 uth uch ufc usv ull ubl uba uea ufa uso udn uw uun usr ube ubs uln ubu unu) s.heap.size = A at hA hD hS hX ⊢
  replace F : CF p m c cX13_readsC 1 s _ RX13 := F
  replace hl : lv_has ls 1 [(0, .ref a0)] := hl
  rw [fX13_readsC] at h
  refine lv_aload_n F.1 F.2.1 dX13_readsC_0 rfl (lv_at hl 0 rfl) ?_
  refine lv_bipush (v := 97) F.1 F.2.1 dX13_readsC_1 (by decide) ?_
  obtain ⟨z1, k2, h⟩ := bd_ok h
  refine cMV (As := [.int 97]) (rest := []) (ws' := wX13 g a0 a1 a2 a3 a4 a5 a6 a7 a8 uth uch ufc usv ull ubl z1.2 uea ufa uso udn uw uun usr ube ubs uln ubu unu) F hE hX (tX13_reads l dC dI g a0 a1 a2 a3 a4 a5 a6 a7 a8 uth uch ufc usv ull ubl uba uea ufa uso udn uw uun usr ube ubs uln ubu unu 97 k2) mbX13_reads q2140 ⟨(Nat.le_of_ble_eq_true rfl), (Nat.le_of_ble_eq_true rfl)⟩ ⟨(Nat.le_of_ble_eq_true rfl), (Nat.le_of_ble_eq_true rfl)⟩ hP hD hS hA [0, 1, 2, 3, 4, 5, 6, 7, 8] rfl rfl rfl rfl rfl 0 rfl rfl rfl hl.1 rfl (Nat.le_of_ble_eq_true rfl) dX13_readsC_3 (fun H locs hP hD hS => ?_)
  refine lv_if_eq (tgt := 68) F.1 F.2.1 dX13_readsC_6 (by decide) (fun k3 => ?_) (fun k3 => ?_)
  · replace h := it_t k3 h
    refine lv_aload_n F.1 F.2.1 dX13_readsC_68 rfl (lv_at hl 0 rfl) ?_
    refine lv_bipush (v := 101) F.1 F.2.1 dX13_readsC_69 (by decide) ?_
    refine pF (v := .int 101) F hE hP hD hS 0 rfl rfl inX13 tyX13 tyX13_ok nmX13 17 (by decide) q1701 rfl rfl rfl (Nat.le_of_ble_eq_true rfl) dX13_readsC_71 (fun H locs hP hD hS => ?_)
    replace hP : va_P (dC, dI) vwCl (wX13 g a0 a1 a2 a3 a4 a5 a6 a7 a8 uth uch ufc usv ull ubl z1.2 uea ufa 101 udn uw uun usr ube ubs uln ubu unu) H := hP
    replace hD : va_D A (wX13 g a0 a1 a2 a3 a4 a5 a6 a7 a8 uth uch ufc usv ull ubl z1.2 uea ufa 101 udn uw uun usr ube ubs uln ubu unu) := hD
    refine lv_aload_n F.1 F.2.1 dX13_readsC_74 rfl (lv_at hl 0 rfl) ?_
    refine lv_bipush (v := 108) F.1 F.2.1 dX13_readsC_75 (by decide) ?_
    obtain ⟨z4, k5, h⟩ := bd_ok h
    refine cMV (As := [.int 108]) (rest := []) (ws' := wX13 g a0 a1 a2 a3 a4 a5 a6 a7 a8 uth uch ufc usv ull ubl z4.2 uea ufa 101 udn uw uun usr ube ubs uln ubu unu) F hE hX (tX13_reads l dC dI g a0 a1 a2 a3 a4 a5 a6 a7 a8 uth uch ufc usv ull ubl z1.2 uea ufa 101 udn uw uun usr ube ubs uln ubu unu 108 k5) mbX13_reads q2140 ⟨(Nat.le_of_ble_eq_true rfl), (Nat.le_of_ble_eq_true rfl)⟩ ⟨(Nat.le_of_ble_eq_true rfl), (Nat.le_of_ble_eq_true rfl)⟩ hP hD hS hA [0, 1, 2, 3, 4, 5, 6, 7, 8] rfl rfl rfl rfl rfl 0 rfl rfl rfl hl.1 rfl (Nat.le_of_ble_eq_true rfl) dX13_readsC_77 (fun H locs hP hD hS => ?_)
    refine lv_if_eq (tgt := 130) F.1 F.2.1 dX13_readsC_80 (by decide) (fun k6 => ?_) (fun k6 => ?_)
    · replace h := it_t k6 h
      refine lv_iconst (v := 0) F.1 F.2.1 dX13_readsC_130 (by decide) ?_
      cases h
      exact MU_z (v := 0) F hr hlocks (Nat.le_refl _) (Nat.le_refl _) rfl hP hS dX13_readsC_131
    · replace h := it_f k6 h
      refine lv_aload_n F.1 F.2.1 dX13_readsC_83 rfl (lv_at hl 0 rfl) ?_
      refine lv_bipush (v := 101) F.1 F.2.1 dX13_readsC_84 (by decide) ?_
      obtain ⟨z7, k8, h⟩ := bd_ok h
      refine cMV (As := [.int 101]) (rest := []) (ws' := wX13 g a0 a1 a2 a3 a4 a5 a6 a7 a8 uth uch ufc usv ull ubl z7.2 uea ufa 101 udn uw uun usr ube ubs uln ubu unu) F hE hX (tX13_reads l dC dI g a0 a1 a2 a3 a4 a5 a6 a7 a8 uth uch ufc usv ull ubl z4.2 uea ufa 101 udn uw uun usr ube ubs uln ubu unu 101 k8) mbX13_reads q2140 ⟨(Nat.le_of_ble_eq_true rfl), (Nat.le_of_ble_eq_true rfl)⟩ ⟨(Nat.le_of_ble_eq_true rfl), (Nat.le_of_ble_eq_true rfl)⟩ hP hD hS hA [0, 1, 2, 3, 4, 5, 6, 7, 8] rfl rfl rfl rfl rfl 0 rfl rfl rfl hl.1 rfl (Nat.le_of_ble_eq_true rfl) dX13_readsC_86 (fun H locs hP hD hS => ?_)
      refine lv_if_eq (tgt := 130) F.1 F.2.1 dX13_readsC_89 (by decide) (fun k9 => ?_) (fun k9 => ?_)
      · replace h := it_t k9 h
        refine lv_iconst (v := 0) F.1 F.2.1 dX13_readsC_130 (by decide) ?_
        cases h
        exact MU_z (v := 0) F hr hlocks (Nat.le_refl _) (Nat.le_refl _) rfl hP hS dX13_readsC_131
      · replace h := it_f k9 h
        refine lv_aload_n F.1 F.2.1 dX13_readsC_92 rfl (lv_at hl 0 rfl) ?_
        refine lv_bipush (v := 97) F.1 F.2.1 dX13_readsC_93 (by decide) ?_
        obtain ⟨z10, k11, h⟩ := bd_ok h
        refine cMV (As := [.int 97]) (rest := []) (ws' := wX13 g a0 a1 a2 a3 a4 a5 a6 a7 a8 uth uch ufc usv ull ubl z10.2 uea ufa 101 udn uw uun usr ube ubs uln ubu unu) F hE hX (tX13_reads l dC dI g a0 a1 a2 a3 a4 a5 a6 a7 a8 uth uch ufc usv ull ubl z7.2 uea ufa 101 udn uw uun usr ube ubs uln ubu unu 97 k11) mbX13_reads q2140 ⟨(Nat.le_of_ble_eq_true rfl), (Nat.le_of_ble_eq_true rfl)⟩ ⟨(Nat.le_of_ble_eq_true rfl), (Nat.le_of_ble_eq_true rfl)⟩ hP hD hS hA [0, 1, 2, 3, 4, 5, 6, 7, 8] rfl rfl rfl rfl rfl 0 rfl rfl rfl hl.1 rfl (Nat.le_of_ble_eq_true rfl) dX13_readsC_95 (fun H locs hP hD hS => ?_)
        refine lv_if_eq (tgt := 130) F.1 F.2.1 dX13_readsC_98 (by decide) (fun k12 => ?_) (fun k12 => ?_)
        · replace h := it_t k12 h
          refine lv_iconst (v := 0) F.1 F.2.1 dX13_readsC_130 (by decide) ?_
          cases h
          exact MU_z (v := 0) F hr hlocks (Nat.le_refl _) (Nat.le_refl _) rfl hP hS dX13_readsC_131
        · replace h := it_f k12 h
          refine lv_aload_n F.1 F.2.1 dX13_readsC_101 rfl (lv_at hl 0 rfl) ?_
          refine lv_bipush (v := 114) F.1 F.2.1 dX13_readsC_102 (by decide) ?_
          obtain ⟨z13, k14, h⟩ := bd_ok h
          refine cMV (As := [.int 114]) (rest := []) (ws' := wX13 g a0 a1 a2 a3 a4 a5 a6 a7 a8 uth uch ufc usv ull ubl z13.2 uea ufa 101 udn uw uun usr ube ubs uln ubu unu) F hE hX (tX13_reads l dC dI g a0 a1 a2 a3 a4 a5 a6 a7 a8 uth uch ufc usv ull ubl z10.2 uea ufa 101 udn uw uun usr ube ubs uln ubu unu 114 k14) mbX13_reads q2140 ⟨(Nat.le_of_ble_eq_true rfl), (Nat.le_of_ble_eq_true rfl)⟩ ⟨(Nat.le_of_ble_eq_true rfl), (Nat.le_of_ble_eq_true rfl)⟩ hP hD hS hA [0, 1, 2, 3, 4, 5, 6, 7, 8] rfl rfl rfl rfl rfl 0 rfl rfl rfl hl.1 rfl (Nat.le_of_ble_eq_true rfl) dX13_readsC_104 (fun H locs hP hD hS => ?_)
          refine lv_if_eq (tgt := 130) F.1 F.2.1 dX13_readsC_107 (by decide) (fun k15 => ?_) (fun k15 => ?_)
          · replace h := it_t k15 h
            refine lv_iconst (v := 0) F.1 F.2.1 dX13_readsC_130 (by decide) ?_
            cases h
            exact MU_z (v := 0) F hr hlocks (Nat.le_refl _) (Nat.le_refl _) rfl hP hS dX13_readsC_131
          · replace h := it_f k15 h
            refine lv_aload_n F.1 F.2.1 dX13_readsC_110 rfl (lv_at hl 0 rfl) ?_
            refine lv_bipush (v := 32) F.1 F.2.1 dX13_readsC_111 (by decide) ?_
            obtain ⟨z16, k17, h⟩ := bd_ok h
            refine cMV (As := [.int 32]) (rest := []) (ws' := wX13 g a0 a1 a2 a3 a4 a5 a6 a7 a8 uth uch ufc usv ull ubl z16.2 uea ufa 101 udn uw uun usr ube ubs uln ubu unu) F hE hX (tX13_reads l dC dI g a0 a1 a2 a3 a4 a5 a6 a7 a8 uth uch ufc usv ull ubl z13.2 uea ufa 101 udn uw uun usr ube ubs uln ubu unu 32 k17) mbX13_reads q2140 ⟨(Nat.le_of_ble_eq_true rfl), (Nat.le_of_ble_eq_true rfl)⟩ ⟨(Nat.le_of_ble_eq_true rfl), (Nat.le_of_ble_eq_true rfl)⟩ hP hD hS hA [0, 1, 2, 3, 4, 5, 6, 7, 8] rfl rfl rfl rfl rfl 0 rfl rfl rfl hl.1 rfl (Nat.le_of_ble_eq_true rfl) dX13_readsC_113 (fun H locs hP hD hS => ?_)
            refine lv_if_eq (tgt := 130) F.1 F.2.1 dX13_readsC_116 (by decide) (fun k18 => ?_) (fun k18 => ?_)
            · replace h := it_t k18 h
              refine lv_iconst (v := 0) F.1 F.2.1 dX13_readsC_130 (by decide) ?_
              cases h
              exact MU_z (v := 0) F hr hlocks (Nat.le_refl _) (Nat.le_refl _) rfl hP hS dX13_readsC_131
            · replace h := it_f k18 h
              refine lv_aload_n F.1 F.2.1 dX13_readsC_119 rfl (lv_at hl 0 rfl) ?_
              obtain ⟨z19, k20, h⟩ := bd_ok h
              refine cMV (As := []) (rest := []) (ws' := wX13 g a0 a1 a2 a3 a4 a5 a6 a7 a8 uth uch ufc usv ull ubl z19.2.1 uea ufa 101 udn uw uun usr ube ubs uln ubu z19.2.2) F hE hX (tX13_readsMaterial l dC dI g a0 a1 a2 a3 a4 a5 a6 a7 a8 uth uch ufc usv ull ubl z16.2 uea ufa 101 udn uw uun usr ube ubs uln ubu unu k20) mbX13_readsMaterial q2144 ⟨(Nat.le_of_ble_eq_true rfl), (Nat.le_of_ble_eq_true rfl)⟩ ⟨(Nat.le_of_ble_eq_true rfl), (Nat.le_of_ble_eq_true rfl)⟩ hP hD hS hA [0, 1, 2, 3, 4, 5, 6, 7, 8] rfl rfl rfl rfl rfl 0 rfl rfl rfl hl.1 rfl (Nat.le_of_ble_eq_true rfl) dX13_readsC_120 (fun H locs hP hD hS => ?_)
              refine lv_if_eq (tgt := 130) F.1 F.2.1 dX13_readsC_123 (by decide) (fun k21 => ?_) (fun k21 => ?_)
              · replace h := it_t k21 h
                refine lv_iconst (v := 0) F.1 F.2.1 dX13_readsC_130 (by decide) ?_
                cases h
                exact MU_z (v := 0) F hr hlocks (Nat.le_refl _) (Nat.le_refl _) rfl hP hS dX13_readsC_131
              · replace h := it_f k21 h
                refine lv_iconst (v := 1) F.1 F.2.1 dX13_readsC_126 (by decide) ?_
                refine lv_goto (tgt := 131) F.1 F.2.1 dX13_readsC_127 (by decide) ?_
                cases h
                exact MU_z (v := 1) F hr hlocks (Nat.le_refl _) (Nat.le_refl _) rfl hP hS dX13_readsC_131
  · replace h := it_f k3 h
    refine lv_aload_n F.1 F.2.1 dX13_readsC_9 rfl (lv_at hl 0 rfl) ?_
    refine lv_bipush (v := 110) F.1 F.2.1 dX13_readsC_10 (by decide) ?_
    obtain ⟨z22, k23, h⟩ := bd_ok h
    refine cMV (As := [.int 110]) (rest := []) (ws' := wX13 g a0 a1 a2 a3 a4 a5 a6 a7 a8 uth uch ufc usv ull ubl z22.2 uea ufa uso udn uw uun usr ube ubs uln ubu unu) F hE hX (tX13_reads l dC dI g a0 a1 a2 a3 a4 a5 a6 a7 a8 uth uch ufc usv ull ubl z1.2 uea ufa uso udn uw uun usr ube ubs uln ubu unu 110 k23) mbX13_reads q2140 ⟨(Nat.le_of_ble_eq_true rfl), (Nat.le_of_ble_eq_true rfl)⟩ ⟨(Nat.le_of_ble_eq_true rfl), (Nat.le_of_ble_eq_true rfl)⟩ hP hD hS hA [0, 1, 2, 3, 4, 5, 6, 7, 8] rfl rfl rfl rfl rfl 0 rfl rfl rfl hl.1 rfl (Nat.le_of_ble_eq_true rfl) dX13_readsC_12 (fun H locs hP hD hS => ?_)
    refine lv_if_eq (tgt := 66) F.1 F.2.1 dX13_readsC_15 (by decide) (fun k24 => ?_) (fun k24 => ?_)
    · replace h := it_t k24 h
      refine lv_iconst (v := 0) F.1 F.2.1 dX13_readsC_66 (by decide) ?_
      cases h
      exact MU_z (v := 0) F hr hlocks (Nat.le_refl _) (Nat.le_refl _) rfl hP hS dX13_readsC_67
    · replace h := it_f k24 h
      refine lv_aload_n F.1 F.2.1 dX13_readsC_18 rfl (lv_at hl 0 rfl) ?_
      refine lv_bipush (v := 99) F.1 F.2.1 dX13_readsC_19 (by decide) ?_
      obtain ⟨z25, k26, h⟩ := bd_ok h
      refine cMV (As := [.int 99]) (rest := []) (ws' := wX13 g a0 a1 a2 a3 a4 a5 a6 a7 a8 uth uch ufc usv ull ubl z25.2 uea ufa uso udn uw uun usr ube ubs uln ubu unu) F hE hX (tX13_reads l dC dI g a0 a1 a2 a3 a4 a5 a6 a7 a8 uth uch ufc usv ull ubl z22.2 uea ufa uso udn uw uun usr ube ubs uln ubu unu 99 k26) mbX13_reads q2140 ⟨(Nat.le_of_ble_eq_true rfl), (Nat.le_of_ble_eq_true rfl)⟩ ⟨(Nat.le_of_ble_eq_true rfl), (Nat.le_of_ble_eq_true rfl)⟩ hP hD hS hA [0, 1, 2, 3, 4, 5, 6, 7, 8] rfl rfl rfl rfl rfl 0 rfl rfl rfl hl.1 rfl (Nat.le_of_ble_eq_true rfl) dX13_readsC_21 (fun H locs hP hD hS => ?_)
      refine lv_if_eq (tgt := 66) F.1 F.2.1 dX13_readsC_24 (by decide) (fun k27 => ?_) (fun k27 => ?_)
      · replace h := it_t k27 h
        refine lv_iconst (v := 0) F.1 F.2.1 dX13_readsC_66 (by decide) ?_
        cases h
        exact MU_z (v := 0) F hr hlocks (Nat.le_refl _) (Nat.le_refl _) rfl hP hS dX13_readsC_67
      · replace h := it_f k27 h
        refine lv_aload_n F.1 F.2.1 dX13_readsC_27 rfl (lv_at hl 0 rfl) ?_
        refine lv_bipush (v := 101) F.1 F.2.1 dX13_readsC_28 (by decide) ?_
        obtain ⟨z28, k29, h⟩ := bd_ok h
        refine cMV (As := [.int 101]) (rest := []) (ws' := wX13 g a0 a1 a2 a3 a4 a5 a6 a7 a8 uth uch ufc usv ull ubl z28.2 uea ufa uso udn uw uun usr ube ubs uln ubu unu) F hE hX (tX13_reads l dC dI g a0 a1 a2 a3 a4 a5 a6 a7 a8 uth uch ufc usv ull ubl z25.2 uea ufa uso udn uw uun usr ube ubs uln ubu unu 101 k29) mbX13_reads q2140 ⟨(Nat.le_of_ble_eq_true rfl), (Nat.le_of_ble_eq_true rfl)⟩ ⟨(Nat.le_of_ble_eq_true rfl), (Nat.le_of_ble_eq_true rfl)⟩ hP hD hS hA [0, 1, 2, 3, 4, 5, 6, 7, 8] rfl rfl rfl rfl rfl 0 rfl rfl rfl hl.1 rfl (Nat.le_of_ble_eq_true rfl) dX13_readsC_30 (fun H locs hP hD hS => ?_)
        refine lv_if_eq (tgt := 66) F.1 F.2.1 dX13_readsC_33 (by decide) (fun k30 => ?_) (fun k30 => ?_)
        · replace h := it_t k30 h
          refine lv_iconst (v := 0) F.1 F.2.1 dX13_readsC_66 (by decide) ?_
          cases h
          exact MU_z (v := 0) F hr hlocks (Nat.le_refl _) (Nat.le_refl _) rfl hP hS dX13_readsC_67
        · replace h := it_f k30 h
          refine lv_aload_n F.1 F.2.1 dX13_readsC_36 rfl (lv_at hl 0 rfl) ?_
          refine lv_bipush (v := 108) F.1 F.2.1 dX13_readsC_37 (by decide) ?_
          obtain ⟨z31, k32, h⟩ := bd_ok h
          refine cMV (As := [.int 108]) (rest := []) (ws' := wX13 g a0 a1 a2 a3 a4 a5 a6 a7 a8 uth uch ufc usv ull ubl z31.2 uea ufa uso udn uw uun usr ube ubs uln ubu unu) F hE hX (tX13_reads l dC dI g a0 a1 a2 a3 a4 a5 a6 a7 a8 uth uch ufc usv ull ubl z28.2 uea ufa uso udn uw uun usr ube ubs uln ubu unu 108 k32) mbX13_reads q2140 ⟨(Nat.le_of_ble_eq_true rfl), (Nat.le_of_ble_eq_true rfl)⟩ ⟨(Nat.le_of_ble_eq_true rfl), (Nat.le_of_ble_eq_true rfl)⟩ hP hD hS hA [0, 1, 2, 3, 4, 5, 6, 7, 8] rfl rfl rfl rfl rfl 0 rfl rfl rfl hl.1 rfl (Nat.le_of_ble_eq_true rfl) dX13_readsC_39 (fun H locs hP hD hS => ?_)
          refine lv_if_eq (tgt := 66) F.1 F.2.1 dX13_readsC_42 (by decide) (fun k33 => ?_) (fun k33 => ?_)
          · replace h := it_t k33 h
            refine lv_iconst (v := 0) F.1 F.2.1 dX13_readsC_66 (by decide) ?_
            cases h
            exact MU_z (v := 0) F hr hlocks (Nat.le_refl _) (Nat.le_refl _) rfl hP hS dX13_readsC_67
          · replace h := it_f k33 h
            refine lv_aload_n F.1 F.2.1 dX13_readsC_45 rfl (lv_at hl 0 rfl) ?_
            refine lv_bipush (v := 32) F.1 F.2.1 dX13_readsC_46 (by decide) ?_
            obtain ⟨z34, k35, h⟩ := bd_ok h
            refine cMV (As := [.int 32]) (rest := []) (ws' := wX13 g a0 a1 a2 a3 a4 a5 a6 a7 a8 uth uch ufc usv ull ubl z34.2 uea ufa uso udn uw uun usr ube ubs uln ubu unu) F hE hX (tX13_reads l dC dI g a0 a1 a2 a3 a4 a5 a6 a7 a8 uth uch ufc usv ull ubl z31.2 uea ufa uso udn uw uun usr ube ubs uln ubu unu 32 k35) mbX13_reads q2140 ⟨(Nat.le_of_ble_eq_true rfl), (Nat.le_of_ble_eq_true rfl)⟩ ⟨(Nat.le_of_ble_eq_true rfl), (Nat.le_of_ble_eq_true rfl)⟩ hP hD hS hA [0, 1, 2, 3, 4, 5, 6, 7, 8] rfl rfl rfl rfl rfl 0 rfl rfl rfl hl.1 rfl (Nat.le_of_ble_eq_true rfl) dX13_readsC_48 (fun H locs hP hD hS => ?_)
            refine lv_if_eq (tgt := 66) F.1 F.2.1 dX13_readsC_51 (by decide) (fun k36 => ?_) (fun k36 => ?_)
            · replace h := it_t k36 h
              refine lv_iconst (v := 0) F.1 F.2.1 dX13_readsC_66 (by decide) ?_
              cases h
              exact MU_z (v := 0) F hr hlocks (Nat.le_refl _) (Nat.le_refl _) rfl hP hS dX13_readsC_67
            · replace h := it_f k36 h
              refine lv_aload_n F.1 F.2.1 dX13_readsC_54 rfl (lv_at hl 0 rfl) ?_
              refine lv_iconst (v := 0) F.1 F.2.1 dX13_readsC_55 (by decide) ?_
              obtain ⟨z37, k38, h⟩ := bd_ok h
              refine cMV (As := [.int 0]) (rest := []) (ws' := wX13 g a0 a1 a2 a3 a4 a5 a6 a7 a8 uth uch ufc usv ull ubl z37.2.1 uea ufa uso udn uw uun usr ube ubs uln ubu z37.2.2) F hE hX (tX13_readsNumber l dC dI g a0 a1 a2 a3 a4 a5 a6 a7 a8 uth uch ufc usv ull ubl z34.2 uea ufa uso udn uw uun usr ube ubs uln ubu unu 0 k38) mbX13_readsNumber q2148 ⟨(Nat.le_of_ble_eq_true rfl), (Nat.le_of_ble_eq_true rfl)⟩ ⟨(Nat.le_of_ble_eq_true rfl), (Nat.le_of_ble_eq_true rfl)⟩ hP hD hS hA [0, 1, 2, 3, 4, 5, 6, 7, 8] rfl rfl rfl rfl rfl 0 rfl rfl rfl hl.1 rfl (Nat.le_of_ble_eq_true rfl) dX13_readsC_56 (fun H locs hP hD hS => ?_)
              refine lv_if_eq (tgt := 66) F.1 F.2.1 dX13_readsC_59 (by decide) (fun k39 => ?_) (fun k39 => ?_)
              · replace h := it_t k39 h
                refine lv_iconst (v := 0) F.1 F.2.1 dX13_readsC_66 (by decide) ?_
                cases h
                exact MU_z (v := 0) F hr hlocks (Nat.le_refl _) (Nat.le_refl _) rfl hP hS dX13_readsC_67
              · replace h := it_f k39 h
                refine lv_iconst (v := 1) F.1 F.2.1 dX13_readsC_62 (by decide) ?_
                refine lv_goto (tgt := 67) F.1 F.2.1 dX13_readsC_63 (by decide) ?_
                cases h
                exact MU_z (v := 1) F hr hlocks (Nat.le_refl _) (Nat.le_refl _) rfl hP hS dX13_readsC_67
/-! WireCutterModel.readsR -/
def fX13_readsR (ubl : Int32) (uba : Int32) (uso : Int32) (ubu : Nat → Int32) (unu : Nat → Int32) : Option (Int32 × Int32 × Int32 × (Nat → Int32)) :=
  (fX13_reads ubl uba ubu 101).bind fun z1 =>
  if z1.1 = 0 then
    (fX13_reads ubl z1.2 ubu 117).bind fun z4 =>
    if z4.1 = 0 then
      some (0, z4.2, 117, unu)
    else
      (fX13_reads ubl z4.2 ubu 108).bind fun z7 =>
      if z7.1 = 0 then
        some (0, z7.2, 117, unu)
      else
        (fX13_reads ubl z7.2 ubu 101).bind fun z10 =>
        if z10.1 = 0 then
          some (0, z10.2, 117, unu)
        else
          (fX13_reads ubl z10.2 ubu 32).bind fun z13 =>
          if z13.1 = 0 then
            some (0, z13.2, 117, unu)
          else
            (fX13_nextChar ubl z13.2 ubu).bind fun z16 =>
            (fX13_reads ubl z13.2 ubu 98).bind fun z18 =>
            if z18.1 = 0 then
              (fX13_reads ubl z18.2 ubu 119).bind fun z21 =>
              if z21.1 = 0 then
                (fX13_reads ubl z21.2 ubu 102).bind fun z24 =>
                if z24.1 = 0 then
                  some (0, z24.2, 117, upd unu 0 z16)
                else
                  some (1, z24.2, 117, upd unu 0 z16)
              else
                some (1, z21.2, 117, upd unu 0 z16)
            else
              some (1, z18.2, 117, upd unu 0 z16)
  else
    (fX13_reads ubl z1.2 ubu 116).bind fun z27 =>
    if z27.1 = 0 then
      some (0, z27.2, uso, unu)
    else
      (fX13_reads ubl z27.2 ubu 105).bind fun z30 =>
      if z30.1 = 0 then
        some (0, z30.2, uso, unu)
      else
        (fX13_reads ubl z30.2 ubu 114).bind fun z33 =>
        if z33.1 = 0 then
          some (0, z33.2, uso, unu)
        else
          (fX13_reads ubl z33.2 ubu 101).bind fun z36 =>
          if z36.1 = 0 then
            some (0, z36.2, uso, unu)
          else
            (fX13_reads ubl z36.2 ubu 32).bind fun z39 =>
            if z39.1 = 0 then
              some (0, z39.2, uso, unu)
            else
              (fX13_readsNumber ubl z39.2 ubu unu 0).bind fun z42 =>
              if z42.1 = 0 then
                some (0, z42.2.1, uso, z42.2.2)
              else
                some (1, z42.2.1, uso, z42.2.2)
theorem mbX13_readsR : MV yX13_readsR cX13_readsR 1 (some .boolean) 0 := ⟨⟨q2171, q16, by decide +kernel⟩, q2170, qs77⟩
set_option maxHeartbeats 4000000 in
set_option maxRecDepth 100000 in
theorem tX13_readsR (l : Launch) (dC : Nat → ClassId) (dI : Nat → Nat → Nat) (g : Nat → ClassId) (a0 a1 a2 a3 a4 a5 a6 a7 a8 : Nat) (uth : Int32) (uch : Int32) (ufc : Int32) (usv : Int32) (ull : Int32) (ubl : Int32) (uba : Int32) (uea : Int32) (ufa : Int32) (uso : Int32) (udn : Int32) (uw : Nat → Int32) (uun : Nat → Int32) (usr : Nat → Int32) (ube : Nat → Int32) (ubs : Nat → Int32) (uln : Nat → Int32) (ubu : Nat → Int32) (unu : Nat → Int32) {r : Int32 × Int32 × Int32 × (Nat → Int32)} (h : fX13_readsR ubl uba uso ubu unu = some r) : MU l yX13_readsR cX13_readsR 1 (some .boolean) 4 85 0 0 dC dI g [.ref a0] (wX13 g a0 a1 a2 a3 a4 a5 a6 a7 a8 uth uch ufc usv ull ubl uba uea ufa uso udn uw uun usr ube ubs uln ubu unu) (wX13 g a0 a1 a2 a3 a4 a5 a6 a7 a8 uth uch ufc usv ull ubl r.2.1 uea ufa r.2.2.1 udn uw uun usr ube ubs uln ubu r.2.2.2) (some (.int r.1)) := by
  refine MU_of (by decide) (Nat.le_of_ble_eq_true rfl) ?_
  intro p e s m below meth c ls F hr hlocks hE hX hA hP hD hS hl
  generalize va_A (wX13 g a0 a1 a2 a3 a4 a5 a6 a7 a8 uth uch ufc usv ull ubl uba uea ufa uso udn uw uun usr ube ubs uln ubu unu) s.heap.size = A at hA hD hS hX ⊢
  replace F : CF p m c cX13_readsR 1 s _ RX13 := F
  replace hl : lv_has ls 1 [(0, .ref a0)] := hl
  rw [fX13_readsR] at h
  refine lv_aload_n F.1 F.2.1 dX13_readsR_0 rfl (lv_at hl 0 rfl) ?_
  refine lv_bipush (v := 101) F.1 F.2.1 dX13_readsR_1 (by decide) ?_
  obtain ⟨z1, k2, h⟩ := bd_ok h
  refine cMV (As := [.int 101]) (rest := []) (ws' := wX13 g a0 a1 a2 a3 a4 a5 a6 a7 a8 uth uch ufc usv ull ubl z1.2 uea ufa uso udn uw uun usr ube ubs uln ubu unu) F hE hX (tX13_reads l dC dI g a0 a1 a2 a3 a4 a5 a6 a7 a8 uth uch ufc usv ull ubl uba uea ufa uso udn uw uun usr ube ubs uln ubu unu 101 k2) mbX13_reads q2140 ⟨(Nat.le_of_ble_eq_true rfl), (Nat.le_of_ble_eq_true rfl)⟩ ⟨(Nat.le_of_ble_eq_true rfl), (Nat.le_of_ble_eq_true rfl)⟩ hP hD hS hA [0, 1, 2, 3, 4, 5, 6, 7, 8] rfl rfl rfl rfl rfl 0 rfl rfl rfl hl.1 rfl (Nat.le_of_ble_eq_true rfl) dX13_readsR_3 (fun H locs hP hD hS => ?_)
  refine lv_if_eq (tgt := 68) F.1 F.2.1 dX13_readsR_6 (by decide) (fun k3 => ?_) (fun k3 => ?_)
  · replace h := it_t k3 h
    refine lv_aload_n F.1 F.2.1 dX13_readsR_68 rfl (lv_at hl 0 rfl) ?_
    refine lv_bipush (v := 117) F.1 F.2.1 dX13_readsR_69 (by decide) ?_
    refine pF (v := .int 117) F hE hP hD hS 0 rfl rfl inX13 tyX13 tyX13_ok nmX13 17 (by decide) q1701 rfl rfl rfl (Nat.le_of_ble_eq_true rfl) dX13_readsR_71 (fun H locs hP hD hS => ?_)
    replace hP : va_P (dC, dI) vwCl (wX13 g a0 a1 a2 a3 a4 a5 a6 a7 a8 uth uch ufc usv ull ubl z1.2 uea ufa 117 udn uw uun usr ube ubs uln ubu unu) H := hP
    replace hD : va_D A (wX13 g a0 a1 a2 a3 a4 a5 a6 a7 a8 uth uch ufc usv ull ubl z1.2 uea ufa 117 udn uw uun usr ube ubs uln ubu unu) := hD
    refine lv_aload_n F.1 F.2.1 dX13_readsR_74 rfl (lv_at hl 0 rfl) ?_
    refine lv_bipush (v := 117) F.1 F.2.1 dX13_readsR_75 (by decide) ?_
    obtain ⟨z4, k5, h⟩ := bd_ok h
    refine cMV (As := [.int 117]) (rest := []) (ws' := wX13 g a0 a1 a2 a3 a4 a5 a6 a7 a8 uth uch ufc usv ull ubl z4.2 uea ufa 117 udn uw uun usr ube ubs uln ubu unu) F hE hX (tX13_reads l dC dI g a0 a1 a2 a3 a4 a5 a6 a7 a8 uth uch ufc usv ull ubl z1.2 uea ufa 117 udn uw uun usr ube ubs uln ubu unu 117 k5) mbX13_reads q2140 ⟨(Nat.le_of_ble_eq_true rfl), (Nat.le_of_ble_eq_true rfl)⟩ ⟨(Nat.le_of_ble_eq_true rfl), (Nat.le_of_ble_eq_true rfl)⟩ hP hD hS hA [0, 1, 2, 3, 4, 5, 6, 7, 8] rfl rfl rfl rfl rfl 0 rfl rfl rfl hl.1 rfl (Nat.le_of_ble_eq_true rfl) dX13_readsR_77 (fun H locs hP hD hS => ?_)
    refine lv_if_eq (tgt := 110) F.1 F.2.1 dX13_readsR_80 (by decide) (fun k6 => ?_) (fun k6 => ?_)
    · replace h := it_t k6 h
      refine lv_iconst (v := 0) F.1 F.2.1 dX13_readsR_110 (by decide) ?_
      cases h
      exact MU_z (v := 0) F hr hlocks (Nat.le_refl _) (Nat.le_refl _) rfl hP hS dX13_readsR_111
    · replace h := it_f k6 h
      refine lv_aload_n F.1 F.2.1 dX13_readsR_83 rfl (lv_at hl 0 rfl) ?_
      refine lv_bipush (v := 108) F.1 F.2.1 dX13_readsR_84 (by decide) ?_
      obtain ⟨z7, k8, h⟩ := bd_ok h
      refine cMV (As := [.int 108]) (rest := []) (ws' := wX13 g a0 a1 a2 a3 a4 a5 a6 a7 a8 uth uch ufc usv ull ubl z7.2 uea ufa 117 udn uw uun usr ube ubs uln ubu unu) F hE hX (tX13_reads l dC dI g a0 a1 a2 a3 a4 a5 a6 a7 a8 uth uch ufc usv ull ubl z4.2 uea ufa 117 udn uw uun usr ube ubs uln ubu unu 108 k8) mbX13_reads q2140 ⟨(Nat.le_of_ble_eq_true rfl), (Nat.le_of_ble_eq_true rfl)⟩ ⟨(Nat.le_of_ble_eq_true rfl), (Nat.le_of_ble_eq_true rfl)⟩ hP hD hS hA [0, 1, 2, 3, 4, 5, 6, 7, 8] rfl rfl rfl rfl rfl 0 rfl rfl rfl hl.1 rfl (Nat.le_of_ble_eq_true rfl) dX13_readsR_86 (fun H locs hP hD hS => ?_)
      refine lv_if_eq (tgt := 110) F.1 F.2.1 dX13_readsR_89 (by decide) (fun k9 => ?_) (fun k9 => ?_)
      · replace h := it_t k9 h
        refine lv_iconst (v := 0) F.1 F.2.1 dX13_readsR_110 (by decide) ?_
        cases h
        exact MU_z (v := 0) F hr hlocks (Nat.le_refl _) (Nat.le_refl _) rfl hP hS dX13_readsR_111
      · replace h := it_f k9 h
        refine lv_aload_n F.1 F.2.1 dX13_readsR_92 rfl (lv_at hl 0 rfl) ?_
        refine lv_bipush (v := 101) F.1 F.2.1 dX13_readsR_93 (by decide) ?_
        obtain ⟨z10, k11, h⟩ := bd_ok h
        refine cMV (As := [.int 101]) (rest := []) (ws' := wX13 g a0 a1 a2 a3 a4 a5 a6 a7 a8 uth uch ufc usv ull ubl z10.2 uea ufa 117 udn uw uun usr ube ubs uln ubu unu) F hE hX (tX13_reads l dC dI g a0 a1 a2 a3 a4 a5 a6 a7 a8 uth uch ufc usv ull ubl z7.2 uea ufa 117 udn uw uun usr ube ubs uln ubu unu 101 k11) mbX13_reads q2140 ⟨(Nat.le_of_ble_eq_true rfl), (Nat.le_of_ble_eq_true rfl)⟩ ⟨(Nat.le_of_ble_eq_true rfl), (Nat.le_of_ble_eq_true rfl)⟩ hP hD hS hA [0, 1, 2, 3, 4, 5, 6, 7, 8] rfl rfl rfl rfl rfl 0 rfl rfl rfl hl.1 rfl (Nat.le_of_ble_eq_true rfl) dX13_readsR_95 (fun H locs hP hD hS => ?_)
        refine lv_if_eq (tgt := 110) F.1 F.2.1 dX13_readsR_98 (by decide) (fun k12 => ?_) (fun k12 => ?_)
        · replace h := it_t k12 h
          refine lv_iconst (v := 0) F.1 F.2.1 dX13_readsR_110 (by decide) ?_
          cases h
          exact MU_z (v := 0) F hr hlocks (Nat.le_refl _) (Nat.le_refl _) rfl hP hS dX13_readsR_111
        · replace h := it_f k12 h
          refine lv_aload_n F.1 F.2.1 dX13_readsR_101 rfl (lv_at hl 0 rfl) ?_
          refine lv_bipush (v := 32) F.1 F.2.1 dX13_readsR_102 (by decide) ?_
          obtain ⟨z13, k14, h⟩ := bd_ok h
          refine cMV (As := [.int 32]) (rest := []) (ws' := wX13 g a0 a1 a2 a3 a4 a5 a6 a7 a8 uth uch ufc usv ull ubl z13.2 uea ufa 117 udn uw uun usr ube ubs uln ubu unu) F hE hX (tX13_reads l dC dI g a0 a1 a2 a3 a4 a5 a6 a7 a8 uth uch ufc usv ull ubl z10.2 uea ufa 117 udn uw uun usr ube ubs uln ubu unu 32 k14) mbX13_reads q2140 ⟨(Nat.le_of_ble_eq_true rfl), (Nat.le_of_ble_eq_true rfl)⟩ ⟨(Nat.le_of_ble_eq_true rfl), (Nat.le_of_ble_eq_true rfl)⟩ hP hD hS hA [0, 1, 2, 3, 4, 5, 6, 7, 8] rfl rfl rfl rfl rfl 0 rfl rfl rfl hl.1 rfl (Nat.le_of_ble_eq_true rfl) dX13_readsR_104 (fun H locs hP hD hS => ?_)
          refine lv_if_ne (tgt := 112) F.1 F.2.1 dX13_readsR_107 (by decide) (fun k15 => ?_) (fun k15 => ?_)
          · replace h := it_f k15 h
            refine lv_aload_n F.1 F.2.1 dX13_readsR_112 rfl (lv_at hl 0 rfl) ?_
            refine gF (v := .ref a8) F hE hP 0 rfl rfl inX13 16 (by decide) q1700 rfl dX13_readsR_113 ?_
            refine lv_iconst (v := 0) F.1 F.2.1 dX13_readsR_116 (by decide) ?_
            refine lv_aload_n F.1 F.2.1 dX13_readsR_117 rfl (lv_at hl 0 rfl) ?_
            obtain ⟨z16, k17, h⟩ := bd_ok h
            refine cRV (As := []) (rest := [.int 0, .ref a8]) F hE hX hS (tX13_nextChar l dC dI g a0 a1 a2 a3 a4 a5 a6 a7 a8 uth uch ufc usv ull ubl z13.2 uea ufa 117 udn uw uun usr ube ubs uln ubu unu k17) mbX13_nextChar q2136 ⟨(Nat.le_of_ble_eq_true rfl), (Nat.le_of_ble_eq_true rfl)⟩ ⟨Nat.zero_le _, Nat.zero_le _⟩ hP [0, 1, 2, 3, 4, 5, 6, 7, 8] rfl 0 rfl rfl rfl hl.1 rfl (Nat.le_of_ble_eq_true rfl) dX13_readsR_118 ?_
            refine aSi (k := 0) F hE hP hD hS 8 0 rfl rfl (by decide) (by decide) dX13_readsR_121 (fun H locs hP hD hS => ?_)
            replace hP : va_P (dC, dI) vwCl (wX13 g a0 a1 a2 a3 a4 a5 a6 a7 a8 uth uch ufc usv ull ubl z13.2 uea ufa 117 udn uw uun usr ube ubs uln ubu (upd unu 0 z16)) H := hP
            replace hD : va_D A (wX13 g a0 a1 a2 a3 a4 a5 a6 a7 a8 uth uch ufc usv ull ubl z13.2 uea ufa 117 udn uw uun usr ube ubs uln ubu (upd unu 0 z16)) := hD
            refine lv_aload_n F.1 F.2.1 dX13_readsR_122 rfl (lv_at hl 0 rfl) ?_
            refine lv_bipush (v := 98) F.1 F.2.1 dX13_readsR_123 (by decide) ?_
            obtain ⟨z18, k19, h⟩ := bd_ok h
            refine cMV (As := [.int 98]) (rest := []) (ws' := wX13 g a0 a1 a2 a3 a4 a5 a6 a7 a8 uth uch ufc usv ull ubl z18.2 uea ufa 117 udn uw uun usr ube ubs uln ubu (upd unu 0 z16)) F hE hX (tX13_reads l dC dI g a0 a1 a2 a3 a4 a5 a6 a7 a8 uth uch ufc usv ull ubl z13.2 uea ufa 117 udn uw uun usr ube ubs uln ubu (upd unu 0 z16) 98 k19) mbX13_reads q2140 ⟨(Nat.le_of_ble_eq_true rfl), (Nat.le_of_ble_eq_true rfl)⟩ ⟨(Nat.le_of_ble_eq_true rfl), (Nat.le_of_ble_eq_true rfl)⟩ hP hD hS hA [0, 1, 2, 3, 4, 5, 6, 7, 8] rfl rfl rfl rfl rfl 0 rfl rfl rfl hl.1 rfl (Nat.le_of_ble_eq_true rfl) dX13_readsR_125 (fun H locs hP hD hS => ?_)
            refine lv_if_ne (tgt := 149) F.1 F.2.1 dX13_readsR_128 (by decide) (fun k20 => ?_) (fun k20 => ?_)
            · replace h := it_f k20 h
              refine lv_iconst (v := 1) F.1 F.2.1 dX13_readsR_149 (by decide) ?_
              refine lv_goto (tgt := 154) F.1 F.2.1 dX13_readsR_150 (by decide) ?_
              cases h
              exact MU_z (v := 1) F hr hlocks (Nat.le_refl _) (Nat.le_refl _) rfl hP hS dX13_readsR_154
            · replace h := it_t k20 h
              refine lv_aload_n F.1 F.2.1 dX13_readsR_131 rfl (lv_at hl 0 rfl) ?_
              refine lv_bipush (v := 119) F.1 F.2.1 dX13_readsR_132 (by decide) ?_
              obtain ⟨z21, k22, h⟩ := bd_ok h
              refine cMV (As := [.int 119]) (rest := []) (ws' := wX13 g a0 a1 a2 a3 a4 a5 a6 a7 a8 uth uch ufc usv ull ubl z21.2 uea ufa 117 udn uw uun usr ube ubs uln ubu (upd unu 0 z16)) F hE hX (tX13_reads l dC dI g a0 a1 a2 a3 a4 a5 a6 a7 a8 uth uch ufc usv ull ubl z18.2 uea ufa 117 udn uw uun usr ube ubs uln ubu (upd unu 0 z16) 119 k22) mbX13_reads q2140 ⟨(Nat.le_of_ble_eq_true rfl), (Nat.le_of_ble_eq_true rfl)⟩ ⟨(Nat.le_of_ble_eq_true rfl), (Nat.le_of_ble_eq_true rfl)⟩ hP hD hS hA [0, 1, 2, 3, 4, 5, 6, 7, 8] rfl rfl rfl rfl rfl 0 rfl rfl rfl hl.1 rfl (Nat.le_of_ble_eq_true rfl) dX13_readsR_134 (fun H locs hP hD hS => ?_)
              refine lv_if_ne (tgt := 149) F.1 F.2.1 dX13_readsR_137 (by decide) (fun k23 => ?_) (fun k23 => ?_)
              · replace h := it_f k23 h
                refine lv_iconst (v := 1) F.1 F.2.1 dX13_readsR_149 (by decide) ?_
                refine lv_goto (tgt := 154) F.1 F.2.1 dX13_readsR_150 (by decide) ?_
                cases h
                exact MU_z (v := 1) F hr hlocks (Nat.le_refl _) (Nat.le_refl _) rfl hP hS dX13_readsR_154
              · replace h := it_t k23 h
                refine lv_aload_n F.1 F.2.1 dX13_readsR_140 rfl (lv_at hl 0 rfl) ?_
                refine lv_bipush (v := 102) F.1 F.2.1 dX13_readsR_141 (by decide) ?_
                obtain ⟨z24, k25, h⟩ := bd_ok h
                refine cMV (As := [.int 102]) (rest := []) (ws' := wX13 g a0 a1 a2 a3 a4 a5 a6 a7 a8 uth uch ufc usv ull ubl z24.2 uea ufa 117 udn uw uun usr ube ubs uln ubu (upd unu 0 z16)) F hE hX (tX13_reads l dC dI g a0 a1 a2 a3 a4 a5 a6 a7 a8 uth uch ufc usv ull ubl z21.2 uea ufa 117 udn uw uun usr ube ubs uln ubu (upd unu 0 z16) 102 k25) mbX13_reads q2140 ⟨(Nat.le_of_ble_eq_true rfl), (Nat.le_of_ble_eq_true rfl)⟩ ⟨(Nat.le_of_ble_eq_true rfl), (Nat.le_of_ble_eq_true rfl)⟩ hP hD hS hA [0, 1, 2, 3, 4, 5, 6, 7, 8] rfl rfl rfl rfl rfl 0 rfl rfl rfl hl.1 rfl (Nat.le_of_ble_eq_true rfl) dX13_readsR_143 (fun H locs hP hD hS => ?_)
                refine lv_if_eq (tgt := 153) F.1 F.2.1 dX13_readsR_146 (by decide) (fun k26 => ?_) (fun k26 => ?_)
                · replace h := it_t k26 h
                  refine lv_iconst (v := 0) F.1 F.2.1 dX13_readsR_153 (by decide) ?_
                  cases h
                  exact MU_z (v := 0) F hr hlocks (Nat.le_refl _) (Nat.le_refl _) rfl hP hS dX13_readsR_154
                · replace h := it_f k26 h
                  refine lv_iconst (v := 1) F.1 F.2.1 dX13_readsR_149 (by decide) ?_
                  refine lv_goto (tgt := 154) F.1 F.2.1 dX13_readsR_150 (by decide) ?_
                  cases h
                  exact MU_z (v := 1) F hr hlocks (Nat.le_refl _) (Nat.le_refl _) rfl hP hS dX13_readsR_154
          · replace h := it_t k15 h
            refine lv_iconst (v := 0) F.1 F.2.1 dX13_readsR_110 (by decide) ?_
            cases h
            exact MU_z (v := 0) F hr hlocks (Nat.le_refl _) (Nat.le_refl _) rfl hP hS dX13_readsR_111
  · replace h := it_f k3 h
    refine lv_aload_n F.1 F.2.1 dX13_readsR_9 rfl (lv_at hl 0 rfl) ?_
    refine lv_bipush (v := 116) F.1 F.2.1 dX13_readsR_10 (by decide) ?_
    obtain ⟨z27, k28, h⟩ := bd_ok h
    refine cMV (As := [.int 116]) (rest := []) (ws' := wX13 g a0 a1 a2 a3 a4 a5 a6 a7 a8 uth uch ufc usv ull ubl z27.2 uea ufa uso udn uw uun usr ube ubs uln ubu unu) F hE hX (tX13_reads l dC dI g a0 a1 a2 a3 a4 a5 a6 a7 a8 uth uch ufc usv ull ubl z1.2 uea ufa uso udn uw uun usr ube ubs uln ubu unu 116 k28) mbX13_reads q2140 ⟨(Nat.le_of_ble_eq_true rfl), (Nat.le_of_ble_eq_true rfl)⟩ ⟨(Nat.le_of_ble_eq_true rfl), (Nat.le_of_ble_eq_true rfl)⟩ hP hD hS hA [0, 1, 2, 3, 4, 5, 6, 7, 8] rfl rfl rfl rfl rfl 0 rfl rfl rfl hl.1 rfl (Nat.le_of_ble_eq_true rfl) dX13_readsR_12 (fun H locs hP hD hS => ?_)
    refine lv_if_eq (tgt := 66) F.1 F.2.1 dX13_readsR_15 (by decide) (fun k29 => ?_) (fun k29 => ?_)
    · replace h := it_t k29 h
      refine lv_iconst (v := 0) F.1 F.2.1 dX13_readsR_66 (by decide) ?_
      cases h
      exact MU_z (v := 0) F hr hlocks (Nat.le_refl _) (Nat.le_refl _) rfl hP hS dX13_readsR_67
    · replace h := it_f k29 h
      refine lv_aload_n F.1 F.2.1 dX13_readsR_18 rfl (lv_at hl 0 rfl) ?_
      refine lv_bipush (v := 105) F.1 F.2.1 dX13_readsR_19 (by decide) ?_
      obtain ⟨z30, k31, h⟩ := bd_ok h
      refine cMV (As := [.int 105]) (rest := []) (ws' := wX13 g a0 a1 a2 a3 a4 a5 a6 a7 a8 uth uch ufc usv ull ubl z30.2 uea ufa uso udn uw uun usr ube ubs uln ubu unu) F hE hX (tX13_reads l dC dI g a0 a1 a2 a3 a4 a5 a6 a7 a8 uth uch ufc usv ull ubl z27.2 uea ufa uso udn uw uun usr ube ubs uln ubu unu 105 k31) mbX13_reads q2140 ⟨(Nat.le_of_ble_eq_true rfl), (Nat.le_of_ble_eq_true rfl)⟩ ⟨(Nat.le_of_ble_eq_true rfl), (Nat.le_of_ble_eq_true rfl)⟩ hP hD hS hA [0, 1, 2, 3, 4, 5, 6, 7, 8] rfl rfl rfl rfl rfl 0 rfl rfl rfl hl.1 rfl (Nat.le_of_ble_eq_true rfl) dX13_readsR_21 (fun H locs hP hD hS => ?_)
      refine lv_if_eq (tgt := 66) F.1 F.2.1 dX13_readsR_24 (by decide) (fun k32 => ?_) (fun k32 => ?_)
      · replace h := it_t k32 h
        refine lv_iconst (v := 0) F.1 F.2.1 dX13_readsR_66 (by decide) ?_
        cases h
        exact MU_z (v := 0) F hr hlocks (Nat.le_refl _) (Nat.le_refl _) rfl hP hS dX13_readsR_67
      · replace h := it_f k32 h
        refine lv_aload_n F.1 F.2.1 dX13_readsR_27 rfl (lv_at hl 0 rfl) ?_
        refine lv_bipush (v := 114) F.1 F.2.1 dX13_readsR_28 (by decide) ?_
        obtain ⟨z33, k34, h⟩ := bd_ok h
        refine cMV (As := [.int 114]) (rest := []) (ws' := wX13 g a0 a1 a2 a3 a4 a5 a6 a7 a8 uth uch ufc usv ull ubl z33.2 uea ufa uso udn uw uun usr ube ubs uln ubu unu) F hE hX (tX13_reads l dC dI g a0 a1 a2 a3 a4 a5 a6 a7 a8 uth uch ufc usv ull ubl z30.2 uea ufa uso udn uw uun usr ube ubs uln ubu unu 114 k34) mbX13_reads q2140 ⟨(Nat.le_of_ble_eq_true rfl), (Nat.le_of_ble_eq_true rfl)⟩ ⟨(Nat.le_of_ble_eq_true rfl), (Nat.le_of_ble_eq_true rfl)⟩ hP hD hS hA [0, 1, 2, 3, 4, 5, 6, 7, 8] rfl rfl rfl rfl rfl 0 rfl rfl rfl hl.1 rfl (Nat.le_of_ble_eq_true rfl) dX13_readsR_30 (fun H locs hP hD hS => ?_)
        refine lv_if_eq (tgt := 66) F.1 F.2.1 dX13_readsR_33 (by decide) (fun k35 => ?_) (fun k35 => ?_)
        · replace h := it_t k35 h
          refine lv_iconst (v := 0) F.1 F.2.1 dX13_readsR_66 (by decide) ?_
          cases h
          exact MU_z (v := 0) F hr hlocks (Nat.le_refl _) (Nat.le_refl _) rfl hP hS dX13_readsR_67
        · replace h := it_f k35 h
          refine lv_aload_n F.1 F.2.1 dX13_readsR_36 rfl (lv_at hl 0 rfl) ?_
          refine lv_bipush (v := 101) F.1 F.2.1 dX13_readsR_37 (by decide) ?_
          obtain ⟨z36, k37, h⟩ := bd_ok h
          refine cMV (As := [.int 101]) (rest := []) (ws' := wX13 g a0 a1 a2 a3 a4 a5 a6 a7 a8 uth uch ufc usv ull ubl z36.2 uea ufa uso udn uw uun usr ube ubs uln ubu unu) F hE hX (tX13_reads l dC dI g a0 a1 a2 a3 a4 a5 a6 a7 a8 uth uch ufc usv ull ubl z33.2 uea ufa uso udn uw uun usr ube ubs uln ubu unu 101 k37) mbX13_reads q2140 ⟨(Nat.le_of_ble_eq_true rfl), (Nat.le_of_ble_eq_true rfl)⟩ ⟨(Nat.le_of_ble_eq_true rfl), (Nat.le_of_ble_eq_true rfl)⟩ hP hD hS hA [0, 1, 2, 3, 4, 5, 6, 7, 8] rfl rfl rfl rfl rfl 0 rfl rfl rfl hl.1 rfl (Nat.le_of_ble_eq_true rfl) dX13_readsR_39 (fun H locs hP hD hS => ?_)
          refine lv_if_eq (tgt := 66) F.1 F.2.1 dX13_readsR_42 (by decide) (fun k38 => ?_) (fun k38 => ?_)
          · replace h := it_t k38 h
            refine lv_iconst (v := 0) F.1 F.2.1 dX13_readsR_66 (by decide) ?_
            cases h
            exact MU_z (v := 0) F hr hlocks (Nat.le_refl _) (Nat.le_refl _) rfl hP hS dX13_readsR_67
          · replace h := it_f k38 h
            refine lv_aload_n F.1 F.2.1 dX13_readsR_45 rfl (lv_at hl 0 rfl) ?_
            refine lv_bipush (v := 32) F.1 F.2.1 dX13_readsR_46 (by decide) ?_
            obtain ⟨z39, k40, h⟩ := bd_ok h
            refine cMV (As := [.int 32]) (rest := []) (ws' := wX13 g a0 a1 a2 a3 a4 a5 a6 a7 a8 uth uch ufc usv ull ubl z39.2 uea ufa uso udn uw uun usr ube ubs uln ubu unu) F hE hX (tX13_reads l dC dI g a0 a1 a2 a3 a4 a5 a6 a7 a8 uth uch ufc usv ull ubl z36.2 uea ufa uso udn uw uun usr ube ubs uln ubu unu 32 k40) mbX13_reads q2140 ⟨(Nat.le_of_ble_eq_true rfl), (Nat.le_of_ble_eq_true rfl)⟩ ⟨(Nat.le_of_ble_eq_true rfl), (Nat.le_of_ble_eq_true rfl)⟩ hP hD hS hA [0, 1, 2, 3, 4, 5, 6, 7, 8] rfl rfl rfl rfl rfl 0 rfl rfl rfl hl.1 rfl (Nat.le_of_ble_eq_true rfl) dX13_readsR_48 (fun H locs hP hD hS => ?_)
            refine lv_if_eq (tgt := 66) F.1 F.2.1 dX13_readsR_51 (by decide) (fun k41 => ?_) (fun k41 => ?_)
            · replace h := it_t k41 h
              refine lv_iconst (v := 0) F.1 F.2.1 dX13_readsR_66 (by decide) ?_
              cases h
              exact MU_z (v := 0) F hr hlocks (Nat.le_refl _) (Nat.le_refl _) rfl hP hS dX13_readsR_67
            · replace h := it_f k41 h
              refine lv_aload_n F.1 F.2.1 dX13_readsR_54 rfl (lv_at hl 0 rfl) ?_
              refine lv_iconst (v := 0) F.1 F.2.1 dX13_readsR_55 (by decide) ?_
              obtain ⟨z42, k43, h⟩ := bd_ok h
              refine cMV (As := [.int 0]) (rest := []) (ws' := wX13 g a0 a1 a2 a3 a4 a5 a6 a7 a8 uth uch ufc usv ull ubl z42.2.1 uea ufa uso udn uw uun usr ube ubs uln ubu z42.2.2) F hE hX (tX13_readsNumber l dC dI g a0 a1 a2 a3 a4 a5 a6 a7 a8 uth uch ufc usv ull ubl z39.2 uea ufa uso udn uw uun usr ube ubs uln ubu unu 0 k43) mbX13_readsNumber q2148 ⟨(Nat.le_of_ble_eq_true rfl), (Nat.le_of_ble_eq_true rfl)⟩ ⟨(Nat.le_of_ble_eq_true rfl), (Nat.le_of_ble_eq_true rfl)⟩ hP hD hS hA [0, 1, 2, 3, 4, 5, 6, 7, 8] rfl rfl rfl rfl rfl 0 rfl rfl rfl hl.1 rfl (Nat.le_of_ble_eq_true rfl) dX13_readsR_56 (fun H locs hP hD hS => ?_)
              refine lv_if_eq (tgt := 66) F.1 F.2.1 dX13_readsR_59 (by decide) (fun k44 => ?_) (fun k44 => ?_)
              · replace h := it_t k44 h
                refine lv_iconst (v := 0) F.1 F.2.1 dX13_readsR_66 (by decide) ?_
                cases h
                exact MU_z (v := 0) F hr hlocks (Nat.le_refl _) (Nat.le_refl _) rfl hP hS dX13_readsR_67
              · replace h := it_f k44 h
                refine lv_iconst (v := 1) F.1 F.2.1 dX13_readsR_62 (by decide) ?_
                refine lv_goto (tgt := 67) F.1 F.2.1 dX13_readsR_63 (by decide) ?_
                cases h
                exact MU_z (v := 1) F hr hlocks (Nat.le_refl _) (Nat.le_refl _) rfl hP hS dX13_readsR_67
/-! WireCutterModel.readsCommand -/
def fX13_readsCommand (ubl : Int32) (uba : Int32) (ubu : Nat → Int32) (unu : Nat → Int32) : Option (Int32 × Int32 × Int32 × (Nat → Int32)) :=
  (fX13_nextChar ubl uba ubu).bind fun z1 =>
  (fX13_reads ubl uba ubu 115).bind fun z3 =>
  if z3.1 = 0 then
    (fX13_reads ubl z3.2 ubu 111).bind fun z6 =>
    if z6.1 = 0 then
      (fX13_reads ubl z6.2 ubu 99).bind fun z9 =>
      if z9.1 = 0 then
        (fX13_reads ubl z9.2 ubu 102).bind fun z12 =>
        if z12.1 = 0 then
          (fX13_reads ubl z12.2 ubu 100).bind fun z15 =>
          if z15.1 = 0 then
            (fX13_reads ubl z15.2 ubu 114).bind fun z18 =>
            if z18.1 = 0 then
              (fX13_reads ubl z18.2 ubu 107).bind fun z21 =>
              if z21.1 = 0 then
                (fX13_reads ubl z21.2 ubu 108).bind fun z24 =>
                if z24.1 = 0 then
                  some (0, z24.2, z1, unu)
                else
                  (fX13_reads ubl z24.2 ubu 105).bind fun z27 =>
                  if z27.1 = 0 then
                    some (0, z27.2, z1, unu)
                  else
                    (fX13_reads ubl z27.2 ubu 109).bind fun z30 =>
                    if z30.1 = 0 then
                      some (0, z30.2, z1, unu)
                    else
                      (fX13_reads ubl z30.2 ubu 105).bind fun z33 =>
                      if z33.1 = 0 then
                        some (0, z33.2, z1, unu)
                      else
                        (fX13_reads ubl z33.2 ubu 116).bind fun z36 =>
                        if z36.1 = 0 then
                          some (0, z36.2, z1, unu)
                        else
                          (fX13_reads ubl z36.2 ubu 32).bind fun z39 =>
                          if z39.1 = 0 then
                            some (0, z39.2, z1, unu)
                          else
                            (fX13_readsNumber ubl z39.2 ubu unu 0).bind fun z42 =>
                            if z42.1 = 0 then
                              some (0, z42.2.1, z1, z42.2.2)
                            else
                              some (1, z42.2.1, z1, z42.2.2)
              else
                (fX13_reads ubl z21.2 ubu 101).bind fun z45 =>
                if z45.1 = 0 then
                  some (0, z45.2, z1, unu)
                else
                  (fX13_reads ubl z45.2 ubu 114).bind fun z48 =>
                  if z48.1 = 0 then
                    some (0, z48.2, z1, unu)
                  else
                    (fX13_reads ubl z48.2 ubu 102).bind fun z51 =>
                    if z51.1 = 0 then
                      some (0, z51.2, z1, unu)
                    else
                      (fX13_reads ubl z51.2 ubu 32).bind fun z54 =>
                      if z54.1 = 0 then
                        some (0, z54.2, z1, unu)
                      else
                        (fX13_readsDigit ubl z54.2 ubu unu 0).bind fun z57 =>
                        if z57.1 = 0 then
                          some (0, z57.2.1, z1, z57.2.2)
                        else
                          some (1, z57.2.1, z1, z57.2.2)
            else
              (fX13_readsR ubl z18.2 z1 ubu unu).bind fun z60 =>
              gd (isB z60.1) <|
              some (z60.1, z60.2.1, z60.2.2.1, z60.2.2.2)
          else
            (fX13_reads ubl z15.2 ubu 117).bind fun z63 =>
            if z63.1 = 0 then
              some (0, z63.2, z1, unu)
            else
              (fX13_reads ubl z63.2 ubu 101).bind fun z66 =>
              if z66.1 = 0 then
                some (0, z66.2, z1, unu)
              else
                (fX13_reads ubl z66.2 ubu 32).bind fun z69 =>
                if z69.1 = 0 then
                  some (0, z69.2, z1, unu)
                else
                  (fX13_readsNumber ubl z69.2 ubu unu 0).bind fun z72 =>
                  if z72.1 = 0 then
                    some (0, z72.2.1, z1, z72.2.2)
                  else
                    some (1, z72.2.1, z1, z72.2.2)
        else
          (fX13_reads ubl z12.2 ubu 105).bind fun z75 =>
          if z75.1 = 0 then
            some (0, z75.2, z1, unu)
          else
            (fX13_reads ubl z75.2 ubu 108).bind fun z78 =>
            if z78.1 = 0 then
              some (0, z78.2, z1, unu)
            else
              (fX13_reads ubl z78.2 ubu 108).bind fun z81 =>
              if z81.1 = 0 then
                some (0, z81.2, z1, unu)
              else
                (fX13_reads ubl z81.2 ubu 32).bind fun z84 =>
                if z84.1 = 0 then
                  some (0, z84.2, z1, unu)
                else
                  (fX13_readsNumber ubl z84.2 ubu unu 0).bind fun z87 =>
                  if z87.1 = 0 then
                    some (0, z87.2.1, z1, z87.2.2)
                  else
                    some (1, z87.2.1, z1, z87.2.2)
      else
        (fX13_readsC ubl z9.2 z1 ubu unu).bind fun z90 =>
        gd (isB z90.1) <|
        some (z90.1, z90.2.1, z90.2.2.1, z90.2.2.2)
    else
      (fX13_readsOrder ubl z6.2 ubu unu).bind fun z93 =>
      gd (isB z93.1) <|
      some (z93.1, z93.2.1, z1, z93.2.2)
  else
    (fX13_reads ubl z3.2 ubu 112).bind fun z96 =>
    if z96.1 = 0 then
      some (0, z96.2, z1, unu)
    else
      (fX13_reads ubl z96.2 ubu 111).bind fun z99 =>
      if z99.1 = 0 then
        some (0, z99.2, z1, unu)
      else
        (fX13_reads ubl z99.2 ubu 111).bind fun z102 =>
        if z102.1 = 0 then
          some (0, z102.2, z1, unu)
        else
          (fX13_reads ubl z102.2 ubu 108).bind fun z105 =>
          if z105.1 = 0 then
            some (0, z105.2, z1, unu)
          else
            (fX13_reads ubl z105.2 ubu 32).bind fun z108 =>
            if z108.1 = 0 then
              some (0, z108.2, z1, unu)
            else
              (fX13_readsMaterial ubl z108.2 ubu unu).bind fun z111 =>
              if z111.1 = 0 then
                some (0, z111.2.1, z1, z111.2.2)
              else
                (fX13_readsNumber ubl z111.2.1 ubu z111.2.2 1).bind fun z114 =>
                if z114.1 = 0 then
                  some (0, z114.2.1, z1, z114.2.2)
                else
                  some (1, z114.2.1, z1, z114.2.2)
theorem mbX13_readsCommand : MV yX13_readsCommand cX13_readsCommand 1 (some .boolean) 0 := ⟨⟨q2135, q16, by decide +kernel⟩, q2134, qs68⟩
set_option maxHeartbeats 4000000 in
set_option maxRecDepth 100000 in
theorem tX13_readsCommand (l : Launch) (dC : Nat → ClassId) (dI : Nat → Nat → Nat) (g : Nat → ClassId) (a0 a1 a2 a3 a4 a5 a6 a7 a8 : Nat) (uth : Int32) (uch : Int32) (ufc : Int32) (usv : Int32) (ull : Int32) (ubl : Int32) (uba : Int32) (uea : Int32) (ufa : Int32) (uso : Int32) (udn : Int32) (uw : Nat → Int32) (uun : Nat → Int32) (usr : Nat → Int32) (ube : Nat → Int32) (ubs : Nat → Int32) (uln : Nat → Int32) (ubu : Nat → Int32) (unu : Nat → Int32) {r : Int32 × Int32 × Int32 × (Nat → Int32)} (h : fX13_readsCommand ubl uba ubu unu = some r) : MU l yX13_readsCommand cX13_readsCommand 1 (some .boolean) 5 105 0 0 dC dI g [.ref a0] (wX13 g a0 a1 a2 a3 a4 a5 a6 a7 a8 uth uch ufc usv ull ubl uba uea ufa uso udn uw uun usr ube ubs uln ubu unu) (wX13 g a0 a1 a2 a3 a4 a5 a6 a7 a8 uth uch ufc usv ull ubl r.2.1 uea ufa r.2.2.1 udn uw uun usr ube ubs uln ubu r.2.2.2) (some (.int r.1)) := by
  refine MU_of (by decide) (Nat.le_of_ble_eq_true rfl) ?_
  intro p e s m below meth c ls F hr hlocks hE hX hA hP hD hS hl
  generalize va_A (wX13 g a0 a1 a2 a3 a4 a5 a6 a7 a8 uth uch ufc usv ull ubl uba uea ufa uso udn uw uun usr ube ubs uln ubu unu) s.heap.size = A at hA hD hS hX ⊢
  replace F : CF p m c cX13_readsCommand 1 s _ RX13 := F
  replace hl : lv_has ls 1 [(0, .ref a0)] := hl
  rw [fX13_readsCommand] at h
  refine lv_aload_n F.1 F.2.1 dX13_readsCommand_0 rfl (lv_at hl 0 rfl) ?_
  refine lv_aload_n F.1 F.2.1 dX13_readsCommand_1 rfl (lv_at hl 0 rfl) ?_
  obtain ⟨z1, k2, h⟩ := bd_ok h
  refine cRV (As := []) (rest := [.ref a0]) F hE hX hS (tX13_nextChar l dC dI g a0 a1 a2 a3 a4 a5 a6 a7 a8 uth uch ufc usv ull ubl uba uea ufa uso udn uw uun usr ube ubs uln ubu unu k2) mbX13_nextChar q2136 ⟨(Nat.le_of_ble_eq_true rfl), (Nat.le_of_ble_eq_true rfl)⟩ ⟨Nat.zero_le _, Nat.zero_le _⟩ hP [0, 1, 2, 3, 4, 5, 6, 7, 8] rfl 0 rfl rfl rfl hl.1 rfl (Nat.le_of_ble_eq_true rfl) dX13_readsCommand_2 ?_
  refine pF (v := .int z1) F hE hP hD hS 0 rfl rfl inX13 tyX13 tyX13_ok nmX13 17 (by decide) q1701 rfl rfl rfl (Nat.le_of_ble_eq_true rfl) dX13_readsCommand_5 (fun H locs hP hD hS => ?_)
  replace hP : va_P (dC, dI) vwCl (wX13 g a0 a1 a2 a3 a4 a5 a6 a7 a8 uth uch ufc usv ull ubl uba uea ufa z1 udn uw uun usr ube ubs uln ubu unu) H := hP
  replace hD : va_D A (wX13 g a0 a1 a2 a3 a4 a5 a6 a7 a8 uth uch ufc usv ull ubl uba uea ufa z1 udn uw uun usr ube ubs uln ubu unu) := hD
  refine lv_aload_n F.1 F.2.1 dX13_readsCommand_8 rfl (lv_at hl 0 rfl) ?_
  refine lv_bipush (v := 115) F.1 F.2.1 dX13_readsCommand_9 (by decide) ?_
  obtain ⟨z3, k4, h⟩ := bd_ok h
  refine cMV (As := [.int 115]) (rest := []) (ws' := wX13 g a0 a1 a2 a3 a4 a5 a6 a7 a8 uth uch ufc usv ull ubl z3.2 uea ufa z1 udn uw uun usr ube ubs uln ubu unu) F hE hX (tX13_reads l dC dI g a0 a1 a2 a3 a4 a5 a6 a7 a8 uth uch ufc usv ull ubl uba uea ufa z1 udn uw uun usr ube ubs uln ubu unu 115 k4) mbX13_reads q2140 ⟨(Nat.le_of_ble_eq_true rfl), (Nat.le_of_ble_eq_true rfl)⟩ ⟨(Nat.le_of_ble_eq_true rfl), (Nat.le_of_ble_eq_true rfl)⟩ hP hD hS hA [0, 1, 2, 3, 4, 5, 6, 7, 8] rfl rfl rfl rfl rfl 0 rfl rfl rfl hl.1 rfl (Nat.le_of_ble_eq_true rfl) dX13_readsCommand_11 (fun H locs hP hD hS => ?_)
  refine lv_if_eq (tgt := 83) F.1 F.2.1 dX13_readsCommand_14 (by decide) (fun k5 => ?_) (fun k5 => ?_)
  · replace h := it_t k5 h
    refine lv_aload_n F.1 F.2.1 dX13_readsCommand_83 rfl (lv_at hl 0 rfl) ?_
    refine lv_bipush (v := 111) F.1 F.2.1 dX13_readsCommand_84 (by decide) ?_
    obtain ⟨z6, k7, h⟩ := bd_ok h
    refine cMV (As := [.int 111]) (rest := []) (ws' := wX13 g a0 a1 a2 a3 a4 a5 a6 a7 a8 uth uch ufc usv ull ubl z6.2 uea ufa z1 udn uw uun usr ube ubs uln ubu unu) F hE hX (tX13_reads l dC dI g a0 a1 a2 a3 a4 a5 a6 a7 a8 uth uch ufc usv ull ubl z3.2 uea ufa z1 udn uw uun usr ube ubs uln ubu unu 111 k7) mbX13_reads q2140 ⟨(Nat.le_of_ble_eq_true rfl), (Nat.le_of_ble_eq_true rfl)⟩ ⟨(Nat.le_of_ble_eq_true rfl), (Nat.le_of_ble_eq_true rfl)⟩ hP hD hS hA [0, 1, 2, 3, 4, 5, 6, 7, 8] rfl rfl rfl rfl rfl 0 rfl rfl rfl hl.1 rfl (Nat.le_of_ble_eq_true rfl) dX13_readsCommand_86 (fun H locs hP hD hS => ?_)
    refine lv_if_eq (tgt := 97) F.1 F.2.1 dX13_readsCommand_89 (by decide) (fun k8 => ?_) (fun k8 => ?_)
    · replace h := it_t k8 h
      refine lv_aload_n F.1 F.2.1 dX13_readsCommand_97 rfl (lv_at hl 0 rfl) ?_
      refine lv_bipush (v := 99) F.1 F.2.1 dX13_readsCommand_98 (by decide) ?_
      obtain ⟨z9, k10, h⟩ := bd_ok h
      refine cMV (As := [.int 99]) (rest := []) (ws' := wX13 g a0 a1 a2 a3 a4 a5 a6 a7 a8 uth uch ufc usv ull ubl z9.2 uea ufa z1 udn uw uun usr ube ubs uln ubu unu) F hE hX (tX13_reads l dC dI g a0 a1 a2 a3 a4 a5 a6 a7 a8 uth uch ufc usv ull ubl z6.2 uea ufa z1 udn uw uun usr ube ubs uln ubu unu 99 k10) mbX13_reads q2140 ⟨(Nat.le_of_ble_eq_true rfl), (Nat.le_of_ble_eq_true rfl)⟩ ⟨(Nat.le_of_ble_eq_true rfl), (Nat.le_of_ble_eq_true rfl)⟩ hP hD hS hA [0, 1, 2, 3, 4, 5, 6, 7, 8] rfl rfl rfl rfl rfl 0 rfl rfl rfl hl.1 rfl (Nat.le_of_ble_eq_true rfl) dX13_readsCommand_100 (fun H locs hP hD hS => ?_)
      refine lv_if_eq (tgt := 111) F.1 F.2.1 dX13_readsCommand_103 (by decide) (fun k11 => ?_) (fun k11 => ?_)
      · replace h := it_t k11 h
        refine lv_aload_n F.1 F.2.1 dX13_readsCommand_111 rfl (lv_at hl 0 rfl) ?_
        refine lv_bipush (v := 102) F.1 F.2.1 dX13_readsCommand_112 (by decide) ?_
        obtain ⟨z12, k13, h⟩ := bd_ok h
        refine cMV (As := [.int 102]) (rest := []) (ws' := wX13 g a0 a1 a2 a3 a4 a5 a6 a7 a8 uth uch ufc usv ull ubl z12.2 uea ufa z1 udn uw uun usr ube ubs uln ubu unu) F hE hX (tX13_reads l dC dI g a0 a1 a2 a3 a4 a5 a6 a7 a8 uth uch ufc usv ull ubl z9.2 uea ufa z1 udn uw uun usr ube ubs uln ubu unu 102 k13) mbX13_reads q2140 ⟨(Nat.le_of_ble_eq_true rfl), (Nat.le_of_ble_eq_true rfl)⟩ ⟨(Nat.le_of_ble_eq_true rfl), (Nat.le_of_ble_eq_true rfl)⟩ hP hD hS hA [0, 1, 2, 3, 4, 5, 6, 7, 8] rfl rfl rfl rfl rfl 0 rfl rfl rfl hl.1 rfl (Nat.le_of_ble_eq_true rfl) dX13_readsCommand_114 (fun H locs hP hD hS => ?_)
        refine lv_if_eq (tgt := 170) F.1 F.2.1 dX13_readsCommand_117 (by decide) (fun k14 => ?_) (fun k14 => ?_)
        · replace h := it_t k14 h
          refine lv_aload_n F.1 F.2.1 dX13_readsCommand_170 rfl (lv_at hl 0 rfl) ?_
          refine lv_bipush (v := 100) F.1 F.2.1 dX13_readsCommand_171 (by decide) ?_
          obtain ⟨z15, k16, h⟩ := bd_ok h
          refine cMV (As := [.int 100]) (rest := []) (ws' := wX13 g a0 a1 a2 a3 a4 a5 a6 a7 a8 uth uch ufc usv ull ubl z15.2 uea ufa z1 udn uw uun usr ube ubs uln ubu unu) F hE hX (tX13_reads l dC dI g a0 a1 a2 a3 a4 a5 a6 a7 a8 uth uch ufc usv ull ubl z12.2 uea ufa z1 udn uw uun usr ube ubs uln ubu unu 100 k16) mbX13_reads q2140 ⟨(Nat.le_of_ble_eq_true rfl), (Nat.le_of_ble_eq_true rfl)⟩ ⟨(Nat.le_of_ble_eq_true rfl), (Nat.le_of_ble_eq_true rfl)⟩ hP hD hS hA [0, 1, 2, 3, 4, 5, 6, 7, 8] rfl rfl rfl rfl rfl 0 rfl rfl rfl hl.1 rfl (Nat.le_of_ble_eq_true rfl) dX13_readsCommand_173 (fun H locs hP hD hS => ?_)
          refine lv_if_eq (tgt := 220) F.1 F.2.1 dX13_readsCommand_176 (by decide) (fun k17 => ?_) (fun k17 => ?_)
          · replace h := it_t k17 h
            refine lv_aload_n F.1 F.2.1 dX13_readsCommand_220 rfl (lv_at hl 0 rfl) ?_
            refine lv_bipush (v := 114) F.1 F.2.1 dX13_readsCommand_221 (by decide) ?_
            obtain ⟨z18, k19, h⟩ := bd_ok h
            refine cMV (As := [.int 114]) (rest := []) (ws' := wX13 g a0 a1 a2 a3 a4 a5 a6 a7 a8 uth uch ufc usv ull ubl z18.2 uea ufa z1 udn uw uun usr ube ubs uln ubu unu) F hE hX (tX13_reads l dC dI g a0 a1 a2 a3 a4 a5 a6 a7 a8 uth uch ufc usv ull ubl z15.2 uea ufa z1 udn uw uun usr ube ubs uln ubu unu 114 k19) mbX13_reads q2140 ⟨(Nat.le_of_ble_eq_true rfl), (Nat.le_of_ble_eq_true rfl)⟩ ⟨(Nat.le_of_ble_eq_true rfl), (Nat.le_of_ble_eq_true rfl)⟩ hP hD hS hA [0, 1, 2, 3, 4, 5, 6, 7, 8] rfl rfl rfl rfl rfl 0 rfl rfl rfl hl.1 rfl (Nat.le_of_ble_eq_true rfl) dX13_readsCommand_223 (fun H locs hP hD hS => ?_)
            refine lv_if_eq (tgt := 234) F.1 F.2.1 dX13_readsCommand_226 (by decide) (fun k20 => ?_) (fun k20 => ?_)
            · replace h := it_t k20 h
              refine lv_aload_n F.1 F.2.1 dX13_readsCommand_234 rfl (lv_at hl 0 rfl) ?_
              refine lv_bipush (v := 107) F.1 F.2.1 dX13_readsCommand_235 (by decide) ?_
              obtain ⟨z21, k22, h⟩ := bd_ok h
              refine cMV (As := [.int 107]) (rest := []) (ws' := wX13 g a0 a1 a2 a3 a4 a5 a6 a7 a8 uth uch ufc usv ull ubl z21.2 uea ufa z1 udn uw uun usr ube ubs uln ubu unu) F hE hX (tX13_reads l dC dI g a0 a1 a2 a3 a4 a5 a6 a7 a8 uth uch ufc usv ull ubl z18.2 uea ufa z1 udn uw uun usr ube ubs uln ubu unu 107 k22) mbX13_reads q2140 ⟨(Nat.le_of_ble_eq_true rfl), (Nat.le_of_ble_eq_true rfl)⟩ ⟨(Nat.le_of_ble_eq_true rfl), (Nat.le_of_ble_eq_true rfl)⟩ hP hD hS hA [0, 1, 2, 3, 4, 5, 6, 7, 8] rfl rfl rfl rfl rfl 0 rfl rfl rfl hl.1 rfl (Nat.le_of_ble_eq_true rfl) dX13_readsCommand_237 (fun H locs hP hD hS => ?_)
              refine lv_if_eq (tgt := 293) F.1 F.2.1 dX13_readsCommand_240 (by decide) (fun k23 => ?_) (fun k23 => ?_)
              · replace h := it_t k23 h
                refine lv_aload_n F.1 F.2.1 dX13_readsCommand_293 rfl (lv_at hl 0 rfl) ?_
                refine lv_bipush (v := 108) F.1 F.2.1 dX13_readsCommand_294 (by decide) ?_
                obtain ⟨z24, k25, h⟩ := bd_ok h
                refine cMV (As := [.int 108]) (rest := []) (ws' := wX13 g a0 a1 a2 a3 a4 a5 a6 a7 a8 uth uch ufc usv ull ubl z24.2 uea ufa z1 udn uw uun usr ube ubs uln ubu unu) F hE hX (tX13_reads l dC dI g a0 a1 a2 a3 a4 a5 a6 a7 a8 uth uch ufc usv ull ubl z21.2 uea ufa z1 udn uw uun usr ube ubs uln ubu unu 108 k25) mbX13_reads q2140 ⟨(Nat.le_of_ble_eq_true rfl), (Nat.le_of_ble_eq_true rfl)⟩ ⟨(Nat.le_of_ble_eq_true rfl), (Nat.le_of_ble_eq_true rfl)⟩ hP hD hS hA [0, 1, 2, 3, 4, 5, 6, 7, 8] rfl rfl rfl rfl rfl 0 rfl rfl rfl hl.1 rfl (Nat.le_of_ble_eq_true rfl) dX13_readsCommand_296 (fun H locs hP hD hS => ?_)
                refine lv_if_eq (tgt := 359) F.1 F.2.1 dX13_readsCommand_299 (by decide) (fun k26 => ?_) (fun k26 => ?_)
                · replace h := it_t k26 h
                  refine lv_iconst (v := 0) F.1 F.2.1 dX13_readsCommand_359 (by decide) ?_
                  cases h
                  exact MU_z (v := 0) F hr hlocks (Nat.le_refl _) (Nat.le_refl _) rfl hP hS dX13_readsCommand_360
                · replace h := it_f k26 h
                  refine lv_aload_n F.1 F.2.1 dX13_readsCommand_302 rfl (lv_at hl 0 rfl) ?_
                  refine lv_bipush (v := 105) F.1 F.2.1 dX13_readsCommand_303 (by decide) ?_
                  obtain ⟨z27, k28, h⟩ := bd_ok h
                  refine cMV (As := [.int 105]) (rest := []) (ws' := wX13 g a0 a1 a2 a3 a4 a5 a6 a7 a8 uth uch ufc usv ull ubl z27.2 uea ufa z1 udn uw uun usr ube ubs uln ubu unu) F hE hX (tX13_reads l dC dI g a0 a1 a2 a3 a4 a5 a6 a7 a8 uth uch ufc usv ull ubl z24.2 uea ufa z1 udn uw uun usr ube ubs uln ubu unu 105 k28) mbX13_reads q2140 ⟨(Nat.le_of_ble_eq_true rfl), (Nat.le_of_ble_eq_true rfl)⟩ ⟨(Nat.le_of_ble_eq_true rfl), (Nat.le_of_ble_eq_true rfl)⟩ hP hD hS hA [0, 1, 2, 3, 4, 5, 6, 7, 8] rfl rfl rfl rfl rfl 0 rfl rfl rfl hl.1 rfl (Nat.le_of_ble_eq_true rfl) dX13_readsCommand_305 (fun H locs hP hD hS => ?_)
                  refine lv_if_eq (tgt := 359) F.1 F.2.1 dX13_readsCommand_308 (by decide) (fun k29 => ?_) (fun k29 => ?_)
                  · replace h := it_t k29 h
                    refine lv_iconst (v := 0) F.1 F.2.1 dX13_readsCommand_359 (by decide) ?_
                    cases h
                    exact MU_z (v := 0) F hr hlocks (Nat.le_refl _) (Nat.le_refl _) rfl hP hS dX13_readsCommand_360
                  · replace h := it_f k29 h
                    refine lv_aload_n F.1 F.2.1 dX13_readsCommand_311 rfl (lv_at hl 0 rfl) ?_
                    refine lv_bipush (v := 109) F.1 F.2.1 dX13_readsCommand_312 (by decide) ?_
                    obtain ⟨z30, k31, h⟩ := bd_ok h
                    refine cMV (As := [.int 109]) (rest := []) (ws' := wX13 g a0 a1 a2 a3 a4 a5 a6 a7 a8 uth uch ufc usv ull ubl z30.2 uea ufa z1 udn uw uun usr ube ubs uln ubu unu) F hE hX (tX13_reads l dC dI g a0 a1 a2 a3 a4 a5 a6 a7 a8 uth uch ufc usv ull ubl z27.2 uea ufa z1 udn uw uun usr ube ubs uln ubu unu 109 k31) mbX13_reads q2140 ⟨(Nat.le_of_ble_eq_true rfl), (Nat.le_of_ble_eq_true rfl)⟩ ⟨(Nat.le_of_ble_eq_true rfl), (Nat.le_of_ble_eq_true rfl)⟩ hP hD hS hA [0, 1, 2, 3, 4, 5, 6, 7, 8] rfl rfl rfl rfl rfl 0 rfl rfl rfl hl.1 rfl (Nat.le_of_ble_eq_true rfl) dX13_readsCommand_314 (fun H locs hP hD hS => ?_)
                    refine lv_if_eq (tgt := 359) F.1 F.2.1 dX13_readsCommand_317 (by decide) (fun k32 => ?_) (fun k32 => ?_)
                    · replace h := it_t k32 h
                      refine lv_iconst (v := 0) F.1 F.2.1 dX13_readsCommand_359 (by decide) ?_
                      cases h
                      exact MU_z (v := 0) F hr hlocks (Nat.le_refl _) (Nat.le_refl _) rfl hP hS dX13_readsCommand_360
                    · replace h := it_f k32 h
                      refine lv_aload_n F.1 F.2.1 dX13_readsCommand_320 rfl (lv_at hl 0 rfl) ?_
                      refine lv_bipush (v := 105) F.1 F.2.1 dX13_readsCommand_321 (by decide) ?_
                      obtain ⟨z33, k34, h⟩ := bd_ok h
                      refine cMV (As := [.int 105]) (rest := []) (ws' := wX13 g a0 a1 a2 a3 a4 a5 a6 a7 a8 uth uch ufc usv ull ubl z33.2 uea ufa z1 udn uw uun usr ube ubs uln ubu unu) F hE hX (tX13_reads l dC dI g a0 a1 a2 a3 a4 a5 a6 a7 a8 uth uch ufc usv ull ubl z30.2 uea ufa z1 udn uw uun usr ube ubs uln ubu unu 105 k34) mbX13_reads q2140 ⟨(Nat.le_of_ble_eq_true rfl), (Nat.le_of_ble_eq_true rfl)⟩ ⟨(Nat.le_of_ble_eq_true rfl), (Nat.le_of_ble_eq_true rfl)⟩ hP hD hS hA [0, 1, 2, 3, 4, 5, 6, 7, 8] rfl rfl rfl rfl rfl 0 rfl rfl rfl hl.1 rfl (Nat.le_of_ble_eq_true rfl) dX13_readsCommand_323 (fun H locs hP hD hS => ?_)
                      refine lv_if_eq (tgt := 359) F.1 F.2.1 dX13_readsCommand_326 (by decide) (fun k35 => ?_) (fun k35 => ?_)
                      · replace h := it_t k35 h
                        refine lv_iconst (v := 0) F.1 F.2.1 dX13_readsCommand_359 (by decide) ?_
                        cases h
                        exact MU_z (v := 0) F hr hlocks (Nat.le_refl _) (Nat.le_refl _) rfl hP hS dX13_readsCommand_360
                      · replace h := it_f k35 h
                        refine lv_aload_n F.1 F.2.1 dX13_readsCommand_329 rfl (lv_at hl 0 rfl) ?_
                        refine lv_bipush (v := 116) F.1 F.2.1 dX13_readsCommand_330 (by decide) ?_
                        obtain ⟨z36, k37, h⟩ := bd_ok h
                        refine cMV (As := [.int 116]) (rest := []) (ws' := wX13 g a0 a1 a2 a3 a4 a5 a6 a7 a8 uth uch ufc usv ull ubl z36.2 uea ufa z1 udn uw uun usr ube ubs uln ubu unu) F hE hX (tX13_reads l dC dI g a0 a1 a2 a3 a4 a5 a6 a7 a8 uth uch ufc usv ull ubl z33.2 uea ufa z1 udn uw uun usr ube ubs uln ubu unu 116 k37) mbX13_reads q2140 ⟨(Nat.le_of_ble_eq_true rfl), (Nat.le_of_ble_eq_true rfl)⟩ ⟨(Nat.le_of_ble_eq_true rfl), (Nat.le_of_ble_eq_true rfl)⟩ hP hD hS hA [0, 1, 2, 3, 4, 5, 6, 7, 8] rfl rfl rfl rfl rfl 0 rfl rfl rfl hl.1 rfl (Nat.le_of_ble_eq_true rfl) dX13_readsCommand_332 (fun H locs hP hD hS => ?_)
                        refine lv_if_eq (tgt := 359) F.1 F.2.1 dX13_readsCommand_335 (by decide) (fun k38 => ?_) (fun k38 => ?_)
                        · replace h := it_t k38 h
                          refine lv_iconst (v := 0) F.1 F.2.1 dX13_readsCommand_359 (by decide) ?_
                          cases h
                          exact MU_z (v := 0) F hr hlocks (Nat.le_refl _) (Nat.le_refl _) rfl hP hS dX13_readsCommand_360
                        · replace h := it_f k38 h
                          refine lv_aload_n F.1 F.2.1 dX13_readsCommand_338 rfl (lv_at hl 0 rfl) ?_
                          refine lv_bipush (v := 32) F.1 F.2.1 dX13_readsCommand_339 (by decide) ?_
                          obtain ⟨z39, k40, h⟩ := bd_ok h
                          refine cMV (As := [.int 32]) (rest := []) (ws' := wX13 g a0 a1 a2 a3 a4 a5 a6 a7 a8 uth uch ufc usv ull ubl z39.2 uea ufa z1 udn uw uun usr ube ubs uln ubu unu) F hE hX (tX13_reads l dC dI g a0 a1 a2 a3 a4 a5 a6 a7 a8 uth uch ufc usv ull ubl z36.2 uea ufa z1 udn uw uun usr ube ubs uln ubu unu 32 k40) mbX13_reads q2140 ⟨(Nat.le_of_ble_eq_true rfl), (Nat.le_of_ble_eq_true rfl)⟩ ⟨(Nat.le_of_ble_eq_true rfl), (Nat.le_of_ble_eq_true rfl)⟩ hP hD hS hA [0, 1, 2, 3, 4, 5, 6, 7, 8] rfl rfl rfl rfl rfl 0 rfl rfl rfl hl.1 rfl (Nat.le_of_ble_eq_true rfl) dX13_readsCommand_341 (fun H locs hP hD hS => ?_)
                          refine lv_if_eq (tgt := 359) F.1 F.2.1 dX13_readsCommand_344 (by decide) (fun k41 => ?_) (fun k41 => ?_)
                          · replace h := it_t k41 h
                            refine lv_iconst (v := 0) F.1 F.2.1 dX13_readsCommand_359 (by decide) ?_
                            cases h
                            exact MU_z (v := 0) F hr hlocks (Nat.le_refl _) (Nat.le_refl _) rfl hP hS dX13_readsCommand_360
                          · replace h := it_f k41 h
                            refine lv_aload_n F.1 F.2.1 dX13_readsCommand_347 rfl (lv_at hl 0 rfl) ?_
                            refine lv_iconst (v := 0) F.1 F.2.1 dX13_readsCommand_348 (by decide) ?_
                            obtain ⟨z42, k43, h⟩ := bd_ok h
                            refine cMV (As := [.int 0]) (rest := []) (ws' := wX13 g a0 a1 a2 a3 a4 a5 a6 a7 a8 uth uch ufc usv ull ubl z42.2.1 uea ufa z1 udn uw uun usr ube ubs uln ubu z42.2.2) F hE hX (tX13_readsNumber l dC dI g a0 a1 a2 a3 a4 a5 a6 a7 a8 uth uch ufc usv ull ubl z39.2 uea ufa z1 udn uw uun usr ube ubs uln ubu unu 0 k43) mbX13_readsNumber q2148 ⟨(Nat.le_of_ble_eq_true rfl), (Nat.le_of_ble_eq_true rfl)⟩ ⟨(Nat.le_of_ble_eq_true rfl), (Nat.le_of_ble_eq_true rfl)⟩ hP hD hS hA [0, 1, 2, 3, 4, 5, 6, 7, 8] rfl rfl rfl rfl rfl 0 rfl rfl rfl hl.1 rfl (Nat.le_of_ble_eq_true rfl) dX13_readsCommand_349 (fun H locs hP hD hS => ?_)
                            refine lv_if_eq (tgt := 359) F.1 F.2.1 dX13_readsCommand_352 (by decide) (fun k44 => ?_) (fun k44 => ?_)
                            · replace h := it_t k44 h
                              refine lv_iconst (v := 0) F.1 F.2.1 dX13_readsCommand_359 (by decide) ?_
                              cases h
                              exact MU_z (v := 0) F hr hlocks (Nat.le_refl _) (Nat.le_refl _) rfl hP hS dX13_readsCommand_360
                            · replace h := it_f k44 h
                              refine lv_iconst (v := 1) F.1 F.2.1 dX13_readsCommand_355 (by decide) ?_
                              refine lv_goto (tgt := 360) F.1 F.2.1 dX13_readsCommand_356 (by decide) ?_
                              cases h
                              exact MU_z (v := 1) F hr hlocks (Nat.le_refl _) (Nat.le_refl _) rfl hP hS dX13_readsCommand_360
              · replace h := it_f k23 h
                refine lv_aload_n F.1 F.2.1 dX13_readsCommand_243 rfl (lv_at hl 0 rfl) ?_
                refine lv_bipush (v := 101) F.1 F.2.1 dX13_readsCommand_244 (by decide) ?_
                obtain ⟨z45, k46, h⟩ := bd_ok h
                refine cMV (As := [.int 101]) (rest := []) (ws' := wX13 g a0 a1 a2 a3 a4 a5 a6 a7 a8 uth uch ufc usv ull ubl z45.2 uea ufa z1 udn uw uun usr ube ubs uln ubu unu) F hE hX (tX13_reads l dC dI g a0 a1 a2 a3 a4 a5 a6 a7 a8 uth uch ufc usv ull ubl z21.2 uea ufa z1 udn uw uun usr ube ubs uln ubu unu 101 k46) mbX13_reads q2140 ⟨(Nat.le_of_ble_eq_true rfl), (Nat.le_of_ble_eq_true rfl)⟩ ⟨(Nat.le_of_ble_eq_true rfl), (Nat.le_of_ble_eq_true rfl)⟩ hP hD hS hA [0, 1, 2, 3, 4, 5, 6, 7, 8] rfl rfl rfl rfl rfl 0 rfl rfl rfl hl.1 rfl (Nat.le_of_ble_eq_true rfl) dX13_readsCommand_246 (fun H locs hP hD hS => ?_)
                refine lv_if_eq (tgt := 291) F.1 F.2.1 dX13_readsCommand_249 (by decide) (fun k47 => ?_) (fun k47 => ?_)
                · replace h := it_t k47 h
                  refine lv_iconst (v := 0) F.1 F.2.1 dX13_readsCommand_291 (by decide) ?_
                  cases h
                  exact MU_z (v := 0) F hr hlocks (Nat.le_refl _) (Nat.le_refl _) rfl hP hS dX13_readsCommand_292
                · replace h := it_f k47 h
                  refine lv_aload_n F.1 F.2.1 dX13_readsCommand_252 rfl (lv_at hl 0 rfl) ?_
                  refine lv_bipush (v := 114) F.1 F.2.1 dX13_readsCommand_253 (by decide) ?_
                  obtain ⟨z48, k49, h⟩ := bd_ok h
                  refine cMV (As := [.int 114]) (rest := []) (ws' := wX13 g a0 a1 a2 a3 a4 a5 a6 a7 a8 uth uch ufc usv ull ubl z48.2 uea ufa z1 udn uw uun usr ube ubs uln ubu unu) F hE hX (tX13_reads l dC dI g a0 a1 a2 a3 a4 a5 a6 a7 a8 uth uch ufc usv ull ubl z45.2 uea ufa z1 udn uw uun usr ube ubs uln ubu unu 114 k49) mbX13_reads q2140 ⟨(Nat.le_of_ble_eq_true rfl), (Nat.le_of_ble_eq_true rfl)⟩ ⟨(Nat.le_of_ble_eq_true rfl), (Nat.le_of_ble_eq_true rfl)⟩ hP hD hS hA [0, 1, 2, 3, 4, 5, 6, 7, 8] rfl rfl rfl rfl rfl 0 rfl rfl rfl hl.1 rfl (Nat.le_of_ble_eq_true rfl) dX13_readsCommand_255 (fun H locs hP hD hS => ?_)
                  refine lv_if_eq (tgt := 291) F.1 F.2.1 dX13_readsCommand_258 (by decide) (fun k50 => ?_) (fun k50 => ?_)
                  · replace h := it_t k50 h
                    refine lv_iconst (v := 0) F.1 F.2.1 dX13_readsCommand_291 (by decide) ?_
                    cases h
                    exact MU_z (v := 0) F hr hlocks (Nat.le_refl _) (Nat.le_refl _) rfl hP hS dX13_readsCommand_292
                  · replace h := it_f k50 h
                    refine lv_aload_n F.1 F.2.1 dX13_readsCommand_261 rfl (lv_at hl 0 rfl) ?_
                    refine lv_bipush (v := 102) F.1 F.2.1 dX13_readsCommand_262 (by decide) ?_
                    obtain ⟨z51, k52, h⟩ := bd_ok h
                    refine cMV (As := [.int 102]) (rest := []) (ws' := wX13 g a0 a1 a2 a3 a4 a5 a6 a7 a8 uth uch ufc usv ull ubl z51.2 uea ufa z1 udn uw uun usr ube ubs uln ubu unu) F hE hX (tX13_reads l dC dI g a0 a1 a2 a3 a4 a5 a6 a7 a8 uth uch ufc usv ull ubl z48.2 uea ufa z1 udn uw uun usr ube ubs uln ubu unu 102 k52) mbX13_reads q2140 ⟨(Nat.le_of_ble_eq_true rfl), (Nat.le_of_ble_eq_true rfl)⟩ ⟨(Nat.le_of_ble_eq_true rfl), (Nat.le_of_ble_eq_true rfl)⟩ hP hD hS hA [0, 1, 2, 3, 4, 5, 6, 7, 8] rfl rfl rfl rfl rfl 0 rfl rfl rfl hl.1 rfl (Nat.le_of_ble_eq_true rfl) dX13_readsCommand_264 (fun H locs hP hD hS => ?_)
                    refine lv_if_eq (tgt := 291) F.1 F.2.1 dX13_readsCommand_267 (by decide) (fun k53 => ?_) (fun k53 => ?_)
                    · replace h := it_t k53 h
                      refine lv_iconst (v := 0) F.1 F.2.1 dX13_readsCommand_291 (by decide) ?_
                      cases h
                      exact MU_z (v := 0) F hr hlocks (Nat.le_refl _) (Nat.le_refl _) rfl hP hS dX13_readsCommand_292
                    · replace h := it_f k53 h
                      refine lv_aload_n F.1 F.2.1 dX13_readsCommand_270 rfl (lv_at hl 0 rfl) ?_
                      refine lv_bipush (v := 32) F.1 F.2.1 dX13_readsCommand_271 (by decide) ?_
                      obtain ⟨z54, k55, h⟩ := bd_ok h
                      refine cMV (As := [.int 32]) (rest := []) (ws' := wX13 g a0 a1 a2 a3 a4 a5 a6 a7 a8 uth uch ufc usv ull ubl z54.2 uea ufa z1 udn uw uun usr ube ubs uln ubu unu) F hE hX (tX13_reads l dC dI g a0 a1 a2 a3 a4 a5 a6 a7 a8 uth uch ufc usv ull ubl z51.2 uea ufa z1 udn uw uun usr ube ubs uln ubu unu 32 k55) mbX13_reads q2140 ⟨(Nat.le_of_ble_eq_true rfl), (Nat.le_of_ble_eq_true rfl)⟩ ⟨(Nat.le_of_ble_eq_true rfl), (Nat.le_of_ble_eq_true rfl)⟩ hP hD hS hA [0, 1, 2, 3, 4, 5, 6, 7, 8] rfl rfl rfl rfl rfl 0 rfl rfl rfl hl.1 rfl (Nat.le_of_ble_eq_true rfl) dX13_readsCommand_273 (fun H locs hP hD hS => ?_)
                      refine lv_if_eq (tgt := 291) F.1 F.2.1 dX13_readsCommand_276 (by decide) (fun k56 => ?_) (fun k56 => ?_)
                      · replace h := it_t k56 h
                        refine lv_iconst (v := 0) F.1 F.2.1 dX13_readsCommand_291 (by decide) ?_
                        cases h
                        exact MU_z (v := 0) F hr hlocks (Nat.le_refl _) (Nat.le_refl _) rfl hP hS dX13_readsCommand_292
                      · replace h := it_f k56 h
                        refine lv_aload_n F.1 F.2.1 dX13_readsCommand_279 rfl (lv_at hl 0 rfl) ?_
                        refine lv_iconst (v := 0) F.1 F.2.1 dX13_readsCommand_280 (by decide) ?_
                        obtain ⟨z57, k58, h⟩ := bd_ok h
                        refine cMV (As := [.int 0]) (rest := []) (ws' := wX13 g a0 a1 a2 a3 a4 a5 a6 a7 a8 uth uch ufc usv ull ubl z57.2.1 uea ufa z1 udn uw uun usr ube ubs uln ubu z57.2.2) F hE hX (tX13_readsDigit l dC dI g a0 a1 a2 a3 a4 a5 a6 a7 a8 uth uch ufc usv ull ubl z54.2 uea ufa z1 udn uw uun usr ube ubs uln ubu unu 0 k58) mbX13_readsDigit q2152 ⟨(Nat.le_of_ble_eq_true rfl), (Nat.le_of_ble_eq_true rfl)⟩ ⟨(Nat.le_of_ble_eq_true rfl), (Nat.le_of_ble_eq_true rfl)⟩ hP hD hS hA [0, 1, 2, 3, 4, 5, 6, 7, 8] rfl rfl rfl rfl rfl 0 rfl rfl rfl hl.1 rfl (Nat.le_of_ble_eq_true rfl) dX13_readsCommand_281 (fun H locs hP hD hS => ?_)
                        refine lv_if_eq (tgt := 291) F.1 F.2.1 dX13_readsCommand_284 (by decide) (fun k59 => ?_) (fun k59 => ?_)
                        · replace h := it_t k59 h
                          refine lv_iconst (v := 0) F.1 F.2.1 dX13_readsCommand_291 (by decide) ?_
                          cases h
                          exact MU_z (v := 0) F hr hlocks (Nat.le_refl _) (Nat.le_refl _) rfl hP hS dX13_readsCommand_292
                        · replace h := it_f k59 h
                          refine lv_iconst (v := 1) F.1 F.2.1 dX13_readsCommand_287 (by decide) ?_
                          refine lv_goto (tgt := 292) F.1 F.2.1 dX13_readsCommand_288 (by decide) ?_
                          cases h
                          exact MU_z (v := 1) F hr hlocks (Nat.le_refl _) (Nat.le_refl _) rfl hP hS dX13_readsCommand_292
            · replace h := it_f k20 h
              refine lv_aload_n F.1 F.2.1 dX13_readsCommand_229 rfl (lv_at hl 0 rfl) ?_
              obtain ⟨z60, k61, h⟩ := bd_ok h
              refine cMV (As := []) (rest := []) (ws' := wX13 g a0 a1 a2 a3 a4 a5 a6 a7 a8 uth uch ufc usv ull ubl z60.2.1 uea ufa z60.2.2.1 udn uw uun usr ube ubs uln ubu z60.2.2.2) F hE hX (tX13_readsR l dC dI g a0 a1 a2 a3 a4 a5 a6 a7 a8 uth uch ufc usv ull ubl z18.2 uea ufa z1 udn uw uun usr ube ubs uln ubu unu k61) mbX13_readsR q2168 ⟨(Nat.le_of_ble_eq_true rfl), (Nat.le_of_ble_eq_true rfl)⟩ ⟨(Nat.le_of_ble_eq_true rfl), (Nat.le_of_ble_eq_true rfl)⟩ hP hD hS hA [0, 1, 2, 3, 4, 5, 6, 7, 8] rfl rfl rfl rfl rfl 0 rfl rfl rfl hl.1 rfl (Nat.le_of_ble_eq_true rfl) dX13_readsCommand_230 (fun H locs hP hD hS => ?_)
              obtain ⟨k62, h⟩ := gd_ok h
              cases h
              exact MU_z (v := z60.1) F hr hlocks (Nat.le_refl _) (Nat.le_refl _) (isB_n k62).1 hP hS dX13_readsCommand_233
          · replace h := it_f k17 h
            refine lv_aload_n F.1 F.2.1 dX13_readsCommand_179 rfl (lv_at hl 0 rfl) ?_
            refine lv_bipush (v := 117) F.1 F.2.1 dX13_readsCommand_180 (by decide) ?_
            obtain ⟨z63, k64, h⟩ := bd_ok h
            refine cMV (As := [.int 117]) (rest := []) (ws' := wX13 g a0 a1 a2 a3 a4 a5 a6 a7 a8 uth uch ufc usv ull ubl z63.2 uea ufa z1 udn uw uun usr ube ubs uln ubu unu) F hE hX (tX13_reads l dC dI g a0 a1 a2 a3 a4 a5 a6 a7 a8 uth uch ufc usv ull ubl z15.2 uea ufa z1 udn uw uun usr ube ubs uln ubu unu 117 k64) mbX13_reads q2140 ⟨(Nat.le_of_ble_eq_true rfl), (Nat.le_of_ble_eq_true rfl)⟩ ⟨(Nat.le_of_ble_eq_true rfl), (Nat.le_of_ble_eq_true rfl)⟩ hP hD hS hA [0, 1, 2, 3, 4, 5, 6, 7, 8] rfl rfl rfl rfl rfl 0 rfl rfl rfl hl.1 rfl (Nat.le_of_ble_eq_true rfl) dX13_readsCommand_182 (fun H locs hP hD hS => ?_)
            refine lv_if_eq (tgt := 218) F.1 F.2.1 dX13_readsCommand_185 (by decide) (fun k65 => ?_) (fun k65 => ?_)
            · replace h := it_t k65 h
              refine lv_iconst (v := 0) F.1 F.2.1 dX13_readsCommand_218 (by decide) ?_
              cases h
              exact MU_z (v := 0) F hr hlocks (Nat.le_refl _) (Nat.le_refl _) rfl hP hS dX13_readsCommand_219
            · replace h := it_f k65 h
              refine lv_aload_n F.1 F.2.1 dX13_readsCommand_188 rfl (lv_at hl 0 rfl) ?_
              refine lv_bipush (v := 101) F.1 F.2.1 dX13_readsCommand_189 (by decide) ?_
              obtain ⟨z66, k67, h⟩ := bd_ok h
              refine cMV (As := [.int 101]) (rest := []) (ws' := wX13 g a0 a1 a2 a3 a4 a5 a6 a7 a8 uth uch ufc usv ull ubl z66.2 uea ufa z1 udn uw uun usr ube ubs uln ubu unu) F hE hX (tX13_reads l dC dI g a0 a1 a2 a3 a4 a5 a6 a7 a8 uth uch ufc usv ull ubl z63.2 uea ufa z1 udn uw uun usr ube ubs uln ubu unu 101 k67) mbX13_reads q2140 ⟨(Nat.le_of_ble_eq_true rfl), (Nat.le_of_ble_eq_true rfl)⟩ ⟨(Nat.le_of_ble_eq_true rfl), (Nat.le_of_ble_eq_true rfl)⟩ hP hD hS hA [0, 1, 2, 3, 4, 5, 6, 7, 8] rfl rfl rfl rfl rfl 0 rfl rfl rfl hl.1 rfl (Nat.le_of_ble_eq_true rfl) dX13_readsCommand_191 (fun H locs hP hD hS => ?_)
              refine lv_if_eq (tgt := 218) F.1 F.2.1 dX13_readsCommand_194 (by decide) (fun k68 => ?_) (fun k68 => ?_)
              · replace h := it_t k68 h
                refine lv_iconst (v := 0) F.1 F.2.1 dX13_readsCommand_218 (by decide) ?_
                cases h
                exact MU_z (v := 0) F hr hlocks (Nat.le_refl _) (Nat.le_refl _) rfl hP hS dX13_readsCommand_219
              · replace h := it_f k68 h
                refine lv_aload_n F.1 F.2.1 dX13_readsCommand_197 rfl (lv_at hl 0 rfl) ?_
                refine lv_bipush (v := 32) F.1 F.2.1 dX13_readsCommand_198 (by decide) ?_
                obtain ⟨z69, k70, h⟩ := bd_ok h
                refine cMV (As := [.int 32]) (rest := []) (ws' := wX13 g a0 a1 a2 a3 a4 a5 a6 a7 a8 uth uch ufc usv ull ubl z69.2 uea ufa z1 udn uw uun usr ube ubs uln ubu unu) F hE hX (tX13_reads l dC dI g a0 a1 a2 a3 a4 a5 a6 a7 a8 uth uch ufc usv ull ubl z66.2 uea ufa z1 udn uw uun usr ube ubs uln ubu unu 32 k70) mbX13_reads q2140 ⟨(Nat.le_of_ble_eq_true rfl), (Nat.le_of_ble_eq_true rfl)⟩ ⟨(Nat.le_of_ble_eq_true rfl), (Nat.le_of_ble_eq_true rfl)⟩ hP hD hS hA [0, 1, 2, 3, 4, 5, 6, 7, 8] rfl rfl rfl rfl rfl 0 rfl rfl rfl hl.1 rfl (Nat.le_of_ble_eq_true rfl) dX13_readsCommand_200 (fun H locs hP hD hS => ?_)
                refine lv_if_eq (tgt := 218) F.1 F.2.1 dX13_readsCommand_203 (by decide) (fun k71 => ?_) (fun k71 => ?_)
                · replace h := it_t k71 h
                  refine lv_iconst (v := 0) F.1 F.2.1 dX13_readsCommand_218 (by decide) ?_
                  cases h
                  exact MU_z (v := 0) F hr hlocks (Nat.le_refl _) (Nat.le_refl _) rfl hP hS dX13_readsCommand_219
                · replace h := it_f k71 h
                  refine lv_aload_n F.1 F.2.1 dX13_readsCommand_206 rfl (lv_at hl 0 rfl) ?_
                  refine lv_iconst (v := 0) F.1 F.2.1 dX13_readsCommand_207 (by decide) ?_
                  obtain ⟨z72, k73, h⟩ := bd_ok h
                  refine cMV (As := [.int 0]) (rest := []) (ws' := wX13 g a0 a1 a2 a3 a4 a5 a6 a7 a8 uth uch ufc usv ull ubl z72.2.1 uea ufa z1 udn uw uun usr ube ubs uln ubu z72.2.2) F hE hX (tX13_readsNumber l dC dI g a0 a1 a2 a3 a4 a5 a6 a7 a8 uth uch ufc usv ull ubl z69.2 uea ufa z1 udn uw uun usr ube ubs uln ubu unu 0 k73) mbX13_readsNumber q2148 ⟨(Nat.le_of_ble_eq_true rfl), (Nat.le_of_ble_eq_true rfl)⟩ ⟨(Nat.le_of_ble_eq_true rfl), (Nat.le_of_ble_eq_true rfl)⟩ hP hD hS hA [0, 1, 2, 3, 4, 5, 6, 7, 8] rfl rfl rfl rfl rfl 0 rfl rfl rfl hl.1 rfl (Nat.le_of_ble_eq_true rfl) dX13_readsCommand_208 (fun H locs hP hD hS => ?_)
                  refine lv_if_eq (tgt := 218) F.1 F.2.1 dX13_readsCommand_211 (by decide) (fun k74 => ?_) (fun k74 => ?_)
                  · replace h := it_t k74 h
                    refine lv_iconst (v := 0) F.1 F.2.1 dX13_readsCommand_218 (by decide) ?_
                    cases h
                    exact MU_z (v := 0) F hr hlocks (Nat.le_refl _) (Nat.le_refl _) rfl hP hS dX13_readsCommand_219
                  · replace h := it_f k74 h
                    refine lv_iconst (v := 1) F.1 F.2.1 dX13_readsCommand_214 (by decide) ?_
                    refine lv_goto (tgt := 219) F.1 F.2.1 dX13_readsCommand_215 (by decide) ?_
                    cases h
                    exact MU_z (v := 1) F hr hlocks (Nat.le_refl _) (Nat.le_refl _) rfl hP hS dX13_readsCommand_219
        · replace h := it_f k14 h
          refine lv_aload_n F.1 F.2.1 dX13_readsCommand_120 rfl (lv_at hl 0 rfl) ?_
          refine lv_bipush (v := 105) F.1 F.2.1 dX13_readsCommand_121 (by decide) ?_
          obtain ⟨z75, k76, h⟩ := bd_ok h
          refine cMV (As := [.int 105]) (rest := []) (ws' := wX13 g a0 a1 a2 a3 a4 a5 a6 a7 a8 uth uch ufc usv ull ubl z75.2 uea ufa z1 udn uw uun usr ube ubs uln ubu unu) F hE hX (tX13_reads l dC dI g a0 a1 a2 a3 a4 a5 a6 a7 a8 uth uch ufc usv ull ubl z12.2 uea ufa z1 udn uw uun usr ube ubs uln ubu unu 105 k76) mbX13_reads q2140 ⟨(Nat.le_of_ble_eq_true rfl), (Nat.le_of_ble_eq_true rfl)⟩ ⟨(Nat.le_of_ble_eq_true rfl), (Nat.le_of_ble_eq_true rfl)⟩ hP hD hS hA [0, 1, 2, 3, 4, 5, 6, 7, 8] rfl rfl rfl rfl rfl 0 rfl rfl rfl hl.1 rfl (Nat.le_of_ble_eq_true rfl) dX13_readsCommand_123 (fun H locs hP hD hS => ?_)
          refine lv_if_eq (tgt := 168) F.1 F.2.1 dX13_readsCommand_126 (by decide) (fun k77 => ?_) (fun k77 => ?_)
          · replace h := it_t k77 h
            refine lv_iconst (v := 0) F.1 F.2.1 dX13_readsCommand_168 (by decide) ?_
            cases h
            exact MU_z (v := 0) F hr hlocks (Nat.le_refl _) (Nat.le_refl _) rfl hP hS dX13_readsCommand_169
          · replace h := it_f k77 h
            refine lv_aload_n F.1 F.2.1 dX13_readsCommand_129 rfl (lv_at hl 0 rfl) ?_
            refine lv_bipush (v := 108) F.1 F.2.1 dX13_readsCommand_130 (by decide) ?_
            obtain ⟨z78, k79, h⟩ := bd_ok h
            refine cMV (As := [.int 108]) (rest := []) (ws' := wX13 g a0 a1 a2 a3 a4 a5 a6 a7 a8 uth uch ufc usv ull ubl z78.2 uea ufa z1 udn uw uun usr ube ubs uln ubu unu) F hE hX (tX13_reads l dC dI g a0 a1 a2 a3 a4 a5 a6 a7 a8 uth uch ufc usv ull ubl z75.2 uea ufa z1 udn uw uun usr ube ubs uln ubu unu 108 k79) mbX13_reads q2140 ⟨(Nat.le_of_ble_eq_true rfl), (Nat.le_of_ble_eq_true rfl)⟩ ⟨(Nat.le_of_ble_eq_true rfl), (Nat.le_of_ble_eq_true rfl)⟩ hP hD hS hA [0, 1, 2, 3, 4, 5, 6, 7, 8] rfl rfl rfl rfl rfl 0 rfl rfl rfl hl.1 rfl (Nat.le_of_ble_eq_true rfl) dX13_readsCommand_132 (fun H locs hP hD hS => ?_)
            refine lv_if_eq (tgt := 168) F.1 F.2.1 dX13_readsCommand_135 (by decide) (fun k80 => ?_) (fun k80 => ?_)
            · replace h := it_t k80 h
              refine lv_iconst (v := 0) F.1 F.2.1 dX13_readsCommand_168 (by decide) ?_
              cases h
              exact MU_z (v := 0) F hr hlocks (Nat.le_refl _) (Nat.le_refl _) rfl hP hS dX13_readsCommand_169
            · replace h := it_f k80 h
              refine lv_aload_n F.1 F.2.1 dX13_readsCommand_138 rfl (lv_at hl 0 rfl) ?_
              refine lv_bipush (v := 108) F.1 F.2.1 dX13_readsCommand_139 (by decide) ?_
              obtain ⟨z81, k82, h⟩ := bd_ok h
              refine cMV (As := [.int 108]) (rest := []) (ws' := wX13 g a0 a1 a2 a3 a4 a5 a6 a7 a8 uth uch ufc usv ull ubl z81.2 uea ufa z1 udn uw uun usr ube ubs uln ubu unu) F hE hX (tX13_reads l dC dI g a0 a1 a2 a3 a4 a5 a6 a7 a8 uth uch ufc usv ull ubl z78.2 uea ufa z1 udn uw uun usr ube ubs uln ubu unu 108 k82) mbX13_reads q2140 ⟨(Nat.le_of_ble_eq_true rfl), (Nat.le_of_ble_eq_true rfl)⟩ ⟨(Nat.le_of_ble_eq_true rfl), (Nat.le_of_ble_eq_true rfl)⟩ hP hD hS hA [0, 1, 2, 3, 4, 5, 6, 7, 8] rfl rfl rfl rfl rfl 0 rfl rfl rfl hl.1 rfl (Nat.le_of_ble_eq_true rfl) dX13_readsCommand_141 (fun H locs hP hD hS => ?_)
              refine lv_if_eq (tgt := 168) F.1 F.2.1 dX13_readsCommand_144 (by decide) (fun k83 => ?_) (fun k83 => ?_)
              · replace h := it_t k83 h
                refine lv_iconst (v := 0) F.1 F.2.1 dX13_readsCommand_168 (by decide) ?_
                cases h
                exact MU_z (v := 0) F hr hlocks (Nat.le_refl _) (Nat.le_refl _) rfl hP hS dX13_readsCommand_169
              · replace h := it_f k83 h
                refine lv_aload_n F.1 F.2.1 dX13_readsCommand_147 rfl (lv_at hl 0 rfl) ?_
                refine lv_bipush (v := 32) F.1 F.2.1 dX13_readsCommand_148 (by decide) ?_
                obtain ⟨z84, k85, h⟩ := bd_ok h
                refine cMV (As := [.int 32]) (rest := []) (ws' := wX13 g a0 a1 a2 a3 a4 a5 a6 a7 a8 uth uch ufc usv ull ubl z84.2 uea ufa z1 udn uw uun usr ube ubs uln ubu unu) F hE hX (tX13_reads l dC dI g a0 a1 a2 a3 a4 a5 a6 a7 a8 uth uch ufc usv ull ubl z81.2 uea ufa z1 udn uw uun usr ube ubs uln ubu unu 32 k85) mbX13_reads q2140 ⟨(Nat.le_of_ble_eq_true rfl), (Nat.le_of_ble_eq_true rfl)⟩ ⟨(Nat.le_of_ble_eq_true rfl), (Nat.le_of_ble_eq_true rfl)⟩ hP hD hS hA [0, 1, 2, 3, 4, 5, 6, 7, 8] rfl rfl rfl rfl rfl 0 rfl rfl rfl hl.1 rfl (Nat.le_of_ble_eq_true rfl) dX13_readsCommand_150 (fun H locs hP hD hS => ?_)
                refine lv_if_eq (tgt := 168) F.1 F.2.1 dX13_readsCommand_153 (by decide) (fun k86 => ?_) (fun k86 => ?_)
                · replace h := it_t k86 h
                  refine lv_iconst (v := 0) F.1 F.2.1 dX13_readsCommand_168 (by decide) ?_
                  cases h
                  exact MU_z (v := 0) F hr hlocks (Nat.le_refl _) (Nat.le_refl _) rfl hP hS dX13_readsCommand_169
                · replace h := it_f k86 h
                  refine lv_aload_n F.1 F.2.1 dX13_readsCommand_156 rfl (lv_at hl 0 rfl) ?_
                  refine lv_iconst (v := 0) F.1 F.2.1 dX13_readsCommand_157 (by decide) ?_
                  obtain ⟨z87, k88, h⟩ := bd_ok h
                  refine cMV (As := [.int 0]) (rest := []) (ws' := wX13 g a0 a1 a2 a3 a4 a5 a6 a7 a8 uth uch ufc usv ull ubl z87.2.1 uea ufa z1 udn uw uun usr ube ubs uln ubu z87.2.2) F hE hX (tX13_readsNumber l dC dI g a0 a1 a2 a3 a4 a5 a6 a7 a8 uth uch ufc usv ull ubl z84.2 uea ufa z1 udn uw uun usr ube ubs uln ubu unu 0 k88) mbX13_readsNumber q2148 ⟨(Nat.le_of_ble_eq_true rfl), (Nat.le_of_ble_eq_true rfl)⟩ ⟨(Nat.le_of_ble_eq_true rfl), (Nat.le_of_ble_eq_true rfl)⟩ hP hD hS hA [0, 1, 2, 3, 4, 5, 6, 7, 8] rfl rfl rfl rfl rfl 0 rfl rfl rfl hl.1 rfl (Nat.le_of_ble_eq_true rfl) dX13_readsCommand_158 (fun H locs hP hD hS => ?_)
                  refine lv_if_eq (tgt := 168) F.1 F.2.1 dX13_readsCommand_161 (by decide) (fun k89 => ?_) (fun k89 => ?_)
                  · replace h := it_t k89 h
                    refine lv_iconst (v := 0) F.1 F.2.1 dX13_readsCommand_168 (by decide) ?_
                    cases h
                    exact MU_z (v := 0) F hr hlocks (Nat.le_refl _) (Nat.le_refl _) rfl hP hS dX13_readsCommand_169
                  · replace h := it_f k89 h
                    refine lv_iconst (v := 1) F.1 F.2.1 dX13_readsCommand_164 (by decide) ?_
                    refine lv_goto (tgt := 169) F.1 F.2.1 dX13_readsCommand_165 (by decide) ?_
                    cases h
                    exact MU_z (v := 1) F hr hlocks (Nat.le_refl _) (Nat.le_refl _) rfl hP hS dX13_readsCommand_169
      · replace h := it_f k11 h
        refine lv_aload_n F.1 F.2.1 dX13_readsCommand_106 rfl (lv_at hl 0 rfl) ?_
        obtain ⟨z90, k91, h⟩ := bd_ok h
        refine cMV (As := []) (rest := []) (ws' := wX13 g a0 a1 a2 a3 a4 a5 a6 a7 a8 uth uch ufc usv ull ubl z90.2.1 uea ufa z90.2.2.1 udn uw uun usr ube ubs uln ubu z90.2.2.2) F hE hX (tX13_readsC l dC dI g a0 a1 a2 a3 a4 a5 a6 a7 a8 uth uch ufc usv ull ubl z9.2 uea ufa z1 udn uw uun usr ube ubs uln ubu unu k91) mbX13_readsC q2164 ⟨(Nat.le_of_ble_eq_true rfl), (Nat.le_of_ble_eq_true rfl)⟩ ⟨(Nat.le_of_ble_eq_true rfl), (Nat.le_of_ble_eq_true rfl)⟩ hP hD hS hA [0, 1, 2, 3, 4, 5, 6, 7, 8] rfl rfl rfl rfl rfl 0 rfl rfl rfl hl.1 rfl (Nat.le_of_ble_eq_true rfl) dX13_readsCommand_107 (fun H locs hP hD hS => ?_)
        obtain ⟨k92, h⟩ := gd_ok h
        cases h
        exact MU_z (v := z90.1) F hr hlocks (Nat.le_refl _) (Nat.le_refl _) (isB_n k92).1 hP hS dX13_readsCommand_110
    · replace h := it_f k8 h
      refine lv_aload_n F.1 F.2.1 dX13_readsCommand_92 rfl (lv_at hl 0 rfl) ?_
      obtain ⟨z93, k94, h⟩ := bd_ok h
      refine cMV (As := []) (rest := []) (ws' := wX13 g a0 a1 a2 a3 a4 a5 a6 a7 a8 uth uch ufc usv ull ubl z93.2.1 uea ufa z1 udn uw uun usr ube ubs uln ubu z93.2.2) F hE hX (tX13_readsOrder l dC dI g a0 a1 a2 a3 a4 a5 a6 a7 a8 uth uch ufc usv ull ubl z6.2 uea ufa z1 udn uw uun usr ube ubs uln ubu unu k94) mbX13_readsOrder q2160 ⟨(Nat.le_of_ble_eq_true rfl), (Nat.le_of_ble_eq_true rfl)⟩ ⟨(Nat.le_of_ble_eq_true rfl), (Nat.le_of_ble_eq_true rfl)⟩ hP hD hS hA [0, 1, 2, 3, 4, 5, 6, 7, 8] rfl rfl rfl rfl rfl 0 rfl rfl rfl hl.1 rfl (Nat.le_of_ble_eq_true rfl) dX13_readsCommand_93 (fun H locs hP hD hS => ?_)
      obtain ⟨k95, h⟩ := gd_ok h
      cases h
      exact MU_z (v := z93.1) F hr hlocks (Nat.le_refl _) (Nat.le_refl _) (isB_n k95).1 hP hS dX13_readsCommand_96
  · replace h := it_f k5 h
    refine lv_aload_n F.1 F.2.1 dX13_readsCommand_17 rfl (lv_at hl 0 rfl) ?_
    refine lv_bipush (v := 112) F.1 F.2.1 dX13_readsCommand_18 (by decide) ?_
    obtain ⟨z96, k97, h⟩ := bd_ok h
    refine cMV (As := [.int 112]) (rest := []) (ws' := wX13 g a0 a1 a2 a3 a4 a5 a6 a7 a8 uth uch ufc usv ull ubl z96.2 uea ufa z1 udn uw uun usr ube ubs uln ubu unu) F hE hX (tX13_reads l dC dI g a0 a1 a2 a3 a4 a5 a6 a7 a8 uth uch ufc usv ull ubl z3.2 uea ufa z1 udn uw uun usr ube ubs uln ubu unu 112 k97) mbX13_reads q2140 ⟨(Nat.le_of_ble_eq_true rfl), (Nat.le_of_ble_eq_true rfl)⟩ ⟨(Nat.le_of_ble_eq_true rfl), (Nat.le_of_ble_eq_true rfl)⟩ hP hD hS hA [0, 1, 2, 3, 4, 5, 6, 7, 8] rfl rfl rfl rfl rfl 0 rfl rfl rfl hl.1 rfl (Nat.le_of_ble_eq_true rfl) dX13_readsCommand_20 (fun H locs hP hD hS => ?_)
    refine lv_if_eq (tgt := 81) F.1 F.2.1 dX13_readsCommand_23 (by decide) (fun k98 => ?_) (fun k98 => ?_)
    · replace h := it_t k98 h
      refine lv_iconst (v := 0) F.1 F.2.1 dX13_readsCommand_81 (by decide) ?_
      cases h
      exact MU_z (v := 0) F hr hlocks (Nat.le_refl _) (Nat.le_refl _) rfl hP hS dX13_readsCommand_82
    · replace h := it_f k98 h
      refine lv_aload_n F.1 F.2.1 dX13_readsCommand_26 rfl (lv_at hl 0 rfl) ?_
      refine lv_bipush (v := 111) F.1 F.2.1 dX13_readsCommand_27 (by decide) ?_
      obtain ⟨z99, k100, h⟩ := bd_ok h
      refine cMV (As := [.int 111]) (rest := []) (ws' := wX13 g a0 a1 a2 a3 a4 a5 a6 a7 a8 uth uch ufc usv ull ubl z99.2 uea ufa z1 udn uw uun usr ube ubs uln ubu unu) F hE hX (tX13_reads l dC dI g a0 a1 a2 a3 a4 a5 a6 a7 a8 uth uch ufc usv ull ubl z96.2 uea ufa z1 udn uw uun usr ube ubs uln ubu unu 111 k100) mbX13_reads q2140 ⟨(Nat.le_of_ble_eq_true rfl), (Nat.le_of_ble_eq_true rfl)⟩ ⟨(Nat.le_of_ble_eq_true rfl), (Nat.le_of_ble_eq_true rfl)⟩ hP hD hS hA [0, 1, 2, 3, 4, 5, 6, 7, 8] rfl rfl rfl rfl rfl 0 rfl rfl rfl hl.1 rfl (Nat.le_of_ble_eq_true rfl) dX13_readsCommand_29 (fun H locs hP hD hS => ?_)
      refine lv_if_eq (tgt := 81) F.1 F.2.1 dX13_readsCommand_32 (by decide) (fun k101 => ?_) (fun k101 => ?_)
      · replace h := it_t k101 h
        refine lv_iconst (v := 0) F.1 F.2.1 dX13_readsCommand_81 (by decide) ?_
        cases h
        exact MU_z (v := 0) F hr hlocks (Nat.le_refl _) (Nat.le_refl _) rfl hP hS dX13_readsCommand_82
      · replace h := it_f k101 h
        refine lv_aload_n F.1 F.2.1 dX13_readsCommand_35 rfl (lv_at hl 0 rfl) ?_
        refine lv_bipush (v := 111) F.1 F.2.1 dX13_readsCommand_36 (by decide) ?_
        obtain ⟨z102, k103, h⟩ := bd_ok h
        refine cMV (As := [.int 111]) (rest := []) (ws' := wX13 g a0 a1 a2 a3 a4 a5 a6 a7 a8 uth uch ufc usv ull ubl z102.2 uea ufa z1 udn uw uun usr ube ubs uln ubu unu) F hE hX (tX13_reads l dC dI g a0 a1 a2 a3 a4 a5 a6 a7 a8 uth uch ufc usv ull ubl z99.2 uea ufa z1 udn uw uun usr ube ubs uln ubu unu 111 k103) mbX13_reads q2140 ⟨(Nat.le_of_ble_eq_true rfl), (Nat.le_of_ble_eq_true rfl)⟩ ⟨(Nat.le_of_ble_eq_true rfl), (Nat.le_of_ble_eq_true rfl)⟩ hP hD hS hA [0, 1, 2, 3, 4, 5, 6, 7, 8] rfl rfl rfl rfl rfl 0 rfl rfl rfl hl.1 rfl (Nat.le_of_ble_eq_true rfl) dX13_readsCommand_38 (fun H locs hP hD hS => ?_)
        refine lv_if_eq (tgt := 81) F.1 F.2.1 dX13_readsCommand_41 (by decide) (fun k104 => ?_) (fun k104 => ?_)
        · replace h := it_t k104 h
          refine lv_iconst (v := 0) F.1 F.2.1 dX13_readsCommand_81 (by decide) ?_
          cases h
          exact MU_z (v := 0) F hr hlocks (Nat.le_refl _) (Nat.le_refl _) rfl hP hS dX13_readsCommand_82
        · replace h := it_f k104 h
          refine lv_aload_n F.1 F.2.1 dX13_readsCommand_44 rfl (lv_at hl 0 rfl) ?_
          refine lv_bipush (v := 108) F.1 F.2.1 dX13_readsCommand_45 (by decide) ?_
          obtain ⟨z105, k106, h⟩ := bd_ok h
          refine cMV (As := [.int 108]) (rest := []) (ws' := wX13 g a0 a1 a2 a3 a4 a5 a6 a7 a8 uth uch ufc usv ull ubl z105.2 uea ufa z1 udn uw uun usr ube ubs uln ubu unu) F hE hX (tX13_reads l dC dI g a0 a1 a2 a3 a4 a5 a6 a7 a8 uth uch ufc usv ull ubl z102.2 uea ufa z1 udn uw uun usr ube ubs uln ubu unu 108 k106) mbX13_reads q2140 ⟨(Nat.le_of_ble_eq_true rfl), (Nat.le_of_ble_eq_true rfl)⟩ ⟨(Nat.le_of_ble_eq_true rfl), (Nat.le_of_ble_eq_true rfl)⟩ hP hD hS hA [0, 1, 2, 3, 4, 5, 6, 7, 8] rfl rfl rfl rfl rfl 0 rfl rfl rfl hl.1 rfl (Nat.le_of_ble_eq_true rfl) dX13_readsCommand_47 (fun H locs hP hD hS => ?_)
          refine lv_if_eq (tgt := 81) F.1 F.2.1 dX13_readsCommand_50 (by decide) (fun k107 => ?_) (fun k107 => ?_)
          · replace h := it_t k107 h
            refine lv_iconst (v := 0) F.1 F.2.1 dX13_readsCommand_81 (by decide) ?_
            cases h
            exact MU_z (v := 0) F hr hlocks (Nat.le_refl _) (Nat.le_refl _) rfl hP hS dX13_readsCommand_82
          · replace h := it_f k107 h
            refine lv_aload_n F.1 F.2.1 dX13_readsCommand_53 rfl (lv_at hl 0 rfl) ?_
            refine lv_bipush (v := 32) F.1 F.2.1 dX13_readsCommand_54 (by decide) ?_
            obtain ⟨z108, k109, h⟩ := bd_ok h
            refine cMV (As := [.int 32]) (rest := []) (ws' := wX13 g a0 a1 a2 a3 a4 a5 a6 a7 a8 uth uch ufc usv ull ubl z108.2 uea ufa z1 udn uw uun usr ube ubs uln ubu unu) F hE hX (tX13_reads l dC dI g a0 a1 a2 a3 a4 a5 a6 a7 a8 uth uch ufc usv ull ubl z105.2 uea ufa z1 udn uw uun usr ube ubs uln ubu unu 32 k109) mbX13_reads q2140 ⟨(Nat.le_of_ble_eq_true rfl), (Nat.le_of_ble_eq_true rfl)⟩ ⟨(Nat.le_of_ble_eq_true rfl), (Nat.le_of_ble_eq_true rfl)⟩ hP hD hS hA [0, 1, 2, 3, 4, 5, 6, 7, 8] rfl rfl rfl rfl rfl 0 rfl rfl rfl hl.1 rfl (Nat.le_of_ble_eq_true rfl) dX13_readsCommand_56 (fun H locs hP hD hS => ?_)
            refine lv_if_eq (tgt := 81) F.1 F.2.1 dX13_readsCommand_59 (by decide) (fun k110 => ?_) (fun k110 => ?_)
            · replace h := it_t k110 h
              refine lv_iconst (v := 0) F.1 F.2.1 dX13_readsCommand_81 (by decide) ?_
              cases h
              exact MU_z (v := 0) F hr hlocks (Nat.le_refl _) (Nat.le_refl _) rfl hP hS dX13_readsCommand_82
            · replace h := it_f k110 h
              refine lv_aload_n F.1 F.2.1 dX13_readsCommand_62 rfl (lv_at hl 0 rfl) ?_
              obtain ⟨z111, k112, h⟩ := bd_ok h
              refine cMV (As := []) (rest := []) (ws' := wX13 g a0 a1 a2 a3 a4 a5 a6 a7 a8 uth uch ufc usv ull ubl z111.2.1 uea ufa z1 udn uw uun usr ube ubs uln ubu z111.2.2) F hE hX (tX13_readsMaterial l dC dI g a0 a1 a2 a3 a4 a5 a6 a7 a8 uth uch ufc usv ull ubl z108.2 uea ufa z1 udn uw uun usr ube ubs uln ubu unu k112) mbX13_readsMaterial q2144 ⟨(Nat.le_of_ble_eq_true rfl), (Nat.le_of_ble_eq_true rfl)⟩ ⟨(Nat.le_of_ble_eq_true rfl), (Nat.le_of_ble_eq_true rfl)⟩ hP hD hS hA [0, 1, 2, 3, 4, 5, 6, 7, 8] rfl rfl rfl rfl rfl 0 rfl rfl rfl hl.1 rfl (Nat.le_of_ble_eq_true rfl) dX13_readsCommand_63 (fun H locs hP hD hS => ?_)
              refine lv_if_eq (tgt := 81) F.1 F.2.1 dX13_readsCommand_66 (by decide) (fun k113 => ?_) (fun k113 => ?_)
              · replace h := it_t k113 h
                refine lv_iconst (v := 0) F.1 F.2.1 dX13_readsCommand_81 (by decide) ?_
                cases h
                exact MU_z (v := 0) F hr hlocks (Nat.le_refl _) (Nat.le_refl _) rfl hP hS dX13_readsCommand_82
              · replace h := it_f k113 h
                refine lv_aload_n F.1 F.2.1 dX13_readsCommand_69 rfl (lv_at hl 0 rfl) ?_
                refine lv_iconst (v := 1) F.1 F.2.1 dX13_readsCommand_70 (by decide) ?_
                obtain ⟨z114, k115, h⟩ := bd_ok h
                refine cMV (As := [.int 1]) (rest := []) (ws' := wX13 g a0 a1 a2 a3 a4 a5 a6 a7 a8 uth uch ufc usv ull ubl z114.2.1 uea ufa z1 udn uw uun usr ube ubs uln ubu z114.2.2) F hE hX (tX13_readsNumber l dC dI g a0 a1 a2 a3 a4 a5 a6 a7 a8 uth uch ufc usv ull ubl z111.2.1 uea ufa z1 udn uw uun usr ube ubs uln ubu z111.2.2 1 k115) mbX13_readsNumber q2148 ⟨(Nat.le_of_ble_eq_true rfl), (Nat.le_of_ble_eq_true rfl)⟩ ⟨(Nat.le_of_ble_eq_true rfl), (Nat.le_of_ble_eq_true rfl)⟩ hP hD hS hA [0, 1, 2, 3, 4, 5, 6, 7, 8] rfl rfl rfl rfl rfl 0 rfl rfl rfl hl.1 rfl (Nat.le_of_ble_eq_true rfl) dX13_readsCommand_71 (fun H locs hP hD hS => ?_)
                refine lv_if_eq (tgt := 81) F.1 F.2.1 dX13_readsCommand_74 (by decide) (fun k116 => ?_) (fun k116 => ?_)
                · replace h := it_t k116 h
                  refine lv_iconst (v := 0) F.1 F.2.1 dX13_readsCommand_81 (by decide) ?_
                  cases h
                  exact MU_z (v := 0) F hr hlocks (Nat.le_refl _) (Nat.le_refl _) rfl hP hS dX13_readsCommand_82
                · replace h := it_f k116 h
                  refine lv_iconst (v := 1) F.1 F.2.1 dX13_readsCommand_77 (by decide) ?_
                  refine lv_goto (tgt := 82) F.1 F.2.1 dX13_readsCommand_78 (by decide) ?_
                  cases h
                  exact MU_z (v := 1) F hr hlocks (Nat.le_refl _) (Nat.le_refl _) rfl hP hS dX13_readsCommand_82
/-! WireCutterModel.readsAll -/
def fX13_readsAll_L7 (ubl : Int32) (ubu : Nat → Int32) : Nat → Int32 → Int32 → Int32 → (Nat → Int32) → Option (Int32 × Int32 × Int32 × (Nat → Int32))
  | 0, _, _, _, _ => none
  | k + 1, x1, uba, uso, unu =>
    if x1 = 0 then
      if uba = ubl then
        some (1, uba, uso, unu)
      else
        some (0, uba, uso, unu)
    else
      (fX13_readsCommand ubl uba ubu unu).bind fun z3 =>
      if z3.1 = 0 then
        some (0, z3.2.1, z3.2.2.1, z3.2.2.2)
      else
        (fX13_reads ubl z3.2.1 ubu 59).bind fun z6 =>
        fX13_readsAll_L7 ubl ubu k z6.1 z6.2 z3.2.2.1 z3.2.2.2
def fX13_readsAll (ubl : Int32) (uso : Int32) (ubu : Nat → Int32) (unu : Nat → Int32) : Option (Int32 × Int32 × Int32 × (Nat → Int32)) :=
  fX13_readsAll_L7 ubl ubu FU 1 0 uso unu
theorem mbX13_readsAll : MV yX13_readsAll cX13_readsAll 2 (some .boolean) 0 := ⟨⟨q2131, q16, by decide +kernel⟩, q2130, qs67⟩
set_option maxHeartbeats 4000000 in
set_option maxRecDepth 100000 in
theorem tX13_readsAll_L7 {p : Program} {l : Launch} {e : Env} {s : State} {m : MethodId} {args : Array Value} {below : List Frame} {meth : Method} {c : Code} {dC : Nat → ClassId} {dI : Nat → Nat → Nat} {g : Nat → ClassId} {a0 a1 a2 a3 a4 a5 a6 a7 a8 : Nat} {r : Int32 × Int32 × Int32 × (Nat → Int32)} {A : Nat → Prop} (F : CF p m c cX13_readsAll 2 s args RX13) (hr : meth.sig.returnType = (some .boolean)) (hlocks : meth.locks = false) (hE : EK dC dI g s) (hX : EX g A s s.heap) (hA : ∀ q : Nat, s.heap.size ≤ q → A q) (uth : Int32) (uch : Int32) (ufc : Int32) (usv : Int32) (ull : Int32) (ubl : Int32) (uea : Int32) (ufa : Int32) (udn : Int32) (uw : Nat → Int32) (uun : Nat → Int32) (usr : Nat → Int32) (ube : Nat → Int32) (ubs : Nat → Int32) (uln : Nat → Int32) (ubu : Nat → Int32) : ∀ (k : Nat) (x1 : Int32) (uba : Int32) (uso : Int32) (unu : Nat → Int32), fX13_readsAll_L7 ubl ubu k x1 uba uso unu = some r → ∀ (H : Heap) (locs : List Loc), va_P (dC, dI) vwCl (wX13 g a0 a1 a2 a3 a4 a5 a6 a7 a8 uth uch ufc usv ull ubl uba uea ufa uso udn uw uun usr ube ubs uln ubu unu) H → va_D A (wX13 g a0 a1 a2 a3 a4 a5 a6 a7 a8 uth uch ufc usv ull ubl uba uea ufa uso udn uw uun usr ube ubs uln ubu unu) → va_S A s.heap H locs → ∀ (ls : Array Slot), lv_has ls 2 [(0, .ref a0), (1, .int x1)] → W p l e { frames := 6, cells := 0, slots := 0, locals := 125 } s m args below meth c H locs 0 0 (MQ below (fun _ st o t => o = .returned (some (.int r.1)) ∧ va_P (dC, dI) vwCl (wX13 g a0 a1 a2 a3 a4 a5 a6 a7 a8 uth uch ufc usv ull ubl r.2.1 uea ufa r.2.2.1 udn uw uun usr ube ubs uln ubu r.2.2.2) t.heap ∧ va_F A st t) args s 0 0 A) (F0 m 7 ls []) := by
  intro k
  induction k with
  | zero =>
    intro x1 uba uso unu h
    exact absurd h (by simp [fX13_readsAll_L7])
  | succ k ih =>
    intro x1 uba uso unu h H locs hP hD hS ls hl
    rw [fX13_readsAll_L7] at h
    refine lv_iload_n F.1 F.2.1 dX13_readsAll_7 rfl (lv_at hl 1 rfl) ?_
    refine lv_if_eq (tgt := 30) F.1 F.2.1 dX13_readsAll_8 (by decide) (fun k1 => ?_) (fun k1 => ?_)
    · replace h := it_t k1 h
      refine lv_aload_n F.1 F.2.1 dX13_readsAll_30 rfl (lv_at hl 0 rfl) ?_
      refine gF (v := .int uba) F hE hP 0 rfl rfl inX13 13 (by decide) q1697 rfl dX13_readsAll_31 ?_
      refine lv_aload_n F.1 F.2.1 dX13_readsAll_34 rfl (lv_at hl 0 rfl) ?_
      refine gF (v := .int ubl) F hE hP 0 rfl rfl inX13 12 (by decide) q1696 rfl dX13_readsAll_35 ?_
      refine lv_icmp_ne (tgt := 45) F.1 F.2.1 dX13_readsAll_38 (by decide) (fun k2 => ?_) (fun k2 => ?_)
      · replace h := it_f k2 h
        refine lv_iconst (v := 0) F.1 F.2.1 dX13_readsAll_45 (by decide) ?_
        cases h
        exact MU_z (v := 0) F hr hlocks (Nat.le_refl _) (Nat.le_refl _) rfl hP hS dX13_readsAll_46
      · replace h := it_t k2 h
        refine lv_iconst (v := 1) F.1 F.2.1 dX13_readsAll_41 (by decide) ?_
        refine lv_goto (tgt := 46) F.1 F.2.1 dX13_readsAll_42 (by decide) ?_
        cases h
        exact MU_z (v := 1) F hr hlocks (Nat.le_refl _) (Nat.le_refl _) rfl hP hS dX13_readsAll_46
    · replace h := it_f k1 h
      refine lv_aload_n F.1 F.2.1 dX13_readsAll_11 rfl (lv_at hl 0 rfl) ?_
      obtain ⟨z3, k4, h⟩ := bd_ok h
      refine cMV (As := []) (rest := []) (ws' := wX13 g a0 a1 a2 a3 a4 a5 a6 a7 a8 uth uch ufc usv ull ubl z3.2.1 uea ufa z3.2.2.1 udn uw uun usr ube ubs uln ubu z3.2.2.2) F hE hX (tX13_readsCommand l dC dI g a0 a1 a2 a3 a4 a5 a6 a7 a8 uth uch ufc usv ull ubl uba uea ufa uso udn uw uun usr ube ubs uln ubu unu k4) mbX13_readsCommand q2132 ⟨(Nat.le_of_ble_eq_true rfl), (Nat.le_of_ble_eq_true rfl)⟩ ⟨(Nat.le_of_ble_eq_true rfl), (Nat.le_of_ble_eq_true rfl)⟩ hP hD hS hA [0, 1, 2, 3, 4, 5, 6, 7, 8] rfl rfl rfl rfl rfl 0 rfl rfl rfl hl.1 rfl (Nat.le_of_ble_eq_true rfl) dX13_readsAll_12 (fun H locs hP hD hS => ?_)
      refine lv_if_ne (tgt := 20) F.1 F.2.1 dX13_readsAll_15 (by decide) (fun k5 => ?_) (fun k5 => ?_)
      · replace h := it_f k5 h
        refine lv_aload_n F.1 F.2.1 dX13_readsAll_20 rfl (lv_at hl 0 rfl) ?_
        refine lv_bipush (v := 59) F.1 F.2.1 dX13_readsAll_21 (by decide) ?_
        obtain ⟨z6, k7, h⟩ := bd_ok h
        refine cMV (As := [.int 59]) (rest := []) (ws' := wX13 g a0 a1 a2 a3 a4 a5 a6 a7 a8 uth uch ufc usv ull ubl z6.2 uea ufa z3.2.2.1 udn uw uun usr ube ubs uln ubu z3.2.2.2) F hE hX (tX13_reads l dC dI g a0 a1 a2 a3 a4 a5 a6 a7 a8 uth uch ufc usv ull ubl z3.2.1 uea ufa z3.2.2.1 udn uw uun usr ube ubs uln ubu z3.2.2.2 59 k7) mbX13_reads q2140 ⟨(Nat.le_of_ble_eq_true rfl), (Nat.le_of_ble_eq_true rfl)⟩ ⟨(Nat.le_of_ble_eq_true rfl), (Nat.le_of_ble_eq_true rfl)⟩ hP hD hS hA [0, 1, 2, 3, 4, 5, 6, 7, 8] rfl rfl rfl rfl rfl 0 rfl rfl rfl hl.1 rfl (Nat.le_of_ble_eq_true rfl) dX13_readsAll_23 (fun H locs hP hD hS => ?_)
        refine lv_istore_n (lv' := [(1, .int z6.1), (0, .ref a0)]) F.1 F.2.1 dX13_readsAll_26 rfl hl (by decide) rfl (fun ls hl => ?_)
        refine lv_goto (tgt := 7) F.1 F.2.1 dX13_readsAll_27 (by decide) ?_
        exact ih z6.1 z6.2 z3.2.2.1 z3.2.2.2 h _ _ hP hD hS ls (lv_sub hl [1, 0] rfl)
      · replace h := it_t k5 h
        refine lv_iconst (v := 0) F.1 F.2.1 dX13_readsAll_18 (by decide) ?_
        cases h
        exact MU_z (v := 0) F hr hlocks (Nat.le_refl _) (Nat.le_refl _) rfl hP hS dX13_readsAll_19
set_option maxHeartbeats 4000000 in
set_option maxRecDepth 100000 in
theorem tX13_readsAll (l : Launch) (dC : Nat → ClassId) (dI : Nat → Nat → Nat) (g : Nat → ClassId) (a0 a1 a2 a3 a4 a5 a6 a7 a8 : Nat) (uth : Int32) (uch : Int32) (ufc : Int32) (usv : Int32) (ull : Int32) (ubl : Int32) (uba : Int32) (uea : Int32) (ufa : Int32) (uso : Int32) (udn : Int32) (uw : Nat → Int32) (uun : Nat → Int32) (usr : Nat → Int32) (ube : Nat → Int32) (ubs : Nat → Int32) (uln : Nat → Int32) (ubu : Nat → Int32) (unu : Nat → Int32) {r : Int32 × Int32 × Int32 × (Nat → Int32)} (h : fX13_readsAll ubl uso ubu unu = some r) : MU l yX13_readsAll cX13_readsAll 2 (some .boolean) 6 125 0 0 dC dI g [.ref a0] (wX13 g a0 a1 a2 a3 a4 a5 a6 a7 a8 uth uch ufc usv ull ubl uba uea ufa uso udn uw uun usr ube ubs uln ubu unu) (wX13 g a0 a1 a2 a3 a4 a5 a6 a7 a8 uth uch ufc usv ull ubl r.2.1 uea ufa r.2.2.1 udn uw uun usr ube ubs uln ubu r.2.2.2) (some (.int r.1)) := by
  refine MU_of (by decide) (Nat.le_of_ble_eq_true rfl) ?_
  intro p e s m below meth c ls F hr hlocks hE hX hA hP hD hS hl
  generalize va_A (wX13 g a0 a1 a2 a3 a4 a5 a6 a7 a8 uth uch ufc usv ull ubl uba uea ufa uso udn uw uun usr ube ubs uln ubu unu) s.heap.size = A at hA hD hS hX ⊢
  replace F : CF p m c cX13_readsAll 2 s _ RX13 := F
  replace hl : lv_has ls 2 [(0, .ref a0)] := hl
  rw [fX13_readsAll] at h
  refine lv_aload_n F.1 F.2.1 dX13_readsAll_0 rfl (lv_at hl 0 rfl) ?_
  refine lv_iconst (v := 0) F.1 F.2.1 dX13_readsAll_1 (by decide) ?_
  refine pF (v := .int 0) F hE hP hD hS 0 rfl rfl inX13 tyX13 tyX13_ok nmX13 13 (by decide) q1697 rfl rfl rfl (Nat.le_of_ble_eq_true rfl) dX13_readsAll_2 (fun H locs hP hD hS => ?_)
  replace hP : va_P (dC, dI) vwCl (wX13 g a0 a1 a2 a3 a4 a5 a6 a7 a8 uth uch ufc usv ull ubl 0 uea ufa uso udn uw uun usr ube ubs uln ubu unu) H := hP
  replace hD : va_D A (wX13 g a0 a1 a2 a3 a4 a5 a6 a7 a8 uth uch ufc usv ull ubl 0 uea ufa uso udn uw uun usr ube ubs uln ubu unu) := hD
  refine lv_iconst (v := 1) F.1 F.2.1 dX13_readsAll_5 (by decide) ?_
  refine lv_istore_n (lv' := [(1, .int 1), (0, .ref a0)]) F.1 F.2.1 dX13_readsAll_6 rfl hl (by decide) rfl (fun ls hl => ?_)
  exact tX13_readsAll_L7 F hr hlocks hE hX hA uth uch ufc usv ull ubl uea ufa udn uw uun usr ube ubs uln ubu FU 1 0 uso unu h _ _ hP hD hS ls (lv_sub hl [1, 0] rfl)
