/-! WireCutterModel.notNow -/
def fX13_notNow (uso : Int32) (uw : Nat → Int32) (unu : Nat → Int32) : Option (Int32) :=
  if uso = 99 then
    (fX13_notCancel uw (unu 0)).bind fun z2 =>
    some (z2)
  else
  if uso = 100 then
    (fX13_notDue (unu 0)).bind fun z5 =>
    some (z5)
  else
  if uso = 101 then
    (fX13_notClear (unu 0)).bind fun z8 =>
    some (z8)
  else
  if uso = 102 then
    (fX13_notFill uw (unu 0)).bind fun z11 =>
    some (z11)
  else
  if uso = 107 then
    (fX13_notKerf (unu 0)).bind fun z14 =>
    some (z14)
  else
  if uso = 111 then
    (fX13_notOrder uw (unu 0) (unu 1) (unu 2)).bind fun z17 =>
    some (z17)
  else
  if uso = 114 then
    (fX13_notRetire uw (unu 0)).bind fun z20 =>
    some (z20)
  else
  if uso = 115 then
    (fX13_notSpool uw (unu 0) (unu 1)).bind fun z23 =>
    some (z23)
  else
  if uso = 117 then
    (fX13_notRule (unu 0)).bind fun z26 =>
    some (z26)
  else
    (fX13_notLimit (unu 0)).bind fun z28 =>
    some (z28)
theorem mbX13_notNow : MV yX13_notNow cX13_notNow 2 (some .int) 0 := ⟨⟨q2179, q16, by decide +kernel⟩, q2178, qs79⟩
set_option maxHeartbeats 4000000 in
set_option maxRecDepth 100000 in
theorem tX13_notNow (l : Launch) (dC : Nat → ClassId) (dI : Nat → Nat → Nat) (g : Nat → ClassId) (a0 a1 a2 a3 a4 a5 a6 a7 a8 : Nat) (uth : Int32) (uch : Int32) (ufc : Int32) (usv : Int32) (ull : Int32) (ubl : Int32) (uba : Int32) (uea : Int32) (ufa : Int32) (uso : Int32) (udn : Int32) (uw : Nat → Int32) (uun : Nat → Int32) (usr : Nat → Int32) (ube : Nat → Int32) (ubs : Nat → Int32) (uln : Nat → Int32) (ubu : Nat → Int32) (unu : Nat → Int32) {r : Int32} (h : fX13_notNow uso uw unu = some r) : RO l yX13_notNow cX13_notNow 2 (some .int) 5 111 dC dI g [.ref a0] (wX13 g a0 a1 a2 a3 a4 a5 a6 a7 a8 uth uch ufc usv ull ubl uba uea ufa uso udn uw uun usr ube ubs uln ubu unu) (some (.int r)) := by
  refine RO_of (by decide) (Nat.le_of_ble_eq_true rfl) ?_
  intro p e s m below meth c ls F hr hlocks hE hX hP hl
  replace F : CF p m c cX13_notNow 2 s _ RX13 := F
  replace hl : lv_has ls 2 [(0, .ref a0)] := hl
  rw [fX13_notNow] at h
  refine lv_aload_n F.1 F.2.1 dX13_notNow_0 rfl (lv_at hl 0 rfl) ?_
  refine gF (v := .ref a8) F hE hP 0 rfl rfl inX13 16 (by decide) q1700 rfl dX13_notNow_1 ?_
  refine lv_iconst (v := 0) F.1 F.2.1 dX13_notNow_4 (by decide) ?_
  refine aLi (k := 0) F hE hP 8 0 rfl rfl (by decide) (by decide) dX13_notNow_5 ?_
  refine lv_istore_n (lv' := [(1, .int (unu 0)), (0, .ref a0)]) F.1 F.2.1 dX13_notNow_6 rfl hl (by decide) rfl (fun ls hl => ?_)
  refine lv_aload_n F.1 F.2.1 dX13_notNow_7 rfl (lv_at hl 1 rfl) ?_
  refine gF (v := .int uso) F hE hP 0 rfl rfl inX13 17 (by decide) q1701 rfl dX13_notNow_8 ?_
  rcases Decidable.em (uso = 99) with k1 | k1
  · replace h := it_t k1 h
    refine lv_tableIn (tgt := 130) F.1 F.2.1 dX13_notNow_11 (by rw [k1]; decide) (by rw [k1]; decide) (by rw [k1]; rfl) (by decide) ?_
    refine lv_aload_n F.1 F.2.1 dX13_notNow_130 rfl (lv_at hl 1 rfl) ?_
    refine lv_iload_n F.1 F.2.1 dX13_notNow_131 rfl (lv_at hl 0 rfl) ?_
    obtain ⟨z2, k3, h⟩ := bd_ok h
    refine cRV (As := [.int (unu 0)]) (rest := []) F hE hX va_S.rf (tX13_notCancel l dC dI g a0 a1 a2 a3 a4 a5 a6 a7 a8 uth uch ufc usv ull ubl uba uea ufa uso udn uw uun usr ube ubs uln ubu unu (unu 0) k3) mbX13_notCancel q1847 ⟨(Nat.le_of_ble_eq_true rfl), (Nat.le_of_ble_eq_true rfl)⟩ ⟨Nat.zero_le _, Nat.zero_le _⟩ hP [0, 1, 2, 3, 4, 5, 6, 7, 8] rfl 0 rfl rfl rfl hl.1 rfl (Nat.le_of_ble_eq_true rfl) dX13_notNow_132 ?_
    cases h
    exact RO_i F hr hlocks dX13_notNow_135
  replace h := it_f k1 h
  rcases Decidable.em (uso = 100) with k4 | k4
  · replace h := it_t k4 h
    refine lv_tableIn (tgt := 147) F.1 F.2.1 dX13_notNow_11 (by rw [k4]; decide) (by rw [k4]; decide) (by rw [k4]; rfl) (by decide) ?_
    refine lv_iload_n F.1 F.2.1 dX13_notNow_147 rfl (lv_at hl 0 rfl) ?_
    obtain ⟨z5, k6, h⟩ := bd_ok h
    refine cRS (As := [.int (unu 0)]) (rest := []) F hE hX va_S.rf (tX13_notDue l dC dI g (unu 0) k6) mbX13_notDue q1907 ⟨(Nat.le_of_ble_eq_true rfl), (Nat.le_of_ble_eq_true rfl)⟩ ⟨Nat.zero_le _, Nat.zero_le _⟩ hP [] rfl rfl hl.1 rfl (Nat.le_of_ble_eq_true rfl) dX13_notNow_148 ?_
    cases h
    exact RO_i F hr hlocks dX13_notNow_151
  replace h := it_f k4 h
  rcases Decidable.em (uso = 101) with k7 | k7
  · replace h := it_t k7 h
    refine lv_tableIn (tgt := 136) F.1 F.2.1 dX13_notNow_11 (by rw [k7]; decide) (by rw [k7]; decide) (by rw [k7]; rfl) (by decide) ?_
    refine lv_iload_n F.1 F.2.1 dX13_notNow_136 rfl (lv_at hl 0 rfl) ?_
    obtain ⟨z8, k9, h⟩ := bd_ok h
    refine cRS (As := [.int (unu 0)]) (rest := []) F hE hX va_S.rf (tX13_notClear l dC dI g (unu 0) k9) mbX13_notClear q1812 ⟨(Nat.le_of_ble_eq_true rfl), (Nat.le_of_ble_eq_true rfl)⟩ ⟨Nat.zero_le _, Nat.zero_le _⟩ hP [] rfl rfl hl.1 rfl (Nat.le_of_ble_eq_true rfl) dX13_notNow_137 ?_
    cases h
    exact RO_i F hr hlocks dX13_notNow_140
  replace h := it_f k7 h
  rcases Decidable.em (uso = 102) with k10 | k10
  · replace h := it_t k10 h
    refine lv_tableIn (tgt := 141) F.1 F.2.1 dX13_notNow_11 (by rw [k10]; decide) (by rw [k10]; decide) (by rw [k10]; rfl) (by decide) ?_
    refine lv_aload_n F.1 F.2.1 dX13_notNow_141 rfl (lv_at hl 1 rfl) ?_
    refine lv_iload_n F.1 F.2.1 dX13_notNow_142 rfl (lv_at hl 0 rfl) ?_
    obtain ⟨z11, k12, h⟩ := bd_ok h
    refine cRV (As := [.int (unu 0)]) (rest := []) F hE hX va_S.rf (tX13_notFill l dC dI g a0 a1 a2 a3 a4 a5 a6 a7 a8 uth uch ufc usv ull ubl uba uea ufa uso udn uw uun usr ube ubs uln ubu unu (unu 0) k12) mbX13_notFill q1867 ⟨(Nat.le_of_ble_eq_true rfl), (Nat.le_of_ble_eq_true rfl)⟩ ⟨Nat.zero_le _, Nat.zero_le _⟩ hP [0, 1, 2, 3, 4, 5, 6, 7, 8] rfl 0 rfl rfl rfl hl.1 rfl (Nat.le_of_ble_eq_true rfl) dX13_notNow_143 ?_
    cases h
    exact RO_i F hr hlocks dX13_notNow_146
  replace h := it_f k10 h
  rcases Decidable.em (uso = 107) with k13 | k13
  · replace h := it_t k13 h
    refine lv_tableIn (tgt := 163) F.1 F.2.1 dX13_notNow_11 (by rw [k13]; decide) (by rw [k13]; decide) (by rw [k13]; rfl) (by decide) ?_
    refine lv_iload_n F.1 F.2.1 dX13_notNow_163 rfl (lv_at hl 0 rfl) ?_
    obtain ⟨z14, k15, h⟩ := bd_ok h
    refine cRS (As := [.int (unu 0)]) (rest := []) F hE hX va_S.rf (tX13_notKerf l dC dI g (unu 0) k15) mbX13_notKerf q1918 ⟨(Nat.le_of_ble_eq_true rfl), (Nat.le_of_ble_eq_true rfl)⟩ ⟨Nat.zero_le _, Nat.zero_le _⟩ hP [] rfl rfl hl.1 rfl (Nat.le_of_ble_eq_true rfl) dX13_notNow_164 ?_
    cases h
    exact RO_i F hr hlocks dX13_notNow_167
  replace h := it_f k13 h
  rcases Decidable.em (uso = 111) with k16 | k16
  · replace h := it_t k16 h
    refine lv_tableIn (tgt := 112) F.1 F.2.1 dX13_notNow_11 (by rw [k16]; decide) (by rw [k16]; decide) (by rw [k16]; rfl) (by decide) ?_
    refine lv_aload_n F.1 F.2.1 dX13_notNow_112 rfl (lv_at hl 1 rfl) ?_
    refine lv_iload_n F.1 F.2.1 dX13_notNow_113 rfl (lv_at hl 0 rfl) ?_
    refine lv_aload_n F.1 F.2.1 dX13_notNow_114 rfl (lv_at hl 1 rfl) ?_
    refine gF (v := .ref a8) F hE hP 0 rfl rfl inX13 16 (by decide) q1700 rfl dX13_notNow_115 ?_
    refine lv_iconst (v := 1) F.1 F.2.1 dX13_notNow_118 (by decide) ?_
    refine aLi (k := 1) F hE hP 8 0 rfl rfl (by decide) (by decide) dX13_notNow_119 ?_
    refine lv_aload_n F.1 F.2.1 dX13_notNow_120 rfl (lv_at hl 1 rfl) ?_
    refine gF (v := .ref a8) F hE hP 0 rfl rfl inX13 16 (by decide) q1700 rfl dX13_notNow_121 ?_
    refine lv_iconst (v := 2) F.1 F.2.1 dX13_notNow_124 (by decide) ?_
    refine aLi (k := 2) F hE hP 8 0 rfl rfl (by decide) (by decide) dX13_notNow_125 ?_
    obtain ⟨z17, k18, h⟩ := bd_ok h
    refine cRV (As := [.int (unu 0), .int (unu 1), .int (unu 2)]) (rest := []) F hE hX va_S.rf (tX13_notOrder l dC dI g a0 a1 a2 a3 a4 a5 a6 a7 a8 uth uch ufc usv ull ubl uba uea ufa uso udn uw uun usr ube ubs uln ubu unu (unu 0) (unu 1) (unu 2) k18) mbX13_notOrder q1831 ⟨(Nat.le_of_ble_eq_true rfl), (Nat.le_of_ble_eq_true rfl)⟩ ⟨Nat.zero_le _, Nat.zero_le _⟩ hP [0, 1, 2, 3, 4, 5, 6, 7, 8] rfl 0 rfl rfl rfl hl.1 rfl (Nat.le_of_ble_eq_true rfl) dX13_notNow_126 ?_
    cases h
    exact RO_i F hr hlocks dX13_notNow_129
  replace h := it_f k16 h
  rcases Decidable.em (uso = 114) with k19 | k19
  · replace h := it_t k19 h
    refine lv_tableIn (tgt := 152) F.1 F.2.1 dX13_notNow_11 (by rw [k19]; decide) (by rw [k19]; decide) (by rw [k19]; rfl) (by decide) ?_
    refine lv_aload_n F.1 F.2.1 dX13_notNow_152 rfl (lv_at hl 1 rfl) ?_
    refine lv_iload_n F.1 F.2.1 dX13_notNow_153 rfl (lv_at hl 0 rfl) ?_
    obtain ⟨z20, k21, h⟩ := bd_ok h
    refine cRV (As := [.int (unu 0)]) (rest := []) F hE hX va_S.rf (tX13_notRetire l dC dI g a0 a1 a2 a3 a4 a5 a6 a7 a8 uth uch ufc usv ull ubl uba uea ufa uso udn uw uun usr ube ubs uln ubu unu (unu 0) k21) mbX13_notRetire q1780 ⟨(Nat.le_of_ble_eq_true rfl), (Nat.le_of_ble_eq_true rfl)⟩ ⟨Nat.zero_le _, Nat.zero_le _⟩ hP [0, 1, 2, 3, 4, 5, 6, 7, 8] rfl 0 rfl rfl rfl hl.1 rfl (Nat.le_of_ble_eq_true rfl) dX13_notNow_154 ?_
    cases h
    exact RO_i F hr hlocks dX13_notNow_157
  replace h := it_f k19 h
  rcases Decidable.em (uso = 115) with k22 | k22
  · replace h := it_t k22 h
    refine lv_tableIn (tgt := 100) F.1 F.2.1 dX13_notNow_11 (by rw [k22]; decide) (by rw [k22]; decide) (by rw [k22]; rfl) (by decide) ?_
    refine lv_aload_n F.1 F.2.1 dX13_notNow_100 rfl (lv_at hl 1 rfl) ?_
    refine lv_iload_n F.1 F.2.1 dX13_notNow_101 rfl (lv_at hl 0 rfl) ?_
    refine lv_aload_n F.1 F.2.1 dX13_notNow_102 rfl (lv_at hl 1 rfl) ?_
    refine gF (v := .ref a8) F hE hP 0 rfl rfl inX13 16 (by decide) q1700 rfl dX13_notNow_103 ?_
    refine lv_iconst (v := 1) F.1 F.2.1 dX13_notNow_106 (by decide) ?_
    refine aLi (k := 1) F hE hP 8 0 rfl rfl (by decide) (by decide) dX13_notNow_107 ?_
    obtain ⟨z23, k24, h⟩ := bd_ok h
    refine cRV (As := [.int (unu 0), .int (unu 1)]) (rest := []) F hE hX va_S.rf (tX13_notSpool l dC dI g a0 a1 a2 a3 a4 a5 a6 a7 a8 uth uch ufc usv ull ubl uba uea ufa uso udn uw uun usr ube ubs uln ubu unu (unu 0) (unu 1) k24) mbX13_notSpool q1746 ⟨(Nat.le_of_ble_eq_true rfl), (Nat.le_of_ble_eq_true rfl)⟩ ⟨Nat.zero_le _, Nat.zero_le _⟩ hP [0, 1, 2, 3, 4, 5, 6, 7, 8] rfl 0 rfl rfl rfl hl.1 rfl (Nat.le_of_ble_eq_true rfl) dX13_notNow_108 ?_
    cases h
    exact RO_i F hr hlocks dX13_notNow_111
  replace h := it_f k22 h
  rcases Decidable.em (uso = 117) with k25 | k25
  · replace h := it_t k25 h
    refine lv_tableIn (tgt := 158) F.1 F.2.1 dX13_notNow_11 (by rw [k25]; decide) (by rw [k25]; decide) (by rw [k25]; rfl) (by decide) ?_
    refine lv_iload_n F.1 F.2.1 dX13_notNow_158 rfl (lv_at hl 0 rfl) ?_
    obtain ⟨z26, k27, h⟩ := bd_ok h
    refine cRS (As := [.int (unu 0)]) (rest := []) F hE hX va_S.rf (tX13_notRule l dC dI g (unu 0) k27) mbX13_notRule q1936 ⟨(Nat.le_of_ble_eq_true rfl), (Nat.le_of_ble_eq_true rfl)⟩ ⟨Nat.zero_le _, Nat.zero_le _⟩ hP [] rfl rfl hl.1 rfl (Nat.le_of_ble_eq_true rfl) dX13_notNow_159 ?_
    cases h
    exact RO_i F hr hlocks dX13_notNow_162
  replace h := it_f k25 h
  have nk1 : ¬ Int32.toInt uso = 99 := fun q9 => k1 (Int32.toInt_inj.mp (q9.trans (by decide : (99 : Int) = Int32.toInt 99)))
  have nk4 : ¬ Int32.toInt uso = 100 := fun q9 => k4 (Int32.toInt_inj.mp (q9.trans (by decide : (100 : Int) = Int32.toInt 100)))
  have nk7 : ¬ Int32.toInt uso = 101 := fun q9 => k7 (Int32.toInt_inj.mp (q9.trans (by decide : (101 : Int) = Int32.toInt 101)))
  have nk10 : ¬ Int32.toInt uso = 102 := fun q9 => k10 (Int32.toInt_inj.mp (q9.trans (by decide : (102 : Int) = Int32.toInt 102)))
  have nk13 : ¬ Int32.toInt uso = 107 := fun q9 => k13 (Int32.toInt_inj.mp (q9.trans (by decide : (107 : Int) = Int32.toInt 107)))
  have nk16 : ¬ Int32.toInt uso = 111 := fun q9 => k16 (Int32.toInt_inj.mp (q9.trans (by decide : (111 : Int) = Int32.toInt 111)))
  have nk19 : ¬ Int32.toInt uso = 114 := fun q9 => k19 (Int32.toInt_inj.mp (q9.trans (by decide : (114 : Int) = Int32.toInt 114)))
  have nk22 : ¬ Int32.toInt uso = 115 := fun q9 => k22 (Int32.toInt_inj.mp (q9.trans (by decide : (115 : Int) = Int32.toInt 115)))
  have nk25 : ¬ Int32.toInt uso = 117 := fun q9 => k25 (Int32.toInt_inj.mp (q9.trans (by decide : (117 : Int) = Int32.toInt 117)))
  have q6 : ¬ Int32.toInt uso < 99 → ¬ 117 < Int32.toInt uso → (#[119, 136, 125, 130, 157, 157, 157, 157, 152, 157, 157, 157, 101, 157, 157, 141, 89, 157, 147] : Array Int)[(Int32.toInt uso - 99).toNat]? = some (157) := by
    intro q8 q9
    have q7 : Int32.toInt uso = 103 ∨ Int32.toInt uso = 104 ∨ Int32.toInt uso = 105 ∨ Int32.toInt uso = 106 ∨ Int32.toInt uso = 108 ∨ Int32.toInt uso = 109 ∨ Int32.toInt uso = 110 ∨ Int32.toInt uso = 112 ∨ Int32.toInt uso = 113 ∨ Int32.toInt uso = 116 := by omega
    rcases q7 with q7 | q7 | q7 | q7 | q7 | q7 | q7 | q7 | q7 | q7 <;> rw [q7] <;> rfl
  refine lv_tableAny (tgt := 168) F.1 F.2.1 dX13_notNow_11 (by decide) q6 ?_
  refine lv_iload_n F.1 F.2.1 dX13_notNow_168 rfl (lv_at hl 0 rfl) ?_
  obtain ⟨z28, k29, h⟩ := bd_ok h
  refine cRS (As := [.int (unu 0)]) (rest := []) F hE hX va_S.rf (tX13_notLimit l dC dI g (unu 0) k29) mbX13_notLimit q1929 ⟨(Nat.le_of_ble_eq_true rfl), (Nat.le_of_ble_eq_true rfl)⟩ ⟨Nat.zero_le _, Nat.zero_le _⟩ hP [] rfl rfl hl.1 rfl (Nat.le_of_ble_eq_true rfl) dX13_notNow_169 ?_
  cases h
  exact RO_i F hr hlocks dX13_notNow_172
/-! WireCutterModel.doesNow -/
def fX13_doesNow (uso : Int32) (uw : Nat → Int32) (unu : Nat → Int32) : Option (Int32 × (Nat → Int32)) :=
  if uso = 99 then
    (fX13_cancels uw (unu 0)).bind fun z2 =>
    some (z2.1, z2.2)
  else
  if uso = 100 then
    (fX13_fillsDue uw (unu 0)).bind fun z5 =>
    some (z5.1, z5.2)
  else
  if uso = 101 then
    (fX13_clears uw ((unu 0) - 97)).bind fun z8 =>
    some (z8.1, z8.2)
  else
  if uso = 102 then
    (fX13_orderPlace uw (unu 0)).bind fun z11 =>
    (fX13_fillsAt uw z11).bind fun z13 =>
    some (z13.1, z13.2)
  else
  if uso = 107 then
    (fX13_sets uw 5 (unu 0)).bind fun z16 =>
    some (z16.1, z16.2)
  else
  if uso = 111 then
    (fX13_addsOrder uw (unu 0) (unu 1) (unu 2)).bind fun z19 =>
    some (z19.1, z19.2)
  else
  if uso = 114 then
    (fX13_retires uw (unu 0)).bind fun z22 =>
    some (z22.1, z22.2)
  else
  if uso = 115 then
    (fX13_addsSpool uw (unu 0) (unu 1)).bind fun z25 =>
    some (z25.1, z25.2)
  else
  if uso = 117 then
    (fX13_sets uw 7 (unu 0)).bind fun z28 =>
    some (z28.1, z28.2)
  else
    (fX13_sets uw 6 (unu 0)).bind fun z30 =>
    some (z30.1, z30.2)
theorem mbX13_doesNow : MV yX13_doesNow cX13_doesNow 2 (some .int) 0 := ⟨⟨q2183, q16, by decide +kernel⟩, q2182, qs80⟩
set_option maxHeartbeats 4000000 in
set_option maxRecDepth 100000 in
theorem tX13_doesNow (l : Launch) (dC : Nat → ClassId) (dI : Nat → Nat → Nat) (g : Nat → ClassId) (a0 a1 a2 a3 a4 a5 a6 a7 a8 : Nat) (uth : Int32) (uch : Int32) (ufc : Int32) (usv : Int32) (ull : Int32) (ubl : Int32) (uba : Int32) (uea : Int32) (ufa : Int32) (uso : Int32) (udn : Int32) (uw : Nat → Int32) (uun : Nat → Int32) (usr : Nat → Int32) (ube : Nat → Int32) (ubs : Nat → Int32) (uln : Nat → Int32) (ubu : Nat → Int32) (unu : Nat → Int32) {r : Int32 × (Nat → Int32)} (h : fX13_doesNow uso uw unu = some r) : MU l yX13_doesNow cX13_doesNow 2 (some .int) 5 117 0 0 dC dI g [.ref a0] (wX13 g a0 a1 a2 a3 a4 a5 a6 a7 a8 uth uch ufc usv ull ubl uba uea ufa uso udn uw uun usr ube ubs uln ubu unu) (wX13 g a0 a1 a2 a3 a4 a5 a6 a7 a8 uth uch ufc usv ull ubl uba uea ufa uso udn r.2 uun usr ube ubs uln ubu unu) (some (.int r.1)) := by
  refine MU_of (by decide) (Nat.le_of_ble_eq_true rfl) ?_
  intro p e s m below meth c ls F hr hlocks hE hX hA hP hD hS hl
  generalize va_A (wX13 g a0 a1 a2 a3 a4 a5 a6 a7 a8 uth uch ufc usv ull ubl uba uea ufa uso udn uw uun usr ube ubs uln ubu unu) s.heap.size = A at hA hD hS hX ⊢
  replace F : CF p m c cX13_doesNow 2 s _ RX13 := F
  replace hl : lv_has ls 2 [(0, .ref a0)] := hl
  rw [fX13_doesNow] at h
  refine lv_aload_n F.1 F.2.1 dX13_doesNow_0 rfl (lv_at hl 0 rfl) ?_
  refine gF (v := .ref a8) F hE hP 0 rfl rfl inX13 16 (by decide) q1700 rfl dX13_doesNow_1 ?_
  refine lv_iconst (v := 0) F.1 F.2.1 dX13_doesNow_4 (by decide) ?_
  refine aLi (k := 0) F hE hP 8 0 rfl rfl (by decide) (by decide) dX13_doesNow_5 ?_
  refine lv_istore_n (lv' := [(1, .int (unu 0)), (0, .ref a0)]) F.1 F.2.1 dX13_doesNow_6 rfl hl (by decide) rfl (fun ls hl => ?_)
  refine lv_aload_n F.1 F.2.1 dX13_doesNow_7 rfl (lv_at hl 1 rfl) ?_
  refine gF (v := .int uso) F hE hP 0 rfl rfl inX13 17 (by decide) q1701 rfl dX13_doesNow_8 ?_
  rcases Decidable.em (uso = 99) with k1 | k1
  · replace h := it_t k1 h
    refine lv_tableIn (tgt := 130) F.1 F.2.1 dX13_doesNow_11 (by rw [k1]; decide) (by rw [k1]; decide) (by rw [k1]; rfl) (by decide) ?_
    refine lv_aload_n F.1 F.2.1 dX13_doesNow_130 rfl (lv_at hl 1 rfl) ?_
    refine lv_iload_n F.1 F.2.1 dX13_doesNow_131 rfl (lv_at hl 0 rfl) ?_
    obtain ⟨z2, k3, h⟩ := bd_ok h
    refine cMV (As := [.int (unu 0)]) (rest := []) (ws' := wX13 g a0 a1 a2 a3 a4 a5 a6 a7 a8 uth uch ufc usv ull ubl uba uea ufa uso udn z2.2 uun usr ube ubs uln ubu unu) F hE hX (tX13_cancels l dC dI g a0 a1 a2 a3 a4 a5 a6 a7 a8 uth uch ufc usv ull ubl uba uea ufa uso udn uw uun usr ube ubs uln ubu unu (unu 0) k3) mbX13_cancels q1855 ⟨(Nat.le_of_ble_eq_true rfl), (Nat.le_of_ble_eq_true rfl)⟩ ⟨(Nat.le_of_ble_eq_true rfl), (Nat.le_of_ble_eq_true rfl)⟩ hP hD hS hA [0, 1, 2, 3, 4, 5, 6, 7, 8] rfl rfl rfl rfl rfl 0 rfl rfl rfl hl.1 rfl (Nat.le_of_ble_eq_true rfl) dX13_doesNow_132 (fun H locs hP hD hS => ?_)
    cases h
    exact MU_i F hr hlocks (Nat.le_refl _) (Nat.le_refl _) hP hS dX13_doesNow_135
  replace h := it_f k1 h
  rcases Decidable.em (uso = 100) with k4 | k4
  · replace h := it_t k4 h
    refine lv_tableIn (tgt := 155) F.1 F.2.1 dX13_doesNow_11 (by rw [k4]; decide) (by rw [k4]; decide) (by rw [k4]; rfl) (by decide) ?_
    refine lv_aload_n F.1 F.2.1 dX13_doesNow_155 rfl (lv_at hl 1 rfl) ?_
    refine lv_iload_n F.1 F.2.1 dX13_doesNow_156 rfl (lv_at hl 0 rfl) ?_
    obtain ⟨z5, k6, h⟩ := bd_ok h
    refine cMV (As := [.int (unu 0)]) (rest := []) (ws' := wX13 g a0 a1 a2 a3 a4 a5 a6 a7 a8 uth uch ufc usv ull ubl uba uea ufa uso udn z5.2 uun usr ube ubs uln ubu unu) F hE hX (tX13_fillsDue l dC dI g a0 a1 a2 a3 a4 a5 a6 a7 a8 uth uch ufc usv ull ubl uba uea ufa uso udn uw uun usr ube ubs uln ubu unu (unu 0) k6) mbX13_fillsDue q1910 ⟨(Nat.le_of_ble_eq_true rfl), (Nat.le_of_ble_eq_true rfl)⟩ ⟨(Nat.le_of_ble_eq_true rfl), (Nat.le_of_ble_eq_true rfl)⟩ hP hD hS hA [0, 1, 2, 3, 4, 5, 6, 7, 8] rfl rfl rfl rfl rfl 0 rfl rfl rfl hl.1 rfl (Nat.le_of_ble_eq_true rfl) dX13_doesNow_157 (fun H locs hP hD hS => ?_)
    cases h
    exact MU_i F hr hlocks (Nat.le_refl _) (Nat.le_refl _) hP hS dX13_doesNow_160
  replace h := it_f k4 h
  rcases Decidable.em (uso = 101) with k7 | k7
  · replace h := it_t k7 h
    refine lv_tableIn (tgt := 136) F.1 F.2.1 dX13_doesNow_11 (by rw [k7]; decide) (by rw [k7]; decide) (by rw [k7]; rfl) (by decide) ?_
    refine lv_aload_n F.1 F.2.1 dX13_doesNow_136 rfl (lv_at hl 1 rfl) ?_
    refine lv_iload_n F.1 F.2.1 dX13_doesNow_137 rfl (lv_at hl 0 rfl) ?_
    refine lv_bipush (v := 97) F.1 F.2.1 dX13_doesNow_138 (by decide) ?_
    refine lv_isub F.1 F.2.1 dX13_doesNow_140 ?_
    obtain ⟨z8, k9, h⟩ := bd_ok h
    refine cMV (As := [.int ((unu 0) - 97)]) (rest := []) (ws' := wX13 g a0 a1 a2 a3 a4 a5 a6 a7 a8 uth uch ufc usv ull ubl uba uea ufa uso udn z8.2 uun usr ube ubs uln ubu unu) F hE hX (tX13_clears l dC dI g a0 a1 a2 a3 a4 a5 a6 a7 a8 uth uch ufc usv ull ubl uba uea ufa uso udn uw uun usr ube ubs uln ubu unu ((unu 0) - 97) k9) mbX13_clears q1815 ⟨(Nat.le_of_ble_eq_true rfl), (Nat.le_of_ble_eq_true rfl)⟩ ⟨(Nat.le_of_ble_eq_true rfl), (Nat.le_of_ble_eq_true rfl)⟩ hP hD hS hA [0, 1, 2, 3, 4, 5, 6, 7, 8] rfl rfl rfl rfl rfl 0 rfl rfl rfl hl.1 rfl (Nat.le_of_ble_eq_true rfl) dX13_doesNow_141 (fun H locs hP hD hS => ?_)
    cases h
    exact MU_i F hr hlocks (Nat.le_refl _) (Nat.le_refl _) hP hS dX13_doesNow_144
  replace h := it_f k7 h
  rcases Decidable.em (uso = 102) with k10 | k10
  · replace h := it_t k10 h
    refine lv_tableIn (tgt := 145) F.1 F.2.1 dX13_doesNow_11 (by rw [k10]; decide) (by rw [k10]; decide) (by rw [k10]; rfl) (by decide) ?_
    refine lv_aload_n F.1 F.2.1 dX13_doesNow_145 rfl (lv_at hl 1 rfl) ?_
    refine lv_aload_n F.1 F.2.1 dX13_doesNow_146 rfl (lv_at hl 1 rfl) ?_
    refine lv_iload_n F.1 F.2.1 dX13_doesNow_147 rfl (lv_at hl 0 rfl) ?_
    obtain ⟨z11, k12, h⟩ := bd_ok h
    refine cRV (As := [.int (unu 0)]) (rest := [.ref a0]) F hE hX hS (tX13_orderPlace l dC dI g a0 a1 a2 a3 a4 a5 a6 a7 a8 uth uch ufc usv ull ubl uba uea ufa uso udn uw uun usr ube ubs uln ubu unu (unu 0) k12) mbX13_orderPlace q1851 ⟨(Nat.le_of_ble_eq_true rfl), (Nat.le_of_ble_eq_true rfl)⟩ ⟨Nat.zero_le _, Nat.zero_le _⟩ hP [0, 1, 2, 3, 4, 5, 6, 7, 8] rfl 0 rfl rfl rfl hl.1 rfl (Nat.le_of_ble_eq_true rfl) dX13_doesNow_148 ?_
    obtain ⟨z13, k14, h⟩ := bd_ok h
    refine cMV (As := [.int z11]) (rest := []) (ws' := wX13 g a0 a1 a2 a3 a4 a5 a6 a7 a8 uth uch ufc usv ull ubl uba uea ufa uso udn z13.2 uun usr ube ubs uln ubu unu) F hE hX (tX13_fillsAt l dC dI g a0 a1 a2 a3 a4 a5 a6 a7 a8 uth uch ufc usv ull ubl uba uea ufa uso udn uw uun usr ube ubs uln ubu unu z11 k14) mbX13_fillsAt q1887 ⟨(Nat.le_of_ble_eq_true rfl), (Nat.le_of_ble_eq_true rfl)⟩ ⟨(Nat.le_of_ble_eq_true rfl), (Nat.le_of_ble_eq_true rfl)⟩ hP hD hS hA [0, 1, 2, 3, 4, 5, 6, 7, 8] rfl rfl rfl rfl rfl 0 rfl rfl rfl hl.1 rfl (Nat.le_of_ble_eq_true rfl) dX13_doesNow_151 (fun H locs hP hD hS => ?_)
    cases h
    exact MU_i F hr hlocks (Nat.le_refl _) (Nat.le_refl _) hP hS dX13_doesNow_154
  replace h := it_f k10 h
  rcases Decidable.em (uso = 107) with k15 | k15
  · replace h := it_t k15 h
    refine lv_tableIn (tgt := 175) F.1 F.2.1 dX13_doesNow_11 (by rw [k15]; decide) (by rw [k15]; decide) (by rw [k15]; rfl) (by decide) ?_
    refine lv_aload_n F.1 F.2.1 dX13_doesNow_175 rfl (lv_at hl 1 rfl) ?_
    refine lv_iconst (v := 5) F.1 F.2.1 dX13_doesNow_176 (by decide) ?_
    refine lv_iload_n F.1 F.2.1 dX13_doesNow_177 rfl (lv_at hl 0 rfl) ?_
    obtain ⟨z16, k17, h⟩ := bd_ok h
    refine cMV (As := [.int 5, .int (unu 0)]) (rest := []) (ws' := wX13 g a0 a1 a2 a3 a4 a5 a6 a7 a8 uth uch ufc usv ull ubl uba uea ufa uso udn z16.2 uun usr ube ubs uln ubu unu) F hE hX (tX13_sets l dC dI g a0 a1 a2 a3 a4 a5 a6 a7 a8 uth uch ufc usv ull ubl uba uea ufa uso udn uw uun usr ube ubs uln ubu unu 5 (unu 0) k17) mbX13_sets q1921 ⟨(Nat.le_of_ble_eq_true rfl), (Nat.le_of_ble_eq_true rfl)⟩ ⟨(Nat.le_of_ble_eq_true rfl), (Nat.le_of_ble_eq_true rfl)⟩ hP hD hS hA [0, 1, 2, 3, 4, 5, 6, 7, 8] rfl rfl rfl rfl rfl 0 rfl rfl rfl hl.1 rfl (Nat.le_of_ble_eq_true rfl) dX13_doesNow_178 (fun H locs hP hD hS => ?_)
    cases h
    exact MU_i F hr hlocks (Nat.le_refl _) (Nat.le_refl _) hP hS dX13_doesNow_181
  replace h := it_f k15 h
  rcases Decidable.em (uso = 111) with k18 | k18
  · replace h := it_t k18 h
    refine lv_tableIn (tgt := 112) F.1 F.2.1 dX13_doesNow_11 (by rw [k18]; decide) (by rw [k18]; decide) (by rw [k18]; rfl) (by decide) ?_
    refine lv_aload_n F.1 F.2.1 dX13_doesNow_112 rfl (lv_at hl 1 rfl) ?_
    refine lv_iload_n F.1 F.2.1 dX13_doesNow_113 rfl (lv_at hl 0 rfl) ?_
    refine lv_aload_n F.1 F.2.1 dX13_doesNow_114 rfl (lv_at hl 1 rfl) ?_
    refine gF (v := .ref a8) F hE hP 0 rfl rfl inX13 16 (by decide) q1700 rfl dX13_doesNow_115 ?_
    refine lv_iconst (v := 1) F.1 F.2.1 dX13_doesNow_118 (by decide) ?_
    refine aLi (k := 1) F hE hP 8 0 rfl rfl (by decide) (by decide) dX13_doesNow_119 ?_
    refine lv_aload_n F.1 F.2.1 dX13_doesNow_120 rfl (lv_at hl 1 rfl) ?_
    refine gF (v := .ref a8) F hE hP 0 rfl rfl inX13 16 (by decide) q1700 rfl dX13_doesNow_121 ?_
    refine lv_iconst (v := 2) F.1 F.2.1 dX13_doesNow_124 (by decide) ?_
    refine aLi (k := 2) F hE hP 8 0 rfl rfl (by decide) (by decide) dX13_doesNow_125 ?_
    obtain ⟨z19, k20, h⟩ := bd_ok h
    refine cMV (As := [.int (unu 0), .int (unu 1), .int (unu 2)]) (rest := []) (ws' := wX13 g a0 a1 a2 a3 a4 a5 a6 a7 a8 uth uch ufc usv ull ubl uba uea ufa uso udn z19.2 uun usr ube ubs uln ubu unu) F hE hX (tX13_addsOrder l dC dI g a0 a1 a2 a3 a4 a5 a6 a7 a8 uth uch ufc usv ull ubl uba uea ufa uso udn uw uun usr ube ubs uln ubu unu (unu 0) (unu 1) (unu 2) k20) mbX13_addsOrder q1835 ⟨(Nat.le_of_ble_eq_true rfl), (Nat.le_of_ble_eq_true rfl)⟩ ⟨(Nat.le_of_ble_eq_true rfl), (Nat.le_of_ble_eq_true rfl)⟩ hP hD hS hA [0, 1, 2, 3, 4, 5, 6, 7, 8] rfl rfl rfl rfl rfl 0 rfl rfl rfl hl.1 rfl (Nat.le_of_ble_eq_true rfl) dX13_doesNow_126 (fun H locs hP hD hS => ?_)
    cases h
    exact MU_i F hr hlocks (Nat.le_refl _) (Nat.le_refl _) hP hS dX13_doesNow_129
  replace h := it_f k18 h
  rcases Decidable.em (uso = 114) with k21 | k21
  · replace h := it_t k21 h
    refine lv_tableIn (tgt := 161) F.1 F.2.1 dX13_doesNow_11 (by rw [k21]; decide) (by rw [k21]; decide) (by rw [k21]; rfl) (by decide) ?_
    refine lv_aload_n F.1 F.2.1 dX13_doesNow_161 rfl (lv_at hl 1 rfl) ?_
    refine lv_iload_n F.1 F.2.1 dX13_doesNow_162 rfl (lv_at hl 0 rfl) ?_
    obtain ⟨z22, k23, h⟩ := bd_ok h
    refine cMV (As := [.int (unu 0)]) (rest := []) (ws' := wX13 g a0 a1 a2 a3 a4 a5 a6 a7 a8 uth uch ufc usv ull ubl uba uea ufa uso udn z22.2 uun usr ube ubs uln ubu unu) F hE hX (tX13_retires l dC dI g a0 a1 a2 a3 a4 a5 a6 a7 a8 uth uch ufc usv ull ubl uba uea ufa uso udn uw uun usr ube ubs uln ubu unu (unu 0) k23) mbX13_retires q1792 ⟨(Nat.le_of_ble_eq_true rfl), (Nat.le_of_ble_eq_true rfl)⟩ ⟨(Nat.le_of_ble_eq_true rfl), (Nat.le_of_ble_eq_true rfl)⟩ hP hD hS hA [0, 1, 2, 3, 4, 5, 6, 7, 8] rfl rfl rfl rfl rfl 0 rfl rfl rfl hl.1 rfl (Nat.le_of_ble_eq_true rfl) dX13_doesNow_163 (fun H locs hP hD hS => ?_)
    cases h
    exact MU_i F hr hlocks (Nat.le_refl _) (Nat.le_refl _) hP hS dX13_doesNow_166
  replace h := it_f k21 h
  rcases Decidable.em (uso = 115) with k24 | k24
  · replace h := it_t k24 h
    refine lv_tableIn (tgt := 100) F.1 F.2.1 dX13_doesNow_11 (by rw [k24]; decide) (by rw [k24]; decide) (by rw [k24]; rfl) (by decide) ?_
    refine lv_aload_n F.1 F.2.1 dX13_doesNow_100 rfl (lv_at hl 1 rfl) ?_
    refine lv_iload_n F.1 F.2.1 dX13_doesNow_101 rfl (lv_at hl 0 rfl) ?_
    refine lv_aload_n F.1 F.2.1 dX13_doesNow_102 rfl (lv_at hl 1 rfl) ?_
    refine gF (v := .ref a8) F hE hP 0 rfl rfl inX13 16 (by decide) q1700 rfl dX13_doesNow_103 ?_
    refine lv_iconst (v := 1) F.1 F.2.1 dX13_doesNow_106 (by decide) ?_
    refine aLi (k := 1) F hE hP 8 0 rfl rfl (by decide) (by decide) dX13_doesNow_107 ?_
    obtain ⟨z25, k26, h⟩ := bd_ok h
    refine cMV (As := [.int (unu 0), .int (unu 1)]) (rest := []) (ws' := wX13 g a0 a1 a2 a3 a4 a5 a6 a7 a8 uth uch ufc usv ull ubl uba uea ufa uso udn z25.2 uun usr ube ubs uln ubu unu) F hE hX (tX13_addsSpool l dC dI g a0 a1 a2 a3 a4 a5 a6 a7 a8 uth uch ufc usv ull ubl uba uea ufa uso udn uw uun usr ube ubs uln ubu unu (unu 0) (unu 1) k26) mbX13_addsSpool q1772 ⟨(Nat.le_of_ble_eq_true rfl), (Nat.le_of_ble_eq_true rfl)⟩ ⟨(Nat.le_of_ble_eq_true rfl), (Nat.le_of_ble_eq_true rfl)⟩ hP hD hS hA [0, 1, 2, 3, 4, 5, 6, 7, 8] rfl rfl rfl rfl rfl 0 rfl rfl rfl hl.1 rfl (Nat.le_of_ble_eq_true rfl) dX13_doesNow_108 (fun H locs hP hD hS => ?_)
    cases h
    exact MU_i F hr hlocks (Nat.le_refl _) (Nat.le_refl _) hP hS dX13_doesNow_111
  replace h := it_f k24 h
  rcases Decidable.em (uso = 117) with k27 | k27
  · replace h := it_t k27 h
    refine lv_tableIn (tgt := 167) F.1 F.2.1 dX13_doesNow_11 (by rw [k27]; decide) (by rw [k27]; decide) (by rw [k27]; rfl) (by decide) ?_
    refine lv_aload_n F.1 F.2.1 dX13_doesNow_167 rfl (lv_at hl 1 rfl) ?_
    refine lv_bipush (v := 7) F.1 F.2.1 dX13_doesNow_168 (by decide) ?_
    refine lv_iload_n F.1 F.2.1 dX13_doesNow_170 rfl (lv_at hl 0 rfl) ?_
    obtain ⟨z28, k29, h⟩ := bd_ok h
    refine cMV (As := [.int 7, .int (unu 0)]) (rest := []) (ws' := wX13 g a0 a1 a2 a3 a4 a5 a6 a7 a8 uth uch ufc usv ull ubl uba uea ufa uso udn z28.2 uun usr ube ubs uln ubu unu) F hE hX (tX13_sets l dC dI g a0 a1 a2 a3 a4 a5 a6 a7 a8 uth uch ufc usv ull ubl uba uea ufa uso udn uw uun usr ube ubs uln ubu unu 7 (unu 0) k29) mbX13_sets q1921 ⟨(Nat.le_of_ble_eq_true rfl), (Nat.le_of_ble_eq_true rfl)⟩ ⟨(Nat.le_of_ble_eq_true rfl), (Nat.le_of_ble_eq_true rfl)⟩ hP hD hS hA [0, 1, 2, 3, 4, 5, 6, 7, 8] rfl rfl rfl rfl rfl 0 rfl rfl rfl hl.1 rfl (Nat.le_of_ble_eq_true rfl) dX13_doesNow_171 (fun H locs hP hD hS => ?_)
    cases h
    exact MU_i F hr hlocks (Nat.le_refl _) (Nat.le_refl _) hP hS dX13_doesNow_174
  replace h := it_f k27 h
  have nk1 : ¬ Int32.toInt uso = 99 := fun q9 => k1 (Int32.toInt_inj.mp (q9.trans (by decide : (99 : Int) = Int32.toInt 99)))
  have nk4 : ¬ Int32.toInt uso = 100 := fun q9 => k4 (Int32.toInt_inj.mp (q9.trans (by decide : (100 : Int) = Int32.toInt 100)))
  have nk7 : ¬ Int32.toInt uso = 101 := fun q9 => k7 (Int32.toInt_inj.mp (q9.trans (by decide : (101 : Int) = Int32.toInt 101)))
  have nk10 : ¬ Int32.toInt uso = 102 := fun q9 => k10 (Int32.toInt_inj.mp (q9.trans (by decide : (102 : Int) = Int32.toInt 102)))
  have nk15 : ¬ Int32.toInt uso = 107 := fun q9 => k15 (Int32.toInt_inj.mp (q9.trans (by decide : (107 : Int) = Int32.toInt 107)))
  have nk18 : ¬ Int32.toInt uso = 111 := fun q9 => k18 (Int32.toInt_inj.mp (q9.trans (by decide : (111 : Int) = Int32.toInt 111)))
  have nk21 : ¬ Int32.toInt uso = 114 := fun q9 => k21 (Int32.toInt_inj.mp (q9.trans (by decide : (114 : Int) = Int32.toInt 114)))
  have nk24 : ¬ Int32.toInt uso = 115 := fun q9 => k24 (Int32.toInt_inj.mp (q9.trans (by decide : (115 : Int) = Int32.toInt 115)))
  have nk27 : ¬ Int32.toInt uso = 117 := fun q9 => k27 (Int32.toInt_inj.mp (q9.trans (by decide : (117 : Int) = Int32.toInt 117)))
  have q6 : ¬ Int32.toInt uso < 99 → ¬ 117 < Int32.toInt uso → (#[119, 144, 125, 134, 171, 171, 171, 171, 164, 171, 171, 171, 101, 171, 171, 150, 89, 171, 156] : Array Int)[(Int32.toInt uso - 99).toNat]? = some (171) := by
    intro q8 q9
    have q7 : Int32.toInt uso = 103 ∨ Int32.toInt uso = 104 ∨ Int32.toInt uso = 105 ∨ Int32.toInt uso = 106 ∨ Int32.toInt uso = 108 ∨ Int32.toInt uso = 109 ∨ Int32.toInt uso = 110 ∨ Int32.toInt uso = 112 ∨ Int32.toInt uso = 113 ∨ Int32.toInt uso = 116 := by omega
    rcases q7 with q7 | q7 | q7 | q7 | q7 | q7 | q7 | q7 | q7 | q7 <;> rw [q7] <;> rfl
  refine lv_tableAny (tgt := 182) F.1 F.2.1 dX13_doesNow_11 (by decide) q6 ?_
  refine lv_aload_n F.1 F.2.1 dX13_doesNow_182 rfl (lv_at hl 1 rfl) ?_
  refine lv_bipush (v := 6) F.1 F.2.1 dX13_doesNow_183 (by decide) ?_
  refine lv_iload_n F.1 F.2.1 dX13_doesNow_185 rfl (lv_at hl 0 rfl) ?_
  obtain ⟨z30, k31, h⟩ := bd_ok h
  refine cMV (As := [.int 6, .int (unu 0)]) (rest := []) (ws' := wX13 g a0 a1 a2 a3 a4 a5 a6 a7 a8 uth uch ufc usv ull ubl uba uea ufa uso udn z30.2 uun usr ube ubs uln ubu unu) F hE hX (tX13_sets l dC dI g a0 a1 a2 a3 a4 a5 a6 a7 a8 uth uch ufc usv ull ubl uba uea ufa uso udn uw uun usr ube ubs uln ubu unu 6 (unu 0) k31) mbX13_sets q1921 ⟨(Nat.le_of_ble_eq_true rfl), (Nat.le_of_ble_eq_true rfl)⟩ ⟨(Nat.le_of_ble_eq_true rfl), (Nat.le_of_ble_eq_true rfl)⟩ hP hD hS hA [0, 1, 2, 3, 4, 5, 6, 7, 8] rfl rfl rfl rfl rfl 0 rfl rfl rfl hl.1 rfl (Nat.le_of_ble_eq_true rfl) dX13_doesNow_186 (fun H locs hP hD hS => ?_)
  cases h
  exact MU_i F hr hlocks (Nat.le_refl _) (Nat.le_refl _) hP hS dX13_doesNow_189
/-! WireCutterModel.doesAll -/
def fX13_doesAll_L12 (ubl : Int32) (ubu : Nat → Int32) : Nat → Int32 → Int32 → Int32 → Int32 → (Nat → Int32) → (Nat → Int32) → Option (Int32 × Int32 × Int32 × Int32 × (Nat → Int32) × (Nat → Int32))
  | 0, _, _, _, _, _, _ => none
  | k + 1, x1, uba, uso, udn, uw, unu =>
    if x1 = 0 then
      some (1, uba, uso, udn, uw, unu)
    else
      (fX13_readsCommand ubl uba ubu unu).bind fun z2 =>
      (fX13_notNow z2.2.2.1 uw z2.2.2.2).bind fun z4 =>
      if z4 = 0 then
        (fX13_doesNow z2.2.2.1 uw z2.2.2.2).bind fun z7 =>
        (fX13_reads ubl z2.2.1 ubu 59).bind fun z9 =>
        fX13_doesAll_L12 ubl ubu k z9.1 z9.2 z2.2.2.1 (udn + 1) z7.2 z2.2.2.2
      else
        some (0, z2.2.1, z2.2.2.1, udn, uw, z2.2.2.2)
def fX13_doesAll (ubl : Int32) (uso : Int32) (uw : Nat → Int32) (ubu : Nat → Int32) (unu : Nat → Int32) : Option (Int32 × Int32 × Int32 × Int32 × (Nat → Int32) × (Nat → Int32)) :=
  fX13_doesAll_L12 ubl ubu FU 1 0 uso 0 uw unu
theorem mbX13_doesAll : MV yX13_doesAll cX13_doesAll 2 (some .boolean) 0 := ⟨⟨q2175, q16, by decide +kernel⟩, q2174, qs78⟩
set_option maxHeartbeats 4000000 in
set_option maxRecDepth 100000 in
theorem tX13_doesAll_L12 {p : Program} {l : Launch} {e : Env} {s : State} {m : MethodId} {args : Array Value} {below : List Frame} {meth : Method} {c : Code} {dC : Nat → ClassId} {dI : Nat → Nat → Nat} {g : Nat → ClassId} {a0 a1 a2 a3 a4 a5 a6 a7 a8 : Nat} {r : Int32 × Int32 × Int32 × Int32 × (Nat → Int32) × (Nat → Int32)} {A : Nat → Prop} (F : CF p m c cX13_doesAll 2 s args RX13) (hr : meth.sig.returnType = (some .boolean)) (hlocks : meth.locks = false) (hE : EK dC dI g s) (hX : EX g A s s.heap) (hA : ∀ q : Nat, s.heap.size ≤ q → A q) (uth : Int32) (uch : Int32) (ufc : Int32) (usv : Int32) (ull : Int32) (ubl : Int32) (uea : Int32) (ufa : Int32) (uun : Nat → Int32) (usr : Nat → Int32) (ube : Nat → Int32) (ubs : Nat → Int32) (uln : Nat → Int32) (ubu : Nat → Int32) : ∀ (k : Nat) (x1 : Int32) (uba : Int32) (uso : Int32) (udn : Int32) (uw : Nat → Int32) (unu : Nat → Int32), fX13_doesAll_L12 ubl ubu k x1 uba uso udn uw unu = some r → ∀ (H : Heap) (locs : List Loc), va_P (dC, dI) vwCl (wX13 g a0 a1 a2 a3 a4 a5 a6 a7 a8 uth uch ufc usv ull ubl uba uea ufa uso udn uw uun usr ube ubs uln ubu unu) H → va_D A (wX13 g a0 a1 a2 a3 a4 a5 a6 a7 a8 uth uch ufc usv ull ubl uba uea ufa uso udn uw uun usr ube ubs uln ubu unu) → va_S A s.heap H locs → ∀ (ls : Array Slot), lv_has ls 2 [(0, .ref a0), (1, .int x1)] → W p l e { frames := 6, cells := 0, slots := 0, locals := 138 } s m args below meth c H locs 0 0 (MQ below (fun _ st o t => o = .returned (some (.int r.1)) ∧ va_P (dC, dI) vwCl (wX13 g a0 a1 a2 a3 a4 a5 a6 a7 a8 uth uch ufc usv ull ubl r.2.1 uea ufa r.2.2.1 r.2.2.2.1 r.2.2.2.2.1 uun usr ube ubs uln ubu r.2.2.2.2.2) t.heap ∧ va_F A st t) args s 0 0 A) (F0 m 12 ls []) := by
  intro k
  induction k with
  | zero =>
    intro x1 uba uso udn uw unu h
    exact absurd h (by simp [fX13_doesAll_L12])
  | succ k ih =>
    intro x1 uba uso udn uw unu h H locs hP hD hS ls hl
    rw [fX13_doesAll_L12] at h
    refine lv_iload_n F.1 F.2.1 dX13_doesAll_12 rfl (lv_at hl 1 rfl) ?_
    refine lv_if_eq (tgt := 55) F.1 F.2.1 dX13_doesAll_13 (by decide) (fun k1 => ?_) (fun k1 => ?_)
    · replace h := it_t k1 h
      refine lv_iconst (v := 1) F.1 F.2.1 dX13_doesAll_55 (by decide) ?_
      cases h
      exact MU_z (v := 1) F hr hlocks (Nat.le_refl _) (Nat.le_refl _) rfl hP hS dX13_doesAll_56
    · replace h := it_f k1 h
      refine lv_aload_n F.1 F.2.1 dX13_doesAll_16 rfl (lv_at hl 0 rfl) ?_
      obtain ⟨z2, k3, h⟩ := bd_ok h
      refine cMV (As := []) (rest := []) (ws' := wX13 g a0 a1 a2 a3 a4 a5 a6 a7 a8 uth uch ufc usv ull ubl z2.2.1 uea ufa z2.2.2.1 udn uw uun usr ube ubs uln ubu z2.2.2.2) F hE hX (tX13_readsCommand l dC dI g a0 a1 a2 a3 a4 a5 a6 a7 a8 uth uch ufc usv ull ubl uba uea ufa uso udn uw uun usr ube ubs uln ubu unu k3) mbX13_readsCommand q2132 ⟨(Nat.le_of_ble_eq_true rfl), (Nat.le_of_ble_eq_true rfl)⟩ ⟨(Nat.le_of_ble_eq_true rfl), (Nat.le_of_ble_eq_true rfl)⟩ hP hD hS hA [0, 1, 2, 3, 4, 5, 6, 7, 8] rfl rfl rfl rfl rfl 0 rfl rfl rfl hl.1 rfl (Nat.le_of_ble_eq_true rfl) dX13_doesAll_17 (fun H locs hP hD hS => ?_)
      refine lv_pop F.1 F.2.1 dX13_doesAll_20 rfl ?_
      refine lv_aload_n F.1 F.2.1 dX13_doesAll_21 rfl (lv_at hl 0 rfl) ?_
      obtain ⟨z4, k5, h⟩ := bd_ok h
      refine cRV (As := []) (rest := []) F hE hX hS (tX13_notNow l dC dI g a0 a1 a2 a3 a4 a5 a6 a7 a8 uth uch ufc usv ull ubl z2.2.1 uea ufa z2.2.2.1 udn uw uun usr ube ubs uln ubu z2.2.2.2 k5) mbX13_notNow q2176 ⟨(Nat.le_of_ble_eq_true rfl), (Nat.le_of_ble_eq_true rfl)⟩ ⟨Nat.zero_le _, Nat.zero_le _⟩ hP [0, 1, 2, 3, 4, 5, 6, 7, 8] rfl 0 rfl rfl rfl hl.1 rfl (Nat.le_of_ble_eq_true rfl) dX13_doesAll_22 ?_
      refine lv_if_eq (tgt := 30) F.1 F.2.1 dX13_doesAll_25 (by decide) (fun k6 => ?_) (fun k6 => ?_)
      · replace h := it_t k6 h
        refine lv_aload_n F.1 F.2.1 dX13_doesAll_30 rfl (lv_at hl 0 rfl) ?_
        obtain ⟨z7, k8, h⟩ := bd_ok h
        refine cMV (As := []) (rest := []) (ws' := wX13 g a0 a1 a2 a3 a4 a5 a6 a7 a8 uth uch ufc usv ull ubl z2.2.1 uea ufa z2.2.2.1 udn z7.2 uun usr ube ubs uln ubu z2.2.2.2) F hE hX (tX13_doesNow l dC dI g a0 a1 a2 a3 a4 a5 a6 a7 a8 uth uch ufc usv ull ubl z2.2.1 uea ufa z2.2.2.1 udn uw uun usr ube ubs uln ubu z2.2.2.2 k8) mbX13_doesNow q2180 ⟨(Nat.le_of_ble_eq_true rfl), (Nat.le_of_ble_eq_true rfl)⟩ ⟨(Nat.le_of_ble_eq_true rfl), (Nat.le_of_ble_eq_true rfl)⟩ hP hD hS hA [0, 1, 2, 3, 4, 5, 6, 7, 8] rfl rfl rfl rfl rfl 0 rfl rfl rfl hl.1 rfl (Nat.le_of_ble_eq_true rfl) dX13_doesAll_31 (fun H locs hP hD hS => ?_)
        refine lv_pop F.1 F.2.1 dX13_doesAll_34 rfl ?_
        refine lv_aload_n F.1 F.2.1 dX13_doesAll_35 rfl (lv_at hl 0 rfl) ?_
        refine lv_dup F.1 F.2.1 dX13_doesAll_36 rfl ?_
        refine gF (v := .int udn) F hE hP 0 rfl rfl inX13 18 (by decide) q1702 rfl dX13_doesAll_37 ?_
        refine lv_iconst (v := 1) F.1 F.2.1 dX13_doesAll_40 (by decide) ?_
        refine lv_iadd F.1 F.2.1 dX13_doesAll_41 ?_
        refine pF (v := .int (udn + 1)) F hE hP hD hS 0 rfl rfl inX13 tyX13 tyX13_ok nmX13 18 (by decide) q1702 rfl rfl rfl (Nat.le_of_ble_eq_true rfl) dX13_doesAll_42 (fun H locs hP hD hS => ?_)
        replace hP : va_P (dC, dI) vwCl (wX13 g a0 a1 a2 a3 a4 a5 a6 a7 a8 uth uch ufc usv ull ubl z2.2.1 uea ufa z2.2.2.1 (udn + 1) z7.2 uun usr ube ubs uln ubu z2.2.2.2) H := hP
        replace hD : va_D A (wX13 g a0 a1 a2 a3 a4 a5 a6 a7 a8 uth uch ufc usv ull ubl z2.2.1 uea ufa z2.2.2.1 (udn + 1) z7.2 uun usr ube ubs uln ubu z2.2.2.2) := hD
        refine lv_aload_n F.1 F.2.1 dX13_doesAll_45 rfl (lv_at hl 0 rfl) ?_
        refine lv_bipush (v := 59) F.1 F.2.1 dX13_doesAll_46 (by decide) ?_
        obtain ⟨z9, k10, h⟩ := bd_ok h
        refine cMV (As := [.int 59]) (rest := []) (ws' := wX13 g a0 a1 a2 a3 a4 a5 a6 a7 a8 uth uch ufc usv ull ubl z9.2 uea ufa z2.2.2.1 (udn + 1) z7.2 uun usr ube ubs uln ubu z2.2.2.2) F hE hX (tX13_reads l dC dI g a0 a1 a2 a3 a4 a5 a6 a7 a8 uth uch ufc usv ull ubl z2.2.1 uea ufa z2.2.2.1 (udn + 1) z7.2 uun usr ube ubs uln ubu z2.2.2.2 59 k10) mbX13_reads q2140 ⟨(Nat.le_of_ble_eq_true rfl), (Nat.le_of_ble_eq_true rfl)⟩ ⟨(Nat.le_of_ble_eq_true rfl), (Nat.le_of_ble_eq_true rfl)⟩ hP hD hS hA [0, 1, 2, 3, 4, 5, 6, 7, 8] rfl rfl rfl rfl rfl 0 rfl rfl rfl hl.1 rfl (Nat.le_of_ble_eq_true rfl) dX13_doesAll_48 (fun H locs hP hD hS => ?_)
        refine lv_istore_n (lv' := [(1, .int z9.1), (0, .ref a0)]) F.1 F.2.1 dX13_doesAll_51 rfl hl (by decide) rfl (fun ls hl => ?_)
        refine lv_goto (tgt := 12) F.1 F.2.1 dX13_doesAll_52 (by decide) ?_
        exact ih z9.1 z9.2 z2.2.2.1 (udn + 1) z7.2 z2.2.2.2 h _ _ hP hD hS ls (lv_sub hl [1, 0] rfl)
      · replace h := it_f k6 h
        refine lv_iconst (v := 0) F.1 F.2.1 dX13_doesAll_28 (by decide) ?_
        cases h
        exact MU_z (v := 0) F hr hlocks (Nat.le_refl _) (Nat.le_refl _) rfl hP hS dX13_doesAll_29
set_option maxHeartbeats 4000000 in
set_option maxRecDepth 100000 in
theorem tX13_doesAll (l : Launch) (dC : Nat → ClassId) (dI : Nat → Nat → Nat) (g : Nat → ClassId) (a0 a1 a2 a3 a4 a5 a6 a7 a8 : Nat) (uth : Int32) (uch : Int32) (ufc : Int32) (usv : Int32) (ull : Int32) (ubl : Int32) (uba : Int32) (uea : Int32) (ufa : Int32) (uso : Int32) (udn : Int32) (uw : Nat → Int32) (uun : Nat → Int32) (usr : Nat → Int32) (ube : Nat → Int32) (ubs : Nat → Int32) (uln : Nat → Int32) (ubu : Nat → Int32) (unu : Nat → Int32) {r : Int32 × Int32 × Int32 × Int32 × (Nat → Int32) × (Nat → Int32)} (h : fX13_doesAll ubl uso uw ubu unu = some r) : MU l yX13_doesAll cX13_doesAll 2 (some .boolean) 6 138 0 0 dC dI g [.ref a0] (wX13 g a0 a1 a2 a3 a4 a5 a6 a7 a8 uth uch ufc usv ull ubl uba uea ufa uso udn uw uun usr ube ubs uln ubu unu) (wX13 g a0 a1 a2 a3 a4 a5 a6 a7 a8 uth uch ufc usv ull ubl r.2.1 uea ufa r.2.2.1 r.2.2.2.1 r.2.2.2.2.1 uun usr ube ubs uln ubu r.2.2.2.2.2) (some (.int r.1)) := by
  refine MU_of (by decide) (Nat.le_of_ble_eq_true rfl) ?_
  intro p e s m below meth c ls F hr hlocks hE hX hA hP hD hS hl
  generalize va_A (wX13 g a0 a1 a2 a3 a4 a5 a6 a7 a8 uth uch ufc usv ull ubl uba uea ufa uso udn uw uun usr ube ubs uln ubu unu) s.heap.size = A at hA hD hS hX ⊢
  replace F : CF p m c cX13_doesAll 2 s _ RX13 := F
  replace hl : lv_has ls 2 [(0, .ref a0)] := hl
  rw [fX13_doesAll] at h
  refine lv_aload_n F.1 F.2.1 dX13_doesAll_0 rfl (lv_at hl 0 rfl) ?_
  refine lv_iconst (v := 0) F.1 F.2.1 dX13_doesAll_1 (by decide) ?_
  refine pF (v := .int 0) F hE hP hD hS 0 rfl rfl inX13 tyX13 tyX13_ok nmX13 18 (by decide) q1702 rfl rfl rfl (Nat.le_of_ble_eq_true rfl) dX13_doesAll_2 (fun H locs hP hD hS => ?_)
  replace hP : va_P (dC, dI) vwCl (wX13 g a0 a1 a2 a3 a4 a5 a6 a7 a8 uth uch ufc usv ull ubl uba uea ufa uso 0 uw uun usr ube ubs uln ubu unu) H := hP
  replace hD : va_D A (wX13 g a0 a1 a2 a3 a4 a5 a6 a7 a8 uth uch ufc usv ull ubl uba uea ufa uso 0 uw uun usr ube ubs uln ubu unu) := hD
  refine lv_aload_n F.1 F.2.1 dX13_doesAll_5 rfl (lv_at hl 0 rfl) ?_
  refine lv_iconst (v := 0) F.1 F.2.1 dX13_doesAll_6 (by decide) ?_
  refine pF (v := .int 0) F hE hP hD hS 0 rfl rfl inX13 tyX13 tyX13_ok nmX13 13 (by decide) q1697 rfl rfl rfl (Nat.le_of_ble_eq_true rfl) dX13_doesAll_7 (fun H locs hP hD hS => ?_)
  replace hP : va_P (dC, dI) vwCl (wX13 g a0 a1 a2 a3 a4 a5 a6 a7 a8 uth uch ufc usv ull ubl 0 uea ufa uso 0 uw uun usr ube ubs uln ubu unu) H := hP
  replace hD : va_D A (wX13 g a0 a1 a2 a3 a4 a5 a6 a7 a8 uth uch ufc usv ull ubl 0 uea ufa uso 0 uw uun usr ube ubs uln ubu unu) := hD
  refine lv_iconst (v := 1) F.1 F.2.1 dX13_doesAll_10 (by decide) ?_
  refine lv_istore_n (lv' := [(1, .int 1), (0, .ref a0)]) F.1 F.2.1 dX13_doesAll_11 rfl hl (by decide) rfl (fun ls hl => ?_)
  exact tX13_doesAll_L12 F hr hlocks hE hX hA uth uch ufc usv ull ubl uea ufa uun usr ube ubs uln ubu FU 1 0 uso 0 uw unu h _ _ hP hD hS ls (lv_sub hl [1, 0] rfl)
/-! WireCutterModel.run -/
def fX13_run (uch : Int32) (ufc : Int32) (ubl : Int32) (uea : Int32) (ufa : Int32) (uso : Int32) (udn : Int32) (uw : Nat → Int32) (uun : Nat → Int32) (ube : Nat → Int32) (ubu : Nat → Int32) (unu : Nat → Int32) : Option (Int32 × Int32 × Int32 × Int32 × Int32 × Int32 × Int32 × Int32 × Int32 × Int32 × (Nat → Int32) × (Nat → Int32) × (Nat → Int32) × (Nat → Int32)) :=
  (fX13_readsAll ubl uso ubu unu).bind fun z1 =>
  if z1.1 = 0 then
    (fX13_fails 1).bind fun z15 =>
    some (z15.1, z15.2, uch, ufc, 0, z1.2.1, z1.2.1, ufa, z1.2.2.1, udn, uw, uun, ube, z1.2.2.2)
  else
    (fX13_copies uw ube).bind fun z4 =>
    (fX13_doesAll ubl z1.2.2.1 uw ubu z1.2.2.2).bind fun z6 =>
    if z6.1 = 0 then
      (fX13_goesBack z6.2.2.2.2.1 z4).bind fun z9 =>
      (fX13_fails 2).bind fun z11 =>
      some (z11.1, z11.2, uch, ufc, 0, z6.2.1, uea, z6.2.2.2.1, z6.2.2.1, z6.2.2.2.1, z9, uun, z4, z6.2.2.2.2.2)
    else
      (fX13_keeps uch ufc uun z4).bind fun z13 =>
      some (z6.2.2.2.1, 0, z13.1, z13.2.1, 0, z6.2.1, uea, ufa, z6.2.2.1, z6.2.2.2.1, z6.2.2.2.2.1, z13.2.2, z4, z6.2.2.2.2.2)
theorem mbX13_run : MV yX13_run cX13_run 2 (some .int) 0 := ⟨⟨q2127, q16, by decide +kernel⟩, q2125, q2126⟩
set_option maxHeartbeats 4000000 in
set_option maxRecDepth 100000 in
theorem tX13_run (l : Launch) (dC : Nat → ClassId) (dI : Nat → Nat → Nat) (g : Nat → ClassId) (a0 a1 a2 a3 a4 a5 a6 a7 a8 : Nat) (uth : Int32) (uch : Int32) (ufc : Int32) (usv : Int32) (ull : Int32) (ubl : Int32) (uba : Int32) (uea : Int32) (ufa : Int32) (uso : Int32) (udn : Int32) (uw : Nat → Int32) (uun : Nat → Int32) (usr : Nat → Int32) (ube : Nat → Int32) (ubs : Nat → Int32) (uln : Nat → Int32) (ubu : Nat → Int32) (unu : Nat → Int32) {r : Int32 × Int32 × Int32 × Int32 × Int32 × Int32 × Int32 × Int32 × Int32 × Int32 × (Nat → Int32) × (Nat → Int32) × (Nat → Int32) × (Nat → Int32)} (h : fX13_run uch ufc ubl uea ufa uso udn uw uun ube ubu unu = some r) : MU l yX13_run cX13_run 2 (some .int) 7 159 0 0 dC dI g [.ref a0] (wX13 g a0 a1 a2 a3 a4 a5 a6 a7 a8 uth uch ufc usv ull ubl uba uea ufa uso udn uw uun usr ube ubs uln ubu unu) (wX13 g a0 a1 a2 a3 a4 a5 a6 a7 a8 r.2.1 r.2.2.1 r.2.2.2.1 usv ull r.2.2.2.2.1 r.2.2.2.2.2.1 r.2.2.2.2.2.2.1 r.2.2.2.2.2.2.2.1 r.2.2.2.2.2.2.2.2.1 r.2.2.2.2.2.2.2.2.2.1 r.2.2.2.2.2.2.2.2.2.2.1 r.2.2.2.2.2.2.2.2.2.2.2.1 usr r.2.2.2.2.2.2.2.2.2.2.2.2.1 ubs uln ubu r.2.2.2.2.2.2.2.2.2.2.2.2.2) (some (.int r.1)) := by
  refine MU_of (by decide) (Nat.le_of_ble_eq_true rfl) ?_
  intro p e s m below meth c ls F hr hlocks hE hX hA hP hD hS hl
  generalize va_A (wX13 g a0 a1 a2 a3 a4 a5 a6 a7 a8 uth uch ufc usv ull ubl uba uea ufa uso udn uw uun usr ube ubs uln ubu unu) s.heap.size = A at hA hD hS hX ⊢
  replace F : CF p m c cX13_run 2 s _ RX13 := F
  replace hl : lv_has ls 2 [(0, .ref a0)] := hl
  rw [fX13_run] at h
  refine lv_aload_n F.1 F.2.1 dX13_run_0 rfl (lv_at hl 0 rfl) ?_
  refine lv_iconst (v := 0) F.1 F.2.1 dX13_run_1 (by decide) ?_
  refine pF (v := .int 0) F hE hP hD hS 0 rfl rfl inX13 tyX13 tyX13_ok nmX13 0 (by decide) q1684 rfl rfl rfl (Nat.le_of_ble_eq_true rfl) dX13_run_2 (fun H locs hP hD hS => ?_)
  replace hP : va_P (dC, dI) vwCl (wX13 g a0 a1 a2 a3 a4 a5 a6 a7 a8 0 uch ufc usv ull ubl uba uea ufa uso udn uw uun usr ube ubs uln ubu unu) H := hP
  replace hD : va_D A (wX13 g a0 a1 a2 a3 a4 a5 a6 a7 a8 0 uch ufc usv ull ubl uba uea ufa uso udn uw uun usr ube ubs uln ubu unu) := hD
  refine lv_aload_n F.1 F.2.1 dX13_run_5 rfl (lv_at hl 0 rfl) ?_
  obtain ⟨z1, k2, h⟩ := bd_ok h
  refine cMV (As := []) (rest := []) (ws' := wX13 g a0 a1 a2 a3 a4 a5 a6 a7 a8 0 uch ufc usv ull ubl z1.2.1 uea ufa z1.2.2.1 udn uw uun usr ube ubs uln ubu z1.2.2.2) F hE hX (tX13_readsAll l dC dI g a0 a1 a2 a3 a4 a5 a6 a7 a8 0 uch ufc usv ull ubl uba uea ufa uso udn uw uun usr ube ubs uln ubu unu k2) mbX13_readsAll q2128 ⟨(Nat.le_of_ble_eq_true rfl), (Nat.le_of_ble_eq_true rfl)⟩ ⟨(Nat.le_of_ble_eq_true rfl), (Nat.le_of_ble_eq_true rfl)⟩ hP hD hS hA [0, 1, 2, 3, 4, 5, 6, 7, 8] rfl rfl rfl rfl rfl 0 rfl rfl rfl hl.1 rfl (Nat.le_of_ble_eq_true rfl) dX13_run_6 (fun H locs hP hD hS => ?_)
  refine lv_if_ne (tgt := 31) F.1 F.2.1 dX13_run_9 (by decide) (fun k3 => ?_) (fun k3 => ?_)
  · replace h := it_f k3 h
    refine lv_aload_n F.1 F.2.1 dX13_run_31 rfl (lv_at hl 0 rfl) ?_
    obtain ⟨z4, k5, h⟩ := bd_ok h
    refine cMV (As := []) (rest := []) (ws' := wX13 g a0 a1 a2 a3 a4 a5 a6 a7 a8 0 uch ufc usv ull ubl z1.2.1 uea ufa z1.2.2.1 udn uw uun usr z4 ubs uln ubu z1.2.2.2) F hE hX (tX13_copies l dC dI g a0 a1 a2 a3 a4 a5 a6 a7 a8 0 uch ufc usv ull ubl z1.2.1 uea ufa z1.2.2.1 udn uw uun usr ube ubs uln ubu z1.2.2.2 k5) mbX13_copies q1764 ⟨(Nat.le_of_ble_eq_true rfl), (Nat.le_of_ble_eq_true rfl)⟩ ⟨(Nat.le_of_ble_eq_true rfl), (Nat.le_of_ble_eq_true rfl)⟩ hP hD hS hA [0, 1, 2, 3, 4, 5, 6, 7, 8] rfl rfl rfl rfl rfl 0 rfl rfl rfl hl.1 rfl (Nat.le_of_ble_eq_true rfl) dX13_run_32 (fun H locs hP hD hS => ?_)
    refine lv_aload_n F.1 F.2.1 dX13_run_35 rfl (lv_at hl 0 rfl) ?_
    obtain ⟨z6, k7, h⟩ := bd_ok h
    refine cMV (As := []) (rest := []) (ws' := wX13 g a0 a1 a2 a3 a4 a5 a6 a7 a8 0 uch ufc usv ull ubl z6.2.1 uea ufa z6.2.2.1 z6.2.2.2.1 z6.2.2.2.2.1 uun usr z4 ubs uln ubu z6.2.2.2.2.2) F hE hX (tX13_doesAll l dC dI g a0 a1 a2 a3 a4 a5 a6 a7 a8 0 uch ufc usv ull ubl z1.2.1 uea ufa z1.2.2.1 udn uw uun usr z4 ubs uln ubu z1.2.2.2 k7) mbX13_doesAll q2172 ⟨(Nat.le_of_ble_eq_true rfl), (Nat.le_of_ble_eq_true rfl)⟩ ⟨(Nat.le_of_ble_eq_true rfl), (Nat.le_of_ble_eq_true rfl)⟩ hP hD hS hA [0, 1, 2, 3, 4, 5, 6, 7, 8] rfl rfl rfl rfl rfl 0 rfl rfl rfl hl.1 rfl (Nat.le_of_ble_eq_true rfl) dX13_run_36 (fun H locs hP hD hS => ?_)
    refine lv_istore_n (lv' := [(1, .int z6.1), (0, .ref a0)]) F.1 F.2.1 dX13_run_39 rfl hl (by decide) rfl (fun ls hl => ?_)
    refine lv_aload_n F.1 F.2.1 dX13_run_40 rfl (lv_at hl 1 rfl) ?_
    refine lv_iconst (v := 0) F.1 F.2.1 dX13_run_41 (by decide) ?_
    refine pF (v := .int 0) F hE hP hD hS 0 rfl rfl inX13 tyX13 tyX13_ok nmX13 12 (by decide) q1696 rfl rfl rfl (Nat.le_of_ble_eq_true rfl) dX13_run_42 (fun H locs hP hD hS => ?_)
    replace hP : va_P (dC, dI) vwCl (wX13 g a0 a1 a2 a3 a4 a5 a6 a7 a8 0 uch ufc usv ull 0 z6.2.1 uea ufa z6.2.2.1 z6.2.2.2.1 z6.2.2.2.2.1 uun usr z4 ubs uln ubu z6.2.2.2.2.2) H := hP
    replace hD : va_D A (wX13 g a0 a1 a2 a3 a4 a5 a6 a7 a8 0 uch ufc usv ull 0 z6.2.1 uea ufa z6.2.2.1 z6.2.2.2.1 z6.2.2.2.2.1 uun usr z4 ubs uln ubu z6.2.2.2.2.2) := hD
    refine lv_iload_n F.1 F.2.1 dX13_run_45 rfl (lv_at hl 0 rfl) ?_
    refine lv_if_eq (tgt := 58) F.1 F.2.1 dX13_run_46 (by decide) (fun k8 => ?_) (fun k8 => ?_)
    · replace h := it_t k8 h
      refine lv_aload_n F.1 F.2.1 dX13_run_58 rfl (lv_at hl 1 rfl) ?_
      obtain ⟨z9, k10, h⟩ := bd_ok h
      refine cMV (As := []) (rest := []) (ws' := wX13 g a0 a1 a2 a3 a4 a5 a6 a7 a8 0 uch ufc usv ull 0 z6.2.1 uea ufa z6.2.2.1 z6.2.2.2.1 z9 uun usr z4 ubs uln ubu z6.2.2.2.2.2) F hE hX (tX13_goesBack l dC dI g a0 a1 a2 a3 a4 a5 a6 a7 a8 0 uch ufc usv ull 0 z6.2.1 uea ufa z6.2.2.1 z6.2.2.2.1 z6.2.2.2.2.1 uun usr z4 ubs uln ubu z6.2.2.2.2.2 k10) mbX13_goesBack q2184 ⟨(Nat.le_of_ble_eq_true rfl), (Nat.le_of_ble_eq_true rfl)⟩ ⟨(Nat.le_of_ble_eq_true rfl), (Nat.le_of_ble_eq_true rfl)⟩ hP hD hS hA [0, 1, 2, 3, 4, 5, 6, 7, 8] rfl rfl rfl rfl rfl 0 rfl rfl rfl hl.1 rfl (Nat.le_of_ble_eq_true rfl) dX13_run_59 (fun H locs hP hD hS => ?_)
      refine lv_aload_n F.1 F.2.1 dX13_run_62 rfl (lv_at hl 1 rfl) ?_
      refine lv_aload_n F.1 F.2.1 dX13_run_63 rfl (lv_at hl 1 rfl) ?_
      refine gF (v := .int z6.2.2.2.1) F hE hP 0 rfl rfl inX13 18 (by decide) q1702 rfl dX13_run_64 ?_
      refine pF (v := .int z6.2.2.2.1) F hE hP hD hS 0 rfl rfl inX13 tyX13 tyX13_ok nmX13 15 (by decide) q1699 rfl rfl rfl (Nat.le_of_ble_eq_true rfl) dX13_run_67 (fun H locs hP hD hS => ?_)
      replace hP : va_P (dC, dI) vwCl (wX13 g a0 a1 a2 a3 a4 a5 a6 a7 a8 0 uch ufc usv ull 0 z6.2.1 uea z6.2.2.2.1 z6.2.2.1 z6.2.2.2.1 z9 uun usr z4 ubs uln ubu z6.2.2.2.2.2) H := hP
      replace hD : va_D A (wX13 g a0 a1 a2 a3 a4 a5 a6 a7 a8 0 uch ufc usv ull 0 z6.2.1 uea z6.2.2.2.1 z6.2.2.1 z6.2.2.2.1 z9 uun usr z4 ubs uln ubu z6.2.2.2.2.2) := hD
      refine lv_aload_n F.1 F.2.1 dX13_run_70 rfl (lv_at hl 1 rfl) ?_
      refine lv_iconst (v := 2) F.1 F.2.1 dX13_run_71 (by decide) ?_
      obtain ⟨z11, k12, h⟩ := bd_ok h
      refine cMV (As := [.int 2]) (rest := []) (ws' := wX13 g a0 a1 a2 a3 a4 a5 a6 a7 a8 z11.2 uch ufc usv ull 0 z6.2.1 uea z6.2.2.2.1 z6.2.2.1 z6.2.2.2.1 z9 uun usr z4 ubs uln ubu z6.2.2.2.2.2) F hE hX (tX13_fails l dC dI g a0 a1 a2 a3 a4 a5 a6 a7 a8 0 uch ufc usv ull 0 z6.2.1 uea z6.2.2.2.1 z6.2.2.1 z6.2.2.2.1 z9 uun usr z4 ubs uln ubu z6.2.2.2.2.2 2 k12) mbX13_fails q1756 ⟨(Nat.le_of_ble_eq_true rfl), (Nat.le_of_ble_eq_true rfl)⟩ ⟨(Nat.le_of_ble_eq_true rfl), (Nat.le_of_ble_eq_true rfl)⟩ hP hD hS hA [0, 1, 2, 3, 4, 5, 6, 7, 8] rfl rfl rfl rfl rfl 0 rfl rfl rfl hl.1 rfl (Nat.le_of_ble_eq_true rfl) dX13_run_72 (fun H locs hP hD hS => ?_)
      cases h
      exact MU_i F hr hlocks (Nat.le_refl _) (Nat.le_refl _) hP hS dX13_run_75
    · replace h := it_f k8 h
      refine lv_aload_n F.1 F.2.1 dX13_run_49 rfl (lv_at hl 1 rfl) ?_
      obtain ⟨z13, k14, h⟩ := bd_ok h
      refine cMV (As := []) (rest := []) (ws' := wX13 g a0 a1 a2 a3 a4 a5 a6 a7 a8 0 z13.1 z13.2.1 usv ull 0 z6.2.1 uea ufa z6.2.2.1 z6.2.2.2.1 z6.2.2.2.2.1 z13.2.2 usr z4 ubs uln ubu z6.2.2.2.2.2) F hE hX (tX13_keeps l dC dI g a0 a1 a2 a3 a4 a5 a6 a7 a8 0 uch ufc usv ull 0 z6.2.1 uea ufa z6.2.2.1 z6.2.2.2.1 z6.2.2.2.2.1 uun usr z4 ubs uln ubu z6.2.2.2.2.2 k14) mbX13_keeps q1768 ⟨(Nat.le_of_ble_eq_true rfl), (Nat.le_of_ble_eq_true rfl)⟩ ⟨(Nat.le_of_ble_eq_true rfl), (Nat.le_of_ble_eq_true rfl)⟩ hP hD hS hA [0, 1, 2, 3, 4, 5, 6, 7, 8] rfl rfl rfl rfl rfl 0 rfl rfl rfl hl.1 rfl (Nat.le_of_ble_eq_true rfl) dX13_run_50 (fun H locs hP hD hS => ?_)
      refine lv_aload_n F.1 F.2.1 dX13_run_53 rfl (lv_at hl 1 rfl) ?_
      refine gF (v := .int z6.2.2.2.1) F hE hP 0 rfl rfl inX13 18 (by decide) q1702 rfl dX13_run_54 ?_
      cases h
      exact MU_i F hr hlocks (Nat.le_refl _) (Nat.le_refl _) hP hS dX13_run_57
  · replace h := it_t k3 h
    refine lv_aload_n F.1 F.2.1 dX13_run_12 rfl (lv_at hl 0 rfl) ?_
    refine lv_aload_n F.1 F.2.1 dX13_run_13 rfl (lv_at hl 0 rfl) ?_
    refine gF (v := .int z1.2.1) F hE hP 0 rfl rfl inX13 13 (by decide) q1697 rfl dX13_run_14 ?_
    refine pF (v := .int z1.2.1) F hE hP hD hS 0 rfl rfl inX13 tyX13 tyX13_ok nmX13 14 (by decide) q1698 rfl rfl rfl (Nat.le_of_ble_eq_true rfl) dX13_run_17 (fun H locs hP hD hS => ?_)
    replace hP : va_P (dC, dI) vwCl (wX13 g a0 a1 a2 a3 a4 a5 a6 a7 a8 0 uch ufc usv ull ubl z1.2.1 z1.2.1 ufa z1.2.2.1 udn uw uun usr ube ubs uln ubu z1.2.2.2) H := hP
    replace hD : va_D A (wX13 g a0 a1 a2 a3 a4 a5 a6 a7 a8 0 uch ufc usv ull ubl z1.2.1 z1.2.1 ufa z1.2.2.1 udn uw uun usr ube ubs uln ubu z1.2.2.2) := hD
    refine lv_aload_n F.1 F.2.1 dX13_run_20 rfl (lv_at hl 0 rfl) ?_
    refine lv_iconst (v := 0) F.1 F.2.1 dX13_run_21 (by decide) ?_
    refine pF (v := .int 0) F hE hP hD hS 0 rfl rfl inX13 tyX13 tyX13_ok nmX13 12 (by decide) q1696 rfl rfl rfl (Nat.le_of_ble_eq_true rfl) dX13_run_22 (fun H locs hP hD hS => ?_)
    replace hP : va_P (dC, dI) vwCl (wX13 g a0 a1 a2 a3 a4 a5 a6 a7 a8 0 uch ufc usv ull 0 z1.2.1 z1.2.1 ufa z1.2.2.1 udn uw uun usr ube ubs uln ubu z1.2.2.2) H := hP
    replace hD : va_D A (wX13 g a0 a1 a2 a3 a4 a5 a6 a7 a8 0 uch ufc usv ull 0 z1.2.1 z1.2.1 ufa z1.2.2.1 udn uw uun usr ube ubs uln ubu z1.2.2.2) := hD
    refine lv_aload_n F.1 F.2.1 dX13_run_25 rfl (lv_at hl 0 rfl) ?_
    refine lv_iconst (v := 1) F.1 F.2.1 dX13_run_26 (by decide) ?_
    obtain ⟨z15, k16, h⟩ := bd_ok h
    refine cMV (As := [.int 1]) (rest := []) (ws' := wX13 g a0 a1 a2 a3 a4 a5 a6 a7 a8 z15.2 uch ufc usv ull 0 z1.2.1 z1.2.1 ufa z1.2.2.1 udn uw uun usr ube ubs uln ubu z1.2.2.2) F hE hX (tX13_fails l dC dI g a0 a1 a2 a3 a4 a5 a6 a7 a8 0 uch ufc usv ull 0 z1.2.1 z1.2.1 ufa z1.2.2.1 udn uw uun usr ube ubs uln ubu z1.2.2.2 1 k16) mbX13_fails q1756 ⟨(Nat.le_of_ble_eq_true rfl), (Nat.le_of_ble_eq_true rfl)⟩ ⟨(Nat.le_of_ble_eq_true rfl), (Nat.le_of_ble_eq_true rfl)⟩ hP hD hS hA [0, 1, 2, 3, 4, 5, 6, 7, 8] rfl rfl rfl rfl rfl 0 rfl rfl rfl hl.1 rfl (Nat.le_of_ble_eq_true rfl) dX13_run_27 (fun H locs hP hD hS => ?_)
    cases h
    exact MU_i F hr hlocks (Nat.le_refl _) (Nat.le_refl _) hP hS dX13_run_30
/-! WireCutterModel.errorPosition -/
def fX13_errorPosition (uea : Int32) : Option (Int32 × Int32) :=
  if 0 ≤ uea then
    some (uea, 0)
  else
    (fX13_fails 1).bind fun z2 =>
    some (z2.1, z2.2)
theorem mbX13_errorPosition : MV yX13_errorPosition cX13_errorPosition 1 (some .int) 0 := ⟨⟨q2191, q16, by decide +kernel⟩, q2189, q2190⟩
set_option maxHeartbeats 4000000 in
set_option maxRecDepth 100000 in
theorem tX13_errorPosition (l : Launch) (dC : Nat → ClassId) (dI : Nat → Nat → Nat) (g : Nat → ClassId) (a0 a1 a2 a3 a4 a5 a6 a7 a8 : Nat) (uth : Int32) (uch : Int32) (ufc : Int32) (usv : Int32) (ull : Int32) (ubl : Int32) (uba : Int32) (uea : Int32) (ufa : Int32) (uso : Int32) (udn : Int32) (uw : Nat → Int32) (uun : Nat → Int32) (usr : Nat → Int32) (ube : Nat → Int32) (ubs : Nat → Int32) (uln : Nat → Int32) (ubu : Nat → Int32) (unu : Nat → Int32) {r : Int32 × Int32} (h : fX13_errorPosition uea = some r) : MU l yX13_errorPosition cX13_errorPosition 1 (some .int) 1 21 0 0 dC dI g [.ref a0] (wX13 g a0 a1 a2 a3 a4 a5 a6 a7 a8 uth uch ufc usv ull ubl uba uea ufa uso udn uw uun usr ube ubs uln ubu unu) (wX13 g a0 a1 a2 a3 a4 a5 a6 a7 a8 r.2 uch ufc usv ull ubl uba uea ufa uso udn uw uun usr ube ubs uln ubu unu) (some (.int r.1)) := by
  refine MU_of (by decide) (Nat.le_of_ble_eq_true rfl) ?_
  intro p e s m below meth c ls F hr hlocks hE hX hA hP hD hS hl
  generalize va_A (wX13 g a0 a1 a2 a3 a4 a5 a6 a7 a8 uth uch ufc usv ull ubl uba uea ufa uso udn uw uun usr ube ubs uln ubu unu) s.heap.size = A at hA hD hS hX ⊢
  replace F : CF p m c cX13_errorPosition 1 s _ RX13 := F
  replace hl : lv_has ls 1 [(0, .ref a0)] := hl
  rw [fX13_errorPosition] at h
  refine lv_aload_n F.1 F.2.1 dX13_errorPosition_0 rfl (lv_at hl 0 rfl) ?_
  refine lv_iconst (v := 0) F.1 F.2.1 dX13_errorPosition_1 (by decide) ?_
  refine pF (v := .int 0) F hE hP hD hS 0 rfl rfl inX13 tyX13 tyX13_ok nmX13 0 (by decide) q1684 rfl rfl rfl (Nat.le_of_ble_eq_true rfl) dX13_errorPosition_2 (fun H locs hP hD hS => ?_)
  replace hP : va_P (dC, dI) vwCl (wX13 g a0 a1 a2 a3 a4 a5 a6 a7 a8 0 uch ufc usv ull ubl uba uea ufa uso udn uw uun usr ube ubs uln ubu unu) H := hP
  replace hD : va_D A (wX13 g a0 a1 a2 a3 a4 a5 a6 a7 a8 0 uch ufc usv ull ubl uba uea ufa uso udn uw uun usr ube ubs uln ubu unu) := hD
  refine lv_aload_n F.1 F.2.1 dX13_errorPosition_5 rfl (lv_at hl 0 rfl) ?_
  refine gF (v := .int uea) F hE hP 0 rfl rfl inX13 14 (by decide) q1698 rfl dX13_errorPosition_6 ?_
  refine lv_if_ge (tgt := 20) F.1 F.2.1 dX13_errorPosition_9 (by decide) (fun k1 => ?_) (fun k1 => ?_)
  · replace h := it_t k1 h
    refine lv_aload_n F.1 F.2.1 dX13_errorPosition_20 rfl (lv_at hl 0 rfl) ?_
    refine gF (v := .int uea) F hE hP 0 rfl rfl inX13 14 (by decide) q1698 rfl dX13_errorPosition_21 ?_
    cases h
    exact MU_i F hr hlocks (Nat.le_refl _) (Nat.le_refl _) hP hS dX13_errorPosition_24
  · replace h := it_f k1 h
    refine lv_aload_n F.1 F.2.1 dX13_errorPosition_12 rfl (lv_at hl 0 rfl) ?_
    refine lv_iconst (v := 1) F.1 F.2.1 dX13_errorPosition_13 (by decide) ?_
    obtain ⟨z2, k3, h⟩ := bd_ok h
    refine cMV (As := [.int 1]) (rest := []) (ws' := wX13 g a0 a1 a2 a3 a4 a5 a6 a7 a8 z2.2 uch ufc usv ull ubl uba uea ufa uso udn uw uun usr ube ubs uln ubu unu) F hE hX (tX13_fails l dC dI g a0 a1 a2 a3 a4 a5 a6 a7 a8 0 uch ufc usv ull ubl uba uea ufa uso udn uw uun usr ube ubs uln ubu unu 1 k3) mbX13_fails q1756 ⟨(Nat.le_of_ble_eq_true rfl), (Nat.le_of_ble_eq_true rfl)⟩ ⟨(Nat.le_of_ble_eq_true rfl), (Nat.le_of_ble_eq_true rfl)⟩ hP hD hS hA [0, 1, 2, 3, 4, 5, 6, 7, 8] rfl rfl rfl rfl rfl 0 rfl rfl rfl hl.1 rfl (Nat.le_of_ble_eq_true rfl) dX13_errorPosition_14 (fun H locs hP hD hS => ?_)
    refine lv_goto (tgt := 24) F.1 F.2.1 dX13_errorPosition_17 (by decide) ?_
    cases h
    exact MU_i F hr hlocks (Nat.le_refl _) (Nat.le_refl _) hP hS dX13_errorPosition_24
/-! WireCutterModel.failedCommand -/
def fX13_failedCommand (ufa : Int32) : Option (Int32 × Int32) :=
  if 0 ≤ ufa then
    some (ufa, 0)
  else
    (fX13_fails 1).bind fun z2 =>
    some (z2.1, z2.2)
theorem mbX13_failedCommand : MV yX13_failedCommand cX13_failedCommand 1 (some .int) 0 := ⟨⟨q2195, q16, by decide +kernel⟩, q2193, q2194⟩
set_option maxHeartbeats 4000000 in
set_option maxRecDepth 100000 in
theorem tX13_failedCommand (l : Launch) (dC : Nat → ClassId) (dI : Nat → Nat → Nat) (g : Nat → ClassId) (a0 a1 a2 a3 a4 a5 a6 a7 a8 : Nat) (uth : Int32) (uch : Int32) (ufc : Int32) (usv : Int32) (ull : Int32) (ubl : Int32) (uba : Int32) (uea : Int32) (ufa : Int32) (uso : Int32) (udn : Int32) (uw : Nat → Int32) (uun : Nat → Int32) (usr : Nat → Int32) (ube : Nat → Int32) (ubs : Nat → Int32) (uln : Nat → Int32) (ubu : Nat → Int32) (unu : Nat → Int32) {r : Int32 × Int32} (h : fX13_failedCommand ufa = some r) : MU l yX13_failedCommand cX13_failedCommand 1 (some .int) 1 21 0 0 dC dI g [.ref a0] (wX13 g a0 a1 a2 a3 a4 a5 a6 a7 a8 uth uch ufc usv ull ubl uba uea ufa uso udn uw uun usr ube ubs uln ubu unu) (wX13 g a0 a1 a2 a3 a4 a5 a6 a7 a8 r.2 uch ufc usv ull ubl uba uea ufa uso udn uw uun usr ube ubs uln ubu unu) (some (.int r.1)) := by
  refine MU_of (by decide) (Nat.le_of_ble_eq_true rfl) ?_
  intro p e s m below meth c ls F hr hlocks hE hX hA hP hD hS hl
  generalize va_A (wX13 g a0 a1 a2 a3 a4 a5 a6 a7 a8 uth uch ufc usv ull ubl uba uea ufa uso udn uw uun usr ube ubs uln ubu unu) s.heap.size = A at hA hD hS hX ⊢
  replace F : CF p m c cX13_failedCommand 1 s _ RX13 := F
  replace hl : lv_has ls 1 [(0, .ref a0)] := hl
  rw [fX13_failedCommand] at h
  refine lv_aload_n F.1 F.2.1 dX13_failedCommand_0 rfl (lv_at hl 0 rfl) ?_
  refine lv_iconst (v := 0) F.1 F.2.1 dX13_failedCommand_1 (by decide) ?_
  refine pF (v := .int 0) F hE hP hD hS 0 rfl rfl inX13 tyX13 tyX13_ok nmX13 0 (by decide) q1684 rfl rfl rfl (Nat.le_of_ble_eq_true rfl) dX13_failedCommand_2 (fun H locs hP hD hS => ?_)
  replace hP : va_P (dC, dI) vwCl (wX13 g a0 a1 a2 a3 a4 a5 a6 a7 a8 0 uch ufc usv ull ubl uba uea ufa uso udn uw uun usr ube ubs uln ubu unu) H := hP
  replace hD : va_D A (wX13 g a0 a1 a2 a3 a4 a5 a6 a7 a8 0 uch ufc usv ull ubl uba uea ufa uso udn uw uun usr ube ubs uln ubu unu) := hD
  refine lv_aload_n F.1 F.2.1 dX13_failedCommand_5 rfl (lv_at hl 0 rfl) ?_
  refine gF (v := .int ufa) F hE hP 0 rfl rfl inX13 15 (by decide) q1699 rfl dX13_failedCommand_6 ?_
  refine lv_if_ge (tgt := 20) F.1 F.2.1 dX13_failedCommand_9 (by decide) (fun k1 => ?_) (fun k1 => ?_)
  · replace h := it_t k1 h
    refine lv_aload_n F.1 F.2.1 dX13_failedCommand_20 rfl (lv_at hl 0 rfl) ?_
    refine gF (v := .int ufa) F hE hP 0 rfl rfl inX13 15 (by decide) q1699 rfl dX13_failedCommand_21 ?_
    cases h
    exact MU_i F hr hlocks (Nat.le_refl _) (Nat.le_refl _) hP hS dX13_failedCommand_24
  · replace h := it_f k1 h
    refine lv_aload_n F.1 F.2.1 dX13_failedCommand_12 rfl (lv_at hl 0 rfl) ?_
    refine lv_iconst (v := 1) F.1 F.2.1 dX13_failedCommand_13 (by decide) ?_
    obtain ⟨z2, k3, h⟩ := bd_ok h
    refine cMV (As := [.int 1]) (rest := []) (ws' := wX13 g a0 a1 a2 a3 a4 a5 a6 a7 a8 z2.2 uch ufc usv ull ubl uba uea ufa uso udn uw uun usr ube ubs uln ubu unu) F hE hX (tX13_fails l dC dI g a0 a1 a2 a3 a4 a5 a6 a7 a8 0 uch ufc usv ull ubl uba uea ufa uso udn uw uun usr ube ubs uln ubu unu 1 k3) mbX13_fails q1756 ⟨(Nat.le_of_ble_eq_true rfl), (Nat.le_of_ble_eq_true rfl)⟩ ⟨(Nat.le_of_ble_eq_true rfl), (Nat.le_of_ble_eq_true rfl)⟩ hP hD hS hA [0, 1, 2, 3, 4, 5, 6, 7, 8] rfl rfl rfl rfl rfl 0 rfl rfl rfl hl.1 rfl (Nat.le_of_ble_eq_true rfl) dX13_failedCommand_14 (fun H locs hP hD hS => ?_)
    refine lv_goto (tgt := 24) F.1 F.2.1 dX13_failedCommand_17 (by decide) ?_
    cases h
    exact MU_i F hr hlocks (Nat.le_refl _) (Nat.le_refl _) hP hS dX13_failedCommand_24
/-! WireCutterModel.undo -/
def fX13_undo_L43 (x1 : Int32) (uth : Int32) (uch : Int32) (uun : Nat → Int32) : Nat → Int32 → (Nat → Int32) → Option (Int32 × Int32 × Int32 × (Nat → Int32))
  | 0, _, _ => none
  | k + 1, x2, uw =>
    if 201 ≤ x2 then
      some (uch, uth, uch, uw)
    else
      gd (inR ((201 * x1) + x2) 1608) <|
      gd (inR x2 201) <|
      fX13_undo_L43 x1 uth uch uun k (x2 + 1) (upd uw x2.toNatClampNeg (uun (((201 * x1) + x2).toNatClampNeg)))
def fX13_undo (uch : Int32) (ufc : Int32) (uw : Nat → Int32) (uun : Nat → Int32) : Option (Int32 × Int32 × Int32 × (Nat → Int32)) :=
  if uch = 0 then
    (fX13_fails 1).bind fun z5 =>
    some (z5.1, z5.2, uch, uw)
  else
    fX13_undo_L43 ((ufc + (uch - 1)) - (ufc + (uch - 1)) / 8 * 8) 0 (uch - 1) uun FU 0 uw
theorem mbX13_undo : MV yX13_undo cX13_undo 3 (some .int) 0 := ⟨⟨q2199, q16, by decide +kernel⟩, q2197, q2198⟩
set_option maxHeartbeats 4000000 in
set_option maxRecDepth 100000 in
theorem tX13_undo_L43 {p : Program} {l : Launch} {e : Env} {s : State} {m : MethodId} {args : Array Value} {below : List Frame} {meth : Method} {c : Code} {dC : Nat → ClassId} {dI : Nat → Nat → Nat} {g : Nat → ClassId} {a0 a1 a2 a3 a4 a5 a6 a7 a8 : Nat} {r : Int32 × Int32 × Int32 × (Nat → Int32)} {A : Nat → Prop} (F : CF p m c cX13_undo 3 s args RX13) (hr : meth.sig.returnType = (some .int)) (hlocks : meth.locks = false) (hE : EK dC dI g s) (hX : EX g A s s.heap) (hA : ∀ q : Nat, s.heap.size ≤ q → A q) (x1 : Int32) (uth : Int32) (uch : Int32) (ufc : Int32) (usv : Int32) (ull : Int32) (ubl : Int32) (uba : Int32) (uea : Int32) (ufa : Int32) (uso : Int32) (udn : Int32) (uun : Nat → Int32) (usr : Nat → Int32) (ube : Nat → Int32) (ubs : Nat → Int32) (uln : Nat → Int32) (ubu : Nat → Int32) (unu : Nat → Int32) : ∀ (k : Nat) (x2 : Int32) (uw : Nat → Int32), fX13_undo_L43 x1 uth uch uun k x2 uw = some r → ∀ (H : Heap) (locs : List Loc), va_P (dC, dI) vwCl (wX13 g a0 a1 a2 a3 a4 a5 a6 a7 a8 uth uch ufc usv ull ubl uba uea ufa uso udn uw uun usr ube ubs uln ubu unu) H → va_D A (wX13 g a0 a1 a2 a3 a4 a5 a6 a7 a8 uth uch ufc usv ull ubl uba uea ufa uso udn uw uun usr ube ubs uln ubu unu) → va_S A s.heap H locs → ∀ (ls : Array Slot), lv_has ls 3 [(0, .ref a0), (1, .int x1), (2, .int x2)] → W p l e { frames := 1, cells := 0, slots := 0, locals := 21 } s m args below meth c H locs 0 0 (MQ below (fun _ st o t => o = .returned (some (.int r.1)) ∧ va_P (dC, dI) vwCl (wX13 g a0 a1 a2 a3 a4 a5 a6 a7 a8 r.2.1 r.2.2.1 ufc usv ull ubl uba uea ufa uso udn r.2.2.2 uun usr ube ubs uln ubu unu) t.heap ∧ va_F A st t) args s 0 0 A) (F0 m 43 ls []) := by
  intro k
  induction k with
  | zero =>
    intro x2 uw h
    exact absurd h (by simp [fX13_undo_L43])
  | succ k ih =>
    intro x2 uw h H locs hP hD hS ls hl
    rw [fX13_undo_L43] at h
    refine lv_iload_n F.1 F.2.1 dX13_undo_43 rfl (lv_at hl 2 rfl) ?_
    refine lv_sipush (v := 201) F.1 F.2.1 dX13_undo_44 (by decide) ?_
    refine lv_icmp_ge (tgt := 74) F.1 F.2.1 dX13_undo_47 (by decide) (fun k2 => ?_) (fun k2 => ?_)
    · replace h := it_t k2 h
      refine lv_aload_n F.1 F.2.1 dX13_undo_74 rfl (lv_at hl 0 rfl) ?_
      refine gF (v := .int uch) F hE hP 0 rfl rfl inX13 5 (by decide) q1689 rfl dX13_undo_75 ?_
      cases h
      exact MU_i F hr hlocks (Nat.le_refl _) (Nat.le_refl _) hP hS dX13_undo_78
    · replace h := it_f k2 h
      refine lv_aload_n F.1 F.2.1 dX13_undo_50 rfl (lv_at hl 0 rfl) ?_
      refine gF (v := .ref a1) F hE hP 0 rfl rfl inX13 1 (by decide) q1685 rfl dX13_undo_51 ?_
      refine lv_iload_n F.1 F.2.1 dX13_undo_54 rfl (lv_at hl 2 rfl) ?_
      refine lv_aload_n F.1 F.2.1 dX13_undo_55 rfl (lv_at hl 0 rfl) ?_
      refine gF (v := .ref a2) F hE hP 0 rfl rfl inX13 2 (by decide) q1686 rfl dX13_undo_56 ?_
      refine lv_sipush (v := 201) F.1 F.2.1 dX13_undo_59 (by decide) ?_
      refine lv_iload_n F.1 F.2.1 dX13_undo_62 rfl (lv_at hl 1 rfl) ?_
      refine lv_imul F.1 F.2.1 dX13_undo_63 ?_
      refine lv_iload_n F.1 F.2.1 dX13_undo_64 rfl (lv_at hl 2 rfl) ?_
      refine lv_iadd F.1 F.2.1 dX13_undo_65 ?_
      obtain ⟨k3, h⟩ := gd_ok h
      refine aLi (k := ((201 * x1) + x2).toNatClampNeg) F hE hP 2 0 rfl rfl k3 rfl dX13_undo_66 ?_
      obtain ⟨k4, h⟩ := gd_ok h
      refine aSi (k := x2.toNatClampNeg) F hE hP hD hS 1 0 rfl rfl k4 rfl dX13_undo_67 (fun H locs hP hD hS => ?_)
      replace hP : va_P (dC, dI) vwCl (wX13 g a0 a1 a2 a3 a4 a5 a6 a7 a8 uth uch ufc usv ull ubl uba uea ufa uso udn (upd uw x2.toNatClampNeg (uun (((201 * x1) + x2).toNatClampNeg))) uun usr ube ubs uln ubu unu) H := hP
      replace hD : va_D A (wX13 g a0 a1 a2 a3 a4 a5 a6 a7 a8 uth uch ufc usv ull ubl uba uea ufa uso udn (upd uw x2.toNatClampNeg (uun (((201 * x1) + x2).toNatClampNeg))) uun usr ube ubs uln ubu unu) := hD
      refine lv_iinc (v := x2 + 1) (lv' := [(2, .int (x2 + 1)), (0, .ref a0), (1, .int x1)]) F.1 F.2.1 dX13_undo_68 hl (k := 2) rfl (by rfl) (by decide) rfl (fun ls hl => ?_)
      refine lv_goto (tgt := 43) F.1 F.2.1 dX13_undo_71 (by decide) ?_
      exact ih (x2 + 1) (upd uw x2.toNatClampNeg (uun (((201 * x1) + x2).toNatClampNeg))) h _ _ hP hD hS ls (lv_sub hl [1, 2, 0] rfl)
set_option maxHeartbeats 4000000 in
set_option maxRecDepth 100000 in
theorem tX13_undo (l : Launch) (dC : Nat → ClassId) (dI : Nat → Nat → Nat) (g : Nat → ClassId) (a0 a1 a2 a3 a4 a5 a6 a7 a8 : Nat) (uth : Int32) (uch : Int32) (ufc : Int32) (usv : Int32) (ull : Int32) (ubl : Int32) (uba : Int32) (uea : Int32) (ufa : Int32) (uso : Int32) (udn : Int32) (uw : Nat → Int32) (uun : Nat → Int32) (usr : Nat → Int32) (ube : Nat → Int32) (ubs : Nat → Int32) (uln : Nat → Int32) (ubu : Nat → Int32) (unu : Nat → Int32) {r : Int32 × Int32 × Int32 × (Nat → Int32)} (h : fX13_undo uch ufc uw uun = some r) : MU l yX13_undo cX13_undo 3 (some .int) 1 21 0 0 dC dI g [.ref a0] (wX13 g a0 a1 a2 a3 a4 a5 a6 a7 a8 uth uch ufc usv ull ubl uba uea ufa uso udn uw uun usr ube ubs uln ubu unu) (wX13 g a0 a1 a2 a3 a4 a5 a6 a7 a8 r.2.1 r.2.2.1 ufc usv ull ubl uba uea ufa uso udn r.2.2.2 uun usr ube ubs uln ubu unu) (some (.int r.1)) := by
  refine MU_of (by decide) (Nat.le_of_ble_eq_true rfl) ?_
  intro p e s m below meth c ls F hr hlocks hE hX hA hP hD hS hl
  generalize va_A (wX13 g a0 a1 a2 a3 a4 a5 a6 a7 a8 uth uch ufc usv ull ubl uba uea ufa uso udn uw uun usr ube ubs uln ubu unu) s.heap.size = A at hA hD hS hX ⊢
  replace F : CF p m c cX13_undo 3 s _ RX13 := F
  replace hl : lv_has ls 3 [(0, .ref a0)] := hl
  rw [fX13_undo] at h
  refine lv_aload_n F.1 F.2.1 dX13_undo_0 rfl (lv_at hl 0 rfl) ?_
  refine lv_iconst (v := 0) F.1 F.2.1 dX13_undo_1 (by decide) ?_
  refine pF (v := .int 0) F hE hP hD hS 0 rfl rfl inX13 tyX13 tyX13_ok nmX13 0 (by decide) q1684 rfl rfl rfl (Nat.le_of_ble_eq_true rfl) dX13_undo_2 (fun H locs hP hD hS => ?_)
  replace hP : va_P (dC, dI) vwCl (wX13 g a0 a1 a2 a3 a4 a5 a6 a7 a8 0 uch ufc usv ull ubl uba uea ufa uso udn uw uun usr ube ubs uln ubu unu) H := hP
  replace hD : va_D A (wX13 g a0 a1 a2 a3 a4 a5 a6 a7 a8 0 uch ufc usv ull ubl uba uea ufa uso udn uw uun usr ube ubs uln ubu unu) := hD
  refine lv_aload_n F.1 F.2.1 dX13_undo_5 rfl (lv_at hl 0 rfl) ?_
  refine gF (v := .int uch) F hE hP 0 rfl rfl inX13 5 (by decide) q1689 rfl dX13_undo_6 ?_
  refine lv_if_ne (tgt := 18) F.1 F.2.1 dX13_undo_9 (by decide) (fun k1 => ?_) (fun k1 => ?_)
  · replace h := it_f k1 h
    refine lv_aload_n F.1 F.2.1 dX13_undo_18 rfl (lv_at hl 0 rfl) ?_
    refine lv_dup F.1 F.2.1 dX13_undo_19 rfl ?_
    refine gF (v := .int uch) F hE hP 0 rfl rfl inX13 5 (by decide) q1689 rfl dX13_undo_20 ?_
    refine lv_iconst (v := 1) F.1 F.2.1 dX13_undo_23 (by decide) ?_
    refine lv_isub F.1 F.2.1 dX13_undo_24 ?_
    refine pF (v := .int (uch - 1)) F hE hP hD hS 0 rfl rfl inX13 tyX13 tyX13_ok nmX13 5 (by decide) q1689 rfl rfl rfl (Nat.le_of_ble_eq_true rfl) dX13_undo_25 (fun H locs hP hD hS => ?_)
    replace hP : va_P (dC, dI) vwCl (wX13 g a0 a1 a2 a3 a4 a5 a6 a7 a8 0 (uch - 1) ufc usv ull ubl uba uea ufa uso udn uw uun usr ube ubs uln ubu unu) H := hP
    replace hD : va_D A (wX13 g a0 a1 a2 a3 a4 a5 a6 a7 a8 0 (uch - 1) ufc usv ull ubl uba uea ufa uso udn uw uun usr ube ubs uln ubu unu) := hD
    refine lv_aload_n F.1 F.2.1 dX13_undo_28 rfl (lv_at hl 0 rfl) ?_
    refine gF (v := .int ufc) F hE hP 0 rfl rfl inX13 6 (by decide) q1690 rfl dX13_undo_29 ?_
    refine lv_aload_n F.1 F.2.1 dX13_undo_32 rfl (lv_at hl 0 rfl) ?_
    refine gF (v := .int (uch - 1)) F hE hP 0 rfl rfl inX13 5 (by decide) q1689 rfl dX13_undo_33 ?_
    refine lv_iadd F.1 F.2.1 dX13_undo_36 ?_
    refine lv_bipush (v := 8) F.1 F.2.1 dX13_undo_37 (by decide) ?_
    refine lv_irem F.1 F.2.1 dX13_undo_39 (by decide) ?_
    refine lv_istore_n (lv' := [(1, .int ((ufc + (uch - 1)) - (ufc + (uch - 1)) / 8 * 8)), (0, .ref a0)]) F.1 F.2.1 dX13_undo_40 rfl hl (by decide) rfl (fun ls hl => ?_)
    refine lv_iconst (v := 0) F.1 F.2.1 dX13_undo_41 (by decide) ?_
    refine lv_istore_n (lv' := [(2, .int 0), (1, .int ((ufc + (uch - 1)) - (ufc + (uch - 1)) / 8 * 8)), (0, .ref a0)]) F.1 F.2.1 dX13_undo_42 rfl hl (by decide) rfl (fun ls hl => ?_)
    exact tX13_undo_L43 F hr hlocks hE hX hA ((ufc + (uch - 1)) - (ufc + (uch - 1)) / 8 * 8) 0 (uch - 1) ufc usv ull ubl uba uea ufa uso udn uun usr ube ubs uln ubu unu FU 0 uw h _ _ hP hD hS ls (lv_sub hl [2, 1, 0] rfl)
  · replace h := it_t k1 h
    refine lv_aload_n F.1 F.2.1 dX13_undo_12 rfl (lv_at hl 0 rfl) ?_
    refine lv_iconst (v := 1) F.1 F.2.1 dX13_undo_13 (by decide) ?_
    obtain ⟨z5, k6, h⟩ := bd_ok h
    refine cMV (As := [.int 1]) (rest := []) (ws' := wX13 g a0 a1 a2 a3 a4 a5 a6 a7 a8 z5.2 uch ufc usv ull ubl uba uea ufa uso udn uw uun usr ube ubs uln ubu unu) F hE hX (tX13_fails l dC dI g a0 a1 a2 a3 a4 a5 a6 a7 a8 0 uch ufc usv ull ubl uba uea ufa uso udn uw uun usr ube ubs uln ubu unu 1 k6) mbX13_fails q1756 ⟨(Nat.le_of_ble_eq_true rfl), (Nat.le_of_ble_eq_true rfl)⟩ ⟨(Nat.le_of_ble_eq_true rfl), (Nat.le_of_ble_eq_true rfl)⟩ hP hD hS hA [0, 1, 2, 3, 4, 5, 6, 7, 8] rfl rfl rfl rfl rfl 0 rfl rfl rfl hl.1 rfl (Nat.le_of_ble_eq_true rfl) dX13_undo_14 (fun H locs hP hD hS => ?_)
    cases h
    exact MU_i F hr hlocks (Nat.le_refl _) (Nat.le_refl _) hP hS dX13_undo_17
/-! WireCutterModel.save -/
def fX13_save_L7 (uth : Int32) (uw : Nat → Int32) : Nat → Int32 → (Nat → Int32) → Option (Int32 × Int32 × Int32 × (Nat → Int32))
  | 0, _, _ => none
  | k + 1, x1, usr =>
    if 201 ≤ x1 then
      some (uw 0, uth, 1, usr)
    else
      gd (inR x1 201) <|
      gd (inR x1 201) <|
      fX13_save_L7 uth uw k (x1 + 1) (upd usr x1.toNatClampNeg (uw x1.toNatClampNeg))
def fX13_save (uw : Nat → Int32) (usr : Nat → Int32) : Option (Int32 × Int32 × Int32 × (Nat → Int32)) :=
  fX13_save_L7 0 uw FU 0 usr
theorem mbX13_save : MV yX13_save cX13_save 2 (some .int) 0 := ⟨⟨q2203, q16, by decide +kernel⟩, q2201, q2202⟩
set_option maxHeartbeats 4000000 in
set_option maxRecDepth 100000 in
theorem tX13_save_L7 {p : Program} {l : Launch} {e : Env} {s : State} {m : MethodId} {args : Array Value} {below : List Frame} {meth : Method} {c : Code} {dC : Nat → ClassId} {dI : Nat → Nat → Nat} {g : Nat → ClassId} {a0 a1 a2 a3 a4 a5 a6 a7 a8 : Nat} {r : Int32 × Int32 × Int32 × (Nat → Int32)} {A : Nat → Prop} (F : CF p m c cX13_save 2 s args RX13) (hr : meth.sig.returnType = (some .int)) (hlocks : meth.locks = false) (hE : EK dC dI g s) (hX : EX g A s s.heap) (hA : ∀ q : Nat, s.heap.size ≤ q → A q) (uth : Int32) (uch : Int32) (ufc : Int32) (usv : Int32) (ull : Int32) (ubl : Int32) (uba : Int32) (uea : Int32) (ufa : Int32) (uso : Int32) (udn : Int32) (uw : Nat → Int32) (uun : Nat → Int32) (ube : Nat → Int32) (ubs : Nat → Int32) (uln : Nat → Int32) (ubu : Nat → Int32) (unu : Nat → Int32) : ∀ (k : Nat) (x1 : Int32) (usr : Nat → Int32), fX13_save_L7 uth uw k x1 usr = some r → ∀ (H : Heap) (locs : List Loc), va_P (dC, dI) vwCl (wX13 g a0 a1 a2 a3 a4 a5 a6 a7 a8 uth uch ufc usv ull ubl uba uea ufa uso udn uw uun usr ube ubs uln ubu unu) H → va_D A (wX13 g a0 a1 a2 a3 a4 a5 a6 a7 a8 uth uch ufc usv ull ubl uba uea ufa uso udn uw uun usr ube ubs uln ubu unu) → va_S A s.heap H locs → ∀ (ls : Array Slot), lv_has ls 2 [(0, .ref a0), (1, .int x1)] → W p l e { frames := 0, cells := 0, slots := 0, locals := 0 } s m args below meth c H locs 0 0 (MQ below (fun _ st o t => o = .returned (some (.int r.1)) ∧ va_P (dC, dI) vwCl (wX13 g a0 a1 a2 a3 a4 a5 a6 a7 a8 r.2.1 uch ufc r.2.2.1 ull ubl uba uea ufa uso udn uw uun r.2.2.2 ube ubs uln ubu unu) t.heap ∧ va_F A st t) args s 0 0 A) (F0 m 7 ls []) := by
  intro k
  induction k with
  | zero =>
    intro x1 usr h
    exact absurd h (by simp [fX13_save_L7])
  | succ k ih =>
    intro x1 usr h H locs hP hD hS ls hl
    rw [fX13_save_L7] at h
    refine lv_iload_n F.1 F.2.1 dX13_save_7 rfl (lv_at hl 1 rfl) ?_
    refine lv_sipush (v := 201) F.1 F.2.1 dX13_save_8 (by decide) ?_
    refine lv_icmp_ge (tgt := 32) F.1 F.2.1 dX13_save_11 (by decide) (fun k1 => ?_) (fun k1 => ?_)
    · replace h := it_t k1 h
      refine lv_aload_n F.1 F.2.1 dX13_save_32 rfl (lv_at hl 0 rfl) ?_
      refine lv_iconst (v := 1) F.1 F.2.1 dX13_save_33 (by decide) ?_
      refine pF (v := .int 1) F hE hP hD hS 0 rfl rfl inX13 tyX13 tyX13_ok nmX13 7 (by decide) q1691 rfl rfl rfl (Nat.le_of_ble_eq_true rfl) dX13_save_34 (fun H locs hP hD hS => ?_)
      replace hP : va_P (dC, dI) vwCl (wX13 g a0 a1 a2 a3 a4 a5 a6 a7 a8 uth uch ufc 1 ull ubl uba uea ufa uso udn uw uun usr ube ubs uln ubu unu) H := hP
      replace hD : va_D A (wX13 g a0 a1 a2 a3 a4 a5 a6 a7 a8 uth uch ufc 1 ull ubl uba uea ufa uso udn uw uun usr ube ubs uln ubu unu) := hD
      refine lv_aload_n F.1 F.2.1 dX13_save_37 rfl (lv_at hl 0 rfl) ?_
      refine gF (v := .ref a1) F hE hP 0 rfl rfl inX13 1 (by decide) q1685 rfl dX13_save_38 ?_
      refine lv_iconst (v := 0) F.1 F.2.1 dX13_save_41 (by decide) ?_
      refine aLi (k := 0) F hE hP 1 0 rfl rfl (by decide) (by decide) dX13_save_42 ?_
      cases h
      exact MU_i F hr hlocks (Nat.le_refl _) (Nat.le_refl _) hP hS dX13_save_43
    · replace h := it_f k1 h
      refine lv_aload_n F.1 F.2.1 dX13_save_14 rfl (lv_at hl 0 rfl) ?_
      refine gF (v := .ref a3) F hE hP 0 rfl rfl inX13 3 (by decide) q1687 rfl dX13_save_15 ?_
      refine lv_iload_n F.1 F.2.1 dX13_save_18 rfl (lv_at hl 1 rfl) ?_
      refine lv_aload_n F.1 F.2.1 dX13_save_19 rfl (lv_at hl 0 rfl) ?_
      refine gF (v := .ref a1) F hE hP 0 rfl rfl inX13 1 (by decide) q1685 rfl dX13_save_20 ?_
      refine lv_iload_n F.1 F.2.1 dX13_save_23 rfl (lv_at hl 1 rfl) ?_
      obtain ⟨k2, h⟩ := gd_ok h
      refine aLi (k := x1.toNatClampNeg) F hE hP 1 0 rfl rfl k2 rfl dX13_save_24 ?_
      obtain ⟨k3, h⟩ := gd_ok h
      refine aSi (k := x1.toNatClampNeg) F hE hP hD hS 3 0 rfl rfl k3 rfl dX13_save_25 (fun H locs hP hD hS => ?_)
      replace hP : va_P (dC, dI) vwCl (wX13 g a0 a1 a2 a3 a4 a5 a6 a7 a8 uth uch ufc usv ull ubl uba uea ufa uso udn uw uun (upd usr x1.toNatClampNeg (uw x1.toNatClampNeg)) ube ubs uln ubu unu) H := hP
      replace hD : va_D A (wX13 g a0 a1 a2 a3 a4 a5 a6 a7 a8 uth uch ufc usv ull ubl uba uea ufa uso udn uw uun (upd usr x1.toNatClampNeg (uw x1.toNatClampNeg)) ube ubs uln ubu unu) := hD
      refine lv_iinc (v := x1 + 1) (lv' := [(1, .int (x1 + 1)), (0, .ref a0)]) F.1 F.2.1 dX13_save_26 hl (k := 1) rfl (by rfl) (by decide) rfl (fun ls hl => ?_)
      refine lv_goto (tgt := 7) F.1 F.2.1 dX13_save_29 (by decide) ?_
      exact ih (x1 + 1) (upd usr x1.toNatClampNeg (uw x1.toNatClampNeg)) h _ _ hP hD hS ls (lv_sub hl [1, 0] rfl)
set_option maxHeartbeats 4000000 in
set_option maxRecDepth 100000 in
theorem tX13_save (l : Launch) (dC : Nat → ClassId) (dI : Nat → Nat → Nat) (g : Nat → ClassId) (a0 a1 a2 a3 a4 a5 a6 a7 a8 : Nat) (uth : Int32) (uch : Int32) (ufc : Int32) (usv : Int32) (ull : Int32) (ubl : Int32) (uba : Int32) (uea : Int32) (ufa : Int32) (uso : Int32) (udn : Int32) (uw : Nat → Int32) (uun : Nat → Int32) (usr : Nat → Int32) (ube : Nat → Int32) (ubs : Nat → Int32) (uln : Nat → Int32) (ubu : Nat → Int32) (unu : Nat → Int32) {r : Int32 × Int32 × Int32 × (Nat → Int32)} (h : fX13_save uw usr = some r) : MU l yX13_save cX13_save 2 (some .int) 0 0 0 0 dC dI g [.ref a0] (wX13 g a0 a1 a2 a3 a4 a5 a6 a7 a8 uth uch ufc usv ull ubl uba uea ufa uso udn uw uun usr ube ubs uln ubu unu) (wX13 g a0 a1 a2 a3 a4 a5 a6 a7 a8 r.2.1 uch ufc r.2.2.1 ull ubl uba uea ufa uso udn uw uun r.2.2.2 ube ubs uln ubu unu) (some (.int r.1)) := by
  refine MU_of (by decide) (Nat.le_of_ble_eq_true rfl) ?_
  intro p e s m below meth c ls F hr hlocks hE hX hA hP hD hS hl
  generalize va_A (wX13 g a0 a1 a2 a3 a4 a5 a6 a7 a8 uth uch ufc usv ull ubl uba uea ufa uso udn uw uun usr ube ubs uln ubu unu) s.heap.size = A at hA hD hS hX ⊢
  replace F : CF p m c cX13_save 2 s _ RX13 := F
  replace hl : lv_has ls 2 [(0, .ref a0)] := hl
  rw [fX13_save] at h
  refine lv_aload_n F.1 F.2.1 dX13_save_0 rfl (lv_at hl 0 rfl) ?_
  refine lv_iconst (v := 0) F.1 F.2.1 dX13_save_1 (by decide) ?_
  refine pF (v := .int 0) F hE hP hD hS 0 rfl rfl inX13 tyX13 tyX13_ok nmX13 0 (by decide) q1684 rfl rfl rfl (Nat.le_of_ble_eq_true rfl) dX13_save_2 (fun H locs hP hD hS => ?_)
  replace hP : va_P (dC, dI) vwCl (wX13 g a0 a1 a2 a3 a4 a5 a6 a7 a8 0 uch ufc usv ull ubl uba uea ufa uso udn uw uun usr ube ubs uln ubu unu) H := hP
  replace hD : va_D A (wX13 g a0 a1 a2 a3 a4 a5 a6 a7 a8 0 uch ufc usv ull ubl uba uea ufa uso udn uw uun usr ube ubs uln ubu unu) := hD
  refine lv_iconst (v := 0) F.1 F.2.1 dX13_save_5 (by decide) ?_
  refine lv_istore_n (lv' := [(1, .int 0), (0, .ref a0)]) F.1 F.2.1 dX13_save_6 rfl hl (by decide) rfl (fun ls hl => ?_)
  exact tX13_save_L7 F hr hlocks hE hX hA 0 uch ufc usv ull ubl uba uea ufa uso udn uw uun ube ubs uln ubu unu FU 0 usr h _ _ hP hD hS ls (lv_sub hl [1, 0] rfl)
/-! WireCutterModel.restore -/
def fX13_restore_L20 (uth : Int32) (usr : Nat → Int32) : Nat → Int32 → (Nat → Int32) → Option (Int32 × Int32 × Int32 × Int32 × (Nat → Int32))
  | 0, _, _ => none
  | k + 1, x1, uw =>
    if 201 ≤ x1 then
      some (uw 0, uth, 0, 0, uw)
    else
      gd (inR x1 201) <|
      gd (inR x1 201) <|
      fX13_restore_L20 uth usr k (x1 + 1) (upd uw x1.toNatClampNeg (usr x1.toNatClampNeg))
def fX13_restore (uch : Int32) (ufc : Int32) (usv : Int32) (uw : Nat → Int32) (usr : Nat → Int32) : Option (Int32 × Int32 × Int32 × Int32 × (Nat → Int32)) :=
  if usv = 0 then
    (fX13_fails 1).bind fun z5 =>
    some (z5.1, z5.2, uch, ufc, uw)
  else
    fX13_restore_L20 0 usr FU 0 uw
theorem mbX13_restore : MV yX13_restore cX13_restore 2 (some .int) 0 := ⟨⟨q2207, q16, by decide +kernel⟩, q2205, q2206⟩
set_option maxHeartbeats 4000000 in
set_option maxRecDepth 100000 in
theorem tX13_restore_L20 {p : Program} {l : Launch} {e : Env} {s : State} {m : MethodId} {args : Array Value} {below : List Frame} {meth : Method} {c : Code} {dC : Nat → ClassId} {dI : Nat → Nat → Nat} {g : Nat → ClassId} {a0 a1 a2 a3 a4 a5 a6 a7 a8 : Nat} {r : Int32 × Int32 × Int32 × Int32 × (Nat → Int32)} {A : Nat → Prop} (F : CF p m c cX13_restore 2 s args RX13) (hr : meth.sig.returnType = (some .int)) (hlocks : meth.locks = false) (hE : EK dC dI g s) (hX : EX g A s s.heap) (hA : ∀ q : Nat, s.heap.size ≤ q → A q) (uth : Int32) (uch : Int32) (ufc : Int32) (usv : Int32) (ull : Int32) (ubl : Int32) (uba : Int32) (uea : Int32) (ufa : Int32) (uso : Int32) (udn : Int32) (uun : Nat → Int32) (usr : Nat → Int32) (ube : Nat → Int32) (ubs : Nat → Int32) (uln : Nat → Int32) (ubu : Nat → Int32) (unu : Nat → Int32) : ∀ (k : Nat) (x1 : Int32) (uw : Nat → Int32), fX13_restore_L20 uth usr k x1 uw = some r → ∀ (H : Heap) (locs : List Loc), va_P (dC, dI) vwCl (wX13 g a0 a1 a2 a3 a4 a5 a6 a7 a8 uth uch ufc usv ull ubl uba uea ufa uso udn uw uun usr ube ubs uln ubu unu) H → va_D A (wX13 g a0 a1 a2 a3 a4 a5 a6 a7 a8 uth uch ufc usv ull ubl uba uea ufa uso udn uw uun usr ube ubs uln ubu unu) → va_S A s.heap H locs → ∀ (ls : Array Slot), lv_has ls 2 [(0, .ref a0), (1, .int x1)] → W p l e { frames := 1, cells := 0, slots := 0, locals := 21 } s m args below meth c H locs 0 0 (MQ below (fun _ st o t => o = .returned (some (.int r.1)) ∧ va_P (dC, dI) vwCl (wX13 g a0 a1 a2 a3 a4 a5 a6 a7 a8 r.2.1 r.2.2.1 r.2.2.2.1 usv ull ubl uba uea ufa uso udn r.2.2.2.2 uun usr ube ubs uln ubu unu) t.heap ∧ va_F A st t) args s 0 0 A) (F0 m 20 ls []) := by
  intro k
  induction k with
  | zero =>
    intro x1 uw h
    exact absurd h (by simp [fX13_restore_L20])
  | succ k ih =>
    intro x1 uw h H locs hP hD hS ls hl
    rw [fX13_restore_L20] at h
    refine lv_iload_n F.1 F.2.1 dX13_restore_20 rfl (lv_at hl 1 rfl) ?_
    refine lv_sipush (v := 201) F.1 F.2.1 dX13_restore_21 (by decide) ?_
    refine lv_icmp_ge (tgt := 45) F.1 F.2.1 dX13_restore_24 (by decide) (fun k2 => ?_) (fun k2 => ?_)
    · replace h := it_t k2 h
      refine lv_aload_n F.1 F.2.1 dX13_restore_45 rfl (lv_at hl 0 rfl) ?_
      refine lv_iconst (v := 0) F.1 F.2.1 dX13_restore_46 (by decide) ?_
      refine pF (v := .int 0) F hE hP hD hS 0 rfl rfl inX13 tyX13 tyX13_ok nmX13 5 (by decide) q1689 rfl rfl rfl (Nat.le_of_ble_eq_true rfl) dX13_restore_47 (fun H locs hP hD hS => ?_)
      replace hP : va_P (dC, dI) vwCl (wX13 g a0 a1 a2 a3 a4 a5 a6 a7 a8 uth 0 ufc usv ull ubl uba uea ufa uso udn uw uun usr ube ubs uln ubu unu) H := hP
      replace hD : va_D A (wX13 g a0 a1 a2 a3 a4 a5 a6 a7 a8 uth 0 ufc usv ull ubl uba uea ufa uso udn uw uun usr ube ubs uln ubu unu) := hD
      refine lv_aload_n F.1 F.2.1 dX13_restore_50 rfl (lv_at hl 0 rfl) ?_
      refine lv_iconst (v := 0) F.1 F.2.1 dX13_restore_51 (by decide) ?_
      refine pF (v := .int 0) F hE hP hD hS 0 rfl rfl inX13 tyX13 tyX13_ok nmX13 6 (by decide) q1690 rfl rfl rfl (Nat.le_of_ble_eq_true rfl) dX13_restore_52 (fun H locs hP hD hS => ?_)
      replace hP : va_P (dC, dI) vwCl (wX13 g a0 a1 a2 a3 a4 a5 a6 a7 a8 uth 0 0 usv ull ubl uba uea ufa uso udn uw uun usr ube ubs uln ubu unu) H := hP
      replace hD : va_D A (wX13 g a0 a1 a2 a3 a4 a5 a6 a7 a8 uth 0 0 usv ull ubl uba uea ufa uso udn uw uun usr ube ubs uln ubu unu) := hD
      refine lv_aload_n F.1 F.2.1 dX13_restore_55 rfl (lv_at hl 0 rfl) ?_
      refine gF (v := .ref a1) F hE hP 0 rfl rfl inX13 1 (by decide) q1685 rfl dX13_restore_56 ?_
      refine lv_iconst (v := 0) F.1 F.2.1 dX13_restore_59 (by decide) ?_
      refine aLi (k := 0) F hE hP 1 0 rfl rfl (by decide) (by decide) dX13_restore_60 ?_
      cases h
      exact MU_i F hr hlocks (Nat.le_refl _) (Nat.le_refl _) hP hS dX13_restore_61
    · replace h := it_f k2 h
      refine lv_aload_n F.1 F.2.1 dX13_restore_27 rfl (lv_at hl 0 rfl) ?_
      refine gF (v := .ref a1) F hE hP 0 rfl rfl inX13 1 (by decide) q1685 rfl dX13_restore_28 ?_
      refine lv_iload_n F.1 F.2.1 dX13_restore_31 rfl (lv_at hl 1 rfl) ?_
      refine lv_aload_n F.1 F.2.1 dX13_restore_32 rfl (lv_at hl 0 rfl) ?_
      refine gF (v := .ref a3) F hE hP 0 rfl rfl inX13 3 (by decide) q1687 rfl dX13_restore_33 ?_
      refine lv_iload_n F.1 F.2.1 dX13_restore_36 rfl (lv_at hl 1 rfl) ?_
      obtain ⟨k3, h⟩ := gd_ok h
      refine aLi (k := x1.toNatClampNeg) F hE hP 3 0 rfl rfl k3 rfl dX13_restore_37 ?_
      obtain ⟨k4, h⟩ := gd_ok h
      refine aSi (k := x1.toNatClampNeg) F hE hP hD hS 1 0 rfl rfl k4 rfl dX13_restore_38 (fun H locs hP hD hS => ?_)
      replace hP : va_P (dC, dI) vwCl (wX13 g a0 a1 a2 a3 a4 a5 a6 a7 a8 uth uch ufc usv ull ubl uba uea ufa uso udn (upd uw x1.toNatClampNeg (usr x1.toNatClampNeg)) uun usr ube ubs uln ubu unu) H := hP
      replace hD : va_D A (wX13 g a0 a1 a2 a3 a4 a5 a6 a7 a8 uth uch ufc usv ull ubl uba uea ufa uso udn (upd uw x1.toNatClampNeg (usr x1.toNatClampNeg)) uun usr ube ubs uln ubu unu) := hD
      refine lv_iinc (v := x1 + 1) (lv' := [(1, .int (x1 + 1)), (0, .ref a0)]) F.1 F.2.1 dX13_restore_39 hl (k := 1) rfl (by rfl) (by decide) rfl (fun ls hl => ?_)
      refine lv_goto (tgt := 20) F.1 F.2.1 dX13_restore_42 (by decide) ?_
      exact ih (x1 + 1) (upd uw x1.toNatClampNeg (usr x1.toNatClampNeg)) h _ _ hP hD hS ls (lv_sub hl [1, 0] rfl)
set_option maxHeartbeats 4000000 in
set_option maxRecDepth 100000 in
theorem tX13_restore (l : Launch) (dC : Nat → ClassId) (dI : Nat → Nat → Nat) (g : Nat → ClassId) (a0 a1 a2 a3 a4 a5 a6 a7 a8 : Nat) (uth : Int32) (uch : Int32) (ufc : Int32) (usv : Int32) (ull : Int32) (ubl : Int32) (uba : Int32) (uea : Int32) (ufa : Int32) (uso : Int32) (udn : Int32) (uw : Nat → Int32) (uun : Nat → Int32) (usr : Nat → Int32) (ube : Nat → Int32) (ubs : Nat → Int32) (uln : Nat → Int32) (ubu : Nat → Int32) (unu : Nat → Int32) {r : Int32 × Int32 × Int32 × Int32 × (Nat → Int32)} (h : fX13_restore uch ufc usv uw usr = some r) : MU l yX13_restore cX13_restore 2 (some .int) 1 21 0 0 dC dI g [.ref a0] (wX13 g a0 a1 a2 a3 a4 a5 a6 a7 a8 uth uch ufc usv ull ubl uba uea ufa uso udn uw uun usr ube ubs uln ubu unu) (wX13 g a0 a1 a2 a3 a4 a5 a6 a7 a8 r.2.1 r.2.2.1 r.2.2.2.1 usv ull ubl uba uea ufa uso udn r.2.2.2.2 uun usr ube ubs uln ubu unu) (some (.int r.1)) := by
  refine MU_of (by decide) (Nat.le_of_ble_eq_true rfl) ?_
  intro p e s m below meth c ls F hr hlocks hE hX hA hP hD hS hl
  generalize va_A (wX13 g a0 a1 a2 a3 a4 a5 a6 a7 a8 uth uch ufc usv ull ubl uba uea ufa uso udn uw uun usr ube ubs uln ubu unu) s.heap.size = A at hA hD hS hX ⊢
  replace F : CF p m c cX13_restore 2 s _ RX13 := F
  replace hl : lv_has ls 2 [(0, .ref a0)] := hl
  rw [fX13_restore] at h
  refine lv_aload_n F.1 F.2.1 dX13_restore_0 rfl (lv_at hl 0 rfl) ?_
  refine lv_iconst (v := 0) F.1 F.2.1 dX13_restore_1 (by decide) ?_
  refine pF (v := .int 0) F hE hP hD hS 0 rfl rfl inX13 tyX13 tyX13_ok nmX13 0 (by decide) q1684 rfl rfl rfl (Nat.le_of_ble_eq_true rfl) dX13_restore_2 (fun H locs hP hD hS => ?_)
  replace hP : va_P (dC, dI) vwCl (wX13 g a0 a1 a2 a3 a4 a5 a6 a7 a8 0 uch ufc usv ull ubl uba uea ufa uso udn uw uun usr ube ubs uln ubu unu) H := hP
  replace hD : va_D A (wX13 g a0 a1 a2 a3 a4 a5 a6 a7 a8 0 uch ufc usv ull ubl uba uea ufa uso udn uw uun usr ube ubs uln ubu unu) := hD
  refine lv_aload_n F.1 F.2.1 dX13_restore_5 rfl (lv_at hl 0 rfl) ?_
  refine gF (v := .int usv) F hE hP 0 rfl rfl inX13 7 (by decide) q1691 rfl dX13_restore_6 ?_
  refine lv_if_ne (tgt := 18) F.1 F.2.1 dX13_restore_9 (by decide) (fun k1 => ?_) (fun k1 => ?_)
  · replace h := it_f k1 h
    refine lv_iconst (v := 0) F.1 F.2.1 dX13_restore_18 (by decide) ?_
    refine lv_istore_n (lv' := [(1, .int 0), (0, .ref a0)]) F.1 F.2.1 dX13_restore_19 rfl hl (by decide) rfl (fun ls hl => ?_)
    exact tX13_restore_L20 F hr hlocks hE hX hA 0 uch ufc usv ull ubl uba uea ufa uso udn uun usr ube ubs uln ubu unu FU 0 uw h _ _ hP hD hS ls (lv_sub hl [1, 0] rfl)
  · replace h := it_t k1 h
    refine lv_aload_n F.1 F.2.1 dX13_restore_12 rfl (lv_at hl 0 rfl) ?_
    refine lv_iconst (v := 1) F.1 F.2.1 dX13_restore_13 (by decide) ?_
    obtain ⟨z5, k6, h⟩ := bd_ok h
    refine cMV (As := [.int 1]) (rest := []) (ws' := wX13 g a0 a1 a2 a3 a4 a5 a6 a7 a8 z5.2 uch ufc usv ull ubl uba uea ufa uso udn uw uun usr ube ubs uln ubu unu) F hE hX (tX13_fails l dC dI g a0 a1 a2 a3 a4 a5 a6 a7 a8 0 uch ufc usv ull ubl uba uea ufa uso udn uw uun usr ube ubs uln ubu unu 1 k6) mbX13_fails q1756 ⟨(Nat.le_of_ble_eq_true rfl), (Nat.le_of_ble_eq_true rfl)⟩ ⟨(Nat.le_of_ble_eq_true rfl), (Nat.le_of_ble_eq_true rfl)⟩ hP hD hS hA [0, 1, 2, 3, 4, 5, 6, 7, 8] rfl rfl rfl rfl rfl 0 rfl rfl rfl hl.1 rfl (Nat.le_of_ble_eq_true rfl) dX13_restore_14 (fun H locs hP hD hS => ?_)
    cases h
    exact MU_i F hr hlocks (Nat.le_refl _) (Nat.le_refl _) hP hS dX13_restore_17
