/-! WireCutter$Loads.takeOrLeave -/
def fX4_takeOrLeave : Nat → Nat → Int32 → (Nat → Int32) → Int32 → Int32 → Int32 → Int32 → Option (Int32)
  | 0, _, _, _, _, _, _, _ => none
  | d + 1, cb, vn, vf, p1, p2, p3, p4 =>
    (fX7_size vn).bind fun z1 =>
    if z1 ≤ p1 then
      some (0)
    else
      if p1 < 12 then
        (fX7_get cb vn vf p1).bind fun z5 =>
        if p4 < (z5 + p3) then
          if 0 < (p2 - z5) then
            (fX4_takeOrLeave d cb vn vf (p1 + 1) (p2 - z5) p3 p4).bind fun z9 =>
            if 0 ≤ z9 then
              some (z9)
            else
              some (0)
          else
            some (0)
        else
          (fX4_takeOrLeave d cb vn vf (p1 + 1) (p2 - z5) p3 ((p4 - z5) - p3)).bind fun z12 =>
          if (z5 + z12) < (p2 - z5) then
            (fX4_takeOrLeave d cb vn vf (p1 + 1) (p2 - z5) p3 p4).bind fun z15 =>
            if (z5 + z12) ≤ z15 then
              some (z15)
            else
              some (z5 + z12)
          else
            some (z5 + z12)
      else
        some (0)
theorem mbX4_takeOrLeave : MS yX4_takeOrLeave cX4_takeOrLeave 9 (some .int) 5 := ⟨⟨q468, q9, by decide +kernel⟩, q467⟩
set_option maxHeartbeats 4000000 in
set_option maxRecDepth 100000 in
theorem tX4_takeOrLeave (l : Launch) (dC : Nat → ClassId) (dI : Nat → Nat → Nat) (g : Nat → ClassId) : ∀ (d : Nat) (b0 b1 : Nat) (cb : Nat) (vn : Int32) (vf : Nat → Int32) (p1 : Int32) (p2 : Int32) (p3 : Int32) (p4 : Int32) {r : Int32} (h : fX4_takeOrLeave d cb vn vf p1 p2 p3 p4 = some r), RO l yX4_takeOrLeave cX4_takeOrLeave 9 (some .int) (d + 1) (d * 28 + 21) dC dI g [.ref b0, .int p1, .int p2, .int p3, .int p4] (wX7 g b0 b1 cb vn vf) (some (.int r)) := by
  intro d
  induction d with
  | zero =>
    intro b0 b1 cb vn vf p1 p2 p3 p4 r h
    exact absurd h (by simp [fX4_takeOrLeave])
  | succ d ihd =>
  intro b0 b1 cb vn vf p1 p2 p3 p4 r h
  refine RO_of (by decide) (Nat.le_of_ble_eq_true rfl) ?_
  intro p e s m below meth c ls F hr hlocks hE hX hP hl
  replace F : CF p m c cX4_takeOrLeave 9 s _ RX4 := F
  replace hl : lv_has ls 9 [(0, .ref b0), (1, .int p1), (2, .int p2), (3, .int p3), (4, .int p4)] := hl
  rw [fX4_takeOrLeave] at h
  replace hP : va_P (dC, dI) vwCl (catp [wX7 g b0 b1 cb vn vf] []) s.heap := hP
  refine lv_iload_n F.1 F.2.1 dX4_takeOrLeave_0 rfl (lv_at hl 1 rfl) ?_
  refine lv_aload_n F.1 F.2.1 dX4_takeOrLeave_1 rfl (lv_at hl 0 rfl) ?_
  obtain ⟨z1, k2, h⟩ := bd_ok h
  refine cRVA (As := []) (rest := [.int p1]) F hE hX va_S.rf (tX7_size l dC dI g b0 b1 cb vn vf k2) mbX7_size q455 ⟨by (try dsimp only); omega, by (try dsimp only); omega⟩ ⟨Nat.zero_le _, Nat.zero_le _⟩ hP rfl 0 rfl rfl rfl hl.1 rfl (Nat.le_of_ble_eq_true rfl) dX4_takeOrLeave_2 ?_
  refine lv_icmp_ge (tgt := 14) F.1 F.2.1 dX4_takeOrLeave_5 (by decide) (fun k3 => ?_) (fun k3 => ?_)
  · replace h := it_t k3 h
    refine lv_iconst (v := 0) F.1 F.2.1 dX4_takeOrLeave_14 (by decide) ?_
    cases h
    exact RO_i F hr hlocks dX4_takeOrLeave_15
  · replace h := it_f k3 h
    refine lv_iload_n F.1 F.2.1 dX4_takeOrLeave_8 rfl (lv_at hl 1 rfl) ?_
    refine lv_bipush (v := 12) F.1 F.2.1 dX4_takeOrLeave_9 (by decide) ?_
    refine lv_icmp_lt (tgt := 16) F.1 F.2.1 dX4_takeOrLeave_11 (by decide) (fun k4 => ?_) (fun k4 => ?_)
    · replace h := it_t k4 h
      refine lv_aload_n F.1 F.2.1 dX4_takeOrLeave_16 rfl (lv_at hl 0 rfl) ?_
      refine lv_iload_n F.1 F.2.1 dX4_takeOrLeave_17 rfl (lv_at hl 1 rfl) ?_
      obtain ⟨z5, k6, h⟩ := bd_ok h
      refine cRVA (As := [.int p1]) (rest := []) F hE hX va_S.rf (tX7_get l dC dI g b0 b1 cb vn vf p1 k6) mbX7_get q456 ⟨by (try dsimp only); omega, by (try dsimp only); omega⟩ ⟨Nat.zero_le _, Nat.zero_le _⟩ hP rfl 0 rfl rfl rfl hl.1 rfl (Nat.le_of_ble_eq_true rfl) dX4_takeOrLeave_18 ?_
      refine lv_istore (lv' := [(5, .int z5), (0, .ref b0), (1, .int p1), (2, .int p2), (3, .int p3), (4, .int p4)]) F.1 F.2.1 dX4_takeOrLeave_21 hl (by decide) rfl (fun ls hl => ?_)
      refine lv_iload_n F.1 F.2.1 dX4_takeOrLeave_23 rfl (lv_at hl 3 rfl) ?_
      refine lv_iload F.1 F.2.1 dX4_takeOrLeave_24 (lv_at hl 0 rfl) ?_
      refine lv_isub F.1 F.2.1 dX4_takeOrLeave_26 ?_
      refine lv_istore (lv' := [(6, .int (p2 - z5)), (5, .int z5), (0, .ref b0), (1, .int p1), (2, .int p2), (3, .int p3), (4, .int p4)]) F.1 F.2.1 dX4_takeOrLeave_27 hl (by decide) rfl (fun ls hl => ?_)
      refine lv_iconst (v := 0) F.1 F.2.1 dX4_takeOrLeave_29 (by decide) ?_
      refine lv_istore (lv' := [(7, .int 0), (6, .int (p2 - z5)), (5, .int z5), (0, .ref b0), (1, .int p1), (2, .int p2), (3, .int p3), (4, .int p4)]) F.1 F.2.1 dX4_takeOrLeave_30 hl (by decide) rfl (fun ls hl => ?_)
      refine lv_iload F.1 F.2.1 dX4_takeOrLeave_32 (lv_at hl 2 rfl) ?_
      refine lv_iload_n F.1 F.2.1 dX4_takeOrLeave_34 rfl (lv_at hl 6 rfl) ?_
      refine lv_iadd F.1 F.2.1 dX4_takeOrLeave_35 ?_
      refine lv_iload F.1 F.2.1 dX4_takeOrLeave_36 (lv_at hl 7 rfl) ?_
      refine lv_icmp_gt (tgt := 63) F.1 F.2.1 dX4_takeOrLeave_38 (by decide) (fun k7 => ?_) (fun k7 => ?_)
      · replace h := it_t k7 h
        refine lv_iload F.1 F.2.1 dX4_takeOrLeave_63 (lv_at hl 0 rfl) ?_
        refine lv_iload F.1 F.2.1 dX4_takeOrLeave_65 (lv_at hl 1 rfl) ?_
        refine lv_icmp_lt (tgt := 73) F.1 F.2.1 dX4_takeOrLeave_67 (by decide) (fun k8 => ?_) (fun k8 => ?_)
        · replace h := it_t k8 h
          refine lv_aload_n F.1 F.2.1 dX4_takeOrLeave_73 rfl (lv_at hl 3 rfl) ?_
          refine lv_iload_n F.1 F.2.1 dX4_takeOrLeave_74 rfl (lv_at hl 4 rfl) ?_
          refine lv_iconst (v := 1) F.1 F.2.1 dX4_takeOrLeave_75 (by decide) ?_
          refine lv_iadd F.1 F.2.1 dX4_takeOrLeave_76 ?_
          refine lv_iload F.1 F.2.1 dX4_takeOrLeave_77 (lv_at hl 1 rfl) ?_
          refine lv_iload_n F.1 F.2.1 dX4_takeOrLeave_79 rfl (lv_at hl 6 rfl) ?_
          refine lv_iload F.1 F.2.1 dX4_takeOrLeave_80 (lv_at hl 7 rfl) ?_
          obtain ⟨z9, k10, h⟩ := bd_ok h
          refine cRSA (As := [.ref b0, .int (p1 + 1), .int (p2 - z5), .int p3, .int p4]) (rest := []) F hE hX va_S.rf (ihd b0 b1 cb vn vf (p1 + 1) (p2 - z5) p3 p4 k10) mbX4_takeOrLeave q466 ⟨by (try dsimp only); omega, by (try dsimp only); omega⟩ ⟨Nat.zero_le _, Nat.zero_le _⟩ hP rfl rfl hl.1 rfl (Nat.le_of_ble_eq_true rfl) dX4_takeOrLeave_82 ?_
          refine lv_istore (lv' := [(8, .int z9), (7, .int 0), (6, .int (p2 - z5)), (5, .int z5), (0, .ref b0), (1, .int p1), (2, .int p2), (3, .int p3), (4, .int p4)]) F.1 F.2.1 dX4_takeOrLeave_85 hl (by decide) rfl (fun ls hl => ?_)
          refine lv_iload F.1 F.2.1 dX4_takeOrLeave_87 (lv_at hl 1 rfl) ?_
          refine lv_iload F.1 F.2.1 dX4_takeOrLeave_89 (lv_at hl 0 rfl) ?_
          refine lv_icmp_le (tgt := 99) F.1 F.2.1 dX4_takeOrLeave_91 (by decide) (fun k11 => ?_) (fun k11 => ?_)
          · replace h := it_t k11 h
            refine lv_iload F.1 F.2.1 dX4_takeOrLeave_99 (lv_at hl 0 rfl) ?_
            cases h
            exact RO_i F hr hlocks dX4_takeOrLeave_101
          · replace h := it_f k11 h
            refine lv_iload F.1 F.2.1 dX4_takeOrLeave_94 (lv_at hl 1 rfl) ?_
            refine lv_goto (tgt := 101) F.1 F.2.1 dX4_takeOrLeave_96 (by decide) ?_
            cases h
            exact RO_i F hr hlocks dX4_takeOrLeave_101
        · replace h := it_f k8 h
          refine lv_iload F.1 F.2.1 dX4_takeOrLeave_70 (lv_at hl 0 rfl) ?_
          cases h
          exact RO_i F hr hlocks dX4_takeOrLeave_72
      · replace h := it_f k7 h
        refine lv_iload F.1 F.2.1 dX4_takeOrLeave_41 (lv_at hl 2 rfl) ?_
        refine lv_aload_n F.1 F.2.1 dX4_takeOrLeave_43 rfl (lv_at hl 3 rfl) ?_
        refine lv_iload_n F.1 F.2.1 dX4_takeOrLeave_44 rfl (lv_at hl 4 rfl) ?_
        refine lv_iconst (v := 1) F.1 F.2.1 dX4_takeOrLeave_45 (by decide) ?_
        refine lv_iadd F.1 F.2.1 dX4_takeOrLeave_46 ?_
        refine lv_iload F.1 F.2.1 dX4_takeOrLeave_47 (lv_at hl 1 rfl) ?_
        refine lv_iload_n F.1 F.2.1 dX4_takeOrLeave_49 rfl (lv_at hl 6 rfl) ?_
        refine lv_iload F.1 F.2.1 dX4_takeOrLeave_50 (lv_at hl 7 rfl) ?_
        refine lv_iload F.1 F.2.1 dX4_takeOrLeave_52 (lv_at hl 2 rfl) ?_
        refine lv_isub F.1 F.2.1 dX4_takeOrLeave_54 ?_
        refine lv_iload_n F.1 F.2.1 dX4_takeOrLeave_55 rfl (lv_at hl 6 rfl) ?_
        refine lv_isub F.1 F.2.1 dX4_takeOrLeave_56 ?_
        obtain ⟨z12, k13, h⟩ := bd_ok h
        refine cRSA (As := [.ref b0, .int (p1 + 1), .int (p2 - z5), .int p3, .int ((p4 - z5) - p3)]) (rest := [.int z5]) F hE hX va_S.rf (ihd b0 b1 cb vn vf (p1 + 1) (p2 - z5) p3 ((p4 - z5) - p3) k13) mbX4_takeOrLeave q466 ⟨by (try dsimp only); omega, by (try dsimp only); omega⟩ ⟨Nat.zero_le _, Nat.zero_le _⟩ hP rfl rfl hl.1 rfl (Nat.le_of_ble_eq_true rfl) dX4_takeOrLeave_57 ?_
        refine lv_iadd F.1 F.2.1 dX4_takeOrLeave_60 ?_
        refine lv_istore (lv' := [(7, .int (z5 + z12)), (6, .int (p2 - z5)), (5, .int z5), (0, .ref b0), (1, .int p1), (2, .int p2), (3, .int p3), (4, .int p4)]) F.1 F.2.1 dX4_takeOrLeave_61 hl (by decide) rfl (fun ls hl => ?_)
        refine lv_iload F.1 F.2.1 dX4_takeOrLeave_63 (lv_at hl 0 rfl) ?_
        refine lv_iload F.1 F.2.1 dX4_takeOrLeave_65 (lv_at hl 1 rfl) ?_
        refine lv_icmp_lt (tgt := 73) F.1 F.2.1 dX4_takeOrLeave_67 (by decide) (fun k14 => ?_) (fun k14 => ?_)
        · replace h := it_t k14 h
          refine lv_aload_n F.1 F.2.1 dX4_takeOrLeave_73 rfl (lv_at hl 3 rfl) ?_
          refine lv_iload_n F.1 F.2.1 dX4_takeOrLeave_74 rfl (lv_at hl 4 rfl) ?_
          refine lv_iconst (v := 1) F.1 F.2.1 dX4_takeOrLeave_75 (by decide) ?_
          refine lv_iadd F.1 F.2.1 dX4_takeOrLeave_76 ?_
          refine lv_iload F.1 F.2.1 dX4_takeOrLeave_77 (lv_at hl 1 rfl) ?_
          refine lv_iload_n F.1 F.2.1 dX4_takeOrLeave_79 rfl (lv_at hl 6 rfl) ?_
          refine lv_iload F.1 F.2.1 dX4_takeOrLeave_80 (lv_at hl 7 rfl) ?_
          obtain ⟨z15, k16, h⟩ := bd_ok h
          refine cRSA (As := [.ref b0, .int (p1 + 1), .int (p2 - z5), .int p3, .int p4]) (rest := []) F hE hX va_S.rf (ihd b0 b1 cb vn vf (p1 + 1) (p2 - z5) p3 p4 k16) mbX4_takeOrLeave q466 ⟨by (try dsimp only); omega, by (try dsimp only); omega⟩ ⟨Nat.zero_le _, Nat.zero_le _⟩ hP rfl rfl hl.1 rfl (Nat.le_of_ble_eq_true rfl) dX4_takeOrLeave_82 ?_
          refine lv_istore (lv' := [(8, .int z15), (7, .int (z5 + z12)), (6, .int (p2 - z5)), (5, .int z5), (0, .ref b0), (1, .int p1), (2, .int p2), (3, .int p3), (4, .int p4)]) F.1 F.2.1 dX4_takeOrLeave_85 hl (by decide) rfl (fun ls hl => ?_)
          refine lv_iload F.1 F.2.1 dX4_takeOrLeave_87 (lv_at hl 1 rfl) ?_
          refine lv_iload F.1 F.2.1 dX4_takeOrLeave_89 (lv_at hl 0 rfl) ?_
          refine lv_icmp_le (tgt := 99) F.1 F.2.1 dX4_takeOrLeave_91 (by decide) (fun k17 => ?_) (fun k17 => ?_)
          · replace h := it_t k17 h
            refine lv_iload F.1 F.2.1 dX4_takeOrLeave_99 (lv_at hl 0 rfl) ?_
            cases h
            exact RO_i F hr hlocks dX4_takeOrLeave_101
          · replace h := it_f k17 h
            refine lv_iload F.1 F.2.1 dX4_takeOrLeave_94 (lv_at hl 1 rfl) ?_
            refine lv_goto (tgt := 101) F.1 F.2.1 dX4_takeOrLeave_96 (by decide) ?_
            cases h
            exact RO_i F hr hlocks dX4_takeOrLeave_101
        · replace h := it_f k14 h
          refine lv_iload F.1 F.2.1 dX4_takeOrLeave_70 (lv_at hl 0 rfl) ?_
          cases h
          exact RO_i F hr hlocks dX4_takeOrLeave_72
    · replace h := it_f k4 h
      refine lv_iconst (v := 0) F.1 F.2.1 dX4_takeOrLeave_14 (by decide) ?_
      cases h
      exact RO_i F hr hlocks dX4_takeOrLeave_15
/-! WireCutter$Loads.byRecursion -/
def fX4_byRecursion (upf : Nat → Int32) (vk : Int32) (vsMn : Int32) (vsMf : Nat → Int32) (vsLn : Int32) (vsLf : Nat → Int32) (voNn : Int32) (voMn : Int32) (voMf : Nat → Int32) (voLn : Int32) (voLf : Nat → Int32) (p2 : Int32) : Option (Int32 × Int32 × (Nat → Int32)) :=
  (fX9_materialAt vsMn vsMf p2).bind fun z1 =>
  (fX4_gatherPieces upf voNn voMn voMf voLn voLf z1).bind fun z3 =>
  (fX7_sum 12 z3.1 z3.2).bind fun z5 =>
  (fX4_roomOf vk vsLn vsLf p2).bind fun z7 =>
  (fX4_takeOrLeave 13 12 z3.1 z3.2 0 z5 vk z7).bind fun z9 =>
  some (z9, z3.1, z3.2)
theorem mbX4_byRecursion : MV yX4_byRecursion cX4_byRecursion 3 (some .int) 2 := ⟨⟨q464, q9, by decide +kernel⟩, q462, q463⟩
set_option maxHeartbeats 4000000 in
set_option maxRecDepth 100000 in
theorem tX4_byRecursion (l : Launch) (dC : Nat → ClassId) (dI : Nat → Nat → Nat) (g : Nat → ClassId) (a0 a1 a2 a3 b0 b1 b2 b3 b4 b5 b6 b7 b8 b9 b10 b11 b12 b13 b14 b15 b16 b17 b18 b19 b20 b21 b22 b23 b24 b25 b26 b27 b28 b29 b30 b31 b32 : Nat) (ut : Nat → Int32) (upn : Int32) (upf : Nat → Int32) (vk : Int32) (vl : Int32) (vr : Int32) (vsx : Int32) (vsNn : Int32) (vsNf : Nat → Int32) (vsMn : Int32) (vsMf : Nat → Int32) (vsLn : Int32) (vsLf : Nat → Int32) (vsKn : Int32) (vsKf : Nat → Int32) (vcMn : Int32) (vcMf : Nat → Int32) (vcLn : Int32) (vcLf : Nat → Int32) (vcTn : Int32) (vcTf : Nat → Int32) (vox : Int32) (voNn : Int32) (voNf : Nat → Int32) (voMn : Int32) (voMf : Nat → Int32) (voLn : Int32) (voLf : Nat → Int32) (voDn : Int32) (voDf : Nat → Int32) (vac : Int32) (vaWn : Int32) (vaWf : Nat → Int32) (vaDn : Int32) (vaDf : Nat → Int32) (vaLn : Int32) (vaLf : Nat → Int32) (p2 : Int32) {r : Int32 × Int32 × (Nat → Int32)} (h : fX4_byRecursion upf vk vsMn vsMf vsLn vsLf voNn voMn voMf voLn voLf p2 = some r) : MU l yX4_byRecursion cX4_byRecursion 3 (some .int) 15 413 0 0 dC dI g [.ref a0, .ref b0, .int p2] (wX4 g a0 a1 a2 a3 ut upn upf ++ wX11 g b0 b1 b2 b3 b4 b5 b6 b7 b8 b9 b10 b11 b12 b13 b14 b15 b16 b17 b18 b19 b20 b21 b22 b23 b24 b25 b26 b27 b28 b29 b30 b31 b32 vk vl vr vsx vsNn vsNf vsMn vsMf vsLn vsLf vsKn vsKf vcMn vcMf vcLn vcLf vcTn vcTf vox voNn voNf voMn voMf voLn voLf voDn voDf vac vaWn vaWf vaDn vaDf vaLn vaLf) (wX4 g a0 a1 a2 a3 ut r.2.1 r.2.2 ++ wX11 g b0 b1 b2 b3 b4 b5 b6 b7 b8 b9 b10 b11 b12 b13 b14 b15 b16 b17 b18 b19 b20 b21 b22 b23 b24 b25 b26 b27 b28 b29 b30 b31 b32 vk vl vr vsx vsNn vsNf vsMn vsMf vsLn vsLf vsKn vsKf vcMn vcMf vcLn vcLf vcTn vcTf vox voNn voNf voMn voMf voLn voLf voDn voDf vac vaWn vaWf vaDn vaDf vaLn vaLf) (some (.int r.1)) := by
  refine MU_of (by decide) (Nat.le_of_ble_eq_true rfl) ?_
  intro p e s m below meth c ls F hr hlocks hE hX hA hP hD hS hl
  generalize va_A (wX4 g a0 a1 a2 a3 ut upn upf ++ wX11 g b0 b1 b2 b3 b4 b5 b6 b7 b8 b9 b10 b11 b12 b13 b14 b15 b16 b17 b18 b19 b20 b21 b22 b23 b24 b25 b26 b27 b28 b29 b30 b31 b32 vk vl vr vsx vsNn vsNf vsMn vsMf vsLn vsLf vsKn vsKf vcMn vcMf vcLn vcLf vcTn vcTf vox voNn voNf voMn voMf voLn voLf voDn voDf vac vaWn vaWf vaDn vaDf vaLn vaLf) s.heap.size = A at hA hD hS hX ⊢
  replace F : CF p m c cX4_byRecursion 3 s _ RX4 := F
  replace hl : lv_has ls 3 [(0, .ref a0), (1, .ref b0), (2, .int p2)] := hl
  rw [fX4_byRecursion] at h
  replace hP : va_P (dC, dI) vwCl (catp [[(a0, .inr (7, [.ref a1, .ref a2]))], [(a1, .inl (g 0, 1005, .inl ut))], wX7 g a2 a3 12 upn upf, [(b0, .inr (13, [.ref b1, .ref b10, .ref b17, .ref b26, .int vk, .int vl, .int vr]))], wX9 g b1 b2 b3 b4 b5 b6 b7 b8 b9 vsx vsNn vsNf vsMn vsMf vsLn vsLf vsKn vsKf, wX8 g b10 b11 b12 b13 b14 b15 b16 vcMn vcMf vcLn vcLf vcTn vcTf, wX5 g b17 b18 b19 b20 b21 b22 b23 b24 b25 vox voNn voNf voMn voMf voLn voLf voDn voDf, wX1 g b26 b27 b28 b29 b30 b31 b32 vac vaWn vaWf vaDn vaDf vaLn vaLf] []) s.heap := hP
  replace hD : va_D A (catp [[(a0, .inr (7, [.ref a1, .ref a2]))], [(a1, .inl (g 0, 1005, .inl ut))], wX7 g a2 a3 12 upn upf, [(b0, .inr (13, [.ref b1, .ref b10, .ref b17, .ref b26, .int vk, .int vl, .int vr]))], wX9 g b1 b2 b3 b4 b5 b6 b7 b8 b9 vsx vsNn vsNf vsMn vsMf vsLn vsLf vsKn vsKf, wX8 g b10 b11 b12 b13 b14 b15 b16 vcMn vcMf vcLn vcLf vcTn vcTf, wX5 g b17 b18 b19 b20 b21 b22 b23 b24 b25 vox voNn voNf voMn voMf voLn voLf voDn voDf, wX1 g b26 b27 b28 b29 b30 b31 b32 vac vaWn vaWf vaDn vaDf vaLn vaLf] []) := hD
  refine lv_aload_n F.1 F.2.1 dX4_byRecursion_0 rfl (lv_at hl 0 rfl) ?_
  refine lv_aload_n F.1 F.2.1 dX4_byRecursion_1 rfl (lv_at hl 1 rfl) ?_
  refine gFN (v := .ref b17) F hE hP 4 rfl rfl inX11 2 (by decide) q168 rfl dX4_byRecursion_2 ?_
  refine lv_aload_n F.1 F.2.1 dX4_byRecursion_5 rfl (lv_at hl 1 rfl) ?_
  refine gFN (v := .ref b1) F hE hP 4 rfl rfl inX11 0 (by decide) q163 rfl dX4_byRecursion_6 ?_
  refine lv_iload_n F.1 F.2.1 dX4_byRecursion_9 rfl (lv_at hl 2 rfl) ?_
  obtain ⟨z1, k2, h⟩ := bd_ok h
  refine cRV1 (As := [.int p2]) (rest := [.ref b17, .ref a0]) (post := catp [wX8 g b10 b11 b12 b13 b14 b15 b16 vcMn vcMf vcLn vcLf vcTn vcTf, wX5 g b17 b18 b19 b20 b21 b22 b23 b24 b25 vox voNn voNf voMn voMf voLn voLf voDn voDf, wX1 g b26 b27 b28 b29 b30 b31 b32 vac vaWn vaWf vaDn vaDf vaLn vaLf] []) F hE hX hS (tX9_materialAt l dC dI g b1 b2 b3 b4 b5 b6 b7 b8 b9 vsx vsNn vsNf vsMn vsMf vsLn vsLf vsKn vsKf p2 k2) mbX9_materialAt q418 ⟨(Nat.le_of_ble_eq_true rfl), (Nat.le_of_ble_eq_true rfl)⟩ ⟨Nat.zero_le _, Nat.zero_le _⟩ hP [[(a0, .inr (7, [.ref a1, .ref a2]))], [(a1, .inl (g 0, 1005, .inl ut))], wX7 g a2 a3 12 upn upf, [(b0, .inr (13, [.ref b1, .ref b10, .ref b17, .ref b26, .int vk, .int vl, .int vr]))]] rfl 0 rfl rfl rfl hl.1 rfl (Nat.le_of_ble_eq_true rfl) dX4_byRecursion_10 ?_
  obtain ⟨z3, k4, h⟩ := bd_ok h
  refine cMV2 (As := [.ref b17, .int z1]) (rest := []) (post := catp [wX1 g b26 b27 b28 b29 b30 b31 b32 vac vaWn vaWf vaDn vaDf vaLn vaLf] []) (ws' := catp [[(a0, .inr (7, [.ref a1, .ref a2]))], [(a1, .inl (g 0, 1005, .inl ut))], wX7 g a2 a3 12 z3.1 z3.2, [(b0, .inr (13, [.ref b1, .ref b10, .ref b17, .ref b26, .int vk, .int vl, .int vr]))], wX9 g b1 b2 b3 b4 b5 b6 b7 b8 b9 vsx vsNn vsNf vsMn vsMf vsLn vsLf vsKn vsKf, wX8 g b10 b11 b12 b13 b14 b15 b16 vcMn vcMf vcLn vcLf vcTn vcTf, wX5 g b17 b18 b19 b20 b21 b22 b23 b24 b25 vox voNn voNf voMn voMf voLn voLf voDn voDf, wX1 g b26 b27 b28 b29 b30 b31 b32 vac vaWn vaWf vaDn vaDf vaLn vaLf] []) F hE hX (tX4_gatherPieces l dC dI g a0 a1 a2 a3 b17 b18 b19 b20 b21 b22 b23 b24 b25 ut upn upf vox voNn voNf voMn voMf voLn voLf voDn voDf z1 k4) mbX4_gatherPieces q426 ⟨(Nat.le_of_ble_eq_true rfl), (Nat.le_of_ble_eq_true rfl)⟩ ⟨(Nat.le_of_ble_eq_true rfl), (Nat.le_of_ble_eq_true rfl)⟩ hP hD hS hA [] [[(b0, .inr (13, [.ref b1, .ref b10, .ref b17, .ref b26, .int vk, .int vl, .int vr]))], wX9 g b1 b2 b3 b4 b5 b6 b7 b8 b9 vsx vsNn vsNf vsMn vsMf vsLn vsLf vsKn vsKf, wX8 g b10 b11 b12 b13 b14 b15 b16 vcMn vcMf vcLn vcLf vcTn vcTf] rfl rfl rfl rfl 0 rfl rfl rfl hl.1 rfl (Nat.le_of_ble_eq_true rfl) dX4_byRecursion_13 (fun H locs hP hD hS => ?_)
  refine lv_aload_n F.1 F.2.1 dX4_byRecursion_16 rfl (lv_at hl 0 rfl) ?_
  refine gF (v := .ref a2) F hE hP 0 rfl rfl inX4 1 (by decide) q222 rfl dX4_byRecursion_17 ?_
  refine lv_iconst (v := 0) F.1 F.2.1 dX4_byRecursion_20 (by decide) ?_
  refine lv_aload_n F.1 F.2.1 dX4_byRecursion_21 rfl (lv_at hl 0 rfl) ?_
  refine gF (v := .ref a2) F hE hP 0 rfl rfl inX4 1 (by decide) q222 rfl dX4_byRecursion_22 ?_
  obtain ⟨z5, k6, h⟩ := bd_ok h
  refine cRV1 (As := []) (rest := [.int 0, .ref a2]) (post := catp [[(b0, .inr (13, [.ref b1, .ref b10, .ref b17, .ref b26, .int vk, .int vl, .int vr]))], wX9 g b1 b2 b3 b4 b5 b6 b7 b8 b9 vsx vsNn vsNf vsMn vsMf vsLn vsLf vsKn vsKf, wX8 g b10 b11 b12 b13 b14 b15 b16 vcMn vcMf vcLn vcLf vcTn vcTf, wX5 g b17 b18 b19 b20 b21 b22 b23 b24 b25 vox voNn voNf voMn voMf voLn voLf voDn voDf, wX1 g b26 b27 b28 b29 b30 b31 b32 vac vaWn vaWf vaDn vaDf vaLn vaLf] []) F hE hX hS (tX7_sum l dC dI g a2 a3 12 z3.1 z3.2 k6) mbX7_sum q465 ⟨(Nat.le_of_ble_eq_true rfl), (Nat.le_of_ble_eq_true rfl)⟩ ⟨Nat.zero_le _, Nat.zero_le _⟩ hP [[(a0, .inr (7, [.ref a1, .ref a2]))], [(a1, .inl (g 0, 1005, .inl ut))]] rfl 0 rfl rfl rfl hl.1 rfl (Nat.le_of_ble_eq_true rfl) dX4_byRecursion_25 ?_
  refine lv_aload_n F.1 F.2.1 dX4_byRecursion_28 rfl (lv_at hl 1 rfl) ?_
  refine gFN (v := .int vk) F hE hP 4 rfl rfl inX11 4 (by decide) q173 rfl dX4_byRecursion_29 ?_
  refine lv_aload_n F.1 F.2.1 dX4_byRecursion_32 rfl (lv_at hl 1 rfl) ?_
  refine lv_iload_n F.1 F.2.1 dX4_byRecursion_33 rfl (lv_at hl 2 rfl) ?_
  obtain ⟨z7, k8, h⟩ := bd_ok h
  refine cRS1 (As := [.ref b0, .int p2]) (rest := [.int vk, .int z5, .int 0, .ref a2]) (post := catp [] []) F hE hX hS (tX4_roomOf l dC dI g b0 b1 b2 b3 b4 b5 b6 b7 b8 b9 b10 b11 b12 b13 b14 b15 b16 b17 b18 b19 b20 b21 b22 b23 b24 b25 b26 b27 b28 b29 b30 b31 b32 vk vl vr vsx vsNn vsNf vsMn vsMf vsLn vsLf vsKn vsKf vcMn vcMf vcLn vcLf vcTn vcTf vox voNn voNf voMn voMf voLn voLf voDn voDf vac vaWn vaWf vaDn vaDf vaLn vaLf p2 k8) mbX4_roomOf q448 ⟨(Nat.le_of_ble_eq_true rfl), (Nat.le_of_ble_eq_true rfl)⟩ ⟨Nat.zero_le _, Nat.zero_le _⟩ hP [[(a0, .inr (7, [.ref a1, .ref a2]))], [(a1, .inl (g 0, 1005, .inl ut))], wX7 g a2 a3 12 z3.1 z3.2] rfl rfl hl.1 rfl (Nat.le_of_ble_eq_true rfl) dX4_byRecursion_34 ?_
  obtain ⟨z9, k10, h⟩ := bd_ok h
  refine cRS1 (As := [.ref a2, .int 0, .int z5, .int vk, .int z7]) (rest := []) (post := catp [[(b0, .inr (13, [.ref b1, .ref b10, .ref b17, .ref b26, .int vk, .int vl, .int vr]))], wX9 g b1 b2 b3 b4 b5 b6 b7 b8 b9 vsx vsNn vsNf vsMn vsMf vsLn vsLf vsKn vsKf, wX8 g b10 b11 b12 b13 b14 b15 b16 vcMn vcMf vcLn vcLf vcTn vcTf, wX5 g b17 b18 b19 b20 b21 b22 b23 b24 b25 vox voNn voNf voMn voMf voLn voLf voDn voDf, wX1 g b26 b27 b28 b29 b30 b31 b32 vac vaWn vaWf vaDn vaDf vaLn vaLf] []) F hE hX hS (tX4_takeOrLeave l dC dI g 13 a2 a3 12 z3.1 z3.2 0 z5 vk z7 k10) mbX4_takeOrLeave q466 ⟨(Nat.le_of_ble_eq_true rfl), (Nat.le_of_ble_eq_true rfl)⟩ ⟨Nat.zero_le _, Nat.zero_le _⟩ hP [[(a0, .inr (7, [.ref a1, .ref a2]))], [(a1, .inl (g 0, 1005, .inl ut))]] rfl rfl hl.1 rfl (Nat.le_of_ble_eq_true rfl) dX4_byRecursion_37 ?_
  cases h
  exact MU_i F hr hlocks (Nat.le_refl _) (Nat.le_refl _) hP hS dX4_byRecursion_40
