set_option maxHeartbeats 4000000 in
set_option maxRecDepth 100000 in
theorem cs_losses {p : Program} {l : Launch} {e : Env} {s : State} {m : MethodId} {below : List Frame} {meth : Method} {c : Code} {H : Heap} {locs : List Loc} {cells slots : Nat} {Q : State → Prop} {ls : Array Slot} {dC : Nat → ClassId} {dI : Nat → Nat → Nat} {g : Nat → ClassId} {A : Nat → Nat} {A1 A2 : Nat → Nat → Nat} {aq o o2 : Nat} {B : Nat → Nat} {AA : Nat → Prop} {b L : Nat} {xs : Nat → Int32} {i : Int32} {u : XT} {f : Nat → Int64} {dd : Nat → UInt64} {v : MT} (hl9 : l.stackTraces = false) (F : CF p m c code 9 s #[.ref b] RL) (hE : EK dC dI g s) (hX : EX g AA s s.heap) (hA : ∀ q : Nat, s.heap.size ≤ q → AA q) (hXs : va_X b L xs s s.heap) (hbl : b < s.heap.size) (hbA : ¬ AA b) (j1 : inR (i + 1) L = true) {r : (Except String Int32) × XT} (hx : gX12_losses u (c16 (xs (i + 1).toNatClampNeg)) = some r) {k : Int32} (hk : kx ["java/lang/IllegalArgumentException"] r.1 = some k) {rm : Int32 × MT} (hm : gX13_losses v (c16 (xs (i + 1).toNatClampNeg)) = some rm) (hth : mt_th rm.2 = k) (hag : k = 0 → oxI r.1 f 0 = rm.1.toInt64) (hc : cells + 1000 ≤ 603072) (hsl : slots + 2000 ≤ 7211114) (hP : va_P (dC, dI) vwCl (WL g A A1 A2 aq o o2 B u f dd v) H) (hD : va_D AA (WL g A A1 A2 aq o o2 B u f dd v)) (hS : va_S AA s.heap H locs) (hl : lv_has ls 9 [(0, .ref b), (1, .ref (A 0)), (2, .ref (B 0)), (3, .ref o), (4, .ref o2), (5, .int i)])
    (kk : ∀ (aq1 : Nat) (f1 : Nat → Int64) (dd1 : Nat → UInt64) (H1 : Heap) (locs1 : List Loc) (cells1 slots1 : Nat) (ls1 : Array Slot), va_P (dC, dI) vwCl (WL g A A1 A2 aq1 o o2 B r.2 f1 dd1 rm.2) H1 → va_D AA (WL g A A1 A2 aq1 o o2 B r.2 f1 dd1 rm.2) → va_S AA s.heap H1 locs1 → cells1 ≤ cells + 1000 → slots1 ≤ slots + 2000 → lv_has ls1 9 [(0, .ref b), (1, .ref (A 0)), (2, .ref (B 0)), (3, .ref o), (4, .ref o2), (5, .int i)] → W p l e room_1 s m #[.ref b] below meth c H1 locs1 cells1 slots1 Q (F0 m 2665 ls1 [])) : W p l e room_1 s m #[.ref b] below meth c H locs cells slots Q (F0 m 2020 ls []) := by
  refine lv_aload_n F.1 F.2.1 dL_law_2020 rfl (lv_at hl 1 rfl) ?_
  refine lv_aload_n F.1 F.2.1 dL_law_2021 rfl (lv_at hl 0 rfl) ?_
  refine lv_iload F.1 F.2.1 dL_law_2022 (lv_at hl 5 rfl) ?_
  refine lv_iconst (v := 1) F.1 F.2.1 dL_law_2024 (by decide) ?_
  refine lv_iadd F.1 F.2.1 dL_law_2025 ?_
  refine va_sld F.1 F.2.1 hXs hbl hbA hS (inR_in j1) dL_law_2026 ?_
  refine lv_i2c (v := c16 (xs (i + 1).toNatClampNeg)) F.1 F.2.1 dL_law_2027 rfl ?_
  refine lv_aload_n F.1 F.2.1 dL_law_2028 rfl (lv_at hl 3 rfl) ?_
  refine cZS (As := [.ref (A 0), .int (c16 (xs (i + 1).toNatClampNeg)), .ref o]) (rest := []) (post := catp [[(o2, .inl (g 7, 1, .inr (.inr (.inr (.inl dd)))))], wMt g B v] []) F hE hX (tL_losses l hl9 dC dI g A A1 A2 aq o f u (c16 (xs (i + 1).toNatClampNeg)) hx hk) mbL_losses q1399 ⟨(Nat.le_of_ble_eq_true rfl), (Nat.le_of_ble_eq_true rfl)⟩ ⟨by show _ ≤ 603072; omega, by show _ ≤ 7211114; omega⟩ hP hD hS hA [] rfl rfl hl.1 rfl (Nat.le_of_ble_eq_true rfl) dL_law_2029 (fun b9 H locs hP hD hS => ?_)
  replace hP : va_P (dC, dI) vwCl (WL g A A1 A2 aq o o2 B r.2 (oxI r.1 f) dd v) H := hP
  replace hD : va_D AA (WL g A A1 A2 aq o o2 B r.2 (oxI r.1 f) dd v) := hD
  refine lv_istore (lv' := [(6, .int k), (0, .ref b), (1, .ref (A 0)), (2, .ref (B 0)), (3, .ref o), (4, .ref o2), (5, .int i)]) F.1 F.2.1 dL_law_2032 hl (by decide) rfl (fun ls hl => ?_)
  refine lv_aload_n F.1 F.2.1 dL_law_2034 rfl (lv_at hl 3 rfl) ?_
  refine lv_aload_n F.1 F.2.1 dL_law_2035 rfl (lv_at hl 1 rfl) ?_
  refine lv_iload F.1 F.2.1 dL_law_2036 (lv_at hl 6 rfl) ?_
  refine lv_iconst (v := 1) F.1 F.2.1 dL_law_2038 (by decide) ?_
  refine lv_iadd F.1 F.2.1 dL_law_2039 ?_
  refine va_sld F.1 F.2.1 hXs hbl hbA hS (inR_in j1) dL_law_2040 ?_
  refine lv_i2c (v := c16 (xs (i + 1).toNatClampNeg)) F.1 F.2.1 dL_law_2041 rfl ?_
  refine cMV1 (As := [.int (c16 (xs (i + 1).toNatClampNeg))]) (rest := []) (post := catp [] []) (ws' := WL g A A1 A2 aq o o2 B r.2 (oxI r.1 f) dd rm.2) F hE hX (kX13_losses l dC dI g B v (c16 (xs (i + 1).toNatClampNeg)) hm) mbX13_losses q2072 ⟨(Nat.le_of_ble_eq_true rfl), (Nat.le_of_ble_eq_true rfl)⟩ ⟨by show _ ≤ 603072; omega, by show _ ≤ 7211114; omega⟩ hP hD hS hA [wXt g A A1 A2 aq r.2, [(o, .inl (g 6, 1, .inr (.inl (oxI r.1 f))))], [(o2, .inl (g 7, 1, .inr (.inr (.inr (.inl dd)))))]] rfl (wMt_fst g B _ _) rfl 0 rfl rfl rfl hl.1 rfl (Nat.le_of_ble_eq_true rfl) dL_law_2042 (fun H locs hP hD hS => ?_)
  replace hP : va_P (dC, dI) vwCl (WL g A A1 A2 aq o o2 B r.2 (oxI r.1 f) dd rm.2) H := hP
  replace hD : va_D AA (WL g A A1 A2 aq o o2 B r.2 (oxI r.1 f) dd rm.2) := hD
  refine lv_istore (lv' := [(7, .int rm.1), (6, .int k), (0, .ref b), (1, .ref (A 0)), (2, .ref (B 0)), (3, .ref o), (4, .ref o2), (5, .int i)]) F.1 F.2.1 dL_law_2045 hl (by decide) rfl (fun ls hl => ?_)
  refine lv_aload_n F.1 F.2.1 dL_law_2047 rfl (lv_at hl 4 rfl) ?_
  refine cRV1 (As := []) (rest := []) (post := catp [] []) F hE hX hS (kX13_thrown l dC dI g B rm.2 (r := mt_th rm.2) rfl) mbX13_thrown q1674 ⟨(Nat.le_of_ble_eq_true rfl), (Nat.le_of_ble_eq_true rfl)⟩ ⟨by show _ ≤ 603072; omega, by show _ ≤ 7211114; omega⟩ hP [wXt g A A1 A2 aq r.2, [(o, .inl (g 6, 1, .inr (.inl (oxI r.1 f))))], [(o2, .inl (g 7, 1, .inr (.inr (.inr (.inl dd)))))]] rfl 0 rfl rfl rfl hl.1 rfl (Nat.le_of_ble_eq_true rfl) dL_law_2048 ?_
  refine lv_iload F.1 F.2.1 dL_law_2051 (lv_at hl 1 rfl) ?_
  refine lv_icmp_eq (tgt := 2058) F.1 F.2.1 dL_law_2053 (by decide) (fun _ => ?_) (fun k9 => absurd hth k9)
  refine lv_iload F.1 F.2.1 dL_law_2058 (lv_at hl 1 rfl) ?_
  refine lv_if_ne (tgt := 2075) F.1 F.2.1 dL_law_2060 (by decide) (fun kz => ?_) (fun kz => ?_)
  · refine lv_goto (tgt := 2665) F.1 F.2.1 dL_law_2075 (by decide) ?_
    exact kk aq (oxI r.1 f) dd H locs _ _ ls hP hD hS (by omega) (by omega) (lv_sub hl [2, 3, 4, 5, 6, 7] rfl)
  · refine lv_aload_n F.1 F.2.1 dL_law_2063 rfl (lv_at hl 5 rfl) ?_
    refine lv_iconst (v := 0) F.1 F.2.1 dL_law_2064 (by decide) ?_
    refine va_lald F.1 F.2.1 hE.1 hP 387 6 rfl rfl (inR_in (by decide : inR 0 1 = true)) dL_law_2065 ?_
    refine lv_iload F.1 F.2.1 dL_law_2066 (lv_at hl 0 rfl) ?_
    refine lv_i2l F.1 F.2.1 dL_law_2068 rfl ?_
    refine W.lcmp F.1 F.2.1 dL_law_2069 ?_
    refine lv_if_eq (tgt := 2075) F.1 F.2.1 dL_law_2070 (by decide) (fun _ => ?_) (fun k9 => absurd (by show lg_cmp (oxI r.1 f 0) rm.1.toInt64 = 0; rw [hag kz]; exact lg_cmp_self _) k9)
    refine lv_goto (tgt := 2665) F.1 F.2.1 dL_law_2075 (by decide) ?_
    exact kk aq (oxI r.1 f) dd H locs _ _ ls hP hD hS (by omega) (by omega) (lv_sub hl [2, 3, 4, 5, 6, 7] rfl)
set_option maxHeartbeats 4000000 in
set_option maxRecDepth 100000 in
theorem cs_filled {p : Program} {l : Launch} {e : Env} {s : State} {m : MethodId} {below : List Frame} {meth : Method} {c : Code} {H : Heap} {locs : List Loc} {cells slots : Nat} {Q : State → Prop} {ls : Array Slot} {dC : Nat → ClassId} {dI : Nat → Nat → Nat} {g : Nat → ClassId} {A : Nat → Nat} {A1 A2 : Nat → Nat → Nat} {aq o o2 : Nat} {B : Nat → Nat} {AA : Nat → Prop} {b L : Nat} {xs : Nat → Int32} {i : Int32} {u : XT} {f : Nat → Int64} {dd : Nat → UInt64} {v : MT} (hl9 : l.stackTraces = false) (F : CF p m c code 9 s #[.ref b] RL) (hE : EK dC dI g s) (hX : EX g AA s s.heap) (hA : ∀ q : Nat, s.heap.size ≤ q → AA q) (hXs : va_X b L xs s s.heap) (hbl : b < s.heap.size) (hbA : ¬ AA b) {r : Int32} (hx : gX12_filled u = some r) {rm : Int32 × MT} (hm : gX13_filled v = some rm) (hag : r = rm.1) (hc : cells + 1000 ≤ 603072) (hsl : slots + 2000 ≤ 7211114) (hP : va_P (dC, dI) vwCl (WL g A A1 A2 aq o o2 B u f dd v) H) (hD : va_D AA (WL g A A1 A2 aq o o2 B u f dd v)) (hS : va_S AA s.heap H locs) (hl : lv_has ls 9 [(0, .ref b), (1, .ref (A 0)), (2, .ref (B 0)), (3, .ref o), (4, .ref o2), (5, .int i)])
    (kk : ∀ (aq1 : Nat) (f1 : Nat → Int64) (dd1 : Nat → UInt64) (H1 : Heap) (locs1 : List Loc) (cells1 slots1 : Nat) (ls1 : Array Slot), va_P (dC, dI) vwCl (WL g A A1 A2 aq1 o o2 B u f1 dd1 rm.2) H1 → va_D AA (WL g A A1 A2 aq1 o o2 B u f1 dd1 rm.2) → va_S AA s.heap H1 locs1 → cells1 ≤ cells + 1000 → slots1 ≤ slots + 2000 → lv_has ls1 9 [(0, .ref b), (1, .ref (A 0)), (2, .ref (B 0)), (3, .ref o), (4, .ref o2), (5, .int i)] → W p l e room_1 s m #[.ref b] below meth c H1 locs1 cells1 slots1 Q (F0 m 2665 ls1 [])) : W p l e room_1 s m #[.ref b] below meth c H locs cells slots Q (F0 m 2078 ls []) := by
  refine lv_aload_n F.1 F.2.1 dL_law_2078 rfl (lv_at hl 1 rfl) ?_
  refine cRV1 (As := []) (rest := []) (post := catp [[(o, .inl (g 6, 1, .inr (.inl f)))], [(o2, .inl (g 7, 1, .inr (.inr (.inr (.inl dd)))))], wMt g B v] []) F hE hX hS (kX12_filled l dC dI g A A1 A2 aq u hx) mbX12_filled q394 ⟨(Nat.le_of_ble_eq_true rfl), (Nat.le_of_ble_eq_true rfl)⟩ ⟨by show _ ≤ 603072; omega, by show _ ≤ 7211114; omega⟩ hP [] rfl 0 rfl rfl rfl hl.1 rfl (Nat.le_of_ble_eq_true rfl) dL_law_2079 ?_
  refine lv_aload_n F.1 F.2.1 dL_law_2082 rfl (lv_at hl 2 rfl) ?_
  refine cMV1 (As := []) (rest := [.int r]) (post := catp [] []) (ws' := WL g A A1 A2 aq o o2 B u f dd rm.2) F hE hX (kX13_filled l dC dI g B v hm) mbX13_filled q2076 ⟨(Nat.le_of_ble_eq_true rfl), (Nat.le_of_ble_eq_true rfl)⟩ ⟨by show _ ≤ 603072; omega, by show _ ≤ 7211114; omega⟩ hP hD hS hA [wXt g A A1 A2 aq u, [(o, .inl (g 6, 1, .inr (.inl f)))], [(o2, .inl (g 7, 1, .inr (.inr (.inr (.inl dd)))))]] rfl (wMt_fst g B _ _) rfl 0 rfl rfl rfl hl.1 rfl (Nat.le_of_ble_eq_true rfl) dL_law_2083 (fun H locs hP hD hS => ?_)
  replace hP : va_P (dC, dI) vwCl (WL g A A1 A2 aq o o2 B u f dd rm.2) H := hP
  replace hD : va_D AA (WL g A A1 A2 aq o o2 B u f dd rm.2) := hD
  refine lv_icmp_eq (tgt := 2665) F.1 F.2.1 dL_law_2086 (by decide) (fun _ => ?_) (fun k9 => absurd hag k9)
  exact kk aq f dd H locs _ _ ls hP hD hS (by omega) (by omega) (lv_sub hl [0, 1, 2, 3, 4, 5] rfl)
set_option maxHeartbeats 4000000 in
set_option maxRecDepth 100000 in
theorem cs_totalDelivered {p : Program} {l : Launch} {e : Env} {s : State} {m : MethodId} {below : List Frame} {meth : Method} {c : Code} {H : Heap} {locs : List Loc} {cells slots : Nat} {Q : State → Prop} {ls : Array Slot} {dC : Nat → ClassId} {dI : Nat → Nat → Nat} {g : Nat → ClassId} {A : Nat → Nat} {A1 A2 : Nat → Nat → Nat} {aq o o2 : Nat} {B : Nat → Nat} {AA : Nat → Prop} {b L : Nat} {xs : Nat → Int32} {i : Int32} {u : XT} {f : Nat → Int64} {dd : Nat → UInt64} {v : MT} (hl9 : l.stackTraces = false) (F : CF p m c code 9 s #[.ref b] RL) (hE : EK dC dI g s) (hX : EX g AA s s.heap) (hA : ∀ q : Nat, s.heap.size ≤ q → AA q) (hXs : va_X b L xs s s.heap) (hbl : b < s.heap.size) (hbA : ¬ AA b) {r : Int64} (hx : gX12_totalDelivered u = some r) {rm : Int64 × MT} (hm : gX13_totalDelivered v = some rm) (hag : r = rm.1) (hc : cells + 1000 ≤ 603072) (hsl : slots + 2000 ≤ 7211114) (hP : va_P (dC, dI) vwCl (WL g A A1 A2 aq o o2 B u f dd v) H) (hD : va_D AA (WL g A A1 A2 aq o o2 B u f dd v)) (hS : va_S AA s.heap H locs) (hl : lv_has ls 9 [(0, .ref b), (1, .ref (A 0)), (2, .ref (B 0)), (3, .ref o), (4, .ref o2), (5, .int i)])
    (kk : ∀ (aq1 : Nat) (f1 : Nat → Int64) (dd1 : Nat → UInt64) (H1 : Heap) (locs1 : List Loc) (cells1 slots1 : Nat) (ls1 : Array Slot), va_P (dC, dI) vwCl (WL g A A1 A2 aq1 o o2 B u f1 dd1 rm.2) H1 → va_D AA (WL g A A1 A2 aq1 o o2 B u f1 dd1 rm.2) → va_S AA s.heap H1 locs1 → cells1 ≤ cells + 1000 → slots1 ≤ slots + 2000 → lv_has ls1 9 [(0, .ref b), (1, .ref (A 0)), (2, .ref (B 0)), (3, .ref o), (4, .ref o2), (5, .int i)] → W p l e room_1 s m #[.ref b] below meth c H1 locs1 cells1 slots1 Q (F0 m 2665 ls1 [])) : W p l e room_1 s m #[.ref b] below meth c H locs cells slots Q (F0 m 2091 ls []) := by
  refine lv_aload_n F.1 F.2.1 dL_law_2091 rfl (lv_at hl 1 rfl) ?_
  refine cRV1 (As := []) (rest := []) (post := catp [[(o, .inl (g 6, 1, .inr (.inl f)))], [(o2, .inl (g 7, 1, .inr (.inr (.inr (.inl dd)))))], wMt g B v] []) F hE hX hS (kX12_totalDelivered l dC dI g A A1 A2 aq u hx) mbX12_totalDelivered q398 ⟨(Nat.le_of_ble_eq_true rfl), (Nat.le_of_ble_eq_true rfl)⟩ ⟨by show _ ≤ 603072; omega, by show _ ≤ 7211114; omega⟩ hP [] rfl 0 rfl rfl rfl hl.1 rfl (Nat.le_of_ble_eq_true rfl) dL_law_2092 ?_
  refine lv_aload_n F.1 F.2.1 dL_law_2095 rfl (lv_at hl 2 rfl) ?_
  refine cMV1 (As := []) (rest := [.long r]) (post := catp [] []) (ws' := WL g A A1 A2 aq o o2 B u f dd rm.2) F hE hX (kX13_totalDelivered l dC dI g B v hm) mbX13_totalDelivered q2080 ⟨(Nat.le_of_ble_eq_true rfl), (Nat.le_of_ble_eq_true rfl)⟩ ⟨by show _ ≤ 603072; omega, by show _ ≤ 7211114; omega⟩ hP hD hS hA [wXt g A A1 A2 aq u, [(o, .inl (g 6, 1, .inr (.inl f)))], [(o2, .inl (g 7, 1, .inr (.inr (.inr (.inl dd)))))]] rfl (wMt_fst g B _ _) rfl 0 rfl rfl rfl hl.1 rfl (Nat.le_of_ble_eq_true rfl) dL_law_2096 (fun H locs hP hD hS => ?_)
  replace hP : va_P (dC, dI) vwCl (WL g A A1 A2 aq o o2 B u f dd rm.2) H := hP
  replace hD : va_D AA (WL g A A1 A2 aq o o2 B u f dd rm.2) := hD
  refine W.lcmp F.1 F.2.1 dL_law_2099 ?_
  refine lv_if_eq (tgt := 2665) F.1 F.2.1 dL_law_2100 (by decide) (fun _ => ?_) (fun k9 => absurd (by rw [hag]; exact lg_cmp_self _) k9)
  exact kk aq f dd H locs _ _ ls hP hD hS (by omega) (by omega) (lv_sub hl [0, 1, 2, 3, 4, 5] rfl)
set_option maxHeartbeats 4000000 in
set_option maxRecDepth 100000 in
theorem cs_meanRemaining {p : Program} {l : Launch} {e : Env} {s : State} {m : MethodId} {below : List Frame} {meth : Method} {c : Code} {H : Heap} {locs : List Loc} {cells slots : Nat} {Q : State → Prop} {ls : Array Slot} {dC : Nat → ClassId} {dI : Nat → Nat → Nat} {g : Nat → ClassId} {A : Nat → Nat} {A1 A2 : Nat → Nat → Nat} {aq o o2 : Nat} {B : Nat → Nat} {AA : Nat → Prop} {b L : Nat} {xs : Nat → Int32} {i : Int32} {u : XT} {f : Nat → Int64} {dd : Nat → UInt64} {v : MT} (hl9 : l.stackTraces = false) (F : CF p m c code 9 s #[.ref b] RL) (hE : EK dC dI g s) (hX : EX g AA s s.heap) (hA : ∀ q : Nat, s.heap.size ≤ q → AA q) (hXs : va_X b L xs s s.heap) (hbl : b < s.heap.size) (hbA : ¬ AA b) {r : (Except String UInt64) × XT} (hx : gX12_meanRemaining u = some r) {k : Int32} (hk : kx ["java/lang/ArithmeticException"] r.1 = some k) {rm : UInt64 × MT} (hm : gX13_meanRemaining v = some rm) (hth : mt_th rm.2 = k) (hag : k = 0 → oxD r.1 dd 0 = rm.1 ∧ FP.dcmp rm.1 rm.1 = some .eq) (hc : cells + 1000 ≤ 603072) (hsl : slots + 2000 ≤ 7211114) (hP : va_P (dC, dI) vwCl (WL g A A1 A2 aq o o2 B u f dd v) H) (hD : va_D AA (WL g A A1 A2 aq o o2 B u f dd v)) (hS : va_S AA s.heap H locs) (hl : lv_has ls 9 [(0, .ref b), (1, .ref (A 0)), (2, .ref (B 0)), (3, .ref o), (4, .ref o2), (5, .int i)])
    (kk : ∀ (aq1 : Nat) (f1 : Nat → Int64) (dd1 : Nat → UInt64) (H1 : Heap) (locs1 : List Loc) (cells1 slots1 : Nat) (ls1 : Array Slot), va_P (dC, dI) vwCl (WL g A A1 A2 aq1 o o2 B r.2 f1 dd1 rm.2) H1 → va_D AA (WL g A A1 A2 aq1 o o2 B r.2 f1 dd1 rm.2) → va_S AA s.heap H1 locs1 → cells1 ≤ cells + 1000 → slots1 ≤ slots + 2000 → lv_has ls1 9 [(0, .ref b), (1, .ref (A 0)), (2, .ref (B 0)), (3, .ref o), (4, .ref o2), (5, .int i)] → W p l e room_1 s m #[.ref b] below meth c H1 locs1 cells1 slots1 Q (F0 m 2665 ls1 [])) : W p l e room_1 s m #[.ref b] below meth c H locs cells slots Q (F0 m 2105 ls []) := by
  refine lv_aload_n F.1 F.2.1 dL_law_2105 rfl (lv_at hl 1 rfl) ?_
  refine lv_aload F.1 F.2.1 dL_law_2106 (lv_at hl 4 rfl) ?_
  replace hP := swP hP
  replace hD := swD hD
  refine cZS (As := [.ref (A 0), .ref o2]) (rest := []) (post := catp [[(o, .inl (g 6, 1, .inr (.inl f)))], wMt g B v] []) F hE hX (tL_meanRemaining l hl9 dC dI g A A1 A2 aq o2 dd u hx hk) mbL_meanRemaining q1406 ⟨(Nat.le_of_ble_eq_true rfl), (Nat.le_of_ble_eq_true rfl)⟩ ⟨by show _ ≤ 603072; omega, by show _ ≤ 7211114; omega⟩ hP hD hS hA [] rfl rfl hl.1 rfl (Nat.le_of_ble_eq_true rfl) dL_law_2108 (fun b9 H locs hP hD hS => ?_)
  replace hP := swP (a := wXt g A A1 A2 aq r.2) (b := [(o2, .inl (g 7, 1, .inr (.inr (.inr (.inl (oxD r.1 dd))))))]) (c := [(o, .inl (g 6, 1, .inr (.inl f)))]) (d := wMt g B v) hP
  replace hD := swD (a := wXt g A A1 A2 aq r.2) (b := [(o2, .inl (g 7, 1, .inr (.inr (.inr (.inl (oxD r.1 dd))))))]) (c := [(o, .inl (g 6, 1, .inr (.inl f)))]) (d := wMt g B v) hD
  replace hP : va_P (dC, dI) vwCl (WL g A A1 A2 aq o o2 B r.2 f (oxD r.1 dd) v) H := hP
  replace hD : va_D AA (WL g A A1 A2 aq o o2 B r.2 f (oxD r.1 dd) v) := hD
  refine lv_istore (lv' := [(6, .int k), (0, .ref b), (1, .ref (A 0)), (2, .ref (B 0)), (3, .ref o), (4, .ref o2), (5, .int i)]) F.1 F.2.1 dL_law_2111 hl (by decide) rfl (fun ls hl => ?_)
  refine lv_aload_n F.1 F.2.1 dL_law_2113 rfl (lv_at hl 3 rfl) ?_
  refine cMV1 (As := []) (rest := []) (post := catp [] []) (ws' := WL g A A1 A2 aq o o2 B r.2 f (oxD r.1 dd) rm.2) F hE hX (kX13_meanRemaining l dC dI g B v hm) mbX13_meanRemaining q2088 ⟨(Nat.le_of_ble_eq_true rfl), (Nat.le_of_ble_eq_true rfl)⟩ ⟨by show _ ≤ 603072; omega, by show _ ≤ 7211114; omega⟩ hP hD hS hA [wXt g A A1 A2 aq r.2, [(o, .inl (g 6, 1, .inr (.inl f)))], [(o2, .inl (g 7, 1, .inr (.inr (.inr (.inl (oxD r.1 dd))))))]] rfl (wMt_fst g B _ _) rfl 0 rfl rfl rfl hl.1 rfl (Nat.le_of_ble_eq_true rfl) dL_law_2114 (fun H locs hP hD hS => ?_)
  replace hP : va_P (dC, dI) vwCl (WL g A A1 A2 aq o o2 B r.2 f (oxD r.1 dd) rm.2) H := hP
  replace hD : va_D AA (WL g A A1 A2 aq o o2 B r.2 f (oxD r.1 dd) rm.2) := hD
  refine lv_dstore (lv' := [(7, .double rm.1), (6, .int k), (0, .ref b), (1, .ref (A 0)), (2, .ref (B 0)), (3, .ref o), (4, .ref o2), (5, .int i)]) F.1 F.2.1 dL_law_2117 hl (by decide) rfl (fun ls hl => ?_)
  refine lv_aload_n F.1 F.2.1 dL_law_2119 rfl (lv_at hl 4 rfl) ?_
  refine cRV1 (As := []) (rest := []) (post := catp [] []) F hE hX hS (kX13_thrown l dC dI g B rm.2 (r := mt_th rm.2) rfl) mbX13_thrown q1674 ⟨(Nat.le_of_ble_eq_true rfl), (Nat.le_of_ble_eq_true rfl)⟩ ⟨by show _ ≤ 603072; omega, by show _ ≤ 7211114; omega⟩ hP [wXt g A A1 A2 aq r.2, [(o, .inl (g 6, 1, .inr (.inl f)))], [(o2, .inl (g 7, 1, .inr (.inr (.inr (.inl (oxD r.1 dd))))))]] rfl 0 rfl rfl rfl hl.1 rfl (Nat.le_of_ble_eq_true rfl) dL_law_2120 ?_
  refine lv_iload F.1 F.2.1 dL_law_2123 (lv_at hl 1 rfl) ?_
  refine lv_icmp_eq (tgt := 2130) F.1 F.2.1 dL_law_2125 (by decide) (fun _ => ?_) (fun k9 => absurd hth k9)
  refine lv_iload F.1 F.2.1 dL_law_2130 (lv_at hl 1 rfl) ?_
  refine lv_if_ne (tgt := 2167) F.1 F.2.1 dL_law_2132 (by decide) (fun kz => ?_) (fun kz => ?_)
  · refine lv_goto (tgt := 2665) F.1 F.2.1 dL_law_2167 (by decide) ?_
    exact kk aq f (oxD r.1 dd) H locs _ _ ls hP hD hS (by omega) (by omega) (lv_sub hl [2, 3, 4, 5, 6, 7] rfl)
  · refine lv_aload F.1 F.2.1 dL_law_2135 (lv_at hl 6 rfl) ?_
    refine lv_iconst (v := 0) F.1 F.2.1 dL_law_2137 (by decide) ?_
    refine va_dald F.1 F.2.1 hE.1 hP 388 7 rfl rfl (inR_in (by decide : inR 0 1 = true)) dL_law_2138 ?_
    refine lv_dload F.1 F.2.1 dL_law_2139 (lv_at hl 0 rfl) ?_
    refine lv_dcmp F.1 F.2.1 dL_law_2141 ?_
    refine lv_if_eq (tgt := 2167) F.1 F.2.1 dL_law_2142 (by decide) (fun _ => ?_) (fun k9 => absurd (by show Op.cmpValue (FP.dcmp (oxD r.1 dd 0) (rm.1)) .l = 0; rw [(hag kz).1, (hag kz).2]; rfl) k9)
    refine lv_goto (tgt := 2665) F.1 F.2.1 dL_law_2167 (by decide) ?_
    exact kk aq f (oxD r.1 dd) H locs _ _ ls hP hD hS (by omega) (by omega) (lv_sub hl [2, 3, 4, 5, 6, 7] rfl)
set_option maxHeartbeats 4000000 in
set_option maxRecDepth 100000 in
theorem cs_lossRate {p : Program} {l : Launch} {e : Env} {s : State} {m : MethodId} {below : List Frame} {meth : Method} {c : Code} {H : Heap} {locs : List Loc} {cells slots : Nat} {Q : State → Prop} {ls : Array Slot} {dC : Nat → ClassId} {dI : Nat → Nat → Nat} {g : Nat → ClassId} {A : Nat → Nat} {A1 A2 : Nat → Nat → Nat} {aq o o2 : Nat} {B : Nat → Nat} {AA : Nat → Prop} {b L : Nat} {xs : Nat → Int32} {i : Int32} {u : XT} {f : Nat → Int64} {dd : Nat → UInt64} {v : MT} (hl9 : l.stackTraces = false) (F : CF p m c code 9 s #[.ref b] RL) (hE : EK dC dI g s) (hX : EX g AA s s.heap) (hA : ∀ q : Nat, s.heap.size ≤ q → AA q) (hXs : va_X b L xs s s.heap) (hbl : b < s.heap.size) (hbA : ¬ AA b) {r : (Except String UInt32) × XT} (hx : gX12_lossRate u = some r) {k : Int32} (hk : kx ["java/lang/ArithmeticException"] r.1 = some k) (hn : ∀ v, r.1 = .ok v → vf_n64 (FP.f2d v)) {rm : UInt32 × MT} (hm : gX13_lossRate v = some rm) (hth : mt_th rm.2 = k) (hag : k = 0 → oxF r.1 dd 0 = FP.f2d rm.1 ∧ FP.dcmp (FP.f2d rm.1) (FP.f2d rm.1) = some .eq ∧ vf_n64 (FP.f2d rm.1)) (hc : cells + 1000 ≤ 603072) (hsl : slots + 2000 ≤ 7211114) (hP : va_P (dC, dI) vwCl (WL g A A1 A2 aq o o2 B u f dd v) H) (hD : va_D AA (WL g A A1 A2 aq o o2 B u f dd v)) (hS : va_S AA s.heap H locs) (hl : lv_has ls 9 [(0, .ref b), (1, .ref (A 0)), (2, .ref (B 0)), (3, .ref o), (4, .ref o2), (5, .int i)])
    (kk : ∀ (aq1 : Nat) (f1 : Nat → Int64) (dd1 : Nat → UInt64) (H1 : Heap) (locs1 : List Loc) (cells1 slots1 : Nat) (ls1 : Array Slot), va_P (dC, dI) vwCl (WL g A A1 A2 aq1 o o2 B r.2 f1 dd1 rm.2) H1 → va_D AA (WL g A A1 A2 aq1 o o2 B r.2 f1 dd1 rm.2) → va_S AA s.heap H1 locs1 → cells1 ≤ cells + 1000 → slots1 ≤ slots + 2000 → lv_has ls1 9 [(0, .ref b), (1, .ref (A 0)), (2, .ref (B 0)), (3, .ref o), (4, .ref o2), (5, .int i)] → W p l e room_1 s m #[.ref b] below meth c H1 locs1 cells1 slots1 Q (F0 m 2665 ls1 [])) : W p l e room_1 s m #[.ref b] below meth c H locs cells slots Q (F0 m 2170 ls []) := by
  refine lv_aload_n F.1 F.2.1 dL_law_2170 rfl (lv_at hl 1 rfl) ?_
  refine lv_aload F.1 F.2.1 dL_law_2171 (lv_at hl 4 rfl) ?_
  replace hP := swP hP
  replace hD := swD hD
  refine cZS (As := [.ref (A 0), .ref o2]) (rest := []) (post := catp [[(o, .inl (g 6, 1, .inr (.inl f)))], wMt g B v] []) F hE hX (tL_lossRate l hl9 dC dI g A A1 A2 aq o2 dd u hx hk hn) mbL_lossRate q1435 ⟨(Nat.le_of_ble_eq_true rfl), (Nat.le_of_ble_eq_true rfl)⟩ ⟨by show _ ≤ 603072; omega, by show _ ≤ 7211114; omega⟩ hP hD hS hA [] rfl rfl hl.1 rfl (Nat.le_of_ble_eq_true rfl) dL_law_2173 (fun b9 H locs hP hD hS => ?_)
  replace hP := swP (a := wXt g A A1 A2 aq r.2) (b := [(o2, .inl (g 7, 1, .inr (.inr (.inr (.inl (oxF r.1 dd))))))]) (c := [(o, .inl (g 6, 1, .inr (.inl f)))]) (d := wMt g B v) hP
  replace hD := swD (a := wXt g A A1 A2 aq r.2) (b := [(o2, .inl (g 7, 1, .inr (.inr (.inr (.inl (oxF r.1 dd))))))]) (c := [(o, .inl (g 6, 1, .inr (.inl f)))]) (d := wMt g B v) hD
  replace hP : va_P (dC, dI) vwCl (WL g A A1 A2 aq o o2 B r.2 f (oxF r.1 dd) v) H := hP
  replace hD : va_D AA (WL g A A1 A2 aq o o2 B r.2 f (oxF r.1 dd) v) := hD
  refine lv_istore (lv' := [(6, .int k), (0, .ref b), (1, .ref (A 0)), (2, .ref (B 0)), (3, .ref o), (4, .ref o2), (5, .int i)]) F.1 F.2.1 dL_law_2176 hl (by decide) rfl (fun ls hl => ?_)
  refine lv_aload_n F.1 F.2.1 dL_law_2178 rfl (lv_at hl 3 rfl) ?_
  refine cMV1 (As := []) (rest := []) (post := catp [] []) (ws' := WL g A A1 A2 aq o o2 B r.2 f (oxF r.1 dd) rm.2) F hE hX (kX13_lossRate l dC dI g B v hm) mbX13_lossRate q2092 ⟨(Nat.le_of_ble_eq_true rfl), (Nat.le_of_ble_eq_true rfl)⟩ ⟨by show _ ≤ 603072; omega, by show _ ≤ 7211114; omega⟩ hP hD hS hA [wXt g A A1 A2 aq r.2, [(o, .inl (g 6, 1, .inr (.inl f)))], [(o2, .inl (g 7, 1, .inr (.inr (.inr (.inl (oxF r.1 dd))))))]] rfl (wMt_fst g B _ _) rfl 0 rfl rfl rfl hl.1 rfl (Nat.le_of_ble_eq_true rfl) dL_law_2179 (fun H locs hP hD hS => ?_)
  replace hP : va_P (dC, dI) vwCl (WL g A A1 A2 aq o o2 B r.2 f (oxF r.1 dd) rm.2) H := hP
  replace hD : va_D AA (WL g A A1 A2 aq o o2 B r.2 f (oxF r.1 dd) rm.2) := hD
  refine lv_fstore (lv' := [(7, .float rm.1), (6, .int k), (0, .ref b), (1, .ref (A 0)), (2, .ref (B 0)), (3, .ref o), (4, .ref o2), (5, .int i)]) F.1 F.2.1 dL_law_2182 hl (by decide) rfl (fun ls hl => ?_)
  refine lv_aload_n F.1 F.2.1 dL_law_2184 rfl (lv_at hl 4 rfl) ?_
  refine cRV1 (As := []) (rest := []) (post := catp [] []) F hE hX hS (kX13_thrown l dC dI g B rm.2 (r := mt_th rm.2) rfl) mbX13_thrown q1674 ⟨(Nat.le_of_ble_eq_true rfl), (Nat.le_of_ble_eq_true rfl)⟩ ⟨by show _ ≤ 603072; omega, by show _ ≤ 7211114; omega⟩ hP [wXt g A A1 A2 aq r.2, [(o, .inl (g 6, 1, .inr (.inl f)))], [(o2, .inl (g 7, 1, .inr (.inr (.inr (.inl (oxF r.1 dd))))))]] rfl 0 rfl rfl rfl hl.1 rfl (Nat.le_of_ble_eq_true rfl) dL_law_2185 ?_
  refine lv_iload F.1 F.2.1 dL_law_2188 (lv_at hl 1 rfl) ?_
  refine lv_icmp_eq (tgt := 2195) F.1 F.2.1 dL_law_2190 (by decide) (fun _ => ?_) (fun k9 => absurd hth k9)
  refine lv_iload F.1 F.2.1 dL_law_2195 (lv_at hl 1 rfl) ?_
  refine lv_if_ne (tgt := 2233) F.1 F.2.1 dL_law_2197 (by decide) (fun kz => ?_) (fun kz => ?_)
  · refine lv_goto (tgt := 2665) F.1 F.2.1 dL_law_2233 (by decide) ?_
    exact kk aq f (oxF r.1 dd) H locs _ _ ls hP hD hS (by omega) (by omega) (lv_sub hl [2, 3, 4, 5, 6, 7] rfl)
  · refine lv_aload F.1 F.2.1 dL_law_2200 (lv_at hl 6 rfl) ?_
    refine lv_iconst (v := 0) F.1 F.2.1 dL_law_2202 (by decide) ?_
    refine va_dald F.1 F.2.1 hE.1 hP 388 7 rfl rfl (inR_in (by decide : inR 0 1 = true)) dL_law_2203 ?_
    refine lv_fload F.1 F.2.1 dL_law_2204 (lv_at hl 0 rfl) ?_
    refine lv_f2d F.1 F.2.1 dL_law_2206 (hag kz).2.2 ?_
    refine lv_dcmp F.1 F.2.1 dL_law_2207 ?_
    refine lv_if_eq (tgt := 2233) F.1 F.2.1 dL_law_2208 (by decide) (fun _ => ?_) (fun k9 => absurd (by show Op.cmpValue (FP.dcmp (oxF r.1 dd 0) (FP.f2d rm.1)) .l = 0; rw [(hag kz).1, (hag kz).2.1]; rfl) k9)
    refine lv_goto (tgt := 2665) F.1 F.2.1 dL_law_2233 (by decide) ?_
    exact kk aq f (oxF r.1 dd) H locs _ _ ls hP hD hS (by omega) (by omega) (lv_sub hl [2, 3, 4, 5, 6, 7] rfl)
set_option maxHeartbeats 4000000 in
set_option maxRecDepth 100000 in
theorem cs_isConsistent {p : Program} {l : Launch} {e : Env} {s : State} {m : MethodId} {below : List Frame} {meth : Method} {c : Code} {H : Heap} {locs : List Loc} {cells slots : Nat} {Q : State → Prop} {ls : Array Slot} {dC : Nat → ClassId} {dI : Nat → Nat → Nat} {g : Nat → ClassId} {A : Nat → Nat} {A1 A2 : Nat → Nat → Nat} {aq o o2 : Nat} {B : Nat → Nat} {AA : Nat → Prop} {b L : Nat} {xs : Nat → Int32} {i : Int32} {u : XT} {f : Nat → Int64} {dd : Nat → UInt64} {v : MT} (hl9 : l.stackTraces = false) (F : CF p m c code 9 s #[.ref b] RL) (hE : EK dC dI g s) (hX : EX g AA s s.heap) (hA : ∀ q : Nat, s.heap.size ≤ q → AA q) (hXs : va_X b L xs s s.heap) (hbl : b < s.heap.size) (hbA : ¬ AA b) {r : Int32 × XT} (hx : gX12_isConsistent u = some r) {rm : Int32 × MT} (hm : gX13_isConsistent v = some rm) (hag : r.1 = rm.1) (hc : cells + 1000 ≤ 603072) (hsl : slots + 2000 ≤ 7211114) (hP : va_P (dC, dI) vwCl (WL g A A1 A2 aq o o2 B u f dd v) H) (hD : va_D AA (WL g A A1 A2 aq o o2 B u f dd v)) (hS : va_S AA s.heap H locs) (hl : lv_has ls 9 [(0, .ref b), (1, .ref (A 0)), (2, .ref (B 0)), (3, .ref o), (4, .ref o2), (5, .int i)])
    (kk : ∀ (aq1 : Nat) (f1 : Nat → Int64) (dd1 : Nat → UInt64) (H1 : Heap) (locs1 : List Loc) (cells1 slots1 : Nat) (ls1 : Array Slot), va_P (dC, dI) vwCl (WL g A A1 A2 aq1 o o2 B r.2 f1 dd1 rm.2) H1 → va_D AA (WL g A A1 A2 aq1 o o2 B r.2 f1 dd1 rm.2) → va_S AA s.heap H1 locs1 → cells1 ≤ cells + 1000 → slots1 ≤ slots + 2000 → lv_has ls1 9 [(0, .ref b), (1, .ref (A 0)), (2, .ref (B 0)), (3, .ref o), (4, .ref o2), (5, .int i)] → W p l e room_1 s m #[.ref b] below meth c H1 locs1 cells1 slots1 Q (F0 m 2665 ls1 [])) : W p l e room_1 s m #[.ref b] below meth c H locs cells slots Q (F0 m 2236 ls []) := by
  refine lv_aload_n F.1 F.2.1 dL_law_2236 rfl (lv_at hl 1 rfl) ?_
  refine cMV1 (As := []) (rest := []) (post := catp [[(o, .inl (g 6, 1, .inr (.inl f)))], [(o2, .inl (g 7, 1, .inr (.inr (.inr (.inl dd)))))], wMt g B v] []) (ws' := WL g A A1 A2 aq o o2 B r.2 f dd v) F hE hX (kX12_isConsistent l dC dI g A A1 A2 aq u hx) mbX12_isConsistent q406 ⟨(Nat.le_of_ble_eq_true rfl), (Nat.le_of_ble_eq_true rfl)⟩ ⟨by show _ ≤ 603072; omega, by show _ ≤ 7211114; omega⟩ hP hD hS hA [] rfl (wXt_fst g A A1 A2 aq _ _) rfl 0 rfl rfl rfl hl.1 rfl (Nat.le_of_ble_eq_true rfl) dL_law_2237 (fun H locs hP hD hS => ?_)
  replace hP : va_P (dC, dI) vwCl (WL g A A1 A2 aq o o2 B r.2 f dd v) H := hP
  replace hD : va_D AA (WL g A A1 A2 aq o o2 B r.2 f dd v) := hD
  refine lv_aload_n F.1 F.2.1 dL_law_2240 rfl (lv_at hl 2 rfl) ?_
  refine cMV1 (As := []) (rest := [.int r.1]) (post := catp [] []) (ws' := WL g A A1 A2 aq o o2 B r.2 f dd rm.2) F hE hX (kX13_isConsistent l dC dI g B v hm) mbX13_isConsistent q2096 ⟨(Nat.le_of_ble_eq_true rfl), (Nat.le_of_ble_eq_true rfl)⟩ ⟨by show _ ≤ 603072; omega, by show _ ≤ 7211114; omega⟩ hP hD hS hA [wXt g A A1 A2 aq r.2, [(o, .inl (g 6, 1, .inr (.inl f)))], [(o2, .inl (g 7, 1, .inr (.inr (.inr (.inl dd)))))]] rfl (wMt_fst g B _ _) rfl 0 rfl rfl rfl hl.1 rfl (Nat.le_of_ble_eq_true rfl) dL_law_2241 (fun H locs hP hD hS => ?_)
  replace hP : va_P (dC, dI) vwCl (WL g A A1 A2 aq o o2 B r.2 f dd rm.2) H := hP
  replace hD : va_D AA (WL g A A1 A2 aq o o2 B r.2 f dd rm.2) := hD
  refine lv_icmp_eq (tgt := 2665) F.1 F.2.1 dL_law_2244 (by decide) (fun _ => ?_) (fun k9 => absurd hag k9)
  exact kk aq f dd H locs _ _ ls hP hD hS (by omega) (by omega) (lv_sub hl [0, 1, 2, 3, 4, 5] rfl)
set_option maxHeartbeats 4000000 in
set_option maxRecDepth 100000 in
theorem cs_writeSpool {p : Program} {l : Launch} {e : Env} {s : State} {m : MethodId} {below : List Frame} {meth : Method} {c : Code} {H : Heap} {locs : List Loc} {cells slots : Nat} {Q : State → Prop} {ls : Array Slot} {dC : Nat → ClassId} {dI : Nat → Nat → Nat} {g : Nat → ClassId} {A : Nat → Nat} {A1 A2 : Nat → Nat → Nat} {aq o o2 : Nat} {B : Nat → Nat} {AA : Nat → Prop} {b L : Nat} {xs : Nat → Int32} {i : Int32} {u : XT} {f : Nat → Int64} {dd : Nat → UInt64} {v : MT} (hl9 : l.stackTraces = false) (F : CF p m c code 9 s #[.ref b] RL) (hE : EK dC dI g s) (hX : EX g AA s s.heap) (hA : ∀ q : Nat, s.heap.size ≤ q → AA q) (hXs : va_X b L xs s s.heap) (hbl : b < s.heap.size) (hbA : ¬ AA b) (j1 : inR (i + 1) L = true) {r : (Except String Int32) × XT} (hx : gX12_writeSpool u (xs (i + 1).toNatClampNeg) = some r) {k : Int32} (hk : kx ["java/util/NoSuchElementException"] r.1 = some k) {rm : Int32 × MT} (hm : gX13_writeSpool v (xs (i + 1).toNatClampNeg) = some rm) (hth : mt_th rm.2 = k) (hag : k = 0 → oxI r.1 f 0 = rm.1.toInt64) (hc : cells + 1000 ≤ 603072) (hsl : slots + 2000 ≤ 7211114) (hP : va_P (dC, dI) vwCl (WL g A A1 A2 aq o o2 B u f dd v) H) (hD : va_D AA (WL g A A1 A2 aq o o2 B u f dd v)) (hS : va_S AA s.heap H locs) (hl : lv_has ls 9 [(0, .ref b), (1, .ref (A 0)), (2, .ref (B 0)), (3, .ref o), (4, .ref o2), (5, .int i)])
    (kk : ∀ (aq1 : Nat) (f1 : Nat → Int64) (dd1 : Nat → UInt64) (H1 : Heap) (locs1 : List Loc) (cells1 slots1 : Nat) (ls1 : Array Slot), va_P (dC, dI) vwCl (WL g A A1 A2 aq1 o o2 B r.2 f1 dd1 rm.2) H1 → va_D AA (WL g A A1 A2 aq1 o o2 B r.2 f1 dd1 rm.2) → va_S AA s.heap H1 locs1 → cells1 ≤ cells + 1000 → slots1 ≤ slots + 2000 → lv_has ls1 9 [(0, .ref b), (1, .ref (A 0)), (2, .ref (B 0)), (3, .ref o), (4, .ref o2), (5, .int i)] → W p l e room_1 s m #[.ref b] below meth c H1 locs1 cells1 slots1 Q (F0 m 2665 ls1 [])) : W p l e room_1 s m #[.ref b] below meth c H locs cells slots Q (F0 m 2249 ls []) := by
  refine lv_aload_n F.1 F.2.1 dL_law_2249 rfl (lv_at hl 1 rfl) ?_
  refine lv_aload_n F.1 F.2.1 dL_law_2250 rfl (lv_at hl 0 rfl) ?_
  refine lv_iload F.1 F.2.1 dL_law_2251 (lv_at hl 5 rfl) ?_
  refine lv_iconst (v := 1) F.1 F.2.1 dL_law_2253 (by decide) ?_
  refine lv_iadd F.1 F.2.1 dL_law_2254 ?_
  refine va_sld F.1 F.2.1 hXs hbl hbA hS (inR_in j1) dL_law_2255 ?_
  refine lv_aload_n F.1 F.2.1 dL_law_2256 rfl (lv_at hl 3 rfl) ?_
  refine cZS (As := [.ref (A 0), .int (xs (i + 1).toNatClampNeg), .ref o]) (rest := []) (post := catp [[(o2, .inl (g 7, 1, .inr (.inr (.inr (.inl dd)))))], wMt g B v] []) F hE hX (tL_writeSpool l hl9 dC dI g A A1 A2 aq o f u (xs (i + 1).toNatClampNeg) hx hk) mbL_writeSpool q1443 ⟨(Nat.le_of_ble_eq_true rfl), (Nat.le_of_ble_eq_true rfl)⟩ ⟨by show _ ≤ 603072; omega, by show _ ≤ 7211114; omega⟩ hP hD hS hA [] rfl rfl hl.1 rfl (Nat.le_of_ble_eq_true rfl) dL_law_2257 (fun b9 H locs hP hD hS => ?_)
  replace hP : va_P (dC, dI) vwCl (WL g A A1 A2 (b9.1 0) o o2 B r.2 (oxI r.1 f) dd v) H := hP
  replace hD : va_D AA (WL g A A1 A2 (b9.1 0) o o2 B r.2 (oxI r.1 f) dd v) := hD
  refine lv_istore (lv' := [(6, .int k), (0, .ref b), (1, .ref (A 0)), (2, .ref (B 0)), (3, .ref o), (4, .ref o2), (5, .int i)]) F.1 F.2.1 dL_law_2260 hl (by decide) rfl (fun ls hl => ?_)
  refine lv_aload_n F.1 F.2.1 dL_law_2262 rfl (lv_at hl 3 rfl) ?_
  refine lv_aload_n F.1 F.2.1 dL_law_2263 rfl (lv_at hl 1 rfl) ?_
  refine lv_iload F.1 F.2.1 dL_law_2264 (lv_at hl 6 rfl) ?_
  refine lv_iconst (v := 1) F.1 F.2.1 dL_law_2266 (by decide) ?_
  refine lv_iadd F.1 F.2.1 dL_law_2267 ?_
  refine va_sld F.1 F.2.1 hXs hbl hbA hS (inR_in j1) dL_law_2268 ?_
  refine cMV1 (As := [.int (xs (i + 1).toNatClampNeg)]) (rest := []) (post := catp [] []) (ws' := WL g A A1 A2 (b9.1 0) o o2 B r.2 (oxI r.1 f) dd rm.2) F hE hX (kX13_writeSpool l dC dI g B v (xs (i + 1).toNatClampNeg) hm) mbX13_writeSpool q2100 ⟨(Nat.le_of_ble_eq_true rfl), (Nat.le_of_ble_eq_true rfl)⟩ ⟨by show _ ≤ 603072; omega, by show _ ≤ 7211114; omega⟩ hP hD hS hA [wXt g A A1 A2 (b9.1 0) r.2, [(o, .inl (g 6, 1, .inr (.inl (oxI r.1 f))))], [(o2, .inl (g 7, 1, .inr (.inr (.inr (.inl dd)))))]] rfl (wMt_fst g B _ _) rfl 0 rfl rfl rfl hl.1 rfl (Nat.le_of_ble_eq_true rfl) dL_law_2269 (fun H locs hP hD hS => ?_)
  replace hP : va_P (dC, dI) vwCl (WL g A A1 A2 (b9.1 0) o o2 B r.2 (oxI r.1 f) dd rm.2) H := hP
  replace hD : va_D AA (WL g A A1 A2 (b9.1 0) o o2 B r.2 (oxI r.1 f) dd rm.2) := hD
  refine lv_istore (lv' := [(7, .int rm.1), (6, .int k), (0, .ref b), (1, .ref (A 0)), (2, .ref (B 0)), (3, .ref o), (4, .ref o2), (5, .int i)]) F.1 F.2.1 dL_law_2272 hl (by decide) rfl (fun ls hl => ?_)
  refine lv_aload_n F.1 F.2.1 dL_law_2274 rfl (lv_at hl 4 rfl) ?_
  refine cRV1 (As := []) (rest := []) (post := catp [] []) F hE hX hS (kX13_thrown l dC dI g B rm.2 (r := mt_th rm.2) rfl) mbX13_thrown q1674 ⟨(Nat.le_of_ble_eq_true rfl), (Nat.le_of_ble_eq_true rfl)⟩ ⟨by show _ ≤ 603072; omega, by show _ ≤ 7211114; omega⟩ hP [wXt g A A1 A2 (b9.1 0) r.2, [(o, .inl (g 6, 1, .inr (.inl (oxI r.1 f))))], [(o2, .inl (g 7, 1, .inr (.inr (.inr (.inl dd)))))]] rfl 0 rfl rfl rfl hl.1 rfl (Nat.le_of_ble_eq_true rfl) dL_law_2275 ?_
  refine lv_iload F.1 F.2.1 dL_law_2278 (lv_at hl 1 rfl) ?_
  refine lv_icmp_eq (tgt := 2285) F.1 F.2.1 dL_law_2280 (by decide) (fun _ => ?_) (fun k9 => absurd hth k9)
  refine lv_iload F.1 F.2.1 dL_law_2285 (lv_at hl 1 rfl) ?_
  refine lv_if_ne (tgt := 2302) F.1 F.2.1 dL_law_2287 (by decide) (fun kz => ?_) (fun kz => ?_)
  · refine lv_goto (tgt := 2665) F.1 F.2.1 dL_law_2302 (by decide) ?_
    exact kk (b9.1 0) (oxI r.1 f) dd H locs _ _ ls hP hD hS (by omega) (by omega) (lv_sub hl [2, 3, 4, 5, 6, 7] rfl)
  · refine lv_aload_n F.1 F.2.1 dL_law_2290 rfl (lv_at hl 5 rfl) ?_
    refine lv_iconst (v := 0) F.1 F.2.1 dL_law_2291 (by decide) ?_
    refine va_lald F.1 F.2.1 hE.1 hP 387 6 rfl rfl (inR_in (by decide : inR 0 1 = true)) dL_law_2292 ?_
    refine lv_iload F.1 F.2.1 dL_law_2293 (lv_at hl 0 rfl) ?_
    refine lv_i2l F.1 F.2.1 dL_law_2295 rfl ?_
    refine W.lcmp F.1 F.2.1 dL_law_2296 ?_
    refine lv_if_eq (tgt := 2302) F.1 F.2.1 dL_law_2297 (by decide) (fun _ => ?_) (fun k9 => absurd (by show lg_cmp (oxI r.1 f 0) rm.1.toInt64 = 0; rw [hag kz]; exact lg_cmp_self _) k9)
    refine lv_goto (tgt := 2665) F.1 F.2.1 dL_law_2302 (by decide) ?_
    exact kk (b9.1 0) (oxI r.1 f) dd H locs _ _ ls hP hD hS (by omega) (by omega) (lv_sub hl [2, 3, 4, 5, 6, 7] rfl)
set_option maxHeartbeats 4000000 in
set_option maxRecDepth 100000 in
theorem cs_writeOrders {p : Program} {l : Launch} {e : Env} {s : State} {m : MethodId} {below : List Frame} {meth : Method} {c : Code} {H : Heap} {locs : List Loc} {cells slots : Nat} {Q : State → Prop} {ls : Array Slot} {dC : Nat → ClassId} {dI : Nat → Nat → Nat} {g : Nat → ClassId} {A : Nat → Nat} {A1 A2 : Nat → Nat → Nat} {aq o o2 : Nat} {B : Nat → Nat} {AA : Nat → Prop} {b L : Nat} {xs : Nat → Int32} {i : Int32} {u : XT} {f : Nat → Int64} {dd : Nat → UInt64} {v : MT} (hl9 : l.stackTraces = false) (F : CF p m c code 9 s #[.ref b] RL) (hE : EK dC dI g s) (hX : EX g AA s s.heap) (hA : ∀ q : Nat, s.heap.size ≤ q → AA q) (hXs : va_X b L xs s s.heap) (hbl : b < s.heap.size) (hbA : ¬ AA b) {r : Int32 × XT} (hx : gX12_writeOrders u = some r) {rm : Int32 × MT} (hm : gX13_writeOrders v = some rm) (hag : r.1 = rm.1) (hc : cells + 1000 ≤ 603072) (hsl : slots + 2000 ≤ 7211114) (hP : va_P (dC, dI) vwCl (WL g A A1 A2 aq o o2 B u f dd v) H) (hD : va_D AA (WL g A A1 A2 aq o o2 B u f dd v)) (hS : va_S AA s.heap H locs) (hl : lv_has ls 9 [(0, .ref b), (1, .ref (A 0)), (2, .ref (B 0)), (3, .ref o), (4, .ref o2), (5, .int i)])
    (kk : ∀ (aq1 : Nat) (f1 : Nat → Int64) (dd1 : Nat → UInt64) (H1 : Heap) (locs1 : List Loc) (cells1 slots1 : Nat) (ls1 : Array Slot), va_P (dC, dI) vwCl (WL g A A1 A2 aq1 o o2 B r.2 f1 dd1 rm.2) H1 → va_D AA (WL g A A1 A2 aq1 o o2 B r.2 f1 dd1 rm.2) → va_S AA s.heap H1 locs1 → cells1 ≤ cells + 1000 → slots1 ≤ slots + 2000 → lv_has ls1 9 [(0, .ref b), (1, .ref (A 0)), (2, .ref (B 0)), (3, .ref o), (4, .ref o2), (5, .int i)] → W p l e room_1 s m #[.ref b] below meth c H1 locs1 cells1 slots1 Q (F0 m 2665 ls1 [])) : W p l e room_1 s m #[.ref b] below meth c H locs cells slots Q (F0 m 2305 ls []) := by
  refine lv_aload_n F.1 F.2.1 dL_law_2305 rfl (lv_at hl 1 rfl) ?_
  refine cNVx (As := []) (rest := []) (post := catp [[(o, .inl (g 6, 1, .inr (.inl f)))], [(o2, .inl (g 7, 1, .inr (.inr (.inr (.inl dd)))))], wMt g B v] []) F hE hX (kX12_writeOrders l dC dI g A A1 A2 aq u hx) mbX12_writeOrders q503 ⟨(Nat.le_of_ble_eq_true rfl), (Nat.le_of_ble_eq_true rfl)⟩ ⟨by show _ ≤ 603072; omega, by show _ ≤ 7211114; omega⟩ hP hD hS hA [] rfl 0 rfl rfl rfl hl.1 rfl (Nat.le_of_ble_eq_true rfl) dL_law_2306 (fun b9 H locs hP hD hS => ?_)
  replace hP : va_P (dC, dI) vwCl (WL g A A1 A2 (b9.1 0) o o2 B r.2 f dd v) H := hP
  replace hD : va_D AA (WL g A A1 A2 (b9.1 0) o o2 B r.2 f dd v) := hD
  refine lv_aload_n F.1 F.2.1 dL_law_2309 rfl (lv_at hl 2 rfl) ?_
  refine cMV1 (As := []) (rest := [.int r.1]) (post := catp [] []) (ws' := WL g A A1 A2 (b9.1 0) o o2 B r.2 f dd rm.2) F hE hX (kX13_writeOrders l dC dI g B v hm) mbX13_writeOrders q2112 ⟨(Nat.le_of_ble_eq_true rfl), (Nat.le_of_ble_eq_true rfl)⟩ ⟨by show _ ≤ 603072; omega, by show _ ≤ 7211114; omega⟩ hP hD hS hA [wXt g A A1 A2 (b9.1 0) r.2, [(o, .inl (g 6, 1, .inr (.inl f)))], [(o2, .inl (g 7, 1, .inr (.inr (.inr (.inl dd)))))]] rfl (wMt_fst g B _ _) rfl 0 rfl rfl rfl hl.1 rfl (Nat.le_of_ble_eq_true rfl) dL_law_2310 (fun H locs hP hD hS => ?_)
  replace hP : va_P (dC, dI) vwCl (WL g A A1 A2 (b9.1 0) o o2 B r.2 f dd rm.2) H := hP
  replace hD : va_D AA (WL g A A1 A2 (b9.1 0) o o2 B r.2 f dd rm.2) := hD
  refine lv_icmp_eq (tgt := 2665) F.1 F.2.1 dL_law_2313 (by decide) (fun _ => ?_) (fun k9 => absurd hag k9)
  exact kk (b9.1 0) f dd H locs _ _ ls hP hD hS (by omega) (by omega) (lv_sub hl [0, 1, 2, 3, 4, 5] rfl)
set_option maxHeartbeats 4000000 in
set_option maxRecDepth 100000 in
theorem cs_charAt {p : Program} {l : Launch} {e : Env} {s : State} {m : MethodId} {below : List Frame} {meth : Method} {c : Code} {H : Heap} {locs : List Loc} {cells slots : Nat} {Q : State → Prop} {ls : Array Slot} {dC : Nat → ClassId} {dI : Nat → Nat → Nat} {g : Nat → ClassId} {A : Nat → Nat} {A1 A2 : Nat → Nat → Nat} {aq o o2 : Nat} {B : Nat → Nat} {AA : Nat → Prop} {b L : Nat} {xs : Nat → Int32} {i : Int32} {u : XT} {f : Nat → Int64} {dd : Nat → UInt64} {v : MT} (hl9 : l.stackTraces = false) (F : CF p m c code 9 s #[.ref b] RL) (hE : EK dC dI g s) (hX : EX g AA s s.heap) (hA : ∀ q : Nat, s.heap.size ≤ q → AA q) (hXs : va_X b L xs s s.heap) (hbl : b < s.heap.size) (hbA : ¬ AA b) (j1 : inR (i + 1) L = true) {r : (Except String Int32) × XT} (hx : gX12_charAt u (xs (i + 1).toNatClampNeg) = some r) {k : Int32} (hk : kx ["java/lang/IndexOutOfBoundsException"] r.1 = some k) {rm : Int32 × MT} (hm : gX13_charAt v (xs (i + 1).toNatClampNeg) = some rm) (hth : mt_th rm.2 = k) (hag : k = 0 → oxI r.1 f 0 = rm.1.toInt64) (hc : cells + 1000 ≤ 603072) (hsl : slots + 2000 ≤ 7211114) (hP : va_P (dC, dI) vwCl (WL g A A1 A2 aq o o2 B u f dd v) H) (hD : va_D AA (WL g A A1 A2 aq o o2 B u f dd v)) (hS : va_S AA s.heap H locs) (hl : lv_has ls 9 [(0, .ref b), (1, .ref (A 0)), (2, .ref (B 0)), (3, .ref o), (4, .ref o2), (5, .int i)])
    (kk : ∀ (aq1 : Nat) (f1 : Nat → Int64) (dd1 : Nat → UInt64) (H1 : Heap) (locs1 : List Loc) (cells1 slots1 : Nat) (ls1 : Array Slot), va_P (dC, dI) vwCl (WL g A A1 A2 aq1 o o2 B r.2 f1 dd1 rm.2) H1 → va_D AA (WL g A A1 A2 aq1 o o2 B r.2 f1 dd1 rm.2) → va_S AA s.heap H1 locs1 → cells1 ≤ cells + 1000 → slots1 ≤ slots + 2000 → lv_has ls1 9 [(0, .ref b), (1, .ref (A 0)), (2, .ref (B 0)), (3, .ref o), (4, .ref o2), (5, .int i)] → W p l e room_1 s m #[.ref b] below meth c H1 locs1 cells1 slots1 Q (F0 m 2665 ls1 [])) : W p l e room_1 s m #[.ref b] below meth c H locs cells slots Q (F0 m 2318 ls []) := by
  refine lv_aload_n F.1 F.2.1 dL_law_2318 rfl (lv_at hl 1 rfl) ?_
  refine lv_aload_n F.1 F.2.1 dL_law_2319 rfl (lv_at hl 0 rfl) ?_
  refine lv_iload F.1 F.2.1 dL_law_2320 (lv_at hl 5 rfl) ?_
  refine lv_iconst (v := 1) F.1 F.2.1 dL_law_2322 (by decide) ?_
  refine lv_iadd F.1 F.2.1 dL_law_2323 ?_
  refine va_sld F.1 F.2.1 hXs hbl hbA hS (inR_in j1) dL_law_2324 ?_
  refine lv_aload_n F.1 F.2.1 dL_law_2325 rfl (lv_at hl 3 rfl) ?_
  refine cZS (As := [.ref (A 0), .int (xs (i + 1).toNatClampNeg), .ref o]) (rest := []) (post := catp [[(o2, .inl (g 7, 1, .inr (.inr (.inr (.inl dd)))))], wMt g B v] []) F hE hX (tL_charAt l hl9 dC dI g A A1 A2 aq o f u (xs (i + 1).toNatClampNeg) hx hk) mbL_charAt q1450 ⟨(Nat.le_of_ble_eq_true rfl), (Nat.le_of_ble_eq_true rfl)⟩ ⟨by show _ ≤ 603072; omega, by show _ ≤ 7211114; omega⟩ hP hD hS hA [] rfl rfl hl.1 rfl (Nat.le_of_ble_eq_true rfl) dL_law_2326 (fun b9 H locs hP hD hS => ?_)
  replace hP : va_P (dC, dI) vwCl (WL g A A1 A2 aq o o2 B r.2 (oxI r.1 f) dd v) H := hP
  replace hD : va_D AA (WL g A A1 A2 aq o o2 B r.2 (oxI r.1 f) dd v) := hD
  refine lv_istore (lv' := [(6, .int k), (0, .ref b), (1, .ref (A 0)), (2, .ref (B 0)), (3, .ref o), (4, .ref o2), (5, .int i)]) F.1 F.2.1 dL_law_2329 hl (by decide) rfl (fun ls hl => ?_)
  refine lv_aload_n F.1 F.2.1 dL_law_2331 rfl (lv_at hl 3 rfl) ?_
  refine lv_aload_n F.1 F.2.1 dL_law_2332 rfl (lv_at hl 1 rfl) ?_
  refine lv_iload F.1 F.2.1 dL_law_2333 (lv_at hl 6 rfl) ?_
  refine lv_iconst (v := 1) F.1 F.2.1 dL_law_2335 (by decide) ?_
  refine lv_iadd F.1 F.2.1 dL_law_2336 ?_
  refine va_sld F.1 F.2.1 hXs hbl hbA hS (inR_in j1) dL_law_2337 ?_
  refine cMV1 (As := [.int (xs (i + 1).toNatClampNeg)]) (rest := []) (post := catp [] []) (ws' := WL g A A1 A2 aq o o2 B r.2 (oxI r.1 f) dd rm.2) F hE hX (kX13_charAt l dC dI g B v (xs (i + 1).toNatClampNeg) hm) mbX13_charAt q2116 ⟨(Nat.le_of_ble_eq_true rfl), (Nat.le_of_ble_eq_true rfl)⟩ ⟨by show _ ≤ 603072; omega, by show _ ≤ 7211114; omega⟩ hP hD hS hA [wXt g A A1 A2 aq r.2, [(o, .inl (g 6, 1, .inr (.inl (oxI r.1 f))))], [(o2, .inl (g 7, 1, .inr (.inr (.inr (.inl dd)))))]] rfl (wMt_fst g B _ _) rfl 0 rfl rfl rfl hl.1 rfl (Nat.le_of_ble_eq_true rfl) dL_law_2338 (fun H locs hP hD hS => ?_)
  replace hP : va_P (dC, dI) vwCl (WL g A A1 A2 aq o o2 B r.2 (oxI r.1 f) dd rm.2) H := hP
  replace hD : va_D AA (WL g A A1 A2 aq o o2 B r.2 (oxI r.1 f) dd rm.2) := hD
  refine lv_istore (lv' := [(7, .int rm.1), (6, .int k), (0, .ref b), (1, .ref (A 0)), (2, .ref (B 0)), (3, .ref o), (4, .ref o2), (5, .int i)]) F.1 F.2.1 dL_law_2341 hl (by decide) rfl (fun ls hl => ?_)
  refine lv_aload_n F.1 F.2.1 dL_law_2343 rfl (lv_at hl 4 rfl) ?_
  refine cRV1 (As := []) (rest := []) (post := catp [] []) F hE hX hS (kX13_thrown l dC dI g B rm.2 (r := mt_th rm.2) rfl) mbX13_thrown q1674 ⟨(Nat.le_of_ble_eq_true rfl), (Nat.le_of_ble_eq_true rfl)⟩ ⟨by show _ ≤ 603072; omega, by show _ ≤ 7211114; omega⟩ hP [wXt g A A1 A2 aq r.2, [(o, .inl (g 6, 1, .inr (.inl (oxI r.1 f))))], [(o2, .inl (g 7, 1, .inr (.inr (.inr (.inl dd)))))]] rfl 0 rfl rfl rfl hl.1 rfl (Nat.le_of_ble_eq_true rfl) dL_law_2344 ?_
  refine lv_iload F.1 F.2.1 dL_law_2347 (lv_at hl 1 rfl) ?_
  refine lv_icmp_eq (tgt := 2354) F.1 F.2.1 dL_law_2349 (by decide) (fun _ => ?_) (fun k9 => absurd hth k9)
  refine lv_iload F.1 F.2.1 dL_law_2354 (lv_at hl 1 rfl) ?_
  refine lv_if_ne (tgt := 2371) F.1 F.2.1 dL_law_2356 (by decide) (fun kz => ?_) (fun kz => ?_)
  · refine lv_goto (tgt := 2665) F.1 F.2.1 dL_law_2371 (by decide) ?_
    exact kk aq (oxI r.1 f) dd H locs _ _ ls hP hD hS (by omega) (by omega) (lv_sub hl [2, 3, 4, 5, 6, 7] rfl)
  · refine lv_aload_n F.1 F.2.1 dL_law_2359 rfl (lv_at hl 5 rfl) ?_
    refine lv_iconst (v := 0) F.1 F.2.1 dL_law_2360 (by decide) ?_
    refine va_lald F.1 F.2.1 hE.1 hP 387 6 rfl rfl (inR_in (by decide : inR 0 1 = true)) dL_law_2361 ?_
    refine lv_iload F.1 F.2.1 dL_law_2362 (lv_at hl 0 rfl) ?_
    refine lv_i2l F.1 F.2.1 dL_law_2364 rfl ?_
    refine W.lcmp F.1 F.2.1 dL_law_2365 ?_
    refine lv_if_eq (tgt := 2371) F.1 F.2.1 dL_law_2366 (by decide) (fun _ => ?_) (fun k9 => absurd (by show lg_cmp (oxI r.1 f 0) rm.1.toInt64 = 0; rw [hag kz]; exact lg_cmp_self _) k9)
    refine lv_goto (tgt := 2665) F.1 F.2.1 dL_law_2371 (by decide) ?_
    exact kk aq (oxI r.1 f) dd H locs _ _ ls hP hD hS (by omega) (by omega) (lv_sub hl [2, 3, 4, 5, 6, 7] rfl)
