set_option maxHeartbeats 4000000 in
set_option maxRecDepth 100000 in
theorem cs_type {p : Program} {l : Launch} {e : Env} {s : State} {m : MethodId} {below : List Frame} {meth : Method} {c : Code} {H : Heap} {locs : List Loc} {cells slots : Nat} {Q : State → Prop} {ls : Array Slot} {dC : Nat → ClassId} {dI : Nat → Nat → Nat} {g : Nat → ClassId} {A : Nat → Nat} {A1 A2 : Nat → Nat → Nat} {aq o o2 : Nat} {B : Nat → Nat} {AA : Nat → Prop} {b L : Nat} {xs : Nat → Int32} {i : Int32} {u : XT} {f : Nat → Int64} {dd : Nat → UInt64} {v : MT} (hl9 : l.stackTraces = false) (F : CF p m c code 9 s #[.ref b] RL) (hE : EK dC dI g s) (hX : EX g AA s s.heap) (hA : ∀ q : Nat, s.heap.size ≤ q → AA q) (hXs : va_X b L xs s s.heap) (hbl : b < s.heap.size) (hbA : ¬ AA b) (j1 : inR (i + 1) L = true) {r : (Except String Int32) × XT} (hx : gX12_type u (c16 (xs (i + 1).toNatClampNeg)) = some r) {k : Int32} (hk : kx ["java/lang/IllegalStateException"] r.1 = some k) {rm : Int32 × MT} (hm : gX13_type v (c16 (xs (i + 1).toNatClampNeg)) = some rm) (hth : mt_th rm.2 = k) (hag : k = 0 → oxI r.1 f 0 = rm.1.toInt64) (hc : cells + 1000 ≤ 603072) (hsl : slots + 2000 ≤ 7211114) (hP : va_P (dC, dI) vwCl (WL g A A1 A2 aq o o2 B u f dd v) H) (hD : va_D AA (WL g A A1 A2 aq o o2 B u f dd v)) (hS : va_S AA s.heap H locs) (hl : lv_has ls 9 [(0, .ref b), (1, .ref (A 0)), (2, .ref (B 0)), (3, .ref o), (4, .ref o2), (5, .int i)])
    (kk : ∀ (aq1 : Nat) (f1 : Nat → Int64) (dd1 : Nat → UInt64) (H1 : Heap) (locs1 : List Loc) (cells1 slots1 : Nat) (ls1 : Array Slot), va_P (dC, dI) vwCl (WL g A A1 A2 aq1 o o2 B r.2 f1 dd1 rm.2) H1 → va_D AA (WL g A A1 A2 aq1 o o2 B r.2 f1 dd1 rm.2) → va_S AA s.heap H1 locs1 → cells1 ≤ cells + 1000 → slots1 ≤ slots + 2000 → lv_has ls1 9 [(0, .ref b), (1, .ref (A 0)), (2, .ref (B 0)), (3, .ref o), (4, .ref o2), (5, .int i)] → W p l e room_1 s m #[.ref b] below meth c H1 locs1 cells1 slots1 Q (F0 m 2665 ls1 [])) : W p l e room_1 s m #[.ref b] below meth c H locs cells slots Q (F0 m 2374 ls []) := by
  refine lv_aload_n F.1 F.2.1 dL_law_2374 rfl (lv_at hl 1 rfl) ?_
  refine lv_aload_n F.1 F.2.1 dL_law_2375 rfl (lv_at hl 0 rfl) ?_
  refine lv_iload F.1 F.2.1 dL_law_2376 (lv_at hl 5 rfl) ?_
  refine lv_iconst (v := 1) F.1 F.2.1 dL_law_2378 (by decide) ?_
  refine lv_iadd F.1 F.2.1 dL_law_2379 ?_
  refine va_sld F.1 F.2.1 hXs hbl hbA hS (inR_in j1) dL_law_2380 ?_
  refine lv_i2c (v := c16 (xs (i + 1).toNatClampNeg)) F.1 F.2.1 dL_law_2381 rfl ?_
  refine lv_aload_n F.1 F.2.1 dL_law_2382 rfl (lv_at hl 3 rfl) ?_
  refine cZS (As := [.ref (A 0), .int (c16 (xs (i + 1).toNatClampNeg)), .ref o]) (rest := []) (post := catp [[(o2, .inl (g 7, 1, .inr (.inr (.inr (.inl dd)))))], wMt g B v] []) F hE hX (tL_type l hl9 dC dI g A A1 A2 aq o f u (c16 (xs (i + 1).toNatClampNeg)) hx hk) mbL_type q1483 ⟨(Nat.le_of_ble_eq_true rfl), (Nat.le_of_ble_eq_true rfl)⟩ ⟨by show _ ≤ 603072; omega, by show _ ≤ 7211114; omega⟩ hP hD hS hA [] rfl rfl hl.1 rfl (Nat.le_of_ble_eq_true rfl) dL_law_2383 (fun b9 H locs hP hD hS => ?_)
  replace hP : va_P (dC, dI) vwCl (WL g A A1 A2 aq o o2 B r.2 (oxI r.1 f) dd v) H := hP
  replace hD : va_D AA (WL g A A1 A2 aq o o2 B r.2 (oxI r.1 f) dd v) := hD
  refine lv_istore (lv' := [(6, .int k), (0, .ref b), (1, .ref (A 0)), (2, .ref (B 0)), (3, .ref o), (4, .ref o2), (5, .int i)]) F.1 F.2.1 dL_law_2386 hl (by decide) rfl (fun ls hl => ?_)
  refine lv_aload_n F.1 F.2.1 dL_law_2388 rfl (lv_at hl 3 rfl) ?_
  refine lv_aload_n F.1 F.2.1 dL_law_2389 rfl (lv_at hl 1 rfl) ?_
  refine lv_iload F.1 F.2.1 dL_law_2390 (lv_at hl 6 rfl) ?_
  refine lv_iconst (v := 1) F.1 F.2.1 dL_law_2392 (by decide) ?_
  refine lv_iadd F.1 F.2.1 dL_law_2393 ?_
  refine va_sld F.1 F.2.1 hXs hbl hbA hS (inR_in j1) dL_law_2394 ?_
  refine lv_i2c (v := c16 (xs (i + 1).toNatClampNeg)) F.1 F.2.1 dL_law_2395 rfl ?_
  refine cMV1 (As := [.int (c16 (xs (i + 1).toNatClampNeg))]) (rest := []) (post := catp [] []) (ws' := WL g A A1 A2 aq o o2 B r.2 (oxI r.1 f) dd rm.2) F hE hX (kX13_type l dC dI g B v (c16 (xs (i + 1).toNatClampNeg)) hm) mbX13_type q2120 ⟨(Nat.le_of_ble_eq_true rfl), (Nat.le_of_ble_eq_true rfl)⟩ ⟨by show _ ≤ 603072; omega, by show _ ≤ 7211114; omega⟩ hP hD hS hA [wXt g A A1 A2 aq r.2, [(o, .inl (g 6, 1, .inr (.inl (oxI r.1 f))))], [(o2, .inl (g 7, 1, .inr (.inr (.inr (.inl dd)))))]] rfl (wMt_fst g B _ _) rfl 0 rfl rfl rfl hl.1 rfl (Nat.le_of_ble_eq_true rfl) dL_law_2396 (fun H locs hP hD hS => ?_)
  replace hP : va_P (dC, dI) vwCl (WL g A A1 A2 aq o o2 B r.2 (oxI r.1 f) dd rm.2) H := hP
  replace hD : va_D AA (WL g A A1 A2 aq o o2 B r.2 (oxI r.1 f) dd rm.2) := hD
  refine lv_istore (lv' := [(7, .int rm.1), (6, .int k), (0, .ref b), (1, .ref (A 0)), (2, .ref (B 0)), (3, .ref o), (4, .ref o2), (5, .int i)]) F.1 F.2.1 dL_law_2399 hl (by decide) rfl (fun ls hl => ?_)
  refine lv_aload_n F.1 F.2.1 dL_law_2401 rfl (lv_at hl 4 rfl) ?_
  refine cRV1 (As := []) (rest := []) (post := catp [] []) F hE hX hS (kX13_thrown l dC dI g B rm.2 (r := mt_th rm.2) rfl) mbX13_thrown q1674 ⟨(Nat.le_of_ble_eq_true rfl), (Nat.le_of_ble_eq_true rfl)⟩ ⟨by show _ ≤ 603072; omega, by show _ ≤ 7211114; omega⟩ hP [wXt g A A1 A2 aq r.2, [(o, .inl (g 6, 1, .inr (.inl (oxI r.1 f))))], [(o2, .inl (g 7, 1, .inr (.inr (.inr (.inl dd)))))]] rfl 0 rfl rfl rfl hl.1 rfl (Nat.le_of_ble_eq_true rfl) dL_law_2402 ?_
  refine lv_iload F.1 F.2.1 dL_law_2405 (lv_at hl 1 rfl) ?_
  refine lv_icmp_eq (tgt := 2412) F.1 F.2.1 dL_law_2407 (by decide) (fun _ => ?_) (fun k9 => absurd hth k9)
  refine lv_iload F.1 F.2.1 dL_law_2412 (lv_at hl 1 rfl) ?_
  refine lv_if_ne (tgt := 2429) F.1 F.2.1 dL_law_2414 (by decide) (fun kz => ?_) (fun kz => ?_)
  · refine lv_goto (tgt := 2665) F.1 F.2.1 dL_law_2429 (by decide) ?_
    exact kk aq (oxI r.1 f) dd H locs _ _ ls hP hD hS (by omega) (by omega) (lv_sub hl [2, 3, 4, 5, 6, 7] rfl)
  · refine lv_aload_n F.1 F.2.1 dL_law_2417 rfl (lv_at hl 5 rfl) ?_
    refine lv_iconst (v := 0) F.1 F.2.1 dL_law_2418 (by decide) ?_
    refine va_lald F.1 F.2.1 hE.1 hP 387 6 rfl rfl (inR_in (by decide : inR 0 1 = true)) dL_law_2419 ?_
    refine lv_iload F.1 F.2.1 dL_law_2420 (lv_at hl 0 rfl) ?_
    refine lv_i2l F.1 F.2.1 dL_law_2422 rfl ?_
    refine W.lcmp F.1 F.2.1 dL_law_2423 ?_
    refine lv_if_eq (tgt := 2429) F.1 F.2.1 dL_law_2424 (by decide) (fun _ => ?_) (fun k9 => absurd (by show lg_cmp (oxI r.1 f 0) rm.1.toInt64 = 0; rw [hag kz]; exact lg_cmp_self _) k9)
    refine lv_goto (tgt := 2665) F.1 F.2.1 dL_law_2429 (by decide) ?_
    exact kk aq (oxI r.1 f) dd H locs _ _ ls hP hD hS (by omega) (by omega) (lv_sub hl [2, 3, 4, 5, 6, 7] rfl)
set_option maxHeartbeats 4000000 in
set_option maxRecDepth 100000 in
theorem cs_run {p : Program} {l : Launch} {e : Env} {s : State} {m : MethodId} {below : List Frame} {meth : Method} {c : Code} {H : Heap} {locs : List Loc} {cells slots : Nat} {Q : State → Prop} {ls : Array Slot} {dC : Nat → ClassId} {dI : Nat → Nat → Nat} {g : Nat → ClassId} {A : Nat → Nat} {A1 A2 : Nat → Nat → Nat} {aq o o2 : Nat} {B : Nat → Nat} {AA : Nat → Prop} {b L : Nat} {xs : Nat → Int32} {i : Int32} {u : XT} {f : Nat → Int64} {dd : Nat → UInt64} {v : MT} (hl9 : l.stackTraces = false) (F : CF p m c code 9 s #[.ref b] RL) (hE : EK dC dI g s) (hX : EX g AA s s.heap) (hA : ∀ q : Nat, s.heap.size ≤ q → AA q) (hXs : va_X b L xs s s.heap) (hbl : b < s.heap.size) (hbA : ¬ AA b) {r : (Except String Int32) × XT} (hx : gX12_run u = some r) {k : Int32} (hk : kx ["java/lang/IllegalArgumentException", "java/lang/UnsupportedOperationException"] r.1 = some k) {rm : Int32 × MT} (hm : gX13_run v = some rm) (hth : mt_th rm.2 = k) (hag : k = 0 → oxI r.1 f 0 = rm.1.toInt64) (hc : cells + 1000 ≤ 603072) (hsl : slots + 2000 ≤ 7211114) (hP : va_P (dC, dI) vwCl (WL g A A1 A2 aq o o2 B u f dd v) H) (hD : va_D AA (WL g A A1 A2 aq o o2 B u f dd v)) (hS : va_S AA s.heap H locs) (hl : lv_has ls 9 [(0, .ref b), (1, .ref (A 0)), (2, .ref (B 0)), (3, .ref o), (4, .ref o2), (5, .int i)])
    (kk : ∀ (aq1 : Nat) (f1 : Nat → Int64) (dd1 : Nat → UInt64) (H1 : Heap) (locs1 : List Loc) (cells1 slots1 : Nat) (ls1 : Array Slot), va_P (dC, dI) vwCl (WL g A A1 A2 aq1 o o2 B r.2 f1 dd1 rm.2) H1 → va_D AA (WL g A A1 A2 aq1 o o2 B r.2 f1 dd1 rm.2) → va_S AA s.heap H1 locs1 → cells1 ≤ cells + 1000 → slots1 ≤ slots + 2000 → lv_has ls1 9 [(0, .ref b), (1, .ref (A 0)), (2, .ref (B 0)), (3, .ref o), (4, .ref o2), (5, .int i)] → W p l e room_1 s m #[.ref b] below meth c H1 locs1 cells1 slots1 Q (F0 m 2665 ls1 [])) : W p l e room_1 s m #[.ref b] below meth c H locs cells slots Q (F0 m 2432 ls []) := by
  refine lv_aload_n F.1 F.2.1 dL_law_2432 rfl (lv_at hl 1 rfl) ?_
  refine lv_aload_n F.1 F.2.1 dL_law_2433 rfl (lv_at hl 3 rfl) ?_
  refine cZS (As := [.ref (A 0), .ref o]) (rest := []) (post := catp [[(o2, .inl (g 7, 1, .inr (.inr (.inr (.inl dd)))))], wMt g B v] []) F hE hX (tL_run l hl9 dC dI g A A1 A2 aq o f u hx hk) mbL_run q1501 ⟨(Nat.le_of_ble_eq_true rfl), (Nat.le_of_ble_eq_true rfl)⟩ ⟨by show _ ≤ 603072; omega, by show _ ≤ 7211114; omega⟩ hP hD hS hA [] rfl rfl hl.1 rfl (Nat.le_of_ble_eq_true rfl) dL_law_2434 (fun b9 H locs hP hD hS => ?_)
  replace hP : va_P (dC, dI) vwCl (WL g A A1 A2 aq o o2 B r.2 (oxI r.1 f) dd v) H := hP
  replace hD : va_D AA (WL g A A1 A2 aq o o2 B r.2 (oxI r.1 f) dd v) := hD
  refine lv_istore (lv' := [(6, .int k), (0, .ref b), (1, .ref (A 0)), (2, .ref (B 0)), (3, .ref o), (4, .ref o2), (5, .int i)]) F.1 F.2.1 dL_law_2437 hl (by decide) rfl (fun ls hl => ?_)
  refine lv_aload_n F.1 F.2.1 dL_law_2439 rfl (lv_at hl 3 rfl) ?_
  refine cMV1 (As := []) (rest := []) (post := catp [] []) (ws' := WL g A A1 A2 aq o o2 B r.2 (oxI r.1 f) dd rm.2) F hE hX (kX13_run l dC dI g B v hm) mbX13_run q2124 ⟨(Nat.le_of_ble_eq_true rfl), (Nat.le_of_ble_eq_true rfl)⟩ ⟨by show _ ≤ 603072; omega, by show _ ≤ 7211114; omega⟩ hP hD hS hA [wXt g A A1 A2 aq r.2, [(o, .inl (g 6, 1, .inr (.inl (oxI r.1 f))))], [(o2, .inl (g 7, 1, .inr (.inr (.inr (.inl dd)))))]] rfl (wMt_fst g B _ _) rfl 0 rfl rfl rfl hl.1 rfl (Nat.le_of_ble_eq_true rfl) dL_law_2440 (fun H locs hP hD hS => ?_)
  replace hP : va_P (dC, dI) vwCl (WL g A A1 A2 aq o o2 B r.2 (oxI r.1 f) dd rm.2) H := hP
  replace hD : va_D AA (WL g A A1 A2 aq o o2 B r.2 (oxI r.1 f) dd rm.2) := hD
  refine lv_istore (lv' := [(7, .int rm.1), (6, .int k), (0, .ref b), (1, .ref (A 0)), (2, .ref (B 0)), (3, .ref o), (4, .ref o2), (5, .int i)]) F.1 F.2.1 dL_law_2443 hl (by decide) rfl (fun ls hl => ?_)
  refine lv_aload_n F.1 F.2.1 dL_law_2445 rfl (lv_at hl 4 rfl) ?_
  refine cRV1 (As := []) (rest := []) (post := catp [] []) F hE hX hS (kX13_thrown l dC dI g B rm.2 (r := mt_th rm.2) rfl) mbX13_thrown q1674 ⟨(Nat.le_of_ble_eq_true rfl), (Nat.le_of_ble_eq_true rfl)⟩ ⟨by show _ ≤ 603072; omega, by show _ ≤ 7211114; omega⟩ hP [wXt g A A1 A2 aq r.2, [(o, .inl (g 6, 1, .inr (.inl (oxI r.1 f))))], [(o2, .inl (g 7, 1, .inr (.inr (.inr (.inl dd)))))]] rfl 0 rfl rfl rfl hl.1 rfl (Nat.le_of_ble_eq_true rfl) dL_law_2446 ?_
  refine lv_iload F.1 F.2.1 dL_law_2449 (lv_at hl 1 rfl) ?_
  refine lv_icmp_eq (tgt := 2456) F.1 F.2.1 dL_law_2451 (by decide) (fun _ => ?_) (fun k9 => absurd hth k9)
  refine lv_iload F.1 F.2.1 dL_law_2456 (lv_at hl 1 rfl) ?_
  refine lv_if_ne (tgt := 2473) F.1 F.2.1 dL_law_2458 (by decide) (fun kz => ?_) (fun kz => ?_)
  · refine lv_goto (tgt := 2665) F.1 F.2.1 dL_law_2473 (by decide) ?_
    exact kk aq (oxI r.1 f) dd H locs _ _ ls hP hD hS (by omega) (by omega) (lv_sub hl [2, 3, 4, 5, 6, 7] rfl)
  · refine lv_aload_n F.1 F.2.1 dL_law_2461 rfl (lv_at hl 5 rfl) ?_
    refine lv_iconst (v := 0) F.1 F.2.1 dL_law_2462 (by decide) ?_
    refine va_lald F.1 F.2.1 hE.1 hP 387 6 rfl rfl (inR_in (by decide : inR 0 1 = true)) dL_law_2463 ?_
    refine lv_iload F.1 F.2.1 dL_law_2464 (lv_at hl 0 rfl) ?_
    refine lv_i2l F.1 F.2.1 dL_law_2466 rfl ?_
    refine W.lcmp F.1 F.2.1 dL_law_2467 ?_
    refine lv_if_eq (tgt := 2473) F.1 F.2.1 dL_law_2468 (by decide) (fun _ => ?_) (fun k9 => absurd (by show lg_cmp (oxI r.1 f 0) rm.1.toInt64 = 0; rw [hag kz]; exact lg_cmp_self _) k9)
    refine lv_goto (tgt := 2665) F.1 F.2.1 dL_law_2473 (by decide) ?_
    exact kk aq (oxI r.1 f) dd H locs _ _ ls hP hD hS (by omega) (by omega) (lv_sub hl [2, 3, 4, 5, 6, 7] rfl)
set_option maxHeartbeats 4000000 in
set_option maxRecDepth 100000 in
theorem cs_errorPosition {p : Program} {l : Launch} {e : Env} {s : State} {m : MethodId} {below : List Frame} {meth : Method} {c : Code} {H : Heap} {locs : List Loc} {cells slots : Nat} {Q : State → Prop} {ls : Array Slot} {dC : Nat → ClassId} {dI : Nat → Nat → Nat} {g : Nat → ClassId} {A : Nat → Nat} {A1 A2 : Nat → Nat → Nat} {aq o o2 : Nat} {B : Nat → Nat} {AA : Nat → Prop} {b L : Nat} {xs : Nat → Int32} {i : Int32} {u : XT} {f : Nat → Int64} {dd : Nat → UInt64} {v : MT} (hl9 : l.stackTraces = false) (F : CF p m c code 9 s #[.ref b] RL) (hE : EK dC dI g s) (hX : EX g AA s s.heap) (hA : ∀ q : Nat, s.heap.size ≤ q → AA q) (hXs : va_X b L xs s s.heap) (hbl : b < s.heap.size) (hbA : ¬ AA b) {r : (Except String Int32) × XT} (hx : gX12_errorPosition u = some r) {k : Int32} (hk : kx ["java/util/NoSuchElementException"] r.1 = some k) {rm : Int32 × MT} (hm : gX13_errorPosition v = some rm) (hth : mt_th rm.2 = k) (hag : k = 0 → oxI r.1 f 0 = rm.1.toInt64) (hc : cells + 1000 ≤ 603072) (hsl : slots + 2000 ≤ 7211114) (hP : va_P (dC, dI) vwCl (WL g A A1 A2 aq o o2 B u f dd v) H) (hD : va_D AA (WL g A A1 A2 aq o o2 B u f dd v)) (hS : va_S AA s.heap H locs) (hl : lv_has ls 9 [(0, .ref b), (1, .ref (A 0)), (2, .ref (B 0)), (3, .ref o), (4, .ref o2), (5, .int i)])
    (kk : ∀ (aq1 : Nat) (f1 : Nat → Int64) (dd1 : Nat → UInt64) (H1 : Heap) (locs1 : List Loc) (cells1 slots1 : Nat) (ls1 : Array Slot), va_P (dC, dI) vwCl (WL g A A1 A2 aq1 o o2 B r.2 f1 dd1 rm.2) H1 → va_D AA (WL g A A1 A2 aq1 o o2 B r.2 f1 dd1 rm.2) → va_S AA s.heap H1 locs1 → cells1 ≤ cells + 1000 → slots1 ≤ slots + 2000 → lv_has ls1 9 [(0, .ref b), (1, .ref (A 0)), (2, .ref (B 0)), (3, .ref o), (4, .ref o2), (5, .int i)] → W p l e room_1 s m #[.ref b] below meth c H1 locs1 cells1 slots1 Q (F0 m 2665 ls1 [])) : W p l e room_1 s m #[.ref b] below meth c H locs cells slots Q (F0 m 2476 ls []) := by
  refine lv_aload_n F.1 F.2.1 dL_law_2476 rfl (lv_at hl 1 rfl) ?_
  refine lv_aload_n F.1 F.2.1 dL_law_2477 rfl (lv_at hl 3 rfl) ?_
  refine cZS (As := [.ref (A 0), .ref o]) (rest := []) (post := catp [[(o2, .inl (g 7, 1, .inr (.inr (.inr (.inl dd)))))], wMt g B v] []) F hE hX (tL_errorPosition l hl9 dC dI g A A1 A2 aq o f u hx hk) mbL_errorPosition q1629 ⟨(Nat.le_of_ble_eq_true rfl), (Nat.le_of_ble_eq_true rfl)⟩ ⟨by show _ ≤ 603072; omega, by show _ ≤ 7211114; omega⟩ hP hD hS hA [] rfl rfl hl.1 rfl (Nat.le_of_ble_eq_true rfl) dL_law_2478 (fun b9 H locs hP hD hS => ?_)
  replace hP : va_P (dC, dI) vwCl (WL g A A1 A2 aq o o2 B r.2 (oxI r.1 f) dd v) H := hP
  replace hD : va_D AA (WL g A A1 A2 aq o o2 B r.2 (oxI r.1 f) dd v) := hD
  refine lv_istore (lv' := [(6, .int k), (0, .ref b), (1, .ref (A 0)), (2, .ref (B 0)), (3, .ref o), (4, .ref o2), (5, .int i)]) F.1 F.2.1 dL_law_2481 hl (by decide) rfl (fun ls hl => ?_)
  refine lv_aload_n F.1 F.2.1 dL_law_2483 rfl (lv_at hl 3 rfl) ?_
  refine cMV1 (As := []) (rest := []) (post := catp [] []) (ws' := WL g A A1 A2 aq o o2 B r.2 (oxI r.1 f) dd rm.2) F hE hX (kX13_errorPosition l dC dI g B v hm) mbX13_errorPosition q2188 ⟨(Nat.le_of_ble_eq_true rfl), (Nat.le_of_ble_eq_true rfl)⟩ ⟨by show _ ≤ 603072; omega, by show _ ≤ 7211114; omega⟩ hP hD hS hA [wXt g A A1 A2 aq r.2, [(o, .inl (g 6, 1, .inr (.inl (oxI r.1 f))))], [(o2, .inl (g 7, 1, .inr (.inr (.inr (.inl dd)))))]] rfl (wMt_fst g B _ _) rfl 0 rfl rfl rfl hl.1 rfl (Nat.le_of_ble_eq_true rfl) dL_law_2484 (fun H locs hP hD hS => ?_)
  replace hP : va_P (dC, dI) vwCl (WL g A A1 A2 aq o o2 B r.2 (oxI r.1 f) dd rm.2) H := hP
  replace hD : va_D AA (WL g A A1 A2 aq o o2 B r.2 (oxI r.1 f) dd rm.2) := hD
  refine lv_istore (lv' := [(7, .int rm.1), (6, .int k), (0, .ref b), (1, .ref (A 0)), (2, .ref (B 0)), (3, .ref o), (4, .ref o2), (5, .int i)]) F.1 F.2.1 dL_law_2487 hl (by decide) rfl (fun ls hl => ?_)
  refine lv_aload_n F.1 F.2.1 dL_law_2489 rfl (lv_at hl 4 rfl) ?_
  refine cRV1 (As := []) (rest := []) (post := catp [] []) F hE hX hS (kX13_thrown l dC dI g B rm.2 (r := mt_th rm.2) rfl) mbX13_thrown q1674 ⟨(Nat.le_of_ble_eq_true rfl), (Nat.le_of_ble_eq_true rfl)⟩ ⟨by show _ ≤ 603072; omega, by show _ ≤ 7211114; omega⟩ hP [wXt g A A1 A2 aq r.2, [(o, .inl (g 6, 1, .inr (.inl (oxI r.1 f))))], [(o2, .inl (g 7, 1, .inr (.inr (.inr (.inl dd)))))]] rfl 0 rfl rfl rfl hl.1 rfl (Nat.le_of_ble_eq_true rfl) dL_law_2490 ?_
  refine lv_iload F.1 F.2.1 dL_law_2493 (lv_at hl 1 rfl) ?_
  refine lv_icmp_eq (tgt := 2500) F.1 F.2.1 dL_law_2495 (by decide) (fun _ => ?_) (fun k9 => absurd hth k9)
  refine lv_iload F.1 F.2.1 dL_law_2500 (lv_at hl 1 rfl) ?_
  refine lv_if_ne (tgt := 2517) F.1 F.2.1 dL_law_2502 (by decide) (fun kz => ?_) (fun kz => ?_)
  · refine lv_goto (tgt := 2665) F.1 F.2.1 dL_law_2517 (by decide) ?_
    exact kk aq (oxI r.1 f) dd H locs _ _ ls hP hD hS (by omega) (by omega) (lv_sub hl [2, 3, 4, 5, 6, 7] rfl)
  · refine lv_aload_n F.1 F.2.1 dL_law_2505 rfl (lv_at hl 5 rfl) ?_
    refine lv_iconst (v := 0) F.1 F.2.1 dL_law_2506 (by decide) ?_
    refine va_lald F.1 F.2.1 hE.1 hP 387 6 rfl rfl (inR_in (by decide : inR 0 1 = true)) dL_law_2507 ?_
    refine lv_iload F.1 F.2.1 dL_law_2508 (lv_at hl 0 rfl) ?_
    refine lv_i2l F.1 F.2.1 dL_law_2510 rfl ?_
    refine W.lcmp F.1 F.2.1 dL_law_2511 ?_
    refine lv_if_eq (tgt := 2517) F.1 F.2.1 dL_law_2512 (by decide) (fun _ => ?_) (fun k9 => absurd (by show lg_cmp (oxI r.1 f 0) rm.1.toInt64 = 0; rw [hag kz]; exact lg_cmp_self _) k9)
    refine lv_goto (tgt := 2665) F.1 F.2.1 dL_law_2517 (by decide) ?_
    exact kk aq (oxI r.1 f) dd H locs _ _ ls hP hD hS (by omega) (by omega) (lv_sub hl [2, 3, 4, 5, 6, 7] rfl)
set_option maxHeartbeats 4000000 in
set_option maxRecDepth 100000 in
theorem cs_failedCommand {p : Program} {l : Launch} {e : Env} {s : State} {m : MethodId} {below : List Frame} {meth : Method} {c : Code} {H : Heap} {locs : List Loc} {cells slots : Nat} {Q : State → Prop} {ls : Array Slot} {dC : Nat → ClassId} {dI : Nat → Nat → Nat} {g : Nat → ClassId} {A : Nat → Nat} {A1 A2 : Nat → Nat → Nat} {aq o o2 : Nat} {B : Nat → Nat} {AA : Nat → Prop} {b L : Nat} {xs : Nat → Int32} {i : Int32} {u : XT} {f : Nat → Int64} {dd : Nat → UInt64} {v : MT} (hl9 : l.stackTraces = false) (F : CF p m c code 9 s #[.ref b] RL) (hE : EK dC dI g s) (hX : EX g AA s s.heap) (hA : ∀ q : Nat, s.heap.size ≤ q → AA q) (hXs : va_X b L xs s s.heap) (hbl : b < s.heap.size) (hbA : ¬ AA b) {r : (Except String Int32) × XT} (hx : gX12_failedCommand u = some r) {k : Int32} (hk : kx ["java/util/NoSuchElementException"] r.1 = some k) {rm : Int32 × MT} (hm : gX13_failedCommand v = some rm) (hth : mt_th rm.2 = k) (hag : k = 0 → oxI r.1 f 0 = rm.1.toInt64) (hc : cells + 1000 ≤ 603072) (hsl : slots + 2000 ≤ 7211114) (hP : va_P (dC, dI) vwCl (WL g A A1 A2 aq o o2 B u f dd v) H) (hD : va_D AA (WL g A A1 A2 aq o o2 B u f dd v)) (hS : va_S AA s.heap H locs) (hl : lv_has ls 9 [(0, .ref b), (1, .ref (A 0)), (2, .ref (B 0)), (3, .ref o), (4, .ref o2), (5, .int i)])
    (kk : ∀ (aq1 : Nat) (f1 : Nat → Int64) (dd1 : Nat → UInt64) (H1 : Heap) (locs1 : List Loc) (cells1 slots1 : Nat) (ls1 : Array Slot), va_P (dC, dI) vwCl (WL g A A1 A2 aq1 o o2 B r.2 f1 dd1 rm.2) H1 → va_D AA (WL g A A1 A2 aq1 o o2 B r.2 f1 dd1 rm.2) → va_S AA s.heap H1 locs1 → cells1 ≤ cells + 1000 → slots1 ≤ slots + 2000 → lv_has ls1 9 [(0, .ref b), (1, .ref (A 0)), (2, .ref (B 0)), (3, .ref o), (4, .ref o2), (5, .int i)] → W p l e room_1 s m #[.ref b] below meth c H1 locs1 cells1 slots1 Q (F0 m 2665 ls1 [])) : W p l e room_1 s m #[.ref b] below meth c H locs cells slots Q (F0 m 2520 ls []) := by
  refine lv_aload_n F.1 F.2.1 dL_law_2520 rfl (lv_at hl 1 rfl) ?_
  refine lv_aload_n F.1 F.2.1 dL_law_2521 rfl (lv_at hl 3 rfl) ?_
  refine cZS (As := [.ref (A 0), .ref o]) (rest := []) (post := catp [[(o2, .inl (g 7, 1, .inr (.inr (.inr (.inl dd)))))], wMt g B v] []) F hE hX (tL_failedCommand l hl9 dC dI g A A1 A2 aq o f u hx hk) mbL_failedCommand q1637 ⟨(Nat.le_of_ble_eq_true rfl), (Nat.le_of_ble_eq_true rfl)⟩ ⟨by show _ ≤ 603072; omega, by show _ ≤ 7211114; omega⟩ hP hD hS hA [] rfl rfl hl.1 rfl (Nat.le_of_ble_eq_true rfl) dL_law_2522 (fun b9 H locs hP hD hS => ?_)
  replace hP : va_P (dC, dI) vwCl (WL g A A1 A2 aq o o2 B r.2 (oxI r.1 f) dd v) H := hP
  replace hD : va_D AA (WL g A A1 A2 aq o o2 B r.2 (oxI r.1 f) dd v) := hD
  refine lv_istore (lv' := [(6, .int k), (0, .ref b), (1, .ref (A 0)), (2, .ref (B 0)), (3, .ref o), (4, .ref o2), (5, .int i)]) F.1 F.2.1 dL_law_2525 hl (by decide) rfl (fun ls hl => ?_)
  refine lv_aload_n F.1 F.2.1 dL_law_2527 rfl (lv_at hl 3 rfl) ?_
  refine cMV1 (As := []) (rest := []) (post := catp [] []) (ws' := WL g A A1 A2 aq o o2 B r.2 (oxI r.1 f) dd rm.2) F hE hX (kX13_failedCommand l dC dI g B v hm) mbX13_failedCommand q2192 ⟨(Nat.le_of_ble_eq_true rfl), (Nat.le_of_ble_eq_true rfl)⟩ ⟨by show _ ≤ 603072; omega, by show _ ≤ 7211114; omega⟩ hP hD hS hA [wXt g A A1 A2 aq r.2, [(o, .inl (g 6, 1, .inr (.inl (oxI r.1 f))))], [(o2, .inl (g 7, 1, .inr (.inr (.inr (.inl dd)))))]] rfl (wMt_fst g B _ _) rfl 0 rfl rfl rfl hl.1 rfl (Nat.le_of_ble_eq_true rfl) dL_law_2528 (fun H locs hP hD hS => ?_)
  replace hP : va_P (dC, dI) vwCl (WL g A A1 A2 aq o o2 B r.2 (oxI r.1 f) dd rm.2) H := hP
  replace hD : va_D AA (WL g A A1 A2 aq o o2 B r.2 (oxI r.1 f) dd rm.2) := hD
  refine lv_istore (lv' := [(7, .int rm.1), (6, .int k), (0, .ref b), (1, .ref (A 0)), (2, .ref (B 0)), (3, .ref o), (4, .ref o2), (5, .int i)]) F.1 F.2.1 dL_law_2531 hl (by decide) rfl (fun ls hl => ?_)
  refine lv_aload_n F.1 F.2.1 dL_law_2533 rfl (lv_at hl 4 rfl) ?_
  refine cRV1 (As := []) (rest := []) (post := catp [] []) F hE hX hS (kX13_thrown l dC dI g B rm.2 (r := mt_th rm.2) rfl) mbX13_thrown q1674 ⟨(Nat.le_of_ble_eq_true rfl), (Nat.le_of_ble_eq_true rfl)⟩ ⟨by show _ ≤ 603072; omega, by show _ ≤ 7211114; omega⟩ hP [wXt g A A1 A2 aq r.2, [(o, .inl (g 6, 1, .inr (.inl (oxI r.1 f))))], [(o2, .inl (g 7, 1, .inr (.inr (.inr (.inl dd)))))]] rfl 0 rfl rfl rfl hl.1 rfl (Nat.le_of_ble_eq_true rfl) dL_law_2534 ?_
  refine lv_iload F.1 F.2.1 dL_law_2537 (lv_at hl 1 rfl) ?_
  refine lv_icmp_eq (tgt := 2544) F.1 F.2.1 dL_law_2539 (by decide) (fun _ => ?_) (fun k9 => absurd hth k9)
  refine lv_iload F.1 F.2.1 dL_law_2544 (lv_at hl 1 rfl) ?_
  refine lv_if_ne (tgt := 2561) F.1 F.2.1 dL_law_2546 (by decide) (fun kz => ?_) (fun kz => ?_)
  · refine lv_goto (tgt := 2665) F.1 F.2.1 dL_law_2561 (by decide) ?_
    exact kk aq (oxI r.1 f) dd H locs _ _ ls hP hD hS (by omega) (by omega) (lv_sub hl [2, 3, 4, 5, 6, 7] rfl)
  · refine lv_aload_n F.1 F.2.1 dL_law_2549 rfl (lv_at hl 5 rfl) ?_
    refine lv_iconst (v := 0) F.1 F.2.1 dL_law_2550 (by decide) ?_
    refine va_lald F.1 F.2.1 hE.1 hP 387 6 rfl rfl (inR_in (by decide : inR 0 1 = true)) dL_law_2551 ?_
    refine lv_iload F.1 F.2.1 dL_law_2552 (lv_at hl 0 rfl) ?_
    refine lv_i2l F.1 F.2.1 dL_law_2554 rfl ?_
    refine W.lcmp F.1 F.2.1 dL_law_2555 ?_
    refine lv_if_eq (tgt := 2561) F.1 F.2.1 dL_law_2556 (by decide) (fun _ => ?_) (fun k9 => absurd (by show lg_cmp (oxI r.1 f 0) rm.1.toInt64 = 0; rw [hag kz]; exact lg_cmp_self _) k9)
    refine lv_goto (tgt := 2665) F.1 F.2.1 dL_law_2561 (by decide) ?_
    exact kk aq (oxI r.1 f) dd H locs _ _ ls hP hD hS (by omega) (by omega) (lv_sub hl [2, 3, 4, 5, 6, 7] rfl)
set_option maxHeartbeats 4000000 in
set_option maxRecDepth 100000 in
theorem cs_undo {p : Program} {l : Launch} {e : Env} {s : State} {m : MethodId} {below : List Frame} {meth : Method} {c : Code} {H : Heap} {locs : List Loc} {cells slots : Nat} {Q : State → Prop} {ls : Array Slot} {dC : Nat → ClassId} {dI : Nat → Nat → Nat} {g : Nat → ClassId} {A : Nat → Nat} {A1 A2 : Nat → Nat → Nat} {aq o o2 : Nat} {B : Nat → Nat} {AA : Nat → Prop} {b L : Nat} {xs : Nat → Int32} {i : Int32} {u : XT} {f : Nat → Int64} {dd : Nat → UInt64} {v : MT} (hl9 : l.stackTraces = false) (F : CF p m c code 9 s #[.ref b] RL) (hE : EK dC dI g s) (hX : EX g AA s s.heap) (hA : ∀ q : Nat, s.heap.size ≤ q → AA q) (hXs : va_X b L xs s s.heap) (hbl : b < s.heap.size) (hbA : ¬ AA b) {r : (Except String Int32) × XT} (hx : gX12_undo u = some r) {k : Int32} (hk : kx ["java/lang/IllegalStateException"] r.1 = some k) {rm : Int32 × MT} (hm : gX13_undo v = some rm) (hth : mt_th rm.2 = k) (hag : k = 0 → oxI r.1 f 0 = rm.1.toInt64) (hc : cells + 1000 ≤ 603072) (hsl : slots + 2000 ≤ 7211114) (hP : va_P (dC, dI) vwCl (WL g A A1 A2 aq o o2 B u f dd v) H) (hD : va_D AA (WL g A A1 A2 aq o o2 B u f dd v)) (hS : va_S AA s.heap H locs) (hl : lv_has ls 9 [(0, .ref b), (1, .ref (A 0)), (2, .ref (B 0)), (3, .ref o), (4, .ref o2), (5, .int i)])
    (kk : ∀ (aq1 : Nat) (f1 : Nat → Int64) (dd1 : Nat → UInt64) (H1 : Heap) (locs1 : List Loc) (cells1 slots1 : Nat) (ls1 : Array Slot), va_P (dC, dI) vwCl (WL g A A1 A2 aq1 o o2 B r.2 f1 dd1 rm.2) H1 → va_D AA (WL g A A1 A2 aq1 o o2 B r.2 f1 dd1 rm.2) → va_S AA s.heap H1 locs1 → cells1 ≤ cells + 1000 → slots1 ≤ slots + 2000 → lv_has ls1 9 [(0, .ref b), (1, .ref (A 0)), (2, .ref (B 0)), (3, .ref o), (4, .ref o2), (5, .int i)] → W p l e room_1 s m #[.ref b] below meth c H1 locs1 cells1 slots1 Q (F0 m 2665 ls1 [])) : W p l e room_1 s m #[.ref b] below meth c H locs cells slots Q (F0 m 2564 ls []) := by
  refine lv_aload_n F.1 F.2.1 dL_law_2564 rfl (lv_at hl 1 rfl) ?_
  refine lv_aload_n F.1 F.2.1 dL_law_2565 rfl (lv_at hl 3 rfl) ?_
  refine cZS (As := [.ref (A 0), .ref o]) (rest := []) (post := catp [[(o2, .inl (g 7, 1, .inr (.inr (.inr (.inl dd)))))], wMt g B v] []) F hE hX (tL_undo l hl9 dC dI g A A1 A2 aq o f u hx hk) mbL_undo q1645 ⟨(Nat.le_of_ble_eq_true rfl), (Nat.le_of_ble_eq_true rfl)⟩ ⟨by show _ ≤ 603072; omega, by show _ ≤ 7211114; omega⟩ hP hD hS hA [] rfl rfl hl.1 rfl (Nat.le_of_ble_eq_true rfl) dL_law_2566 (fun b9 H locs hP hD hS => ?_)
  replace hP : va_P (dC, dI) vwCl (WL g A A1 A2 aq o o2 B r.2 (oxI r.1 f) dd v) H := hP
  replace hD : va_D AA (WL g A A1 A2 aq o o2 B r.2 (oxI r.1 f) dd v) := hD
  refine lv_istore (lv' := [(6, .int k), (0, .ref b), (1, .ref (A 0)), (2, .ref (B 0)), (3, .ref o), (4, .ref o2), (5, .int i)]) F.1 F.2.1 dL_law_2569 hl (by decide) rfl (fun ls hl => ?_)
  refine lv_aload_n F.1 F.2.1 dL_law_2571 rfl (lv_at hl 3 rfl) ?_
  refine cMV1 (As := []) (rest := []) (post := catp [] []) (ws' := WL g A A1 A2 aq o o2 B r.2 (oxI r.1 f) dd rm.2) F hE hX (kX13_undo l dC dI g B v hm) mbX13_undo q2196 ⟨(Nat.le_of_ble_eq_true rfl), (Nat.le_of_ble_eq_true rfl)⟩ ⟨by show _ ≤ 603072; omega, by show _ ≤ 7211114; omega⟩ hP hD hS hA [wXt g A A1 A2 aq r.2, [(o, .inl (g 6, 1, .inr (.inl (oxI r.1 f))))], [(o2, .inl (g 7, 1, .inr (.inr (.inr (.inl dd)))))]] rfl (wMt_fst g B _ _) rfl 0 rfl rfl rfl hl.1 rfl (Nat.le_of_ble_eq_true rfl) dL_law_2572 (fun H locs hP hD hS => ?_)
  replace hP : va_P (dC, dI) vwCl (WL g A A1 A2 aq o o2 B r.2 (oxI r.1 f) dd rm.2) H := hP
  replace hD : va_D AA (WL g A A1 A2 aq o o2 B r.2 (oxI r.1 f) dd rm.2) := hD
  refine lv_istore (lv' := [(7, .int rm.1), (6, .int k), (0, .ref b), (1, .ref (A 0)), (2, .ref (B 0)), (3, .ref o), (4, .ref o2), (5, .int i)]) F.1 F.2.1 dL_law_2575 hl (by decide) rfl (fun ls hl => ?_)
  refine lv_aload_n F.1 F.2.1 dL_law_2577 rfl (lv_at hl 4 rfl) ?_
  refine cRV1 (As := []) (rest := []) (post := catp [] []) F hE hX hS (kX13_thrown l dC dI g B rm.2 (r := mt_th rm.2) rfl) mbX13_thrown q1674 ⟨(Nat.le_of_ble_eq_true rfl), (Nat.le_of_ble_eq_true rfl)⟩ ⟨by show _ ≤ 603072; omega, by show _ ≤ 7211114; omega⟩ hP [wXt g A A1 A2 aq r.2, [(o, .inl (g 6, 1, .inr (.inl (oxI r.1 f))))], [(o2, .inl (g 7, 1, .inr (.inr (.inr (.inl dd)))))]] rfl 0 rfl rfl rfl hl.1 rfl (Nat.le_of_ble_eq_true rfl) dL_law_2578 ?_
  refine lv_iload F.1 F.2.1 dL_law_2581 (lv_at hl 1 rfl) ?_
  refine lv_icmp_eq (tgt := 2588) F.1 F.2.1 dL_law_2583 (by decide) (fun _ => ?_) (fun k9 => absurd hth k9)
  refine lv_iload F.1 F.2.1 dL_law_2588 (lv_at hl 1 rfl) ?_
  refine lv_if_ne (tgt := 2605) F.1 F.2.1 dL_law_2590 (by decide) (fun kz => ?_) (fun kz => ?_)
  · refine lv_goto (tgt := 2665) F.1 F.2.1 dL_law_2605 (by decide) ?_
    exact kk aq (oxI r.1 f) dd H locs _ _ ls hP hD hS (by omega) (by omega) (lv_sub hl [2, 3, 4, 5, 6, 7] rfl)
  · refine lv_aload_n F.1 F.2.1 dL_law_2593 rfl (lv_at hl 5 rfl) ?_
    refine lv_iconst (v := 0) F.1 F.2.1 dL_law_2594 (by decide) ?_
    refine va_lald F.1 F.2.1 hE.1 hP 387 6 rfl rfl (inR_in (by decide : inR 0 1 = true)) dL_law_2595 ?_
    refine lv_iload F.1 F.2.1 dL_law_2596 (lv_at hl 0 rfl) ?_
    refine lv_i2l F.1 F.2.1 dL_law_2598 rfl ?_
    refine W.lcmp F.1 F.2.1 dL_law_2599 ?_
    refine lv_if_eq (tgt := 2605) F.1 F.2.1 dL_law_2600 (by decide) (fun _ => ?_) (fun k9 => absurd (by show lg_cmp (oxI r.1 f 0) rm.1.toInt64 = 0; rw [hag kz]; exact lg_cmp_self _) k9)
    refine lv_goto (tgt := 2665) F.1 F.2.1 dL_law_2605 (by decide) ?_
    exact kk aq (oxI r.1 f) dd H locs _ _ ls hP hD hS (by omega) (by omega) (lv_sub hl [2, 3, 4, 5, 6, 7] rfl)
set_option maxHeartbeats 4000000 in
set_option maxRecDepth 100000 in
theorem cs_save {p : Program} {l : Launch} {e : Env} {s : State} {m : MethodId} {below : List Frame} {meth : Method} {c : Code} {H : Heap} {locs : List Loc} {cells slots : Nat} {Q : State → Prop} {ls : Array Slot} {dC : Nat → ClassId} {dI : Nat → Nat → Nat} {g : Nat → ClassId} {A : Nat → Nat} {A1 A2 : Nat → Nat → Nat} {aq o o2 : Nat} {B : Nat → Nat} {AA : Nat → Prop} {b L : Nat} {xs : Nat → Int32} {i : Int32} {u : XT} {f : Nat → Int64} {dd : Nat → UInt64} {v : MT} (hl9 : l.stackTraces = false) (F : CF p m c code 9 s #[.ref b] RL) (hE : EK dC dI g s) (hX : EX g AA s s.heap) (hA : ∀ q : Nat, s.heap.size ≤ q → AA q) (hXs : va_X b L xs s s.heap) (hbl : b < s.heap.size) (hbA : ¬ AA b) {r : Int32 × XT} (hx : gX12_save u = some r) {rm : Int32 × MT} (hm : gX13_save v = some rm) (hag : r.1 = rm.1) (hc : cells + 1000 ≤ 603072) (hsl : slots + 2000 ≤ 7211114) (hP : va_P (dC, dI) vwCl (WL g A A1 A2 aq o o2 B u f dd v) H) (hD : va_D AA (WL g A A1 A2 aq o o2 B u f dd v)) (hS : va_S AA s.heap H locs) (hl : lv_has ls 9 [(0, .ref b), (1, .ref (A 0)), (2, .ref (B 0)), (3, .ref o), (4, .ref o2), (5, .int i)])
    (kk : ∀ (aq1 : Nat) (f1 : Nat → Int64) (dd1 : Nat → UInt64) (H1 : Heap) (locs1 : List Loc) (cells1 slots1 : Nat) (ls1 : Array Slot), va_P (dC, dI) vwCl (WL g A A1 A2 aq1 o o2 B r.2 f1 dd1 rm.2) H1 → va_D AA (WL g A A1 A2 aq1 o o2 B r.2 f1 dd1 rm.2) → va_S AA s.heap H1 locs1 → cells1 ≤ cells + 1000 → slots1 ≤ slots + 2000 → lv_has ls1 9 [(0, .ref b), (1, .ref (A 0)), (2, .ref (B 0)), (3, .ref o), (4, .ref o2), (5, .int i)] → W p l e room_1 s m #[.ref b] below meth c H1 locs1 cells1 slots1 Q (F0 m 2665 ls1 [])) : W p l e room_1 s m #[.ref b] below meth c H locs cells slots Q (F0 m 2608 ls []) := by
  refine lv_aload_n F.1 F.2.1 dL_law_2608 rfl (lv_at hl 1 rfl) ?_
  refine cMV1 (As := []) (rest := []) (post := catp [[(o, .inl (g 6, 1, .inr (.inl f)))], [(o2, .inl (g 7, 1, .inr (.inr (.inr (.inl dd)))))], wMt g B v] []) (ws' := WL g A A1 A2 aq o o2 B r.2 f dd v) F hE hX (kX12_save l dC dI g A A1 A2 aq u hx) mbX12_save q888 ⟨(Nat.le_of_ble_eq_true rfl), (Nat.le_of_ble_eq_true rfl)⟩ ⟨by show _ ≤ 603072; omega, by show _ ≤ 7211114; omega⟩ hP hD hS hA [] rfl (wXt_fst g A A1 A2 aq _ _) rfl 0 rfl rfl rfl hl.1 rfl (Nat.le_of_ble_eq_true rfl) dL_law_2609 (fun H locs hP hD hS => ?_)
  replace hP : va_P (dC, dI) vwCl (WL g A A1 A2 aq o o2 B r.2 f dd v) H := hP
  replace hD : va_D AA (WL g A A1 A2 aq o o2 B r.2 f dd v) := hD
  refine lv_aload_n F.1 F.2.1 dL_law_2612 rfl (lv_at hl 2 rfl) ?_
  refine cMV1 (As := []) (rest := [.int r.1]) (post := catp [] []) (ws' := WL g A A1 A2 aq o o2 B r.2 f dd rm.2) F hE hX (kX13_save l dC dI g B v hm) mbX13_save q2200 ⟨(Nat.le_of_ble_eq_true rfl), (Nat.le_of_ble_eq_true rfl)⟩ ⟨by show _ ≤ 603072; omega, by show _ ≤ 7211114; omega⟩ hP hD hS hA [wXt g A A1 A2 aq r.2, [(o, .inl (g 6, 1, .inr (.inl f)))], [(o2, .inl (g 7, 1, .inr (.inr (.inr (.inl dd)))))]] rfl (wMt_fst g B _ _) rfl 0 rfl rfl rfl hl.1 rfl (Nat.le_of_ble_eq_true rfl) dL_law_2613 (fun H locs hP hD hS => ?_)
  replace hP : va_P (dC, dI) vwCl (WL g A A1 A2 aq o o2 B r.2 f dd rm.2) H := hP
  replace hD : va_D AA (WL g A A1 A2 aq o o2 B r.2 f dd rm.2) := hD
  refine lv_icmp_eq (tgt := 2665) F.1 F.2.1 dL_law_2616 (by decide) (fun _ => ?_) (fun k9 => absurd hag k9)
  exact kk aq f dd H locs _ _ ls hP hD hS (by omega) (by omega) (lv_sub hl [0, 1, 2, 3, 4, 5] rfl)
set_option maxHeartbeats 4000000 in
set_option maxRecDepth 100000 in
theorem cs_restore {p : Program} {l : Launch} {e : Env} {s : State} {m : MethodId} {below : List Frame} {meth : Method} {c : Code} {H : Heap} {locs : List Loc} {cells slots : Nat} {Q : State → Prop} {ls : Array Slot} {dC : Nat → ClassId} {dI : Nat → Nat → Nat} {g : Nat → ClassId} {A : Nat → Nat} {A1 A2 : Nat → Nat → Nat} {aq o o2 : Nat} {B : Nat → Nat} {AA : Nat → Prop} {b L : Nat} {xs : Nat → Int32} {i : Int32} {u : XT} {f : Nat → Int64} {dd : Nat → UInt64} {v : MT} (hl9 : l.stackTraces = false) (F : CF p m c code 9 s #[.ref b] RL) (hE : EK dC dI g s) (hX : EX g AA s s.heap) (hA : ∀ q : Nat, s.heap.size ≤ q → AA q) (hXs : va_X b L xs s s.heap) (hbl : b < s.heap.size) (hbA : ¬ AA b) {r : (Except String Int32) × XT} (hx : gX12_restore u = some r) {k : Int32} (hk : kx ["java/lang/IllegalStateException"] r.1 = some k) {rm : Int32 × MT} (hm : gX13_restore v = some rm) (hth : mt_th rm.2 = k) (hag : k = 0 → oxI r.1 f 0 = rm.1.toInt64) (hc : cells + 1000 ≤ 603072) (hsl : slots + 2000 ≤ 7211114) (hP : va_P (dC, dI) vwCl (WL g A A1 A2 aq o o2 B u f dd v) H) (hD : va_D AA (WL g A A1 A2 aq o o2 B u f dd v)) (hS : va_S AA s.heap H locs) (hl : lv_has ls 9 [(0, .ref b), (1, .ref (A 0)), (2, .ref (B 0)), (3, .ref o), (4, .ref o2), (5, .int i)])
    (kk : ∀ (aq1 : Nat) (f1 : Nat → Int64) (dd1 : Nat → UInt64) (H1 : Heap) (locs1 : List Loc) (cells1 slots1 : Nat) (ls1 : Array Slot), va_P (dC, dI) vwCl (WL g A A1 A2 aq1 o o2 B r.2 f1 dd1 rm.2) H1 → va_D AA (WL g A A1 A2 aq1 o o2 B r.2 f1 dd1 rm.2) → va_S AA s.heap H1 locs1 → cells1 ≤ cells + 1000 → slots1 ≤ slots + 2000 → lv_has ls1 9 [(0, .ref b), (1, .ref (A 0)), (2, .ref (B 0)), (3, .ref o), (4, .ref o2), (5, .int i)] → W p l e room_1 s m #[.ref b] below meth c H1 locs1 cells1 slots1 Q (F0 m 2665 ls1 [])) : W p l e room_1 s m #[.ref b] below meth c H locs cells slots Q (F0 m 2621 ls []) := by
  refine lv_aload_n F.1 F.2.1 dL_law_2621 rfl (lv_at hl 1 rfl) ?_
  refine lv_aload_n F.1 F.2.1 dL_law_2622 rfl (lv_at hl 3 rfl) ?_
  refine cZS (As := [.ref (A 0), .ref o]) (rest := []) (post := catp [[(o2, .inl (g 7, 1, .inr (.inr (.inr (.inl dd)))))], wMt g B v] []) F hE hX (tL_restore l hl9 dC dI g A A1 A2 aq o f u hx hk) mbL_restore q1662 ⟨(Nat.le_of_ble_eq_true rfl), (Nat.le_of_ble_eq_true rfl)⟩ ⟨by show _ ≤ 603072; omega, by show _ ≤ 7211114; omega⟩ hP hD hS hA [] rfl rfl hl.1 rfl (Nat.le_of_ble_eq_true rfl) dL_law_2623 (fun b9 H locs hP hD hS => ?_)
  replace hP : va_P (dC, dI) vwCl (WL g A A1 A2 aq o o2 B r.2 (oxI r.1 f) dd v) H := hP
  replace hD : va_D AA (WL g A A1 A2 aq o o2 B r.2 (oxI r.1 f) dd v) := hD
  refine lv_istore (lv' := [(6, .int k), (0, .ref b), (1, .ref (A 0)), (2, .ref (B 0)), (3, .ref o), (4, .ref o2), (5, .int i)]) F.1 F.2.1 dL_law_2626 hl (by decide) rfl (fun ls hl => ?_)
  refine lv_aload_n F.1 F.2.1 dL_law_2628 rfl (lv_at hl 3 rfl) ?_
  refine cMV1 (As := []) (rest := []) (post := catp [] []) (ws' := WL g A A1 A2 aq o o2 B r.2 (oxI r.1 f) dd rm.2) F hE hX (kX13_restore l dC dI g B v hm) mbX13_restore q2204 ⟨(Nat.le_of_ble_eq_true rfl), (Nat.le_of_ble_eq_true rfl)⟩ ⟨by show _ ≤ 603072; omega, by show _ ≤ 7211114; omega⟩ hP hD hS hA [wXt g A A1 A2 aq r.2, [(o, .inl (g 6, 1, .inr (.inl (oxI r.1 f))))], [(o2, .inl (g 7, 1, .inr (.inr (.inr (.inl dd)))))]] rfl (wMt_fst g B _ _) rfl 0 rfl rfl rfl hl.1 rfl (Nat.le_of_ble_eq_true rfl) dL_law_2629 (fun H locs hP hD hS => ?_)
  replace hP : va_P (dC, dI) vwCl (WL g A A1 A2 aq o o2 B r.2 (oxI r.1 f) dd rm.2) H := hP
  replace hD : va_D AA (WL g A A1 A2 aq o o2 B r.2 (oxI r.1 f) dd rm.2) := hD
  refine lv_istore (lv' := [(7, .int rm.1), (6, .int k), (0, .ref b), (1, .ref (A 0)), (2, .ref (B 0)), (3, .ref o), (4, .ref o2), (5, .int i)]) F.1 F.2.1 dL_law_2632 hl (by decide) rfl (fun ls hl => ?_)
  refine lv_aload_n F.1 F.2.1 dL_law_2634 rfl (lv_at hl 4 rfl) ?_
  refine cRV1 (As := []) (rest := []) (post := catp [] []) F hE hX hS (kX13_thrown l dC dI g B rm.2 (r := mt_th rm.2) rfl) mbX13_thrown q1674 ⟨(Nat.le_of_ble_eq_true rfl), (Nat.le_of_ble_eq_true rfl)⟩ ⟨by show _ ≤ 603072; omega, by show _ ≤ 7211114; omega⟩ hP [wXt g A A1 A2 aq r.2, [(o, .inl (g 6, 1, .inr (.inl (oxI r.1 f))))], [(o2, .inl (g 7, 1, .inr (.inr (.inr (.inl dd)))))]] rfl 0 rfl rfl rfl hl.1 rfl (Nat.le_of_ble_eq_true rfl) dL_law_2635 ?_
  refine lv_iload F.1 F.2.1 dL_law_2638 (lv_at hl 1 rfl) ?_
  refine lv_icmp_eq (tgt := 2645) F.1 F.2.1 dL_law_2640 (by decide) (fun _ => ?_) (fun k9 => absurd hth k9)
  refine lv_iload F.1 F.2.1 dL_law_2645 (lv_at hl 1 rfl) ?_
  refine lv_if_ne (tgt := 2662) F.1 F.2.1 dL_law_2647 (by decide) (fun kz => ?_) (fun kz => ?_)
  · refine lv_goto (tgt := 2665) F.1 F.2.1 dL_law_2662 (by decide) ?_
    exact kk aq (oxI r.1 f) dd H locs _ _ ls hP hD hS (by omega) (by omega) (lv_sub hl [2, 3, 4, 5, 6, 7] rfl)
  · refine lv_aload_n F.1 F.2.1 dL_law_2650 rfl (lv_at hl 5 rfl) ?_
    refine lv_iconst (v := 0) F.1 F.2.1 dL_law_2651 (by decide) ?_
    refine va_lald F.1 F.2.1 hE.1 hP 387 6 rfl rfl (inR_in (by decide : inR 0 1 = true)) dL_law_2652 ?_
    refine lv_iload F.1 F.2.1 dL_law_2653 (lv_at hl 0 rfl) ?_
    refine lv_i2l F.1 F.2.1 dL_law_2655 rfl ?_
    refine W.lcmp F.1 F.2.1 dL_law_2656 ?_
    refine lv_if_eq (tgt := 2662) F.1 F.2.1 dL_law_2657 (by decide) (fun _ => ?_) (fun k9 => absurd (by show lg_cmp (oxI r.1 f 0) rm.1.toInt64 = 0; rw [hag kz]; exact lg_cmp_self _) k9)
    refine lv_goto (tgt := 2665) F.1 F.2.1 dL_law_2662 (by decide) ?_
    exact kk aq (oxI r.1 f) dd H locs _ _ ls hP hD hS (by omega) (by omega) (lv_sub hl [2, 3, 4, 5, 6, 7] rfl)
