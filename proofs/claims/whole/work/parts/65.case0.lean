set_option maxHeartbeats 4000000 in
set_option maxRecDepth 100000 in
theorem cs_addSpool {p : Program} {l : Launch} {e : Env} {s : State} {m : MethodId} {below : List Frame} {meth : Method} {c : Code} {H : Heap} {locs : List Loc} {cells slots : Nat} {Q : State → Prop} {ls : Array Slot} {dC : Nat → ClassId} {dI : Nat → Nat → Nat} {g : Nat → ClassId} {A : Nat → Nat} {A1 A2 : Nat → Nat → Nat} {aq o o2 : Nat} {B : Nat → Nat} {AA : Nat → Prop} {b L : Nat} {xs : Nat → Int32} {i : Int32} {u : XT} {f : Nat → Int64} {dd : Nat → UInt64} {v : MT} (hl9 : l.stackTraces = false) (F : CF p m c code 9 s #[.ref b] RL) (hE : EK dC dI g s) (hX : EX g AA s s.heap) (hA : ∀ q : Nat, s.heap.size ≤ q → AA q) (hXs : va_X b L xs s s.heap) (hbl : b < s.heap.size) (hbA : ¬ AA b) (j1 : inR (i + 1) L = true) (j2 : inR (i + 2) L = true) {r : (Except String Int32) × XT} (hx : gX12_addSpool u (c16 (xs (i + 1).toNatClampNeg)) (xs (i + 2).toNatClampNeg) = some r) {k : Int32} (hk : kx ["java/lang/IllegalArgumentException", "java/lang/IllegalStateException"] r.1 = some k) {rm : Int32 × MT} (hm : gX13_addSpool v (c16 (xs (i + 1).toNatClampNeg)) (xs (i + 2).toNatClampNeg) = some rm) (hth : mt_th rm.2 = k) (hag : k = 0 → oxI r.1 f 0 = rm.1.toInt64) (hc : cells + 1000 ≤ 603072) (hsl : slots + 2000 ≤ 7211114) (hP : va_P (dC, dI) vwCl (WL g A A1 A2 aq o o2 B u f dd v) H) (hD : va_D AA (WL g A A1 A2 aq o o2 B u f dd v)) (hS : va_S AA s.heap H locs) (hl : lv_has ls 9 [(0, .ref b), (1, .ref (A 0)), (2, .ref (B 0)), (3, .ref o), (4, .ref o2), (5, .int i)])
    (kk : ∀ (aq1 : Nat) (f1 : Nat → Int64) (dd1 : Nat → UInt64) (H1 : Heap) (locs1 : List Loc) (cells1 slots1 : Nat) (ls1 : Array Slot), va_P (dC, dI) vwCl (WL g A A1 A2 aq1 o o2 B r.2 f1 dd1 rm.2) H1 → va_D AA (WL g A A1 A2 aq1 o o2 B r.2 f1 dd1 rm.2) → va_S AA s.heap H1 locs1 → cells1 ≤ cells + 1000 → slots1 ≤ slots + 2000 → lv_has ls1 9 [(0, .ref b), (1, .ref (A 0)), (2, .ref (B 0)), (3, .ref o), (4, .ref o2), (5, .int i)] → W p l e room_1 s m #[.ref b] below meth c H1 locs1 cells1 slots1 Q (F0 m 2665 ls1 [])) : W p l e room_1 s m #[.ref b] below meth c H locs cells slots Q (F0 m 264 ls []) := by
  refine lv_aload_n F.1 F.2.1 dL_law_264 rfl (lv_at hl 1 rfl) ?_
  refine lv_aload_n F.1 F.2.1 dL_law_265 rfl (lv_at hl 0 rfl) ?_
  refine lv_iload F.1 F.2.1 dL_law_266 (lv_at hl 5 rfl) ?_
  refine lv_iconst (v := 1) F.1 F.2.1 dL_law_268 (by decide) ?_
  refine lv_iadd F.1 F.2.1 dL_law_269 ?_
  refine va_sld F.1 F.2.1 hXs hbl hbA hS (inR_in j1) dL_law_270 ?_
  refine lv_i2c (v := c16 (xs (i + 1).toNatClampNeg)) F.1 F.2.1 dL_law_271 rfl ?_
  refine lv_aload_n F.1 F.2.1 dL_law_272 rfl (lv_at hl 0 rfl) ?_
  refine lv_iload F.1 F.2.1 dL_law_273 (lv_at hl 5 rfl) ?_
  refine lv_iconst (v := 2) F.1 F.2.1 dL_law_275 (by decide) ?_
  refine lv_iadd F.1 F.2.1 dL_law_276 ?_
  refine va_sld F.1 F.2.1 hXs hbl hbA hS (inR_in j2) dL_law_277 ?_
  refine lv_aload_n F.1 F.2.1 dL_law_278 rfl (lv_at hl 3 rfl) ?_
  refine cZS (As := [.ref (A 0), .int (c16 (xs (i + 1).toNatClampNeg)), .int (xs (i + 2).toNatClampNeg), .ref o]) (rest := []) (post := catp [[(o2, .inl (g 7, 1, .inr (.inr (.inr (.inl dd)))))], wMt g B v] []) F hE hX (tL_addSpool l hl9 dC dI g A A1 A2 aq o f u (c16 (xs (i + 1).toNatClampNeg)) (xs (i + 2).toNatClampNeg) hx hk) mbL_addSpool q919 ⟨(Nat.le_of_ble_eq_true rfl), (Nat.le_of_ble_eq_true rfl)⟩ ⟨by show _ ≤ 603072; omega, by show _ ≤ 7211114; omega⟩ hP hD hS hA [] rfl rfl hl.1 rfl (Nat.le_of_ble_eq_true rfl) dL_law_279 (fun b9 H locs hP hD hS => ?_)
  replace hP : va_P (dC, dI) vwCl (WL g A A1 A2 aq o o2 B r.2 (oxI r.1 f) dd v) H := hP
  replace hD : va_D AA (WL g A A1 A2 aq o o2 B r.2 (oxI r.1 f) dd v) := hD
  refine lv_istore (lv' := [(6, .int k), (0, .ref b), (1, .ref (A 0)), (2, .ref (B 0)), (3, .ref o), (4, .ref o2), (5, .int i)]) F.1 F.2.1 dL_law_282 hl (by decide) rfl (fun ls hl => ?_)
  refine lv_aload_n F.1 F.2.1 dL_law_284 rfl (lv_at hl 3 rfl) ?_
  refine lv_aload_n F.1 F.2.1 dL_law_285 rfl (lv_at hl 1 rfl) ?_
  refine lv_iload F.1 F.2.1 dL_law_286 (lv_at hl 6 rfl) ?_
  refine lv_iconst (v := 1) F.1 F.2.1 dL_law_288 (by decide) ?_
  refine lv_iadd F.1 F.2.1 dL_law_289 ?_
  refine va_sld F.1 F.2.1 hXs hbl hbA hS (inR_in j1) dL_law_290 ?_
  refine lv_i2c (v := c16 (xs (i + 1).toNatClampNeg)) F.1 F.2.1 dL_law_291 rfl ?_
  refine lv_aload_n F.1 F.2.1 dL_law_292 rfl (lv_at hl 1 rfl) ?_
  refine lv_iload F.1 F.2.1 dL_law_293 (lv_at hl 6 rfl) ?_
  refine lv_iconst (v := 2) F.1 F.2.1 dL_law_295 (by decide) ?_
  refine lv_iadd F.1 F.2.1 dL_law_296 ?_
  refine va_sld F.1 F.2.1 hXs hbl hbA hS (inR_in j2) dL_law_297 ?_
  refine cMV1 (As := [.int (c16 (xs (i + 1).toNatClampNeg)), .int (xs (i + 2).toNatClampNeg)]) (rest := []) (post := catp [] []) (ws' := WL g A A1 A2 aq o o2 B r.2 (oxI r.1 f) dd rm.2) F hE hX (kX13_addSpool l dC dI g B v (c16 (xs (i + 1).toNatClampNeg)) (xs (i + 2).toNatClampNeg) hm) mbX13_addSpool q1742 ⟨(Nat.le_of_ble_eq_true rfl), (Nat.le_of_ble_eq_true rfl)⟩ ⟨by show _ ≤ 603072; omega, by show _ ≤ 7211114; omega⟩ hP hD hS hA [wXt g A A1 A2 aq r.2, [(o, .inl (g 6, 1, .inr (.inl (oxI r.1 f))))], [(o2, .inl (g 7, 1, .inr (.inr (.inr (.inl dd)))))]] rfl (wMt_fst g B _ _) rfl 0 rfl rfl rfl hl.1 rfl (Nat.le_of_ble_eq_true rfl) dL_law_298 (fun H locs hP hD hS => ?_)
  replace hP : va_P (dC, dI) vwCl (WL g A A1 A2 aq o o2 B r.2 (oxI r.1 f) dd rm.2) H := hP
  replace hD : va_D AA (WL g A A1 A2 aq o o2 B r.2 (oxI r.1 f) dd rm.2) := hD
  refine lv_istore (lv' := [(7, .int rm.1), (6, .int k), (0, .ref b), (1, .ref (A 0)), (2, .ref (B 0)), (3, .ref o), (4, .ref o2), (5, .int i)]) F.1 F.2.1 dL_law_301 hl (by decide) rfl (fun ls hl => ?_)
  refine lv_aload_n F.1 F.2.1 dL_law_303 rfl (lv_at hl 4 rfl) ?_
  refine cRV1 (As := []) (rest := []) (post := catp [] []) F hE hX hS (kX13_thrown l dC dI g B rm.2 (r := mt_th rm.2) rfl) mbX13_thrown q1674 ⟨(Nat.le_of_ble_eq_true rfl), (Nat.le_of_ble_eq_true rfl)⟩ ⟨by show _ ≤ 603072; omega, by show _ ≤ 7211114; omega⟩ hP [wXt g A A1 A2 aq r.2, [(o, .inl (g 6, 1, .inr (.inl (oxI r.1 f))))], [(o2, .inl (g 7, 1, .inr (.inr (.inr (.inl dd)))))]] rfl 0 rfl rfl rfl hl.1 rfl (Nat.le_of_ble_eq_true rfl) dL_law_304 ?_
  refine lv_iload F.1 F.2.1 dL_law_307 (lv_at hl 1 rfl) ?_
  refine lv_icmp_eq (tgt := 314) F.1 F.2.1 dL_law_309 (by decide) (fun _ => ?_) (fun k9 => absurd hth k9)
  refine lv_iload F.1 F.2.1 dL_law_314 (lv_at hl 1 rfl) ?_
  refine lv_if_ne (tgt := 331) F.1 F.2.1 dL_law_316 (by decide) (fun kz => ?_) (fun kz => ?_)
  · refine lv_goto (tgt := 2665) F.1 F.2.1 dL_law_331 (by decide) ?_
    exact kk aq (oxI r.1 f) dd H locs _ _ ls hP hD hS (by omega) (by omega) (lv_sub hl [2, 3, 4, 5, 6, 7] rfl)
  · refine lv_aload_n F.1 F.2.1 dL_law_319 rfl (lv_at hl 5 rfl) ?_
    refine lv_iconst (v := 0) F.1 F.2.1 dL_law_320 (by decide) ?_
    refine va_lald F.1 F.2.1 hE.1 hP 387 6 rfl rfl (inR_in (by decide : inR 0 1 = true)) dL_law_321 ?_
    refine lv_iload F.1 F.2.1 dL_law_322 (lv_at hl 0 rfl) ?_
    refine lv_i2l F.1 F.2.1 dL_law_324 rfl ?_
    refine W.lcmp F.1 F.2.1 dL_law_325 ?_
    refine lv_if_eq (tgt := 331) F.1 F.2.1 dL_law_326 (by decide) (fun _ => ?_) (fun k9 => absurd (by show lg_cmp (oxI r.1 f 0) rm.1.toInt64 = 0; rw [hag kz]; exact lg_cmp_self _) k9)
    refine lv_goto (tgt := 2665) F.1 F.2.1 dL_law_331 (by decide) ?_
    exact kk aq (oxI r.1 f) dd H locs _ _ ls hP hD hS (by omega) (by omega) (lv_sub hl [2, 3, 4, 5, 6, 7] rfl)
set_option maxHeartbeats 4000000 in
set_option maxRecDepth 100000 in
theorem cs_retire {p : Program} {l : Launch} {e : Env} {s : State} {m : MethodId} {below : List Frame} {meth : Method} {c : Code} {H : Heap} {locs : List Loc} {cells slots : Nat} {Q : State → Prop} {ls : Array Slot} {dC : Nat → ClassId} {dI : Nat → Nat → Nat} {g : Nat → ClassId} {A : Nat → Nat} {A1 A2 : Nat → Nat → Nat} {aq o o2 : Nat} {B : Nat → Nat} {AA : Nat → Prop} {b L : Nat} {xs : Nat → Int32} {i : Int32} {u : XT} {f : Nat → Int64} {dd : Nat → UInt64} {v : MT} (hl9 : l.stackTraces = false) (F : CF p m c code 9 s #[.ref b] RL) (hE : EK dC dI g s) (hX : EX g AA s s.heap) (hA : ∀ q : Nat, s.heap.size ≤ q → AA q) (hXs : va_X b L xs s s.heap) (hbl : b < s.heap.size) (hbA : ¬ AA b) (j1 : inR (i + 1) L = true) {r : (Except String Int32) × XT} (hx : gX12_retire u (xs (i + 1).toNatClampNeg) = some r) {k : Int32} (hk : kx ["java/util/NoSuchElementException"] r.1 = some k) {rm : Int32 × MT} (hm : gX13_retire v (xs (i + 1).toNatClampNeg) = some rm) (hth : mt_th rm.2 = k) (hag : k = 0 → oxI r.1 f 0 = rm.1.toInt64) (hc : cells + 1000 ≤ 603072) (hsl : slots + 2000 ≤ 7211114) (hP : va_P (dC, dI) vwCl (WL g A A1 A2 aq o o2 B u f dd v) H) (hD : va_D AA (WL g A A1 A2 aq o o2 B u f dd v)) (hS : va_S AA s.heap H locs) (hl : lv_has ls 9 [(0, .ref b), (1, .ref (A 0)), (2, .ref (B 0)), (3, .ref o), (4, .ref o2), (5, .int i)])
    (kk : ∀ (aq1 : Nat) (f1 : Nat → Int64) (dd1 : Nat → UInt64) (H1 : Heap) (locs1 : List Loc) (cells1 slots1 : Nat) (ls1 : Array Slot), va_P (dC, dI) vwCl (WL g A A1 A2 aq1 o o2 B r.2 f1 dd1 rm.2) H1 → va_D AA (WL g A A1 A2 aq1 o o2 B r.2 f1 dd1 rm.2) → va_S AA s.heap H1 locs1 → cells1 ≤ cells + 1000 → slots1 ≤ slots + 2000 → lv_has ls1 9 [(0, .ref b), (1, .ref (A 0)), (2, .ref (B 0)), (3, .ref o), (4, .ref o2), (5, .int i)] → W p l e room_1 s m #[.ref b] below meth c H1 locs1 cells1 slots1 Q (F0 m 2665 ls1 [])) : W p l e room_1 s m #[.ref b] below meth c H locs cells slots Q (F0 m 334 ls []) := by
  refine lv_aload_n F.1 F.2.1 dL_law_334 rfl (lv_at hl 1 rfl) ?_
  refine lv_aload_n F.1 F.2.1 dL_law_335 rfl (lv_at hl 0 rfl) ?_
  refine lv_iload F.1 F.2.1 dL_law_336 (lv_at hl 5 rfl) ?_
  refine lv_iconst (v := 1) F.1 F.2.1 dL_law_338 (by decide) ?_
  refine lv_iadd F.1 F.2.1 dL_law_339 ?_
  refine va_sld F.1 F.2.1 hXs hbl hbA hS (inR_in j1) dL_law_340 ?_
  refine lv_aload_n F.1 F.2.1 dL_law_341 rfl (lv_at hl 3 rfl) ?_
  refine cZS (As := [.ref (A 0), .int (xs (i + 1).toNatClampNeg), .ref o]) (rest := []) (post := catp [[(o2, .inl (g 7, 1, .inr (.inr (.inr (.inl dd)))))], wMt g B v] []) F hE hX (tL_retire l hl9 dC dI g A A1 A2 aq o f u (xs (i + 1).toNatClampNeg) hx hk) mbL_retire q979 ⟨(Nat.le_of_ble_eq_true rfl), (Nat.le_of_ble_eq_true rfl)⟩ ⟨by show _ ≤ 603072; omega, by show _ ≤ 7211114; omega⟩ hP hD hS hA [] rfl rfl hl.1 rfl (Nat.le_of_ble_eq_true rfl) dL_law_342 (fun b9 H locs hP hD hS => ?_)
  replace hP : va_P (dC, dI) vwCl (WL g A A1 A2 aq o o2 B r.2 (oxI r.1 f) dd v) H := hP
  replace hD : va_D AA (WL g A A1 A2 aq o o2 B r.2 (oxI r.1 f) dd v) := hD
  refine lv_istore (lv' := [(6, .int k), (0, .ref b), (1, .ref (A 0)), (2, .ref (B 0)), (3, .ref o), (4, .ref o2), (5, .int i)]) F.1 F.2.1 dL_law_345 hl (by decide) rfl (fun ls hl => ?_)
  refine lv_aload_n F.1 F.2.1 dL_law_347 rfl (lv_at hl 3 rfl) ?_
  refine lv_aload_n F.1 F.2.1 dL_law_348 rfl (lv_at hl 1 rfl) ?_
  refine lv_iload F.1 F.2.1 dL_law_349 (lv_at hl 6 rfl) ?_
  refine lv_iconst (v := 1) F.1 F.2.1 dL_law_351 (by decide) ?_
  refine lv_iadd F.1 F.2.1 dL_law_352 ?_
  refine va_sld F.1 F.2.1 hXs hbl hbA hS (inR_in j1) dL_law_353 ?_
  refine cMV1 (As := [.int (xs (i + 1).toNatClampNeg)]) (rest := []) (post := catp [] []) (ws' := WL g A A1 A2 aq o o2 B r.2 (oxI r.1 f) dd rm.2) F hE hX (kX13_retire l dC dI g B v (xs (i + 1).toNatClampNeg) hm) mbX13_retire q1776 ⟨(Nat.le_of_ble_eq_true rfl), (Nat.le_of_ble_eq_true rfl)⟩ ⟨by show _ ≤ 603072; omega, by show _ ≤ 7211114; omega⟩ hP hD hS hA [wXt g A A1 A2 aq r.2, [(o, .inl (g 6, 1, .inr (.inl (oxI r.1 f))))], [(o2, .inl (g 7, 1, .inr (.inr (.inr (.inl dd)))))]] rfl (wMt_fst g B _ _) rfl 0 rfl rfl rfl hl.1 rfl (Nat.le_of_ble_eq_true rfl) dL_law_354 (fun H locs hP hD hS => ?_)
  replace hP : va_P (dC, dI) vwCl (WL g A A1 A2 aq o o2 B r.2 (oxI r.1 f) dd rm.2) H := hP
  replace hD : va_D AA (WL g A A1 A2 aq o o2 B r.2 (oxI r.1 f) dd rm.2) := hD
  refine lv_istore (lv' := [(7, .int rm.1), (6, .int k), (0, .ref b), (1, .ref (A 0)), (2, .ref (B 0)), (3, .ref o), (4, .ref o2), (5, .int i)]) F.1 F.2.1 dL_law_357 hl (by decide) rfl (fun ls hl => ?_)
  refine lv_aload_n F.1 F.2.1 dL_law_359 rfl (lv_at hl 4 rfl) ?_
  refine cRV1 (As := []) (rest := []) (post := catp [] []) F hE hX hS (kX13_thrown l dC dI g B rm.2 (r := mt_th rm.2) rfl) mbX13_thrown q1674 ⟨(Nat.le_of_ble_eq_true rfl), (Nat.le_of_ble_eq_true rfl)⟩ ⟨by show _ ≤ 603072; omega, by show _ ≤ 7211114; omega⟩ hP [wXt g A A1 A2 aq r.2, [(o, .inl (g 6, 1, .inr (.inl (oxI r.1 f))))], [(o2, .inl (g 7, 1, .inr (.inr (.inr (.inl dd)))))]] rfl 0 rfl rfl rfl hl.1 rfl (Nat.le_of_ble_eq_true rfl) dL_law_360 ?_
  refine lv_iload F.1 F.2.1 dL_law_363 (lv_at hl 1 rfl) ?_
  refine lv_icmp_eq (tgt := 370) F.1 F.2.1 dL_law_365 (by decide) (fun _ => ?_) (fun k9 => absurd hth k9)
  refine lv_iload F.1 F.2.1 dL_law_370 (lv_at hl 1 rfl) ?_
  refine lv_if_ne (tgt := 387) F.1 F.2.1 dL_law_372 (by decide) (fun kz => ?_) (fun kz => ?_)
  · refine lv_goto (tgt := 2665) F.1 F.2.1 dL_law_387 (by decide) ?_
    exact kk aq (oxI r.1 f) dd H locs _ _ ls hP hD hS (by omega) (by omega) (lv_sub hl [2, 3, 4, 5, 6, 7] rfl)
  · refine lv_aload_n F.1 F.2.1 dL_law_375 rfl (lv_at hl 5 rfl) ?_
    refine lv_iconst (v := 0) F.1 F.2.1 dL_law_376 (by decide) ?_
    refine va_lald F.1 F.2.1 hE.1 hP 387 6 rfl rfl (inR_in (by decide : inR 0 1 = true)) dL_law_377 ?_
    refine lv_iload F.1 F.2.1 dL_law_378 (lv_at hl 0 rfl) ?_
    refine lv_i2l F.1 F.2.1 dL_law_380 rfl ?_
    refine W.lcmp F.1 F.2.1 dL_law_381 ?_
    refine lv_if_eq (tgt := 387) F.1 F.2.1 dL_law_382 (by decide) (fun _ => ?_) (fun k9 => absurd (by show lg_cmp (oxI r.1 f 0) rm.1.toInt64 = 0; rw [hag kz]; exact lg_cmp_self _) k9)
    refine lv_goto (tgt := 2665) F.1 F.2.1 dL_law_387 (by decide) ?_
    exact kk aq (oxI r.1 f) dd H locs _ _ ls hP hD hS (by omega) (by omega) (lv_sub hl [2, 3, 4, 5, 6, 7] rfl)
set_option maxHeartbeats 4000000 in
set_option maxRecDepth 100000 in
theorem cs_throwScraps {p : Program} {l : Launch} {e : Env} {s : State} {m : MethodId} {below : List Frame} {meth : Method} {c : Code} {H : Heap} {locs : List Loc} {cells slots : Nat} {Q : State → Prop} {ls : Array Slot} {dC : Nat → ClassId} {dI : Nat → Nat → Nat} {g : Nat → ClassId} {A : Nat → Nat} {A1 A2 : Nat → Nat → Nat} {aq o o2 : Nat} {B : Nat → Nat} {AA : Nat → Prop} {b L : Nat} {xs : Nat → Int32} {i : Int32} {u : XT} {f : Nat → Int64} {dd : Nat → UInt64} {v : MT} (hl9 : l.stackTraces = false) (F : CF p m c code 9 s #[.ref b] RL) (hE : EK dC dI g s) (hX : EX g AA s s.heap) (hA : ∀ q : Nat, s.heap.size ≤ q → AA q) (hXs : va_X b L xs s s.heap) (hbl : b < s.heap.size) (hbA : ¬ AA b) (j1 : inR (i + 1) L = true) {r : (Except String Int32) × XT} (hx : gX12_throwScraps u (c16 (xs (i + 1).toNatClampNeg)) = some r) {k : Int32} (hk : kx ["java/lang/IllegalArgumentException"] r.1 = some k) {rm : Int32 × MT} (hm : gX13_throwScraps v (c16 (xs (i + 1).toNatClampNeg)) = some rm) (hth : mt_th rm.2 = k) (hag : k = 0 → oxI r.1 f 0 = rm.1.toInt64) (hc : cells + 1000 ≤ 603072) (hsl : slots + 2000 ≤ 7211114) (hP : va_P (dC, dI) vwCl (WL g A A1 A2 aq o o2 B u f dd v) H) (hD : va_D AA (WL g A A1 A2 aq o o2 B u f dd v)) (hS : va_S AA s.heap H locs) (hl : lv_has ls 9 [(0, .ref b), (1, .ref (A 0)), (2, .ref (B 0)), (3, .ref o), (4, .ref o2), (5, .int i)])
    (kk : ∀ (aq1 : Nat) (f1 : Nat → Int64) (dd1 : Nat → UInt64) (H1 : Heap) (locs1 : List Loc) (cells1 slots1 : Nat) (ls1 : Array Slot), va_P (dC, dI) vwCl (WL g A A1 A2 aq1 o o2 B r.2 f1 dd1 rm.2) H1 → va_D AA (WL g A A1 A2 aq1 o o2 B r.2 f1 dd1 rm.2) → va_S AA s.heap H1 locs1 → cells1 ≤ cells + 1000 → slots1 ≤ slots + 2000 → lv_has ls1 9 [(0, .ref b), (1, .ref (A 0)), (2, .ref (B 0)), (3, .ref o), (4, .ref o2), (5, .int i)] → W p l e room_1 s m #[.ref b] below meth c H1 locs1 cells1 slots1 Q (F0 m 2665 ls1 [])) : W p l e room_1 s m #[.ref b] below meth c H locs cells slots Q (F0 m 390 ls []) := by
  refine lv_aload_n F.1 F.2.1 dL_law_390 rfl (lv_at hl 1 rfl) ?_
  refine lv_aload_n F.1 F.2.1 dL_law_391 rfl (lv_at hl 0 rfl) ?_
  refine lv_iload F.1 F.2.1 dL_law_392 (lv_at hl 5 rfl) ?_
  refine lv_iconst (v := 1) F.1 F.2.1 dL_law_394 (by decide) ?_
  refine lv_iadd F.1 F.2.1 dL_law_395 ?_
  refine va_sld F.1 F.2.1 hXs hbl hbA hS (inR_in j1) dL_law_396 ?_
  refine lv_i2c (v := c16 (xs (i + 1).toNatClampNeg)) F.1 F.2.1 dL_law_397 rfl ?_
  refine lv_aload_n F.1 F.2.1 dL_law_398 rfl (lv_at hl 3 rfl) ?_
  refine cZS (As := [.ref (A 0), .int (c16 (xs (i + 1).toNatClampNeg)), .ref o]) (rest := []) (post := catp [[(o2, .inl (g 7, 1, .inr (.inr (.inr (.inl dd)))))], wMt g B v] []) F hE hX (tL_throwScraps l hl9 dC dI g A A1 A2 aq o f u (c16 (xs (i + 1).toNatClampNeg)) hx hk) mbL_throwScraps q1031 ⟨(Nat.le_of_ble_eq_true rfl), (Nat.le_of_ble_eq_true rfl)⟩ ⟨by show _ ≤ 603072; omega, by show _ ≤ 7211114; omega⟩ hP hD hS hA [] rfl rfl hl.1 rfl (Nat.le_of_ble_eq_true rfl) dL_law_399 (fun b9 H locs hP hD hS => ?_)
  replace hP : va_P (dC, dI) vwCl (WL g A A1 A2 aq o o2 B r.2 (oxI r.1 f) dd v) H := hP
  replace hD : va_D AA (WL g A A1 A2 aq o o2 B r.2 (oxI r.1 f) dd v) := hD
  refine lv_istore (lv' := [(6, .int k), (0, .ref b), (1, .ref (A 0)), (2, .ref (B 0)), (3, .ref o), (4, .ref o2), (5, .int i)]) F.1 F.2.1 dL_law_402 hl (by decide) rfl (fun ls hl => ?_)
  refine lv_aload_n F.1 F.2.1 dL_law_404 rfl (lv_at hl 3 rfl) ?_
  refine lv_aload_n F.1 F.2.1 dL_law_405 rfl (lv_at hl 1 rfl) ?_
  refine lv_iload F.1 F.2.1 dL_law_406 (lv_at hl 6 rfl) ?_
  refine lv_iconst (v := 1) F.1 F.2.1 dL_law_408 (by decide) ?_
  refine lv_iadd F.1 F.2.1 dL_law_409 ?_
  refine va_sld F.1 F.2.1 hXs hbl hbA hS (inR_in j1) dL_law_410 ?_
  refine lv_i2c (v := c16 (xs (i + 1).toNatClampNeg)) F.1 F.2.1 dL_law_411 rfl ?_
  refine cMV1 (As := [.int (c16 (xs (i + 1).toNatClampNeg))]) (rest := []) (post := catp [] []) (ws' := WL g A A1 A2 aq o o2 B r.2 (oxI r.1 f) dd rm.2) F hE hX (kX13_throwScraps l dC dI g B v (c16 (xs (i + 1).toNatClampNeg)) hm) mbX13_throwScraps q1808 ⟨(Nat.le_of_ble_eq_true rfl), (Nat.le_of_ble_eq_true rfl)⟩ ⟨by show _ ≤ 603072; omega, by show _ ≤ 7211114; omega⟩ hP hD hS hA [wXt g A A1 A2 aq r.2, [(o, .inl (g 6, 1, .inr (.inl (oxI r.1 f))))], [(o2, .inl (g 7, 1, .inr (.inr (.inr (.inl dd)))))]] rfl (wMt_fst g B _ _) rfl 0 rfl rfl rfl hl.1 rfl (Nat.le_of_ble_eq_true rfl) dL_law_412 (fun H locs hP hD hS => ?_)
  replace hP : va_P (dC, dI) vwCl (WL g A A1 A2 aq o o2 B r.2 (oxI r.1 f) dd rm.2) H := hP
  replace hD : va_D AA (WL g A A1 A2 aq o o2 B r.2 (oxI r.1 f) dd rm.2) := hD
  refine lv_istore (lv' := [(7, .int rm.1), (6, .int k), (0, .ref b), (1, .ref (A 0)), (2, .ref (B 0)), (3, .ref o), (4, .ref o2), (5, .int i)]) F.1 F.2.1 dL_law_415 hl (by decide) rfl (fun ls hl => ?_)
  refine lv_aload_n F.1 F.2.1 dL_law_417 rfl (lv_at hl 4 rfl) ?_
  refine cRV1 (As := []) (rest := []) (post := catp [] []) F hE hX hS (kX13_thrown l dC dI g B rm.2 (r := mt_th rm.2) rfl) mbX13_thrown q1674 ⟨(Nat.le_of_ble_eq_true rfl), (Nat.le_of_ble_eq_true rfl)⟩ ⟨by show _ ≤ 603072; omega, by show _ ≤ 7211114; omega⟩ hP [wXt g A A1 A2 aq r.2, [(o, .inl (g 6, 1, .inr (.inl (oxI r.1 f))))], [(o2, .inl (g 7, 1, .inr (.inr (.inr (.inl dd)))))]] rfl 0 rfl rfl rfl hl.1 rfl (Nat.le_of_ble_eq_true rfl) dL_law_418 ?_
  refine lv_iload F.1 F.2.1 dL_law_421 (lv_at hl 1 rfl) ?_
  refine lv_icmp_eq (tgt := 428) F.1 F.2.1 dL_law_423 (by decide) (fun _ => ?_) (fun k9 => absurd hth k9)
  refine lv_iload F.1 F.2.1 dL_law_428 (lv_at hl 1 rfl) ?_
  refine lv_if_ne (tgt := 445) F.1 F.2.1 dL_law_430 (by decide) (fun kz => ?_) (fun kz => ?_)
  · refine lv_goto (tgt := 2665) F.1 F.2.1 dL_law_445 (by decide) ?_
    exact kk aq (oxI r.1 f) dd H locs _ _ ls hP hD hS (by omega) (by omega) (lv_sub hl [2, 3, 4, 5, 6, 7] rfl)
  · refine lv_aload_n F.1 F.2.1 dL_law_433 rfl (lv_at hl 5 rfl) ?_
    refine lv_iconst (v := 0) F.1 F.2.1 dL_law_434 (by decide) ?_
    refine va_lald F.1 F.2.1 hE.1 hP 387 6 rfl rfl (inR_in (by decide : inR 0 1 = true)) dL_law_435 ?_
    refine lv_iload F.1 F.2.1 dL_law_436 (lv_at hl 0 rfl) ?_
    refine lv_i2l F.1 F.2.1 dL_law_438 rfl ?_
    refine W.lcmp F.1 F.2.1 dL_law_439 ?_
    refine lv_if_eq (tgt := 445) F.1 F.2.1 dL_law_440 (by decide) (fun _ => ?_) (fun k9 => absurd (by show lg_cmp (oxI r.1 f 0) rm.1.toInt64 = 0; rw [hag kz]; exact lg_cmp_self _) k9)
    refine lv_goto (tgt := 2665) F.1 F.2.1 dL_law_445 (by decide) ?_
    exact kk aq (oxI r.1 f) dd H locs _ _ ls hP hD hS (by omega) (by omega) (lv_sub hl [2, 3, 4, 5, 6, 7] rfl)
set_option maxHeartbeats 4000000 in
set_option maxRecDepth 100000 in
theorem cs_addOrder {p : Program} {l : Launch} {e : Env} {s : State} {m : MethodId} {below : List Frame} {meth : Method} {c : Code} {H : Heap} {locs : List Loc} {cells slots : Nat} {Q : State → Prop} {ls : Array Slot} {dC : Nat → ClassId} {dI : Nat → Nat → Nat} {g : Nat → ClassId} {A : Nat → Nat} {A1 A2 : Nat → Nat → Nat} {aq o o2 : Nat} {B : Nat → Nat} {AA : Nat → Prop} {b L : Nat} {xs : Nat → Int32} {i : Int32} {u : XT} {f : Nat → Int64} {dd : Nat → UInt64} {v : MT} (hl9 : l.stackTraces = false) (F : CF p m c code 9 s #[.ref b] RL) (hE : EK dC dI g s) (hX : EX g AA s s.heap) (hA : ∀ q : Nat, s.heap.size ≤ q → AA q) (hXs : va_X b L xs s s.heap) (hbl : b < s.heap.size) (hbA : ¬ AA b) (j1 : inR (i + 1) L = true) (j2 : inR (i + 2) L = true) (j3 : inR (i + 3) L = true) {r : (Except String Int32) × XT} (hx : gX12_addOrder u (c16 (xs (i + 1).toNatClampNeg)) (xs (i + 2).toNatClampNeg) (xs (i + 3).toNatClampNeg) = some r) {k : Int32} (hk : kx ["java/lang/IllegalArgumentException", "java/lang/IllegalStateException"] r.1 = some k) {rm : Int32 × MT} (hm : gX13_addOrder v (c16 (xs (i + 1).toNatClampNeg)) (xs (i + 2).toNatClampNeg) (xs (i + 3).toNatClampNeg) = some rm) (hth : mt_th rm.2 = k) (hag : k = 0 → oxI r.1 f 0 = rm.1.toInt64) (hc : cells + 1000 ≤ 603072) (hsl : slots + 2000 ≤ 7211114) (hP : va_P (dC, dI) vwCl (WL g A A1 A2 aq o o2 B u f dd v) H) (hD : va_D AA (WL g A A1 A2 aq o o2 B u f dd v)) (hS : va_S AA s.heap H locs) (hl : lv_has ls 9 [(0, .ref b), (1, .ref (A 0)), (2, .ref (B 0)), (3, .ref o), (4, .ref o2), (5, .int i)])
    (kk : ∀ (aq1 : Nat) (f1 : Nat → Int64) (dd1 : Nat → UInt64) (H1 : Heap) (locs1 : List Loc) (cells1 slots1 : Nat) (ls1 : Array Slot), va_P (dC, dI) vwCl (WL g A A1 A2 aq1 o o2 B r.2 f1 dd1 rm.2) H1 → va_D AA (WL g A A1 A2 aq1 o o2 B r.2 f1 dd1 rm.2) → va_S AA s.heap H1 locs1 → cells1 ≤ cells + 1000 → slots1 ≤ slots + 2000 → lv_has ls1 9 [(0, .ref b), (1, .ref (A 0)), (2, .ref (B 0)), (3, .ref o), (4, .ref o2), (5, .int i)] → W p l e room_1 s m #[.ref b] below meth c H1 locs1 cells1 slots1 Q (F0 m 2665 ls1 [])) : W p l e room_1 s m #[.ref b] below meth c H locs cells slots Q (F0 m 448 ls []) := by
  refine lv_aload_n F.1 F.2.1 dL_law_448 rfl (lv_at hl 1 rfl) ?_
  refine lv_aload_n F.1 F.2.1 dL_law_449 rfl (lv_at hl 0 rfl) ?_
  refine lv_iload F.1 F.2.1 dL_law_450 (lv_at hl 5 rfl) ?_
  refine lv_iconst (v := 1) F.1 F.2.1 dL_law_452 (by decide) ?_
  refine lv_iadd F.1 F.2.1 dL_law_453 ?_
  refine va_sld F.1 F.2.1 hXs hbl hbA hS (inR_in j1) dL_law_454 ?_
  refine lv_i2c (v := c16 (xs (i + 1).toNatClampNeg)) F.1 F.2.1 dL_law_455 rfl ?_
  refine lv_aload_n F.1 F.2.1 dL_law_456 rfl (lv_at hl 0 rfl) ?_
  refine lv_iload F.1 F.2.1 dL_law_457 (lv_at hl 5 rfl) ?_
  refine lv_iconst (v := 2) F.1 F.2.1 dL_law_459 (by decide) ?_
  refine lv_iadd F.1 F.2.1 dL_law_460 ?_
  refine va_sld F.1 F.2.1 hXs hbl hbA hS (inR_in j2) dL_law_461 ?_
  refine lv_aload_n F.1 F.2.1 dL_law_462 rfl (lv_at hl 0 rfl) ?_
  refine lv_iload F.1 F.2.1 dL_law_463 (lv_at hl 5 rfl) ?_
  refine lv_iconst (v := 3) F.1 F.2.1 dL_law_465 (by decide) ?_
  refine lv_iadd F.1 F.2.1 dL_law_466 ?_
  refine va_sld F.1 F.2.1 hXs hbl hbA hS (inR_in j3) dL_law_467 ?_
  refine lv_aload_n F.1 F.2.1 dL_law_468 rfl (lv_at hl 3 rfl) ?_
  refine cZS (As := [.ref (A 0), .int (c16 (xs (i + 1).toNatClampNeg)), .int (xs (i + 2).toNatClampNeg), .int (xs (i + 3).toNatClampNeg), .ref o]) (rest := []) (post := catp [[(o2, .inl (g 7, 1, .inr (.inr (.inr (.inl dd)))))], wMt g B v] []) F hE hX (tL_addOrder l hl9 dC dI g A A1 A2 aq o f u (c16 (xs (i + 1).toNatClampNeg)) (xs (i + 2).toNatClampNeg) (xs (i + 3).toNatClampNeg) hx hk) mbL_addOrder q1052 ⟨(Nat.le_of_ble_eq_true rfl), (Nat.le_of_ble_eq_true rfl)⟩ ⟨by show _ ≤ 603072; omega, by show _ ≤ 7211114; omega⟩ hP hD hS hA [] rfl rfl hl.1 rfl (Nat.le_of_ble_eq_true rfl) dL_law_469 (fun b9 H locs hP hD hS => ?_)
  replace hP : va_P (dC, dI) vwCl (WL g A A1 A2 aq o o2 B r.2 (oxI r.1 f) dd v) H := hP
  replace hD : va_D AA (WL g A A1 A2 aq o o2 B r.2 (oxI r.1 f) dd v) := hD
  refine lv_istore (lv' := [(6, .int k), (0, .ref b), (1, .ref (A 0)), (2, .ref (B 0)), (3, .ref o), (4, .ref o2), (5, .int i)]) F.1 F.2.1 dL_law_472 hl (by decide) rfl (fun ls hl => ?_)
  refine lv_aload_n F.1 F.2.1 dL_law_474 rfl (lv_at hl 3 rfl) ?_
  refine lv_aload_n F.1 F.2.1 dL_law_475 rfl (lv_at hl 1 rfl) ?_
  refine lv_iload F.1 F.2.1 dL_law_476 (lv_at hl 6 rfl) ?_
  refine lv_iconst (v := 1) F.1 F.2.1 dL_law_478 (by decide) ?_
  refine lv_iadd F.1 F.2.1 dL_law_479 ?_
  refine va_sld F.1 F.2.1 hXs hbl hbA hS (inR_in j1) dL_law_480 ?_
  refine lv_i2c (v := c16 (xs (i + 1).toNatClampNeg)) F.1 F.2.1 dL_law_481 rfl ?_
  refine lv_aload_n F.1 F.2.1 dL_law_482 rfl (lv_at hl 1 rfl) ?_
  refine lv_iload F.1 F.2.1 dL_law_483 (lv_at hl 6 rfl) ?_
  refine lv_iconst (v := 2) F.1 F.2.1 dL_law_485 (by decide) ?_
  refine lv_iadd F.1 F.2.1 dL_law_486 ?_
  refine va_sld F.1 F.2.1 hXs hbl hbA hS (inR_in j2) dL_law_487 ?_
  refine lv_aload_n F.1 F.2.1 dL_law_488 rfl (lv_at hl 1 rfl) ?_
  refine lv_iload F.1 F.2.1 dL_law_489 (lv_at hl 6 rfl) ?_
  refine lv_iconst (v := 3) F.1 F.2.1 dL_law_491 (by decide) ?_
  refine lv_iadd F.1 F.2.1 dL_law_492 ?_
  refine va_sld F.1 F.2.1 hXs hbl hbA hS (inR_in j3) dL_law_493 ?_
  refine cMV1 (As := [.int (c16 (xs (i + 1).toNatClampNeg)), .int (xs (i + 2).toNatClampNeg), .int (xs (i + 3).toNatClampNeg)]) (rest := []) (post := catp [] []) (ws' := WL g A A1 A2 aq o o2 B r.2 (oxI r.1 f) dd rm.2) F hE hX (kX13_addOrder l dC dI g B v (c16 (xs (i + 1).toNatClampNeg)) (xs (i + 2).toNatClampNeg) (xs (i + 3).toNatClampNeg) hm) mbX13_addOrder q1827 ⟨(Nat.le_of_ble_eq_true rfl), (Nat.le_of_ble_eq_true rfl)⟩ ⟨by show _ ≤ 603072; omega, by show _ ≤ 7211114; omega⟩ hP hD hS hA [wXt g A A1 A2 aq r.2, [(o, .inl (g 6, 1, .inr (.inl (oxI r.1 f))))], [(o2, .inl (g 7, 1, .inr (.inr (.inr (.inl dd)))))]] rfl (wMt_fst g B _ _) rfl 0 rfl rfl rfl hl.1 rfl (Nat.le_of_ble_eq_true rfl) dL_law_494 (fun H locs hP hD hS => ?_)
  replace hP : va_P (dC, dI) vwCl (WL g A A1 A2 aq o o2 B r.2 (oxI r.1 f) dd rm.2) H := hP
  replace hD : va_D AA (WL g A A1 A2 aq o o2 B r.2 (oxI r.1 f) dd rm.2) := hD
  refine lv_istore (lv' := [(7, .int rm.1), (6, .int k), (0, .ref b), (1, .ref (A 0)), (2, .ref (B 0)), (3, .ref o), (4, .ref o2), (5, .int i)]) F.1 F.2.1 dL_law_497 hl (by decide) rfl (fun ls hl => ?_)
  refine lv_aload_n F.1 F.2.1 dL_law_499 rfl (lv_at hl 4 rfl) ?_
  refine cRV1 (As := []) (rest := []) (post := catp [] []) F hE hX hS (kX13_thrown l dC dI g B rm.2 (r := mt_th rm.2) rfl) mbX13_thrown q1674 ⟨(Nat.le_of_ble_eq_true rfl), (Nat.le_of_ble_eq_true rfl)⟩ ⟨by show _ ≤ 603072; omega, by show _ ≤ 7211114; omega⟩ hP [wXt g A A1 A2 aq r.2, [(o, .inl (g 6, 1, .inr (.inl (oxI r.1 f))))], [(o2, .inl (g 7, 1, .inr (.inr (.inr (.inl dd)))))]] rfl 0 rfl rfl rfl hl.1 rfl (Nat.le_of_ble_eq_true rfl) dL_law_500 ?_
  refine lv_iload F.1 F.2.1 dL_law_503 (lv_at hl 1 rfl) ?_
  refine lv_icmp_eq (tgt := 510) F.1 F.2.1 dL_law_505 (by decide) (fun _ => ?_) (fun k9 => absurd hth k9)
  refine lv_iload F.1 F.2.1 dL_law_510 (lv_at hl 1 rfl) ?_
  refine lv_if_ne (tgt := 527) F.1 F.2.1 dL_law_512 (by decide) (fun kz => ?_) (fun kz => ?_)
  · refine lv_goto (tgt := 2665) F.1 F.2.1 dL_law_527 (by decide) ?_
    exact kk aq (oxI r.1 f) dd H locs _ _ ls hP hD hS (by omega) (by omega) (lv_sub hl [2, 3, 4, 5, 6, 7] rfl)
  · refine lv_aload_n F.1 F.2.1 dL_law_515 rfl (lv_at hl 5 rfl) ?_
    refine lv_iconst (v := 0) F.1 F.2.1 dL_law_516 (by decide) ?_
    refine va_lald F.1 F.2.1 hE.1 hP 387 6 rfl rfl (inR_in (by decide : inR 0 1 = true)) dL_law_517 ?_
    refine lv_iload F.1 F.2.1 dL_law_518 (lv_at hl 0 rfl) ?_
    refine lv_i2l F.1 F.2.1 dL_law_520 rfl ?_
    refine W.lcmp F.1 F.2.1 dL_law_521 ?_
    refine lv_if_eq (tgt := 527) F.1 F.2.1 dL_law_522 (by decide) (fun _ => ?_) (fun k9 => absurd (by show lg_cmp (oxI r.1 f 0) rm.1.toInt64 = 0; rw [hag kz]; exact lg_cmp_self _) k9)
    refine lv_goto (tgt := 2665) F.1 F.2.1 dL_law_527 (by decide) ?_
    exact kk aq (oxI r.1 f) dd H locs _ _ ls hP hD hS (by omega) (by omega) (lv_sub hl [2, 3, 4, 5, 6, 7] rfl)
set_option maxHeartbeats 4000000 in
set_option maxRecDepth 100000 in
theorem cs_cancel {p : Program} {l : Launch} {e : Env} {s : State} {m : MethodId} {below : List Frame} {meth : Method} {c : Code} {H : Heap} {locs : List Loc} {cells slots : Nat} {Q : State → Prop} {ls : Array Slot} {dC : Nat → ClassId} {dI : Nat → Nat → Nat} {g : Nat → ClassId} {A : Nat → Nat} {A1 A2 : Nat → Nat → Nat} {aq o o2 : Nat} {B : Nat → Nat} {AA : Nat → Prop} {b L : Nat} {xs : Nat → Int32} {i : Int32} {u : XT} {f : Nat → Int64} {dd : Nat → UInt64} {v : MT} (hl9 : l.stackTraces = false) (F : CF p m c code 9 s #[.ref b] RL) (hE : EK dC dI g s) (hX : EX g AA s s.heap) (hA : ∀ q : Nat, s.heap.size ≤ q → AA q) (hXs : va_X b L xs s s.heap) (hbl : b < s.heap.size) (hbA : ¬ AA b) (j1 : inR (i + 1) L = true) {r : (Except String Int32) × XT} (hx : gX12_cancel u (xs (i + 1).toNatClampNeg) = some r) {k : Int32} (hk : kx ["java/util/NoSuchElementException"] r.1 = some k) {rm : Int32 × MT} (hm : gX13_cancel v (xs (i + 1).toNatClampNeg) = some rm) (hth : mt_th rm.2 = k) (hag : k = 0 → oxI r.1 f 0 = rm.1.toInt64) (hc : cells + 1000 ≤ 603072) (hsl : slots + 2000 ≤ 7211114) (hP : va_P (dC, dI) vwCl (WL g A A1 A2 aq o o2 B u f dd v) H) (hD : va_D AA (WL g A A1 A2 aq o o2 B u f dd v)) (hS : va_S AA s.heap H locs) (hl : lv_has ls 9 [(0, .ref b), (1, .ref (A 0)), (2, .ref (B 0)), (3, .ref o), (4, .ref o2), (5, .int i)])
    (kk : ∀ (aq1 : Nat) (f1 : Nat → Int64) (dd1 : Nat → UInt64) (H1 : Heap) (locs1 : List Loc) (cells1 slots1 : Nat) (ls1 : Array Slot), va_P (dC, dI) vwCl (WL g A A1 A2 aq1 o o2 B r.2 f1 dd1 rm.2) H1 → va_D AA (WL g A A1 A2 aq1 o o2 B r.2 f1 dd1 rm.2) → va_S AA s.heap H1 locs1 → cells1 ≤ cells + 1000 → slots1 ≤ slots + 2000 → lv_has ls1 9 [(0, .ref b), (1, .ref (A 0)), (2, .ref (B 0)), (3, .ref o), (4, .ref o2), (5, .int i)] → W p l e room_1 s m #[.ref b] below meth c H1 locs1 cells1 slots1 Q (F0 m 2665 ls1 [])) : W p l e room_1 s m #[.ref b] below meth c H locs cells slots Q (F0 m 530 ls []) := by
  refine lv_aload_n F.1 F.2.1 dL_law_530 rfl (lv_at hl 1 rfl) ?_
  refine lv_aload_n F.1 F.2.1 dL_law_531 rfl (lv_at hl 0 rfl) ?_
  refine lv_iload F.1 F.2.1 dL_law_532 (lv_at hl 5 rfl) ?_
  refine lv_iconst (v := 1) F.1 F.2.1 dL_law_534 (by decide) ?_
  refine lv_iadd F.1 F.2.1 dL_law_535 ?_
  refine va_sld F.1 F.2.1 hXs hbl hbA hS (inR_in j1) dL_law_536 ?_
  refine lv_aload_n F.1 F.2.1 dL_law_537 rfl (lv_at hl 3 rfl) ?_
  refine cZS (As := [.ref (A 0), .int (xs (i + 1).toNatClampNeg), .ref o]) (rest := []) (post := catp [[(o2, .inl (g 7, 1, .inr (.inr (.inr (.inl dd)))))], wMt g B v] []) F hE hX (tL_cancel l hl9 dC dI g A A1 A2 aq o f u (xs (i + 1).toNatClampNeg) hx hk) mbL_cancel q1074 ⟨(Nat.le_of_ble_eq_true rfl), (Nat.le_of_ble_eq_true rfl)⟩ ⟨by show _ ≤ 603072; omega, by show _ ≤ 7211114; omega⟩ hP hD hS hA [] rfl rfl hl.1 rfl (Nat.le_of_ble_eq_true rfl) dL_law_538 (fun b9 H locs hP hD hS => ?_)
  replace hP : va_P (dC, dI) vwCl (WL g A A1 A2 aq o o2 B r.2 (oxI r.1 f) dd v) H := hP
  replace hD : va_D AA (WL g A A1 A2 aq o o2 B r.2 (oxI r.1 f) dd v) := hD
  refine lv_istore (lv' := [(6, .int k), (0, .ref b), (1, .ref (A 0)), (2, .ref (B 0)), (3, .ref o), (4, .ref o2), (5, .int i)]) F.1 F.2.1 dL_law_541 hl (by decide) rfl (fun ls hl => ?_)
  refine lv_aload_n F.1 F.2.1 dL_law_543 rfl (lv_at hl 3 rfl) ?_
  refine lv_aload_n F.1 F.2.1 dL_law_544 rfl (lv_at hl 1 rfl) ?_
  refine lv_iload F.1 F.2.1 dL_law_545 (lv_at hl 6 rfl) ?_
  refine lv_iconst (v := 1) F.1 F.2.1 dL_law_547 (by decide) ?_
  refine lv_iadd F.1 F.2.1 dL_law_548 ?_
  refine va_sld F.1 F.2.1 hXs hbl hbA hS (inR_in j1) dL_law_549 ?_
  refine cMV1 (As := [.int (xs (i + 1).toNatClampNeg)]) (rest := []) (post := catp [] []) (ws' := WL g A A1 A2 aq o o2 B r.2 (oxI r.1 f) dd rm.2) F hE hX (kX13_cancel l dC dI g B v (xs (i + 1).toNatClampNeg) hm) mbX13_cancel q1843 ⟨(Nat.le_of_ble_eq_true rfl), (Nat.le_of_ble_eq_true rfl)⟩ ⟨by show _ ≤ 603072; omega, by show _ ≤ 7211114; omega⟩ hP hD hS hA [wXt g A A1 A2 aq r.2, [(o, .inl (g 6, 1, .inr (.inl (oxI r.1 f))))], [(o2, .inl (g 7, 1, .inr (.inr (.inr (.inl dd)))))]] rfl (wMt_fst g B _ _) rfl 0 rfl rfl rfl hl.1 rfl (Nat.le_of_ble_eq_true rfl) dL_law_550 (fun H locs hP hD hS => ?_)
  replace hP : va_P (dC, dI) vwCl (WL g A A1 A2 aq o o2 B r.2 (oxI r.1 f) dd rm.2) H := hP
  replace hD : va_D AA (WL g A A1 A2 aq o o2 B r.2 (oxI r.1 f) dd rm.2) := hD
  refine lv_istore (lv' := [(7, .int rm.1), (6, .int k), (0, .ref b), (1, .ref (A 0)), (2, .ref (B 0)), (3, .ref o), (4, .ref o2), (5, .int i)]) F.1 F.2.1 dL_law_553 hl (by decide) rfl (fun ls hl => ?_)
  refine lv_aload_n F.1 F.2.1 dL_law_555 rfl (lv_at hl 4 rfl) ?_
  refine cRV1 (As := []) (rest := []) (post := catp [] []) F hE hX hS (kX13_thrown l dC dI g B rm.2 (r := mt_th rm.2) rfl) mbX13_thrown q1674 ⟨(Nat.le_of_ble_eq_true rfl), (Nat.le_of_ble_eq_true rfl)⟩ ⟨by show _ ≤ 603072; omega, by show _ ≤ 7211114; omega⟩ hP [wXt g A A1 A2 aq r.2, [(o, .inl (g 6, 1, .inr (.inl (oxI r.1 f))))], [(o2, .inl (g 7, 1, .inr (.inr (.inr (.inl dd)))))]] rfl 0 rfl rfl rfl hl.1 rfl (Nat.le_of_ble_eq_true rfl) dL_law_556 ?_
  refine lv_iload F.1 F.2.1 dL_law_559 (lv_at hl 1 rfl) ?_
  refine lv_icmp_eq (tgt := 566) F.1 F.2.1 dL_law_561 (by decide) (fun _ => ?_) (fun k9 => absurd hth k9)
  refine lv_iload F.1 F.2.1 dL_law_566 (lv_at hl 1 rfl) ?_
  refine lv_if_ne (tgt := 583) F.1 F.2.1 dL_law_568 (by decide) (fun kz => ?_) (fun kz => ?_)
  · refine lv_goto (tgt := 2665) F.1 F.2.1 dL_law_583 (by decide) ?_
    exact kk aq (oxI r.1 f) dd H locs _ _ ls hP hD hS (by omega) (by omega) (lv_sub hl [2, 3, 4, 5, 6, 7] rfl)
  · refine lv_aload_n F.1 F.2.1 dL_law_571 rfl (lv_at hl 5 rfl) ?_
    refine lv_iconst (v := 0) F.1 F.2.1 dL_law_572 (by decide) ?_
    refine va_lald F.1 F.2.1 hE.1 hP 387 6 rfl rfl (inR_in (by decide : inR 0 1 = true)) dL_law_573 ?_
    refine lv_iload F.1 F.2.1 dL_law_574 (lv_at hl 0 rfl) ?_
    refine lv_i2l F.1 F.2.1 dL_law_576 rfl ?_
    refine W.lcmp F.1 F.2.1 dL_law_577 ?_
    refine lv_if_eq (tgt := 583) F.1 F.2.1 dL_law_578 (by decide) (fun _ => ?_) (fun k9 => absurd (by show lg_cmp (oxI r.1 f 0) rm.1.toInt64 = 0; rw [hag kz]; exact lg_cmp_self _) k9)
    refine lv_goto (tgt := 2665) F.1 F.2.1 dL_law_583 (by decide) ?_
    exact kk aq (oxI r.1 f) dd H locs _ _ ls hP hD hS (by omega) (by omega) (lv_sub hl [2, 3, 4, 5, 6, 7] rfl)
