set_option maxHeartbeats 4000000 in
set_option maxRecDepth 100000 in
theorem cs_hasSpool {p : Program} {l : Launch} {e : Env} {s : State} {m : MethodId} {below : List Frame} {meth : Method} {c : Code} {H : Heap} {locs : List Loc} {cells slots : Nat} {Q : State → Prop} {ls : Array Slot} {dC : Nat → ClassId} {dI : Nat → Nat → Nat} {g : Nat → ClassId} {A : Nat → Nat} {A1 A2 : Nat → Nat → Nat} {aq o o2 : Nat} {B : Nat → Nat} {AA : Nat → Prop} {b L : Nat} {xs : Nat → Int32} {i : Int32} {u : XT} {f : Nat → Int64} {dd : Nat → UInt64} {v : MT} (hl9 : l.stackTraces = false) (F : CF p m c code 9 s #[.ref b] RL) (hE : EK dC dI g s) (hX : EX g AA s s.heap) (hA : ∀ q : Nat, s.heap.size ≤ q → AA q) (hXs : va_X b L xs s s.heap) (hbl : b < s.heap.size) (hbA : ¬ AA b) (j1 : inR (i + 1) L = true) {r : Int32} (hx : gX12_hasSpool u (xs (i + 1).toNatClampNeg) = some r) {rm : Int32 × MT} (hm : gX13_hasSpool v (xs (i + 1).toNatClampNeg) = some rm) (hag : r = rm.1) (hc : cells + 1000 ≤ 603072) (hsl : slots + 2000 ≤ 7211114) (hP : va_P (dC, dI) vwCl (WL g A A1 A2 aq o o2 B u f dd v) H) (hD : va_D AA (WL g A A1 A2 aq o o2 B u f dd v)) (hS : va_S AA s.heap H locs) (hl : lv_has ls 9 [(0, .ref b), (1, .ref (A 0)), (2, .ref (B 0)), (3, .ref o), (4, .ref o2), (5, .int i)])
    (kk : ∀ (aq1 : Nat) (f1 : Nat → Int64) (dd1 : Nat → UInt64) (H1 : Heap) (locs1 : List Loc) (cells1 slots1 : Nat) (ls1 : Array Slot), va_P (dC, dI) vwCl (WL g A A1 A2 aq1 o o2 B u f1 dd1 rm.2) H1 → va_D AA (WL g A A1 A2 aq1 o o2 B u f1 dd1 rm.2) → va_S AA s.heap H1 locs1 → cells1 ≤ cells + 1000 → slots1 ≤ slots + 2000 → lv_has ls1 9 [(0, .ref b), (1, .ref (A 0)), (2, .ref (B 0)), (3, .ref o), (4, .ref o2), (5, .int i)] → W p l e room_1 s m #[.ref b] below meth c H1 locs1 cells1 slots1 Q (F0 m 2665 ls1 [])) : W p l e room_1 s m #[.ref b] below meth c H locs cells slots Q (F0 m 920 ls []) := by
  refine lv_aload_n F.1 F.2.1 dL_law_920 rfl (lv_at hl 1 rfl) ?_
  refine lv_aload_n F.1 F.2.1 dL_law_921 rfl (lv_at hl 0 rfl) ?_
  refine lv_iload F.1 F.2.1 dL_law_922 (lv_at hl 5 rfl) ?_
  refine lv_iconst (v := 1) F.1 F.2.1 dL_law_924 (by decide) ?_
  refine lv_iadd F.1 F.2.1 dL_law_925 ?_
  refine va_sld F.1 F.2.1 hXs hbl hbA hS (inR_in j1) dL_law_926 ?_
  refine cRV1 (As := [.int (xs (i + 1).toNatClampNeg)]) (rest := []) (post := catp [[(o, .inl (g 6, 1, .inr (.inl f)))], [(o2, .inl (g 7, 1, .inr (.inr (.inr (.inl dd)))))], wMt g B v] []) F hE hX hS (kX12_hasSpool l dC dI g A A1 A2 aq u (xs (i + 1).toNatClampNeg) hx) mbX12_hasSpool q364 ⟨(Nat.le_of_ble_eq_true rfl), (Nat.le_of_ble_eq_true rfl)⟩ ⟨by show _ ≤ 603072; omega, by show _ ≤ 7211114; omega⟩ hP [] rfl 0 rfl rfl rfl hl.1 rfl (Nat.le_of_ble_eq_true rfl) dL_law_927 ?_
  refine lv_aload_n F.1 F.2.1 dL_law_930 rfl (lv_at hl 2 rfl) ?_
  refine lv_aload_n F.1 F.2.1 dL_law_931 rfl (lv_at hl 0 rfl) ?_
  refine lv_iload F.1 F.2.1 dL_law_932 (lv_at hl 5 rfl) ?_
  refine lv_iconst (v := 1) F.1 F.2.1 dL_law_934 (by decide) ?_
  refine lv_iadd F.1 F.2.1 dL_law_935 ?_
  refine va_sld F.1 F.2.1 hXs hbl hbA hS (inR_in j1) dL_law_936 ?_
  refine cMV1 (As := [.int (xs (i + 1).toNatClampNeg)]) (rest := [.int r]) (post := catp [] []) (ws' := WL g A A1 A2 aq o o2 B u f dd rm.2) F hE hX (kX13_hasSpool l dC dI g B v (xs (i + 1).toNatClampNeg) hm) mbX13_hasSpool q1959 ⟨(Nat.le_of_ble_eq_true rfl), (Nat.le_of_ble_eq_true rfl)⟩ ⟨by show _ ≤ 603072; omega, by show _ ≤ 7211114; omega⟩ hP hD hS hA [wXt g A A1 A2 aq u, [(o, .inl (g 6, 1, .inr (.inl f)))], [(o2, .inl (g 7, 1, .inr (.inr (.inr (.inl dd)))))]] rfl (wMt_fst g B _ _) rfl 0 rfl rfl rfl hl.1 rfl (Nat.le_of_ble_eq_true rfl) dL_law_937 (fun H locs hP hD hS => ?_)
  replace hP : va_P (dC, dI) vwCl (WL g A A1 A2 aq o o2 B u f dd rm.2) H := hP
  replace hD : va_D AA (WL g A A1 A2 aq o o2 B u f dd rm.2) := hD
  refine lv_icmp_eq (tgt := 2665) F.1 F.2.1 dL_law_940 (by decide) (fun _ => ?_) (fun k9 => absurd hag k9)
  exact kk aq f dd H locs _ _ ls hP hD hS (by omega) (by omega) (lv_sub hl [0, 1, 2, 3, 4, 5] rfl)
set_option maxHeartbeats 4000000 in
set_option maxRecDepth 100000 in
theorem cs_material {p : Program} {l : Launch} {e : Env} {s : State} {m : MethodId} {below : List Frame} {meth : Method} {c : Code} {H : Heap} {locs : List Loc} {cells slots : Nat} {Q : State → Prop} {ls : Array Slot} {dC : Nat → ClassId} {dI : Nat → Nat → Nat} {g : Nat → ClassId} {A : Nat → Nat} {A1 A2 : Nat → Nat → Nat} {aq o o2 : Nat} {B : Nat → Nat} {AA : Nat → Prop} {b L : Nat} {xs : Nat → Int32} {i : Int32} {u : XT} {f : Nat → Int64} {dd : Nat → UInt64} {v : MT} (hl9 : l.stackTraces = false) (F : CF p m c code 9 s #[.ref b] RL) (hE : EK dC dI g s) (hX : EX g AA s s.heap) (hA : ∀ q : Nat, s.heap.size ≤ q → AA q) (hXs : va_X b L xs s s.heap) (hbl : b < s.heap.size) (hbA : ¬ AA b) (j1 : inR (i + 1) L = true) {r : (Except String Int32) × XT} (hx : gX12_material u (xs (i + 1).toNatClampNeg) = some r) {k : Int32} (hk : kx ["java/util/NoSuchElementException"] r.1 = some k) {rm : Int32 × MT} (hm : gX13_material v (xs (i + 1).toNatClampNeg) = some rm) (hth : mt_th rm.2 = k) (hag : k = 0 → oxI r.1 f 0 = rm.1.toInt64) (hc : cells + 1000 ≤ 603072) (hsl : slots + 2000 ≤ 7211114) (hP : va_P (dC, dI) vwCl (WL g A A1 A2 aq o o2 B u f dd v) H) (hD : va_D AA (WL g A A1 A2 aq o o2 B u f dd v)) (hS : va_S AA s.heap H locs) (hl : lv_has ls 9 [(0, .ref b), (1, .ref (A 0)), (2, .ref (B 0)), (3, .ref o), (4, .ref o2), (5, .int i)])
    (kk : ∀ (aq1 : Nat) (f1 : Nat → Int64) (dd1 : Nat → UInt64) (H1 : Heap) (locs1 : List Loc) (cells1 slots1 : Nat) (ls1 : Array Slot), va_P (dC, dI) vwCl (WL g A A1 A2 aq1 o o2 B r.2 f1 dd1 rm.2) H1 → va_D AA (WL g A A1 A2 aq1 o o2 B r.2 f1 dd1 rm.2) → va_S AA s.heap H1 locs1 → cells1 ≤ cells + 1000 → slots1 ≤ slots + 2000 → lv_has ls1 9 [(0, .ref b), (1, .ref (A 0)), (2, .ref (B 0)), (3, .ref o), (4, .ref o2), (5, .int i)] → W p l e room_1 s m #[.ref b] below meth c H1 locs1 cells1 slots1 Q (F0 m 2665 ls1 [])) : W p l e room_1 s m #[.ref b] below meth c H locs cells slots Q (F0 m 945 ls []) := by
  refine lv_aload_n F.1 F.2.1 dL_law_945 rfl (lv_at hl 1 rfl) ?_
  refine lv_aload_n F.1 F.2.1 dL_law_946 rfl (lv_at hl 0 rfl) ?_
  refine lv_iload F.1 F.2.1 dL_law_947 (lv_at hl 5 rfl) ?_
  refine lv_iconst (v := 1) F.1 F.2.1 dL_law_949 (by decide) ?_
  refine lv_iadd F.1 F.2.1 dL_law_950 ?_
  refine va_sld F.1 F.2.1 hXs hbl hbA hS (inR_in j1) dL_law_951 ?_
  refine lv_aload_n F.1 F.2.1 dL_law_952 rfl (lv_at hl 3 rfl) ?_
  refine cZS (As := [.ref (A 0), .int (xs (i + 1).toNatClampNeg), .ref o]) (rest := []) (post := catp [[(o2, .inl (g 7, 1, .inr (.inr (.inr (.inl dd)))))], wMt g B v] []) F hE hX (tL_material l hl9 dC dI g A A1 A2 aq o f u (xs (i + 1).toNatClampNeg) hx hk) mbL_material q1226 ⟨(Nat.le_of_ble_eq_true rfl), (Nat.le_of_ble_eq_true rfl)⟩ ⟨by show _ ≤ 603072; omega, by show _ ≤ 7211114; omega⟩ hP hD hS hA [] rfl rfl hl.1 rfl (Nat.le_of_ble_eq_true rfl) dL_law_953 (fun b9 H locs hP hD hS => ?_)
  replace hP : va_P (dC, dI) vwCl (WL g A A1 A2 aq o o2 B r.2 (oxI r.1 f) dd v) H := hP
  replace hD : va_D AA (WL g A A1 A2 aq o o2 B r.2 (oxI r.1 f) dd v) := hD
  refine lv_istore (lv' := [(6, .int k), (0, .ref b), (1, .ref (A 0)), (2, .ref (B 0)), (3, .ref o), (4, .ref o2), (5, .int i)]) F.1 F.2.1 dL_law_956 hl (by decide) rfl (fun ls hl => ?_)
  refine lv_aload_n F.1 F.2.1 dL_law_958 rfl (lv_at hl 3 rfl) ?_
  refine lv_aload_n F.1 F.2.1 dL_law_959 rfl (lv_at hl 1 rfl) ?_
  refine lv_iload F.1 F.2.1 dL_law_960 (lv_at hl 6 rfl) ?_
  refine lv_iconst (v := 1) F.1 F.2.1 dL_law_962 (by decide) ?_
  refine lv_iadd F.1 F.2.1 dL_law_963 ?_
  refine va_sld F.1 F.2.1 hXs hbl hbA hS (inR_in j1) dL_law_964 ?_
  refine cMV1 (As := [.int (xs (i + 1).toNatClampNeg)]) (rest := []) (post := catp [] []) (ws' := WL g A A1 A2 aq o o2 B r.2 (oxI r.1 f) dd rm.2) F hE hX (kX13_material l dC dI g B v (xs (i + 1).toNatClampNeg) hm) mbX13_material q1963 ⟨(Nat.le_of_ble_eq_true rfl), (Nat.le_of_ble_eq_true rfl)⟩ ⟨by show _ ≤ 603072; omega, by show _ ≤ 7211114; omega⟩ hP hD hS hA [wXt g A A1 A2 aq r.2, [(o, .inl (g 6, 1, .inr (.inl (oxI r.1 f))))], [(o2, .inl (g 7, 1, .inr (.inr (.inr (.inl dd)))))]] rfl (wMt_fst g B _ _) rfl 0 rfl rfl rfl hl.1 rfl (Nat.le_of_ble_eq_true rfl) dL_law_965 (fun H locs hP hD hS => ?_)
  replace hP : va_P (dC, dI) vwCl (WL g A A1 A2 aq o o2 B r.2 (oxI r.1 f) dd rm.2) H := hP
  replace hD : va_D AA (WL g A A1 A2 aq o o2 B r.2 (oxI r.1 f) dd rm.2) := hD
  refine lv_istore (lv' := [(7, .int rm.1), (6, .int k), (0, .ref b), (1, .ref (A 0)), (2, .ref (B 0)), (3, .ref o), (4, .ref o2), (5, .int i)]) F.1 F.2.1 dL_law_968 hl (by decide) rfl (fun ls hl => ?_)
  refine lv_aload_n F.1 F.2.1 dL_law_970 rfl (lv_at hl 4 rfl) ?_
  refine cRV1 (As := []) (rest := []) (post := catp [] []) F hE hX hS (kX13_thrown l dC dI g B rm.2 (r := mt_th rm.2) rfl) mbX13_thrown q1674 ⟨(Nat.le_of_ble_eq_true rfl), (Nat.le_of_ble_eq_true rfl)⟩ ⟨by show _ ≤ 603072; omega, by show _ ≤ 7211114; omega⟩ hP [wXt g A A1 A2 aq r.2, [(o, .inl (g 6, 1, .inr (.inl (oxI r.1 f))))], [(o2, .inl (g 7, 1, .inr (.inr (.inr (.inl dd)))))]] rfl 0 rfl rfl rfl hl.1 rfl (Nat.le_of_ble_eq_true rfl) dL_law_971 ?_
  refine lv_iload F.1 F.2.1 dL_law_974 (lv_at hl 1 rfl) ?_
  refine lv_icmp_eq (tgt := 981) F.1 F.2.1 dL_law_976 (by decide) (fun _ => ?_) (fun k9 => absurd hth k9)
  refine lv_iload F.1 F.2.1 dL_law_981 (lv_at hl 1 rfl) ?_
  refine lv_if_ne (tgt := 998) F.1 F.2.1 dL_law_983 (by decide) (fun kz => ?_) (fun kz => ?_)
  · refine lv_goto (tgt := 2665) F.1 F.2.1 dL_law_998 (by decide) ?_
    exact kk aq (oxI r.1 f) dd H locs _ _ ls hP hD hS (by omega) (by omega) (lv_sub hl [2, 3, 4, 5, 6, 7] rfl)
  · refine lv_aload_n F.1 F.2.1 dL_law_986 rfl (lv_at hl 5 rfl) ?_
    refine lv_iconst (v := 0) F.1 F.2.1 dL_law_987 (by decide) ?_
    refine va_lald F.1 F.2.1 hE.1 hP 387 6 rfl rfl (inR_in (by decide : inR 0 1 = true)) dL_law_988 ?_
    refine lv_iload F.1 F.2.1 dL_law_989 (lv_at hl 0 rfl) ?_
    refine lv_i2l F.1 F.2.1 dL_law_991 rfl ?_
    refine W.lcmp F.1 F.2.1 dL_law_992 ?_
    refine lv_if_eq (tgt := 998) F.1 F.2.1 dL_law_993 (by decide) (fun _ => ?_) (fun k9 => absurd (by show lg_cmp (oxI r.1 f 0) rm.1.toInt64 = 0; rw [hag kz]; exact lg_cmp_self _) k9)
    refine lv_goto (tgt := 2665) F.1 F.2.1 dL_law_998 (by decide) ?_
    exact kk aq (oxI r.1 f) dd H locs _ _ ls hP hD hS (by omega) (by omega) (lv_sub hl [2, 3, 4, 5, 6, 7] rfl)
set_option maxHeartbeats 4000000 in
set_option maxRecDepth 100000 in
theorem cs_remaining {p : Program} {l : Launch} {e : Env} {s : State} {m : MethodId} {below : List Frame} {meth : Method} {c : Code} {H : Heap} {locs : List Loc} {cells slots : Nat} {Q : State → Prop} {ls : Array Slot} {dC : Nat → ClassId} {dI : Nat → Nat → Nat} {g : Nat → ClassId} {A : Nat → Nat} {A1 A2 : Nat → Nat → Nat} {aq o o2 : Nat} {B : Nat → Nat} {AA : Nat → Prop} {b L : Nat} {xs : Nat → Int32} {i : Int32} {u : XT} {f : Nat → Int64} {dd : Nat → UInt64} {v : MT} (hl9 : l.stackTraces = false) (F : CF p m c code 9 s #[.ref b] RL) (hE : EK dC dI g s) (hX : EX g AA s s.heap) (hA : ∀ q : Nat, s.heap.size ≤ q → AA q) (hXs : va_X b L xs s s.heap) (hbl : b < s.heap.size) (hbA : ¬ AA b) (j1 : inR (i + 1) L = true) {r : (Except String Int32) × XT} (hx : gX12_remaining u (xs (i + 1).toNatClampNeg) = some r) {k : Int32} (hk : kx ["java/util/NoSuchElementException"] r.1 = some k) {rm : Int32 × MT} (hm : gX13_remaining v (xs (i + 1).toNatClampNeg) = some rm) (hth : mt_th rm.2 = k) (hag : k = 0 → oxI r.1 f 0 = rm.1.toInt64) (hc : cells + 1000 ≤ 603072) (hsl : slots + 2000 ≤ 7211114) (hP : va_P (dC, dI) vwCl (WL g A A1 A2 aq o o2 B u f dd v) H) (hD : va_D AA (WL g A A1 A2 aq o o2 B u f dd v)) (hS : va_S AA s.heap H locs) (hl : lv_has ls 9 [(0, .ref b), (1, .ref (A 0)), (2, .ref (B 0)), (3, .ref o), (4, .ref o2), (5, .int i)])
    (kk : ∀ (aq1 : Nat) (f1 : Nat → Int64) (dd1 : Nat → UInt64) (H1 : Heap) (locs1 : List Loc) (cells1 slots1 : Nat) (ls1 : Array Slot), va_P (dC, dI) vwCl (WL g A A1 A2 aq1 o o2 B r.2 f1 dd1 rm.2) H1 → va_D AA (WL g A A1 A2 aq1 o o2 B r.2 f1 dd1 rm.2) → va_S AA s.heap H1 locs1 → cells1 ≤ cells + 1000 → slots1 ≤ slots + 2000 → lv_has ls1 9 [(0, .ref b), (1, .ref (A 0)), (2, .ref (B 0)), (3, .ref o), (4, .ref o2), (5, .int i)] → W p l e room_1 s m #[.ref b] below meth c H1 locs1 cells1 slots1 Q (F0 m 2665 ls1 [])) : W p l e room_1 s m #[.ref b] below meth c H locs cells slots Q (F0 m 1001 ls []) := by
  refine lv_aload_n F.1 F.2.1 dL_law_1001 rfl (lv_at hl 1 rfl) ?_
  refine lv_aload_n F.1 F.2.1 dL_law_1002 rfl (lv_at hl 0 rfl) ?_
  refine lv_iload F.1 F.2.1 dL_law_1003 (lv_at hl 5 rfl) ?_
  refine lv_iconst (v := 1) F.1 F.2.1 dL_law_1005 (by decide) ?_
  refine lv_iadd F.1 F.2.1 dL_law_1006 ?_
  refine va_sld F.1 F.2.1 hXs hbl hbA hS (inR_in j1) dL_law_1007 ?_
  refine lv_aload_n F.1 F.2.1 dL_law_1008 rfl (lv_at hl 3 rfl) ?_
  refine cZS (As := [.ref (A 0), .int (xs (i + 1).toNatClampNeg), .ref o]) (rest := []) (post := catp [[(o2, .inl (g 7, 1, .inr (.inr (.inr (.inl dd)))))], wMt g B v] []) F hE hX (tL_remaining l hl9 dC dI g A A1 A2 aq o f u (xs (i + 1).toNatClampNeg) hx hk) mbL_remaining q1235 ⟨(Nat.le_of_ble_eq_true rfl), (Nat.le_of_ble_eq_true rfl)⟩ ⟨by show _ ≤ 603072; omega, by show _ ≤ 7211114; omega⟩ hP hD hS hA [] rfl rfl hl.1 rfl (Nat.le_of_ble_eq_true rfl) dL_law_1009 (fun b9 H locs hP hD hS => ?_)
  replace hP : va_P (dC, dI) vwCl (WL g A A1 A2 aq o o2 B r.2 (oxI r.1 f) dd v) H := hP
  replace hD : va_D AA (WL g A A1 A2 aq o o2 B r.2 (oxI r.1 f) dd v) := hD
  refine lv_istore (lv' := [(6, .int k), (0, .ref b), (1, .ref (A 0)), (2, .ref (B 0)), (3, .ref o), (4, .ref o2), (5, .int i)]) F.1 F.2.1 dL_law_1012 hl (by decide) rfl (fun ls hl => ?_)
  refine lv_aload_n F.1 F.2.1 dL_law_1014 rfl (lv_at hl 3 rfl) ?_
  refine lv_aload_n F.1 F.2.1 dL_law_1015 rfl (lv_at hl 1 rfl) ?_
  refine lv_iload F.1 F.2.1 dL_law_1016 (lv_at hl 6 rfl) ?_
  refine lv_iconst (v := 1) F.1 F.2.1 dL_law_1018 (by decide) ?_
  refine lv_iadd F.1 F.2.1 dL_law_1019 ?_
  refine va_sld F.1 F.2.1 hXs hbl hbA hS (inR_in j1) dL_law_1020 ?_
  refine cMV1 (As := [.int (xs (i + 1).toNatClampNeg)]) (rest := []) (post := catp [] []) (ws' := WL g A A1 A2 aq o o2 B r.2 (oxI r.1 f) dd rm.2) F hE hX (kX13_remaining l dC dI g B v (xs (i + 1).toNatClampNeg) hm) mbX13_remaining q1971 ⟨(Nat.le_of_ble_eq_true rfl), (Nat.le_of_ble_eq_true rfl)⟩ ⟨by show _ ≤ 603072; omega, by show _ ≤ 7211114; omega⟩ hP hD hS hA [wXt g A A1 A2 aq r.2, [(o, .inl (g 6, 1, .inr (.inl (oxI r.1 f))))], [(o2, .inl (g 7, 1, .inr (.inr (.inr (.inl dd)))))]] rfl (wMt_fst g B _ _) rfl 0 rfl rfl rfl hl.1 rfl (Nat.le_of_ble_eq_true rfl) dL_law_1021 (fun H locs hP hD hS => ?_)
  replace hP : va_P (dC, dI) vwCl (WL g A A1 A2 aq o o2 B r.2 (oxI r.1 f) dd rm.2) H := hP
  replace hD : va_D AA (WL g A A1 A2 aq o o2 B r.2 (oxI r.1 f) dd rm.2) := hD
  refine lv_istore (lv' := [(7, .int rm.1), (6, .int k), (0, .ref b), (1, .ref (A 0)), (2, .ref (B 0)), (3, .ref o), (4, .ref o2), (5, .int i)]) F.1 F.2.1 dL_law_1024 hl (by decide) rfl (fun ls hl => ?_)
  refine lv_aload_n F.1 F.2.1 dL_law_1026 rfl (lv_at hl 4 rfl) ?_
  refine cRV1 (As := []) (rest := []) (post := catp [] []) F hE hX hS (kX13_thrown l dC dI g B rm.2 (r := mt_th rm.2) rfl) mbX13_thrown q1674 ⟨(Nat.le_of_ble_eq_true rfl), (Nat.le_of_ble_eq_true rfl)⟩ ⟨by show _ ≤ 603072; omega, by show _ ≤ 7211114; omega⟩ hP [wXt g A A1 A2 aq r.2, [(o, .inl (g 6, 1, .inr (.inl (oxI r.1 f))))], [(o2, .inl (g 7, 1, .inr (.inr (.inr (.inl dd)))))]] rfl 0 rfl rfl rfl hl.1 rfl (Nat.le_of_ble_eq_true rfl) dL_law_1027 ?_
  refine lv_iload F.1 F.2.1 dL_law_1030 (lv_at hl 1 rfl) ?_
  refine lv_icmp_eq (tgt := 1037) F.1 F.2.1 dL_law_1032 (by decide) (fun _ => ?_) (fun k9 => absurd hth k9)
  refine lv_iload F.1 F.2.1 dL_law_1037 (lv_at hl 1 rfl) ?_
  refine lv_if_ne (tgt := 1054) F.1 F.2.1 dL_law_1039 (by decide) (fun kz => ?_) (fun kz => ?_)
  · refine lv_goto (tgt := 2665) F.1 F.2.1 dL_law_1054 (by decide) ?_
    exact kk aq (oxI r.1 f) dd H locs _ _ ls hP hD hS (by omega) (by omega) (lv_sub hl [2, 3, 4, 5, 6, 7] rfl)
  · refine lv_aload_n F.1 F.2.1 dL_law_1042 rfl (lv_at hl 5 rfl) ?_
    refine lv_iconst (v := 0) F.1 F.2.1 dL_law_1043 (by decide) ?_
    refine va_lald F.1 F.2.1 hE.1 hP 387 6 rfl rfl (inR_in (by decide : inR 0 1 = true)) dL_law_1044 ?_
    refine lv_iload F.1 F.2.1 dL_law_1045 (lv_at hl 0 rfl) ?_
    refine lv_i2l F.1 F.2.1 dL_law_1047 rfl ?_
    refine W.lcmp F.1 F.2.1 dL_law_1048 ?_
    refine lv_if_eq (tgt := 1054) F.1 F.2.1 dL_law_1049 (by decide) (fun _ => ?_) (fun k9 => absurd (by show lg_cmp (oxI r.1 f 0) rm.1.toInt64 = 0; rw [hag kz]; exact lg_cmp_self _) k9)
    refine lv_goto (tgt := 2665) F.1 F.2.1 dL_law_1054 (by decide) ?_
    exact kk aq (oxI r.1 f) dd H locs _ _ ls hP hD hS (by omega) (by omega) (lv_sub hl [2, 3, 4, 5, 6, 7] rfl)
set_option maxHeartbeats 4000000 in
set_option maxRecDepth 100000 in
theorem cs_cuts {p : Program} {l : Launch} {e : Env} {s : State} {m : MethodId} {below : List Frame} {meth : Method} {c : Code} {H : Heap} {locs : List Loc} {cells slots : Nat} {Q : State → Prop} {ls : Array Slot} {dC : Nat → ClassId} {dI : Nat → Nat → Nat} {g : Nat → ClassId} {A : Nat → Nat} {A1 A2 : Nat → Nat → Nat} {aq o o2 : Nat} {B : Nat → Nat} {AA : Nat → Prop} {b L : Nat} {xs : Nat → Int32} {i : Int32} {u : XT} {f : Nat → Int64} {dd : Nat → UInt64} {v : MT} (hl9 : l.stackTraces = false) (F : CF p m c code 9 s #[.ref b] RL) (hE : EK dC dI g s) (hX : EX g AA s s.heap) (hA : ∀ q : Nat, s.heap.size ≤ q → AA q) (hXs : va_X b L xs s s.heap) (hbl : b < s.heap.size) (hbA : ¬ AA b) (j1 : inR (i + 1) L = true) {r : (Except String Int32) × XT} (hx : gX12_cuts u (xs (i + 1).toNatClampNeg) = some r) {k : Int32} (hk : kx ["java/util/NoSuchElementException"] r.1 = some k) {rm : Int32 × MT} (hm : gX13_cuts v (xs (i + 1).toNatClampNeg) = some rm) (hth : mt_th rm.2 = k) (hag : k = 0 → oxI r.1 f 0 = rm.1.toInt64) (hc : cells + 1000 ≤ 603072) (hsl : slots + 2000 ≤ 7211114) (hP : va_P (dC, dI) vwCl (WL g A A1 A2 aq o o2 B u f dd v) H) (hD : va_D AA (WL g A A1 A2 aq o o2 B u f dd v)) (hS : va_S AA s.heap H locs) (hl : lv_has ls 9 [(0, .ref b), (1, .ref (A 0)), (2, .ref (B 0)), (3, .ref o), (4, .ref o2), (5, .int i)])
    (kk : ∀ (aq1 : Nat) (f1 : Nat → Int64) (dd1 : Nat → UInt64) (H1 : Heap) (locs1 : List Loc) (cells1 slots1 : Nat) (ls1 : Array Slot), va_P (dC, dI) vwCl (WL g A A1 A2 aq1 o o2 B r.2 f1 dd1 rm.2) H1 → va_D AA (WL g A A1 A2 aq1 o o2 B r.2 f1 dd1 rm.2) → va_S AA s.heap H1 locs1 → cells1 ≤ cells + 1000 → slots1 ≤ slots + 2000 → lv_has ls1 9 [(0, .ref b), (1, .ref (A 0)), (2, .ref (B 0)), (3, .ref o), (4, .ref o2), (5, .int i)] → W p l e room_1 s m #[.ref b] below meth c H1 locs1 cells1 slots1 Q (F0 m 2665 ls1 [])) : W p l e room_1 s m #[.ref b] below meth c H locs cells slots Q (F0 m 1057 ls []) := by
  refine lv_aload_n F.1 F.2.1 dL_law_1057 rfl (lv_at hl 1 rfl) ?_
  refine lv_aload_n F.1 F.2.1 dL_law_1058 rfl (lv_at hl 0 rfl) ?_
  refine lv_iload F.1 F.2.1 dL_law_1059 (lv_at hl 5 rfl) ?_
  refine lv_iconst (v := 1) F.1 F.2.1 dL_law_1061 (by decide) ?_
  refine lv_iadd F.1 F.2.1 dL_law_1062 ?_
  refine va_sld F.1 F.2.1 hXs hbl hbA hS (inR_in j1) dL_law_1063 ?_
  refine lv_aload_n F.1 F.2.1 dL_law_1064 rfl (lv_at hl 3 rfl) ?_
  refine cZS (As := [.ref (A 0), .int (xs (i + 1).toNatClampNeg), .ref o]) (rest := []) (post := catp [[(o2, .inl (g 7, 1, .inr (.inr (.inr (.inl dd)))))], wMt g B v] []) F hE hX (tL_cuts l hl9 dC dI g A A1 A2 aq o f u (xs (i + 1).toNatClampNeg) hx hk) mbL_cuts q1243 ⟨(Nat.le_of_ble_eq_true rfl), (Nat.le_of_ble_eq_true rfl)⟩ ⟨by show _ ≤ 603072; omega, by show _ ≤ 7211114; omega⟩ hP hD hS hA [] rfl rfl hl.1 rfl (Nat.le_of_ble_eq_true rfl) dL_law_1065 (fun b9 H locs hP hD hS => ?_)
  replace hP : va_P (dC, dI) vwCl (WL g A A1 A2 aq o o2 B r.2 (oxI r.1 f) dd v) H := hP
  replace hD : va_D AA (WL g A A1 A2 aq o o2 B r.2 (oxI r.1 f) dd v) := hD
  refine lv_istore (lv' := [(6, .int k), (0, .ref b), (1, .ref (A 0)), (2, .ref (B 0)), (3, .ref o), (4, .ref o2), (5, .int i)]) F.1 F.2.1 dL_law_1068 hl (by decide) rfl (fun ls hl => ?_)
  refine lv_aload_n F.1 F.2.1 dL_law_1070 rfl (lv_at hl 3 rfl) ?_
  refine lv_aload_n F.1 F.2.1 dL_law_1071 rfl (lv_at hl 1 rfl) ?_
  refine lv_iload F.1 F.2.1 dL_law_1072 (lv_at hl 6 rfl) ?_
  refine lv_iconst (v := 1) F.1 F.2.1 dL_law_1074 (by decide) ?_
  refine lv_iadd F.1 F.2.1 dL_law_1075 ?_
  refine va_sld F.1 F.2.1 hXs hbl hbA hS (inR_in j1) dL_law_1076 ?_
  refine cMV1 (As := [.int (xs (i + 1).toNatClampNeg)]) (rest := []) (post := catp [] []) (ws' := WL g A A1 A2 aq o o2 B r.2 (oxI r.1 f) dd rm.2) F hE hX (kX13_cuts l dC dI g B v (xs (i + 1).toNatClampNeg) hm) mbX13_cuts q1975 ⟨(Nat.le_of_ble_eq_true rfl), (Nat.le_of_ble_eq_true rfl)⟩ ⟨by show _ ≤ 603072; omega, by show _ ≤ 7211114; omega⟩ hP hD hS hA [wXt g A A1 A2 aq r.2, [(o, .inl (g 6, 1, .inr (.inl (oxI r.1 f))))], [(o2, .inl (g 7, 1, .inr (.inr (.inr (.inl dd)))))]] rfl (wMt_fst g B _ _) rfl 0 rfl rfl rfl hl.1 rfl (Nat.le_of_ble_eq_true rfl) dL_law_1077 (fun H locs hP hD hS => ?_)
  replace hP : va_P (dC, dI) vwCl (WL g A A1 A2 aq o o2 B r.2 (oxI r.1 f) dd rm.2) H := hP
  replace hD : va_D AA (WL g A A1 A2 aq o o2 B r.2 (oxI r.1 f) dd rm.2) := hD
  refine lv_istore (lv' := [(7, .int rm.1), (6, .int k), (0, .ref b), (1, .ref (A 0)), (2, .ref (B 0)), (3, .ref o), (4, .ref o2), (5, .int i)]) F.1 F.2.1 dL_law_1080 hl (by decide) rfl (fun ls hl => ?_)
  refine lv_aload_n F.1 F.2.1 dL_law_1082 rfl (lv_at hl 4 rfl) ?_
  refine cRV1 (As := []) (rest := []) (post := catp [] []) F hE hX hS (kX13_thrown l dC dI g B rm.2 (r := mt_th rm.2) rfl) mbX13_thrown q1674 ⟨(Nat.le_of_ble_eq_true rfl), (Nat.le_of_ble_eq_true rfl)⟩ ⟨by show _ ≤ 603072; omega, by show _ ≤ 7211114; omega⟩ hP [wXt g A A1 A2 aq r.2, [(o, .inl (g 6, 1, .inr (.inl (oxI r.1 f))))], [(o2, .inl (g 7, 1, .inr (.inr (.inr (.inl dd)))))]] rfl 0 rfl rfl rfl hl.1 rfl (Nat.le_of_ble_eq_true rfl) dL_law_1083 ?_
  refine lv_iload F.1 F.2.1 dL_law_1086 (lv_at hl 1 rfl) ?_
  refine lv_icmp_eq (tgt := 1093) F.1 F.2.1 dL_law_1088 (by decide) (fun _ => ?_) (fun k9 => absurd hth k9)
  refine lv_iload F.1 F.2.1 dL_law_1093 (lv_at hl 1 rfl) ?_
  refine lv_if_ne (tgt := 1110) F.1 F.2.1 dL_law_1095 (by decide) (fun kz => ?_) (fun kz => ?_)
  · refine lv_goto (tgt := 2665) F.1 F.2.1 dL_law_1110 (by decide) ?_
    exact kk aq (oxI r.1 f) dd H locs _ _ ls hP hD hS (by omega) (by omega) (lv_sub hl [2, 3, 4, 5, 6, 7] rfl)
  · refine lv_aload_n F.1 F.2.1 dL_law_1098 rfl (lv_at hl 5 rfl) ?_
    refine lv_iconst (v := 0) F.1 F.2.1 dL_law_1099 (by decide) ?_
    refine va_lald F.1 F.2.1 hE.1 hP 387 6 rfl rfl (inR_in (by decide : inR 0 1 = true)) dL_law_1100 ?_
    refine lv_iload F.1 F.2.1 dL_law_1101 (lv_at hl 0 rfl) ?_
    refine lv_i2l F.1 F.2.1 dL_law_1103 rfl ?_
    refine W.lcmp F.1 F.2.1 dL_law_1104 ?_
    refine lv_if_eq (tgt := 1110) F.1 F.2.1 dL_law_1105 (by decide) (fun _ => ?_) (fun k9 => absurd (by show lg_cmp (oxI r.1 f 0) rm.1.toInt64 = 0; rw [hag kz]; exact lg_cmp_self _) k9)
    refine lv_goto (tgt := 2665) F.1 F.2.1 dL_law_1110 (by decide) ?_
    exact kk aq (oxI r.1 f) dd H locs _ _ ls hP hD hS (by omega) (by omega) (lv_sub hl [2, 3, 4, 5, 6, 7] rfl)
set_option maxHeartbeats 4000000 in
set_option maxRecDepth 100000 in
theorem cs_spoolByLength {p : Program} {l : Launch} {e : Env} {s : State} {m : MethodId} {below : List Frame} {meth : Method} {c : Code} {H : Heap} {locs : List Loc} {cells slots : Nat} {Q : State → Prop} {ls : Array Slot} {dC : Nat → ClassId} {dI : Nat → Nat → Nat} {g : Nat → ClassId} {A : Nat → Nat} {A1 A2 : Nat → Nat → Nat} {aq o o2 : Nat} {B : Nat → Nat} {AA : Nat → Prop} {b L : Nat} {xs : Nat → Int32} {i : Int32} {u : XT} {f : Nat → Int64} {dd : Nat → UInt64} {v : MT} (hl9 : l.stackTraces = false) (F : CF p m c code 9 s #[.ref b] RL) (hE : EK dC dI g s) (hX : EX g AA s s.heap) (hA : ∀ q : Nat, s.heap.size ≤ q → AA q) (hXs : va_X b L xs s s.heap) (hbl : b < s.heap.size) (hbA : ¬ AA b) (j1 : inR (i + 1) L = true) {r : (Except String Int32) × XT} (hx : gX12_spoolByLength u (xs (i + 1).toNatClampNeg) = some r) {k : Int32} (hk : kx ["java/util/NoSuchElementException"] r.1 = some k) {rm : Int32 × MT} (hm : gX13_spoolByLength v (xs (i + 1).toNatClampNeg) = some rm) (hth : mt_th rm.2 = k) (hag : k = 0 → oxI r.1 f 0 = rm.1.toInt64) (hc : cells + 1000 ≤ 603072) (hsl : slots + 2000 ≤ 7211114) (hP : va_P (dC, dI) vwCl (WL g A A1 A2 aq o o2 B u f dd v) H) (hD : va_D AA (WL g A A1 A2 aq o o2 B u f dd v)) (hS : va_S AA s.heap H locs) (hl : lv_has ls 9 [(0, .ref b), (1, .ref (A 0)), (2, .ref (B 0)), (3, .ref o), (4, .ref o2), (5, .int i)])
    (kk : ∀ (aq1 : Nat) (f1 : Nat → Int64) (dd1 : Nat → UInt64) (H1 : Heap) (locs1 : List Loc) (cells1 slots1 : Nat) (ls1 : Array Slot), va_P (dC, dI) vwCl (WL g A A1 A2 aq1 o o2 B r.2 f1 dd1 rm.2) H1 → va_D AA (WL g A A1 A2 aq1 o o2 B r.2 f1 dd1 rm.2) → va_S AA s.heap H1 locs1 → cells1 ≤ cells + 1000 → slots1 ≤ slots + 2000 → lv_has ls1 9 [(0, .ref b), (1, .ref (A 0)), (2, .ref (B 0)), (3, .ref o), (4, .ref o2), (5, .int i)] → W p l e room_1 s m #[.ref b] below meth c H1 locs1 cells1 slots1 Q (F0 m 2665 ls1 [])) : W p l e room_1 s m #[.ref b] below meth c H locs cells slots Q (F0 m 1113 ls []) := by
  refine lv_aload_n F.1 F.2.1 dL_law_1113 rfl (lv_at hl 1 rfl) ?_
  refine lv_aload_n F.1 F.2.1 dL_law_1114 rfl (lv_at hl 0 rfl) ?_
  refine lv_iload F.1 F.2.1 dL_law_1115 (lv_at hl 5 rfl) ?_
  refine lv_iconst (v := 1) F.1 F.2.1 dL_law_1117 (by decide) ?_
  refine lv_iadd F.1 F.2.1 dL_law_1118 ?_
  refine va_sld F.1 F.2.1 hXs hbl hbA hS (inR_in j1) dL_law_1119 ?_
  refine lv_aload_n F.1 F.2.1 dL_law_1120 rfl (lv_at hl 3 rfl) ?_
  refine cZS (As := [.ref (A 0), .int (xs (i + 1).toNatClampNeg), .ref o]) (rest := []) (post := catp [[(o2, .inl (g 7, 1, .inr (.inr (.inr (.inl dd)))))], wMt g B v] []) F hE hX (tL_spoolByLength l hl9 dC dI g A A1 A2 aq o f u (xs (i + 1).toNatClampNeg) hx hk) mbL_spoolByLength q1254 ⟨(Nat.le_of_ble_eq_true rfl), (Nat.le_of_ble_eq_true rfl)⟩ ⟨by show _ ≤ 603072; omega, by show _ ≤ 7211114; omega⟩ hP hD hS hA [] rfl rfl hl.1 rfl (Nat.le_of_ble_eq_true rfl) dL_law_1121 (fun b9 H locs hP hD hS => ?_)
  replace hP : va_P (dC, dI) vwCl (WL g A A1 A2 aq o o2 B r.2 (oxI r.1 f) dd v) H := hP
  replace hD : va_D AA (WL g A A1 A2 aq o o2 B r.2 (oxI r.1 f) dd v) := hD
  refine lv_istore (lv' := [(6, .int k), (0, .ref b), (1, .ref (A 0)), (2, .ref (B 0)), (3, .ref o), (4, .ref o2), (5, .int i)]) F.1 F.2.1 dL_law_1124 hl (by decide) rfl (fun ls hl => ?_)
  refine lv_aload_n F.1 F.2.1 dL_law_1126 rfl (lv_at hl 3 rfl) ?_
  refine lv_aload_n F.1 F.2.1 dL_law_1127 rfl (lv_at hl 1 rfl) ?_
  refine lv_iload F.1 F.2.1 dL_law_1128 (lv_at hl 6 rfl) ?_
  refine lv_iconst (v := 1) F.1 F.2.1 dL_law_1130 (by decide) ?_
  refine lv_iadd F.1 F.2.1 dL_law_1131 ?_
  refine va_sld F.1 F.2.1 hXs hbl hbA hS (inR_in j1) dL_law_1132 ?_
  refine cMV1 (As := [.int (xs (i + 1).toNatClampNeg)]) (rest := []) (post := catp [] []) (ws' := WL g A A1 A2 aq o o2 B r.2 (oxI r.1 f) dd rm.2) F hE hX (kX13_spoolByLength l dC dI g B v (xs (i + 1).toNatClampNeg) hm) mbX13_spoolByLength q1979 ⟨(Nat.le_of_ble_eq_true rfl), (Nat.le_of_ble_eq_true rfl)⟩ ⟨by show _ ≤ 603072; omega, by show _ ≤ 7211114; omega⟩ hP hD hS hA [wXt g A A1 A2 aq r.2, [(o, .inl (g 6, 1, .inr (.inl (oxI r.1 f))))], [(o2, .inl (g 7, 1, .inr (.inr (.inr (.inl dd)))))]] rfl (wMt_fst g B _ _) rfl 0 rfl rfl rfl hl.1 rfl (Nat.le_of_ble_eq_true rfl) dL_law_1133 (fun H locs hP hD hS => ?_)
  replace hP : va_P (dC, dI) vwCl (WL g A A1 A2 aq o o2 B r.2 (oxI r.1 f) dd rm.2) H := hP
  replace hD : va_D AA (WL g A A1 A2 aq o o2 B r.2 (oxI r.1 f) dd rm.2) := hD
  refine lv_istore (lv' := [(7, .int rm.1), (6, .int k), (0, .ref b), (1, .ref (A 0)), (2, .ref (B 0)), (3, .ref o), (4, .ref o2), (5, .int i)]) F.1 F.2.1 dL_law_1136 hl (by decide) rfl (fun ls hl => ?_)
  refine lv_aload_n F.1 F.2.1 dL_law_1138 rfl (lv_at hl 4 rfl) ?_
  refine cRV1 (As := []) (rest := []) (post := catp [] []) F hE hX hS (kX13_thrown l dC dI g B rm.2 (r := mt_th rm.2) rfl) mbX13_thrown q1674 ⟨(Nat.le_of_ble_eq_true rfl), (Nat.le_of_ble_eq_true rfl)⟩ ⟨by show _ ≤ 603072; omega, by show _ ≤ 7211114; omega⟩ hP [wXt g A A1 A2 aq r.2, [(o, .inl (g 6, 1, .inr (.inl (oxI r.1 f))))], [(o2, .inl (g 7, 1, .inr (.inr (.inr (.inl dd)))))]] rfl 0 rfl rfl rfl hl.1 rfl (Nat.le_of_ble_eq_true rfl) dL_law_1139 ?_
  refine lv_iload F.1 F.2.1 dL_law_1142 (lv_at hl 1 rfl) ?_
  refine lv_icmp_eq (tgt := 1149) F.1 F.2.1 dL_law_1144 (by decide) (fun _ => ?_) (fun k9 => absurd hth k9)
  refine lv_iload F.1 F.2.1 dL_law_1149 (lv_at hl 1 rfl) ?_
  refine lv_if_ne (tgt := 1166) F.1 F.2.1 dL_law_1151 (by decide) (fun kz => ?_) (fun kz => ?_)
  · refine lv_goto (tgt := 2665) F.1 F.2.1 dL_law_1166 (by decide) ?_
    exact kk aq (oxI r.1 f) dd H locs _ _ ls hP hD hS (by omega) (by omega) (lv_sub hl [2, 3, 4, 5, 6, 7] rfl)
  · refine lv_aload_n F.1 F.2.1 dL_law_1154 rfl (lv_at hl 5 rfl) ?_
    refine lv_iconst (v := 0) F.1 F.2.1 dL_law_1155 (by decide) ?_
    refine va_lald F.1 F.2.1 hE.1 hP 387 6 rfl rfl (inR_in (by decide : inR 0 1 = true)) dL_law_1156 ?_
    refine lv_iload F.1 F.2.1 dL_law_1157 (lv_at hl 0 rfl) ?_
    refine lv_i2l F.1 F.2.1 dL_law_1159 rfl ?_
    refine W.lcmp F.1 F.2.1 dL_law_1160 ?_
    refine lv_if_eq (tgt := 1166) F.1 F.2.1 dL_law_1161 (by decide) (fun _ => ?_) (fun k9 => absurd (by show lg_cmp (oxI r.1 f 0) rm.1.toInt64 = 0; rw [hag kz]; exact lg_cmp_self _) k9)
    refine lv_goto (tgt := 2665) F.1 F.2.1 dL_law_1166 (by decide) ?_
    exact kk aq (oxI r.1 f) dd H locs _ _ ls hP hD hS (by omega) (by omega) (lv_sub hl [2, 3, 4, 5, 6, 7] rfl)
set_option maxHeartbeats 4000000 in
set_option maxRecDepth 100000 in
theorem cs_scraps {p : Program} {l : Launch} {e : Env} {s : State} {m : MethodId} {below : List Frame} {meth : Method} {c : Code} {H : Heap} {locs : List Loc} {cells slots : Nat} {Q : State → Prop} {ls : Array Slot} {dC : Nat → ClassId} {dI : Nat → Nat → Nat} {g : Nat → ClassId} {A : Nat → Nat} {A1 A2 : Nat → Nat → Nat} {aq o o2 : Nat} {B : Nat → Nat} {AA : Nat → Prop} {b L : Nat} {xs : Nat → Int32} {i : Int32} {u : XT} {f : Nat → Int64} {dd : Nat → UInt64} {v : MT} (hl9 : l.stackTraces = false) (F : CF p m c code 9 s #[.ref b] RL) (hE : EK dC dI g s) (hX : EX g AA s s.heap) (hA : ∀ q : Nat, s.heap.size ≤ q → AA q) (hXs : va_X b L xs s s.heap) (hbl : b < s.heap.size) (hbA : ¬ AA b) (j1 : inR (i + 1) L = true) {r : (Except String Int32) × XT} (hx : gX12_scraps u (c16 (xs (i + 1).toNatClampNeg)) = some r) {k : Int32} (hk : kx ["java/lang/IllegalArgumentException"] r.1 = some k) {rm : Int32 × MT} (hm : gX13_scraps v (c16 (xs (i + 1).toNatClampNeg)) = some rm) (hth : mt_th rm.2 = k) (hag : k = 0 → oxI r.1 f 0 = rm.1.toInt64) (hc : cells + 1000 ≤ 603072) (hsl : slots + 2000 ≤ 7211114) (hP : va_P (dC, dI) vwCl (WL g A A1 A2 aq o o2 B u f dd v) H) (hD : va_D AA (WL g A A1 A2 aq o o2 B u f dd v)) (hS : va_S AA s.heap H locs) (hl : lv_has ls 9 [(0, .ref b), (1, .ref (A 0)), (2, .ref (B 0)), (3, .ref o), (4, .ref o2), (5, .int i)])
    (kk : ∀ (aq1 : Nat) (f1 : Nat → Int64) (dd1 : Nat → UInt64) (H1 : Heap) (locs1 : List Loc) (cells1 slots1 : Nat) (ls1 : Array Slot), va_P (dC, dI) vwCl (WL g A A1 A2 aq1 o o2 B r.2 f1 dd1 rm.2) H1 → va_D AA (WL g A A1 A2 aq1 o o2 B r.2 f1 dd1 rm.2) → va_S AA s.heap H1 locs1 → cells1 ≤ cells + 1000 → slots1 ≤ slots + 2000 → lv_has ls1 9 [(0, .ref b), (1, .ref (A 0)), (2, .ref (B 0)), (3, .ref o), (4, .ref o2), (5, .int i)] → W p l e room_1 s m #[.ref b] below meth c H1 locs1 cells1 slots1 Q (F0 m 2665 ls1 [])) : W p l e room_1 s m #[.ref b] below meth c H locs cells slots Q (F0 m 1169 ls []) := by
  refine lv_aload_n F.1 F.2.1 dL_law_1169 rfl (lv_at hl 1 rfl) ?_
  refine lv_aload_n F.1 F.2.1 dL_law_1170 rfl (lv_at hl 0 rfl) ?_
  refine lv_iload F.1 F.2.1 dL_law_1171 (lv_at hl 5 rfl) ?_
  refine lv_iconst (v := 1) F.1 F.2.1 dL_law_1173 (by decide) ?_
  refine lv_iadd F.1 F.2.1 dL_law_1174 ?_
  refine va_sld F.1 F.2.1 hXs hbl hbA hS (inR_in j1) dL_law_1175 ?_
  refine lv_i2c (v := c16 (xs (i + 1).toNatClampNeg)) F.1 F.2.1 dL_law_1176 rfl ?_
  refine lv_aload_n F.1 F.2.1 dL_law_1177 rfl (lv_at hl 3 rfl) ?_
  refine cZS (As := [.ref (A 0), .int (c16 (xs (i + 1).toNatClampNeg)), .ref o]) (rest := []) (post := catp [[(o2, .inl (g 7, 1, .inr (.inr (.inr (.inl dd)))))], wMt g B v] []) F hE hX (tL_scraps l hl9 dC dI g A A1 A2 aq o f u (c16 (xs (i + 1).toNatClampNeg)) hx hk) mbL_scraps q1277 ⟨(Nat.le_of_ble_eq_true rfl), (Nat.le_of_ble_eq_true rfl)⟩ ⟨by show _ ≤ 603072; omega, by show _ ≤ 7211114; omega⟩ hP hD hS hA [] rfl rfl hl.1 rfl (Nat.le_of_ble_eq_true rfl) dL_law_1178 (fun b9 H locs hP hD hS => ?_)
  replace hP : va_P (dC, dI) vwCl (WL g A A1 A2 aq o o2 B r.2 (oxI r.1 f) dd v) H := hP
  replace hD : va_D AA (WL g A A1 A2 aq o o2 B r.2 (oxI r.1 f) dd v) := hD
  refine lv_istore (lv' := [(6, .int k), (0, .ref b), (1, .ref (A 0)), (2, .ref (B 0)), (3, .ref o), (4, .ref o2), (5, .int i)]) F.1 F.2.1 dL_law_1181 hl (by decide) rfl (fun ls hl => ?_)
  refine lv_aload_n F.1 F.2.1 dL_law_1183 rfl (lv_at hl 3 rfl) ?_
  refine lv_aload_n F.1 F.2.1 dL_law_1184 rfl (lv_at hl 1 rfl) ?_
  refine lv_iload F.1 F.2.1 dL_law_1185 (lv_at hl 6 rfl) ?_
  refine lv_iconst (v := 1) F.1 F.2.1 dL_law_1187 (by decide) ?_
  refine lv_iadd F.1 F.2.1 dL_law_1188 ?_
  refine va_sld F.1 F.2.1 hXs hbl hbA hS (inR_in j1) dL_law_1189 ?_
  refine lv_i2c (v := c16 (xs (i + 1).toNatClampNeg)) F.1 F.2.1 dL_law_1190 rfl ?_
  refine cMV1 (As := [.int (c16 (xs (i + 1).toNatClampNeg))]) (rest := []) (post := catp [] []) (ws' := WL g A A1 A2 aq o o2 B r.2 (oxI r.1 f) dd rm.2) F hE hX (kX13_scraps l dC dI g B v (c16 (xs (i + 1).toNatClampNeg)) hm) mbX13_scraps q1987 ⟨(Nat.le_of_ble_eq_true rfl), (Nat.le_of_ble_eq_true rfl)⟩ ⟨by show _ ≤ 603072; omega, by show _ ≤ 7211114; omega⟩ hP hD hS hA [wXt g A A1 A2 aq r.2, [(o, .inl (g 6, 1, .inr (.inl (oxI r.1 f))))], [(o2, .inl (g 7, 1, .inr (.inr (.inr (.inl dd)))))]] rfl (wMt_fst g B _ _) rfl 0 rfl rfl rfl hl.1 rfl (Nat.le_of_ble_eq_true rfl) dL_law_1191 (fun H locs hP hD hS => ?_)
  replace hP : va_P (dC, dI) vwCl (WL g A A1 A2 aq o o2 B r.2 (oxI r.1 f) dd rm.2) H := hP
  replace hD : va_D AA (WL g A A1 A2 aq o o2 B r.2 (oxI r.1 f) dd rm.2) := hD
  refine lv_istore (lv' := [(7, .int rm.1), (6, .int k), (0, .ref b), (1, .ref (A 0)), (2, .ref (B 0)), (3, .ref o), (4, .ref o2), (5, .int i)]) F.1 F.2.1 dL_law_1194 hl (by decide) rfl (fun ls hl => ?_)
  refine lv_aload_n F.1 F.2.1 dL_law_1196 rfl (lv_at hl 4 rfl) ?_
  refine cRV1 (As := []) (rest := []) (post := catp [] []) F hE hX hS (kX13_thrown l dC dI g B rm.2 (r := mt_th rm.2) rfl) mbX13_thrown q1674 ⟨(Nat.le_of_ble_eq_true rfl), (Nat.le_of_ble_eq_true rfl)⟩ ⟨by show _ ≤ 603072; omega, by show _ ≤ 7211114; omega⟩ hP [wXt g A A1 A2 aq r.2, [(o, .inl (g 6, 1, .inr (.inl (oxI r.1 f))))], [(o2, .inl (g 7, 1, .inr (.inr (.inr (.inl dd)))))]] rfl 0 rfl rfl rfl hl.1 rfl (Nat.le_of_ble_eq_true rfl) dL_law_1197 ?_
  refine lv_iload F.1 F.2.1 dL_law_1200 (lv_at hl 1 rfl) ?_
  refine lv_icmp_eq (tgt := 1207) F.1 F.2.1 dL_law_1202 (by decide) (fun _ => ?_) (fun k9 => absurd hth k9)
  refine lv_iload F.1 F.2.1 dL_law_1207 (lv_at hl 1 rfl) ?_
  refine lv_if_ne (tgt := 1224) F.1 F.2.1 dL_law_1209 (by decide) (fun kz => ?_) (fun kz => ?_)
  · refine lv_goto (tgt := 2665) F.1 F.2.1 dL_law_1224 (by decide) ?_
    exact kk aq (oxI r.1 f) dd H locs _ _ ls hP hD hS (by omega) (by omega) (lv_sub hl [2, 3, 4, 5, 6, 7] rfl)
  · refine lv_aload_n F.1 F.2.1 dL_law_1212 rfl (lv_at hl 5 rfl) ?_
    refine lv_iconst (v := 0) F.1 F.2.1 dL_law_1213 (by decide) ?_
    refine va_lald F.1 F.2.1 hE.1 hP 387 6 rfl rfl (inR_in (by decide : inR 0 1 = true)) dL_law_1214 ?_
    refine lv_iload F.1 F.2.1 dL_law_1215 (lv_at hl 0 rfl) ?_
    refine lv_i2l F.1 F.2.1 dL_law_1217 rfl ?_
    refine W.lcmp F.1 F.2.1 dL_law_1218 ?_
    refine lv_if_eq (tgt := 1224) F.1 F.2.1 dL_law_1219 (by decide) (fun _ => ?_) (fun k9 => absurd (by show lg_cmp (oxI r.1 f 0) rm.1.toInt64 = 0; rw [hag kz]; exact lg_cmp_self _) k9)
    refine lv_goto (tgt := 2665) F.1 F.2.1 dL_law_1224 (by decide) ?_
    exact kk aq (oxI r.1 f) dd H locs _ _ ls hP hD hS (by omega) (by omega) (lv_sub hl [2, 3, 4, 5, 6, 7] rfl)
set_option maxHeartbeats 4000000 in
set_option maxRecDepth 100000 in
theorem cs_scrap {p : Program} {l : Launch} {e : Env} {s : State} {m : MethodId} {below : List Frame} {meth : Method} {c : Code} {H : Heap} {locs : List Loc} {cells slots : Nat} {Q : State → Prop} {ls : Array Slot} {dC : Nat → ClassId} {dI : Nat → Nat → Nat} {g : Nat → ClassId} {A : Nat → Nat} {A1 A2 : Nat → Nat → Nat} {aq o o2 : Nat} {B : Nat → Nat} {AA : Nat → Prop} {b L : Nat} {xs : Nat → Int32} {i : Int32} {u : XT} {f : Nat → Int64} {dd : Nat → UInt64} {v : MT} (hl9 : l.stackTraces = false) (F : CF p m c code 9 s #[.ref b] RL) (hE : EK dC dI g s) (hX : EX g AA s s.heap) (hA : ∀ q : Nat, s.heap.size ≤ q → AA q) (hXs : va_X b L xs s s.heap) (hbl : b < s.heap.size) (hbA : ¬ AA b) (j1 : inR (i + 1) L = true) (j2 : inR (i + 2) L = true) {r : (Except String Int32) × XT} (hx : gX12_scrap u (c16 (xs (i + 1).toNatClampNeg)) (xs (i + 2).toNatClampNeg) = some r) {k : Int32} (hk : kx ["java/lang/IllegalArgumentException", "java/util/NoSuchElementException"] r.1 = some k) {rm : Int32 × MT} (hm : gX13_scrap v (c16 (xs (i + 1).toNatClampNeg)) (xs (i + 2).toNatClampNeg) = some rm) (hth : mt_th rm.2 = k) (hag : k = 0 → oxI r.1 f 0 = rm.1.toInt64) (hc : cells + 1000 ≤ 603072) (hsl : slots + 2000 ≤ 7211114) (hP : va_P (dC, dI) vwCl (WL g A A1 A2 aq o o2 B u f dd v) H) (hD : va_D AA (WL g A A1 A2 aq o o2 B u f dd v)) (hS : va_S AA s.heap H locs) (hl : lv_has ls 9 [(0, .ref b), (1, .ref (A 0)), (2, .ref (B 0)), (3, .ref o), (4, .ref o2), (5, .int i)])
    (kk : ∀ (aq1 : Nat) (f1 : Nat → Int64) (dd1 : Nat → UInt64) (H1 : Heap) (locs1 : List Loc) (cells1 slots1 : Nat) (ls1 : Array Slot), va_P (dC, dI) vwCl (WL g A A1 A2 aq1 o o2 B r.2 f1 dd1 rm.2) H1 → va_D AA (WL g A A1 A2 aq1 o o2 B r.2 f1 dd1 rm.2) → va_S AA s.heap H1 locs1 → cells1 ≤ cells + 1000 → slots1 ≤ slots + 2000 → lv_has ls1 9 [(0, .ref b), (1, .ref (A 0)), (2, .ref (B 0)), (3, .ref o), (4, .ref o2), (5, .int i)] → W p l e room_1 s m #[.ref b] below meth c H1 locs1 cells1 slots1 Q (F0 m 2665 ls1 [])) : W p l e room_1 s m #[.ref b] below meth c H locs cells slots Q (F0 m 1227 ls []) := by
  refine lv_aload_n F.1 F.2.1 dL_law_1227 rfl (lv_at hl 1 rfl) ?_
  refine lv_aload_n F.1 F.2.1 dL_law_1228 rfl (lv_at hl 0 rfl) ?_
  refine lv_iload F.1 F.2.1 dL_law_1229 (lv_at hl 5 rfl) ?_
  refine lv_iconst (v := 1) F.1 F.2.1 dL_law_1231 (by decide) ?_
  refine lv_iadd F.1 F.2.1 dL_law_1232 ?_
  refine va_sld F.1 F.2.1 hXs hbl hbA hS (inR_in j1) dL_law_1233 ?_
  refine lv_i2c (v := c16 (xs (i + 1).toNatClampNeg)) F.1 F.2.1 dL_law_1234 rfl ?_
  refine lv_aload_n F.1 F.2.1 dL_law_1235 rfl (lv_at hl 0 rfl) ?_
  refine lv_iload F.1 F.2.1 dL_law_1236 (lv_at hl 5 rfl) ?_
  refine lv_iconst (v := 2) F.1 F.2.1 dL_law_1238 (by decide) ?_
  refine lv_iadd F.1 F.2.1 dL_law_1239 ?_
  refine va_sld F.1 F.2.1 hXs hbl hbA hS (inR_in j2) dL_law_1240 ?_
  refine lv_aload_n F.1 F.2.1 dL_law_1241 rfl (lv_at hl 3 rfl) ?_
  refine cZS (As := [.ref (A 0), .int (c16 (xs (i + 1).toNatClampNeg)), .int (xs (i + 2).toNatClampNeg), .ref o]) (rest := []) (post := catp [[(o2, .inl (g 7, 1, .inr (.inr (.inr (.inl dd)))))], wMt g B v] []) F hE hX (tL_scrap l hl9 dC dI g A A1 A2 aq o f u (c16 (xs (i + 1).toNatClampNeg)) (xs (i + 2).toNatClampNeg) hx hk) mbL_scrap q1289 ⟨(Nat.le_of_ble_eq_true rfl), (Nat.le_of_ble_eq_true rfl)⟩ ⟨by show _ ≤ 603072; omega, by show _ ≤ 7211114; omega⟩ hP hD hS hA [] rfl rfl hl.1 rfl (Nat.le_of_ble_eq_true rfl) dL_law_1242 (fun b9 H locs hP hD hS => ?_)
  replace hP : va_P (dC, dI) vwCl (WL g A A1 A2 aq o o2 B r.2 (oxI r.1 f) dd v) H := hP
  replace hD : va_D AA (WL g A A1 A2 aq o o2 B r.2 (oxI r.1 f) dd v) := hD
  refine lv_istore (lv' := [(6, .int k), (0, .ref b), (1, .ref (A 0)), (2, .ref (B 0)), (3, .ref o), (4, .ref o2), (5, .int i)]) F.1 F.2.1 dL_law_1245 hl (by decide) rfl (fun ls hl => ?_)
  refine lv_aload_n F.1 F.2.1 dL_law_1247 rfl (lv_at hl 3 rfl) ?_
  refine lv_aload_n F.1 F.2.1 dL_law_1248 rfl (lv_at hl 1 rfl) ?_
  refine lv_iload F.1 F.2.1 dL_law_1249 (lv_at hl 6 rfl) ?_
  refine lv_iconst (v := 1) F.1 F.2.1 dL_law_1251 (by decide) ?_
  refine lv_iadd F.1 F.2.1 dL_law_1252 ?_
  refine va_sld F.1 F.2.1 hXs hbl hbA hS (inR_in j1) dL_law_1253 ?_
  refine lv_i2c (v := c16 (xs (i + 1).toNatClampNeg)) F.1 F.2.1 dL_law_1254 rfl ?_
  refine lv_aload_n F.1 F.2.1 dL_law_1255 rfl (lv_at hl 1 rfl) ?_
  refine lv_iload F.1 F.2.1 dL_law_1256 (lv_at hl 6 rfl) ?_
  refine lv_iconst (v := 2) F.1 F.2.1 dL_law_1258 (by decide) ?_
  refine lv_iadd F.1 F.2.1 dL_law_1259 ?_
  refine va_sld F.1 F.2.1 hXs hbl hbA hS (inR_in j2) dL_law_1260 ?_
  refine cMV1 (As := [.int (c16 (xs (i + 1).toNatClampNeg)), .int (xs (i + 2).toNatClampNeg)]) (rest := []) (post := catp [] []) (ws' := WL g A A1 A2 aq o o2 B r.2 (oxI r.1 f) dd rm.2) F hE hX (kX13_scrap l dC dI g B v (c16 (xs (i + 1).toNatClampNeg)) (xs (i + 2).toNatClampNeg) hm) mbX13_scrap q1991 ⟨(Nat.le_of_ble_eq_true rfl), (Nat.le_of_ble_eq_true rfl)⟩ ⟨by show _ ≤ 603072; omega, by show _ ≤ 7211114; omega⟩ hP hD hS hA [wXt g A A1 A2 aq r.2, [(o, .inl (g 6, 1, .inr (.inl (oxI r.1 f))))], [(o2, .inl (g 7, 1, .inr (.inr (.inr (.inl dd)))))]] rfl (wMt_fst g B _ _) rfl 0 rfl rfl rfl hl.1 rfl (Nat.le_of_ble_eq_true rfl) dL_law_1261 (fun H locs hP hD hS => ?_)
  replace hP : va_P (dC, dI) vwCl (WL g A A1 A2 aq o o2 B r.2 (oxI r.1 f) dd rm.2) H := hP
  replace hD : va_D AA (WL g A A1 A2 aq o o2 B r.2 (oxI r.1 f) dd rm.2) := hD
  refine lv_istore (lv' := [(7, .int rm.1), (6, .int k), (0, .ref b), (1, .ref (A 0)), (2, .ref (B 0)), (3, .ref o), (4, .ref o2), (5, .int i)]) F.1 F.2.1 dL_law_1264 hl (by decide) rfl (fun ls hl => ?_)
  refine lv_aload_n F.1 F.2.1 dL_law_1266 rfl (lv_at hl 4 rfl) ?_
  refine cRV1 (As := []) (rest := []) (post := catp [] []) F hE hX hS (kX13_thrown l dC dI g B rm.2 (r := mt_th rm.2) rfl) mbX13_thrown q1674 ⟨(Nat.le_of_ble_eq_true rfl), (Nat.le_of_ble_eq_true rfl)⟩ ⟨by show _ ≤ 603072; omega, by show _ ≤ 7211114; omega⟩ hP [wXt g A A1 A2 aq r.2, [(o, .inl (g 6, 1, .inr (.inl (oxI r.1 f))))], [(o2, .inl (g 7, 1, .inr (.inr (.inr (.inl dd)))))]] rfl 0 rfl rfl rfl hl.1 rfl (Nat.le_of_ble_eq_true rfl) dL_law_1267 ?_
  refine lv_iload F.1 F.2.1 dL_law_1270 (lv_at hl 1 rfl) ?_
  refine lv_icmp_eq (tgt := 1277) F.1 F.2.1 dL_law_1272 (by decide) (fun _ => ?_) (fun k9 => absurd hth k9)
  refine lv_iload F.1 F.2.1 dL_law_1277 (lv_at hl 1 rfl) ?_
  refine lv_if_ne (tgt := 1294) F.1 F.2.1 dL_law_1279 (by decide) (fun kz => ?_) (fun kz => ?_)
  · refine lv_goto (tgt := 2665) F.1 F.2.1 dL_law_1294 (by decide) ?_
    exact kk aq (oxI r.1 f) dd H locs _ _ ls hP hD hS (by omega) (by omega) (lv_sub hl [2, 3, 4, 5, 6, 7] rfl)
  · refine lv_aload_n F.1 F.2.1 dL_law_1282 rfl (lv_at hl 5 rfl) ?_
    refine lv_iconst (v := 0) F.1 F.2.1 dL_law_1283 (by decide) ?_
    refine va_lald F.1 F.2.1 hE.1 hP 387 6 rfl rfl (inR_in (by decide : inR 0 1 = true)) dL_law_1284 ?_
    refine lv_iload F.1 F.2.1 dL_law_1285 (lv_at hl 0 rfl) ?_
    refine lv_i2l F.1 F.2.1 dL_law_1287 rfl ?_
    refine W.lcmp F.1 F.2.1 dL_law_1288 ?_
    refine lv_if_eq (tgt := 1294) F.1 F.2.1 dL_law_1289 (by decide) (fun _ => ?_) (fun k9 => absurd (by show lg_cmp (oxI r.1 f 0) rm.1.toInt64 = 0; rw [hag kz]; exact lg_cmp_self _) k9)
    refine lv_goto (tgt := 2665) F.1 F.2.1 dL_law_1294 (by decide) ?_
    exact kk aq (oxI r.1 f) dd H locs _ _ ls hP hD hS (by omega) (by omega) (lv_sub hl [2, 3, 4, 5, 6, 7] rfl)
