set_option maxHeartbeats 4000000 in
set_option maxRecDepth 100000 in
theorem cs_canFill {p : Program} {l : Launch} {e : Env} {s : State} {m : MethodId} {below : List Frame} {meth : Method} {c : Code} {H : Heap} {locs : List Loc} {cells slots : Nat} {Q : State → Prop} {ls : Array Slot} {dC : Nat → ClassId} {dI : Nat → Nat → Nat} {g : Nat → ClassId} {A : Nat → Nat} {A1 A2 : Nat → Nat → Nat} {aq o o2 : Nat} {B : Nat → Nat} {AA : Nat → Prop} {b L : Nat} {xs : Nat → Int32} {i : Int32} {u : XT} {f : Nat → Int64} {dd : Nat → UInt64} {v : MT} (hl9 : l.stackTraces = false) (F : CF p m c code 9 s #[.ref b] RL) (hE : EK dC dI g s) (hX : EX g AA s s.heap) (hA : ∀ q : Nat, s.heap.size ≤ q → AA q) (hXs : va_X b L xs s s.heap) (hbl : b < s.heap.size) (hbA : ¬ AA b) (j1 : inR (i + 1) L = true) {r : (Except String Int32) × XT} (hx : gX12_canFill u (xs (i + 1).toNatClampNeg) = some r) {k : Int32} (hk : kx ["java/util/NoSuchElementException"] r.1 = some k) {rm : Int32 × MT} (hm : gX13_canFill v (xs (i + 1).toNatClampNeg) = some rm) (hth : mt_th rm.2 = k) (hag : k = 0 → oxZ r.1 f 0 = if rm.1 = 0 then 0 else 1) (hc : cells + 1000 ≤ 603072) (hsl : slots + 2000 ≤ 7211114) (hP : va_P (dC, dI) vwCl (WL g A A1 A2 aq o o2 B u f dd v) H) (hD : va_D AA (WL g A A1 A2 aq o o2 B u f dd v)) (hS : va_S AA s.heap H locs) (hl : lv_has ls 9 [(0, .ref b), (1, .ref (A 0)), (2, .ref (B 0)), (3, .ref o), (4, .ref o2), (5, .int i)])
    (kk : ∀ (aq1 : Nat) (f1 : Nat → Int64) (dd1 : Nat → UInt64) (H1 : Heap) (locs1 : List Loc) (cells1 slots1 : Nat) (ls1 : Array Slot), va_P (dC, dI) vwCl (WL g A A1 A2 aq1 o o2 B r.2 f1 dd1 rm.2) H1 → va_D AA (WL g A A1 A2 aq1 o o2 B r.2 f1 dd1 rm.2) → va_S AA s.heap H1 locs1 → cells1 ≤ cells + 1000 → slots1 ≤ slots + 2000 → lv_has ls1 9 [(0, .ref b), (1, .ref (A 0)), (2, .ref (B 0)), (3, .ref o), (4, .ref o2), (5, .int i)] → W p l e room_1 s m #[.ref b] below meth c H1 locs1 cells1 slots1 Q (F0 m 2665 ls1 [])) : W p l e room_1 s m #[.ref b] below meth c H locs cells slots Q (F0 m 1671 ls []) := by
  refine lv_aload_n F.1 F.2.1 dL_law_1671 rfl (lv_at hl 1 rfl) ?_
  refine lv_aload_n F.1 F.2.1 dL_law_1672 rfl (lv_at hl 0 rfl) ?_
  refine lv_iload F.1 F.2.1 dL_law_1673 (lv_at hl 5 rfl) ?_
  refine lv_iconst (v := 1) F.1 F.2.1 dL_law_1675 (by decide) ?_
  refine lv_iadd F.1 F.2.1 dL_law_1676 ?_
  refine va_sld F.1 F.2.1 hXs hbl hbA hS (inR_in j1) dL_law_1677 ?_
  refine lv_aload_n F.1 F.2.1 dL_law_1678 rfl (lv_at hl 3 rfl) ?_
  refine cZS (As := [.ref (A 0), .int (xs (i + 1).toNatClampNeg), .ref o]) (rest := []) (post := catp [[(o2, .inl (g 7, 1, .inr (.inr (.inr (.inl dd)))))], wMt g B v] []) F hE hX (tL_canFill l hl9 dC dI g A A1 A2 aq o f u (xs (i + 1).toNatClampNeg) hx hk) mbL_canFill q1345 ⟨(Nat.le_of_ble_eq_true rfl), (Nat.le_of_ble_eq_true rfl)⟩ ⟨by show _ ≤ 603072; omega, by show _ ≤ 7211114; omega⟩ hP hD hS hA [] rfl rfl hl.1 rfl (Nat.le_of_ble_eq_true rfl) dL_law_1679 (fun b9 H locs hP hD hS => ?_)
  replace hP : va_P (dC, dI) vwCl (WL g A A1 A2 aq o o2 B r.2 (oxZ r.1 f) dd v) H := hP
  replace hD : va_D AA (WL g A A1 A2 aq o o2 B r.2 (oxZ r.1 f) dd v) := hD
  refine lv_istore (lv' := [(6, .int k), (0, .ref b), (1, .ref (A 0)), (2, .ref (B 0)), (3, .ref o), (4, .ref o2), (5, .int i)]) F.1 F.2.1 dL_law_1682 hl (by decide) rfl (fun ls hl => ?_)
  refine lv_aload_n F.1 F.2.1 dL_law_1684 rfl (lv_at hl 3 rfl) ?_
  refine lv_aload_n F.1 F.2.1 dL_law_1685 rfl (lv_at hl 1 rfl) ?_
  refine lv_iload F.1 F.2.1 dL_law_1686 (lv_at hl 6 rfl) ?_
  refine lv_iconst (v := 1) F.1 F.2.1 dL_law_1688 (by decide) ?_
  refine lv_iadd F.1 F.2.1 dL_law_1689 ?_
  refine va_sld F.1 F.2.1 hXs hbl hbA hS (inR_in j1) dL_law_1690 ?_
  refine cMV1 (As := [.int (xs (i + 1).toNatClampNeg)]) (rest := []) (post := catp [] []) (ws' := WL g A A1 A2 aq o o2 B r.2 (oxZ r.1 f) dd rm.2) F hE hX (kX13_canFill l dC dI g B v (xs (i + 1).toNatClampNeg) hm) mbX13_canFill q2040 ⟨(Nat.le_of_ble_eq_true rfl), (Nat.le_of_ble_eq_true rfl)⟩ ⟨by show _ ≤ 603072; omega, by show _ ≤ 7211114; omega⟩ hP hD hS hA [wXt g A A1 A2 aq r.2, [(o, .inl (g 6, 1, .inr (.inl (oxZ r.1 f))))], [(o2, .inl (g 7, 1, .inr (.inr (.inr (.inl dd)))))]] rfl (wMt_fst g B _ _) rfl 0 rfl rfl rfl hl.1 rfl (Nat.le_of_ble_eq_true rfl) dL_law_1691 (fun H locs hP hD hS => ?_)
  replace hP : va_P (dC, dI) vwCl (WL g A A1 A2 aq o o2 B r.2 (oxZ r.1 f) dd rm.2) H := hP
  replace hD : va_D AA (WL g A A1 A2 aq o o2 B r.2 (oxZ r.1 f) dd rm.2) := hD
  refine lv_istore (lv' := [(7, .int rm.1), (6, .int k), (0, .ref b), (1, .ref (A 0)), (2, .ref (B 0)), (3, .ref o), (4, .ref o2), (5, .int i)]) F.1 F.2.1 dL_law_1694 hl (by decide) rfl (fun ls hl => ?_)
  refine lv_aload_n F.1 F.2.1 dL_law_1696 rfl (lv_at hl 4 rfl) ?_
  refine cRV1 (As := []) (rest := []) (post := catp [] []) F hE hX hS (kX13_thrown l dC dI g B rm.2 (r := mt_th rm.2) rfl) mbX13_thrown q1674 ⟨(Nat.le_of_ble_eq_true rfl), (Nat.le_of_ble_eq_true rfl)⟩ ⟨by show _ ≤ 603072; omega, by show _ ≤ 7211114; omega⟩ hP [wXt g A A1 A2 aq r.2, [(o, .inl (g 6, 1, .inr (.inl (oxZ r.1 f))))], [(o2, .inl (g 7, 1, .inr (.inr (.inr (.inl dd)))))]] rfl 0 rfl rfl rfl hl.1 rfl (Nat.le_of_ble_eq_true rfl) dL_law_1697 ?_
  refine lv_iload F.1 F.2.1 dL_law_1700 (lv_at hl 1 rfl) ?_
  refine lv_icmp_eq (tgt := 1707) F.1 F.2.1 dL_law_1702 (by decide) (fun _ => ?_) (fun k9 => absurd hth k9)
  refine lv_iload F.1 F.2.1 dL_law_1707 (lv_at hl 1 rfl) ?_
  refine lv_if_ne (tgt := 1731) F.1 F.2.1 dL_law_1709 (by decide) (fun kz => ?_) (fun kz => ?_)
  · refine lv_goto (tgt := 2665) F.1 F.2.1 dL_law_1731 (by decide) ?_
    exact kk aq (oxZ r.1 f) dd H locs _ _ ls hP hD hS (by omega) (by omega) (lv_sub hl [2, 3, 4, 5, 6, 7] rfl)
  · refine lv_aload_n F.1 F.2.1 dL_law_1712 rfl (lv_at hl 5 rfl) ?_
    refine lv_iconst (v := 0) F.1 F.2.1 dL_law_1713 (by decide) ?_
    refine va_lald F.1 F.2.1 hE.1 hP 387 6 rfl rfl (inR_in (by decide : inR 0 1 = true)) dL_law_1714 ?_
    refine lv_iload F.1 F.2.1 dL_law_1715 (lv_at hl 0 rfl) ?_
    refine lv_if_eq (tgt := 1724) F.1 F.2.1 dL_law_1717 (by decide) (fun kb => ?_) (fun kb => ?_)
    · refine lv_lconst (v := 0) F.1 F.2.1 dL_law_1724 (by decide) ?_
      refine W.lcmp F.1 F.2.1 dL_law_1725 ?_
      refine lv_if_eq (tgt := 1731) F.1 F.2.1 dL_law_1726 (by decide) (fun _ => ?_) (fun k9 => absurd (by show lg_cmp (oxZ r.1 f 0) 0 = 0; rw [hag kz, if_pos kb]; exact lg_cmp_self _) k9)
      refine lv_goto (tgt := 2665) F.1 F.2.1 dL_law_1731 (by decide) ?_
      exact kk aq (oxZ r.1 f) dd H locs _ _ ls hP hD hS (by omega) (by omega) (lv_sub hl [2, 3, 4, 5, 6, 7] rfl)
    · refine lv_lconst (v := 1) F.1 F.2.1 dL_law_1720 (by decide) ?_
      refine lv_goto (tgt := 1725) F.1 F.2.1 dL_law_1721 (by decide) ?_
      refine W.lcmp F.1 F.2.1 dL_law_1725 ?_
      refine lv_if_eq (tgt := 1731) F.1 F.2.1 dL_law_1726 (by decide) (fun _ => ?_) (fun k9 => absurd (by show lg_cmp (oxZ r.1 f 0) 1 = 0; rw [hag kz, if_neg kb]; exact lg_cmp_self _) k9)
      refine lv_goto (tgt := 2665) F.1 F.2.1 dL_law_1731 (by decide) ?_
      exact kk aq (oxZ r.1 f) dd H locs _ _ ls hP hD hS (by omega) (by omega) (lv_sub hl [2, 3, 4, 5, 6, 7] rfl)
set_option maxHeartbeats 4000000 in
set_option maxRecDepth 100000 in
theorem cs_chosenScrap {p : Program} {l : Launch} {e : Env} {s : State} {m : MethodId} {below : List Frame} {meth : Method} {c : Code} {H : Heap} {locs : List Loc} {cells slots : Nat} {Q : State → Prop} {ls : Array Slot} {dC : Nat → ClassId} {dI : Nat → Nat → Nat} {g : Nat → ClassId} {A : Nat → Nat} {A1 A2 : Nat → Nat → Nat} {aq o o2 : Nat} {B : Nat → Nat} {AA : Nat → Prop} {b L : Nat} {xs : Nat → Int32} {i : Int32} {u : XT} {f : Nat → Int64} {dd : Nat → UInt64} {v : MT} (hl9 : l.stackTraces = false) (F : CF p m c code 9 s #[.ref b] RL) (hE : EK dC dI g s) (hX : EX g AA s s.heap) (hA : ∀ q : Nat, s.heap.size ≤ q → AA q) (hXs : va_X b L xs s s.heap) (hbl : b < s.heap.size) (hbA : ¬ AA b) (j1 : inR (i + 1) L = true) {r : (Except String Int32) × XT} (hx : gX12_chosenScrap u (xs (i + 1).toNatClampNeg) = some r) {k : Int32} (hk : kx ["java/util/NoSuchElementException"] r.1 = some k) {rm : Int32 × MT} (hm : gX13_chosenScrap v (xs (i + 1).toNatClampNeg) = some rm) (hth : mt_th rm.2 = k) (hag : k = 0 → oxI r.1 f 0 = rm.1.toInt64) (hc : cells + 1000 ≤ 603072) (hsl : slots + 2000 ≤ 7211114) (hP : va_P (dC, dI) vwCl (WL g A A1 A2 aq o o2 B u f dd v) H) (hD : va_D AA (WL g A A1 A2 aq o o2 B u f dd v)) (hS : va_S AA s.heap H locs) (hl : lv_has ls 9 [(0, .ref b), (1, .ref (A 0)), (2, .ref (B 0)), (3, .ref o), (4, .ref o2), (5, .int i)])
    (kk : ∀ (aq1 : Nat) (f1 : Nat → Int64) (dd1 : Nat → UInt64) (H1 : Heap) (locs1 : List Loc) (cells1 slots1 : Nat) (ls1 : Array Slot), va_P (dC, dI) vwCl (WL g A A1 A2 aq1 o o2 B r.2 f1 dd1 rm.2) H1 → va_D AA (WL g A A1 A2 aq1 o o2 B r.2 f1 dd1 rm.2) → va_S AA s.heap H1 locs1 → cells1 ≤ cells + 1000 → slots1 ≤ slots + 2000 → lv_has ls1 9 [(0, .ref b), (1, .ref (A 0)), (2, .ref (B 0)), (3, .ref o), (4, .ref o2), (5, .int i)] → W p l e room_1 s m #[.ref b] below meth c H1 locs1 cells1 slots1 Q (F0 m 2665 ls1 [])) : W p l e room_1 s m #[.ref b] below meth c H locs cells slots Q (F0 m 1734 ls []) := by
  refine lv_aload_n F.1 F.2.1 dL_law_1734 rfl (lv_at hl 1 rfl) ?_
  refine lv_aload_n F.1 F.2.1 dL_law_1735 rfl (lv_at hl 0 rfl) ?_
  refine lv_iload F.1 F.2.1 dL_law_1736 (lv_at hl 5 rfl) ?_
  refine lv_iconst (v := 1) F.1 F.2.1 dL_law_1738 (by decide) ?_
  refine lv_iadd F.1 F.2.1 dL_law_1739 ?_
  refine va_sld F.1 F.2.1 hXs hbl hbA hS (inR_in j1) dL_law_1740 ?_
  refine lv_aload_n F.1 F.2.1 dL_law_1741 rfl (lv_at hl 3 rfl) ?_
  refine cZS (As := [.ref (A 0), .int (xs (i + 1).toNatClampNeg), .ref o]) (rest := []) (post := catp [[(o2, .inl (g 7, 1, .inr (.inr (.inr (.inl dd)))))], wMt g B v] []) F hE hX (tL_chosenScrap l hl9 dC dI g A A1 A2 aq o f u (xs (i + 1).toNatClampNeg) hx hk) mbL_chosenScrap q1353 ⟨(Nat.le_of_ble_eq_true rfl), (Nat.le_of_ble_eq_true rfl)⟩ ⟨by show _ ≤ 603072; omega, by show _ ≤ 7211114; omega⟩ hP hD hS hA [] rfl rfl hl.1 rfl (Nat.le_of_ble_eq_true rfl) dL_law_1742 (fun b9 H locs hP hD hS => ?_)
  replace hP : va_P (dC, dI) vwCl (WL g A A1 A2 aq o o2 B r.2 (oxI r.1 f) dd v) H := hP
  replace hD : va_D AA (WL g A A1 A2 aq o o2 B r.2 (oxI r.1 f) dd v) := hD
  refine lv_istore (lv' := [(6, .int k), (0, .ref b), (1, .ref (A 0)), (2, .ref (B 0)), (3, .ref o), (4, .ref o2), (5, .int i)]) F.1 F.2.1 dL_law_1745 hl (by decide) rfl (fun ls hl => ?_)
  refine lv_aload_n F.1 F.2.1 dL_law_1747 rfl (lv_at hl 3 rfl) ?_
  refine lv_aload_n F.1 F.2.1 dL_law_1748 rfl (lv_at hl 1 rfl) ?_
  refine lv_iload F.1 F.2.1 dL_law_1749 (lv_at hl 6 rfl) ?_
  refine lv_iconst (v := 1) F.1 F.2.1 dL_law_1751 (by decide) ?_
  refine lv_iadd F.1 F.2.1 dL_law_1752 ?_
  refine va_sld F.1 F.2.1 hXs hbl hbA hS (inR_in j1) dL_law_1753 ?_
  refine cMV1 (As := [.int (xs (i + 1).toNatClampNeg)]) (rest := []) (post := catp [] []) (ws' := WL g A A1 A2 aq o o2 B r.2 (oxI r.1 f) dd rm.2) F hE hX (kX13_chosenScrap l dC dI g B v (xs (i + 1).toNatClampNeg) hm) mbX13_chosenScrap q2044 ⟨(Nat.le_of_ble_eq_true rfl), (Nat.le_of_ble_eq_true rfl)⟩ ⟨by show _ ≤ 603072; omega, by show _ ≤ 7211114; omega⟩ hP hD hS hA [wXt g A A1 A2 aq r.2, [(o, .inl (g 6, 1, .inr (.inl (oxI r.1 f))))], [(o2, .inl (g 7, 1, .inr (.inr (.inr (.inl dd)))))]] rfl (wMt_fst g B _ _) rfl 0 rfl rfl rfl hl.1 rfl (Nat.le_of_ble_eq_true rfl) dL_law_1754 (fun H locs hP hD hS => ?_)
  replace hP : va_P (dC, dI) vwCl (WL g A A1 A2 aq o o2 B r.2 (oxI r.1 f) dd rm.2) H := hP
  replace hD : va_D AA (WL g A A1 A2 aq o o2 B r.2 (oxI r.1 f) dd rm.2) := hD
  refine lv_istore (lv' := [(7, .int rm.1), (6, .int k), (0, .ref b), (1, .ref (A 0)), (2, .ref (B 0)), (3, .ref o), (4, .ref o2), (5, .int i)]) F.1 F.2.1 dL_law_1757 hl (by decide) rfl (fun ls hl => ?_)
  refine lv_aload_n F.1 F.2.1 dL_law_1759 rfl (lv_at hl 4 rfl) ?_
  refine cRV1 (As := []) (rest := []) (post := catp [] []) F hE hX hS (kX13_thrown l dC dI g B rm.2 (r := mt_th rm.2) rfl) mbX13_thrown q1674 ⟨(Nat.le_of_ble_eq_true rfl), (Nat.le_of_ble_eq_true rfl)⟩ ⟨by show _ ≤ 603072; omega, by show _ ≤ 7211114; omega⟩ hP [wXt g A A1 A2 aq r.2, [(o, .inl (g 6, 1, .inr (.inl (oxI r.1 f))))], [(o2, .inl (g 7, 1, .inr (.inr (.inr (.inl dd)))))]] rfl 0 rfl rfl rfl hl.1 rfl (Nat.le_of_ble_eq_true rfl) dL_law_1760 ?_
  refine lv_iload F.1 F.2.1 dL_law_1763 (lv_at hl 1 rfl) ?_
  refine lv_icmp_eq (tgt := 1770) F.1 F.2.1 dL_law_1765 (by decide) (fun _ => ?_) (fun k9 => absurd hth k9)
  refine lv_iload F.1 F.2.1 dL_law_1770 (lv_at hl 1 rfl) ?_
  refine lv_if_ne (tgt := 1787) F.1 F.2.1 dL_law_1772 (by decide) (fun kz => ?_) (fun kz => ?_)
  · refine lv_goto (tgt := 2665) F.1 F.2.1 dL_law_1787 (by decide) ?_
    exact kk aq (oxI r.1 f) dd H locs _ _ ls hP hD hS (by omega) (by omega) (lv_sub hl [2, 3, 4, 5, 6, 7] rfl)
  · refine lv_aload_n F.1 F.2.1 dL_law_1775 rfl (lv_at hl 5 rfl) ?_
    refine lv_iconst (v := 0) F.1 F.2.1 dL_law_1776 (by decide) ?_
    refine va_lald F.1 F.2.1 hE.1 hP 387 6 rfl rfl (inR_in (by decide : inR 0 1 = true)) dL_law_1777 ?_
    refine lv_iload F.1 F.2.1 dL_law_1778 (lv_at hl 0 rfl) ?_
    refine lv_i2l F.1 F.2.1 dL_law_1780 rfl ?_
    refine W.lcmp F.1 F.2.1 dL_law_1781 ?_
    refine lv_if_eq (tgt := 1787) F.1 F.2.1 dL_law_1782 (by decide) (fun _ => ?_) (fun k9 => absurd (by show lg_cmp (oxI r.1 f 0) rm.1.toInt64 = 0; rw [hag kz]; exact lg_cmp_self _) k9)
    refine lv_goto (tgt := 2665) F.1 F.2.1 dL_law_1787 (by decide) ?_
    exact kk aq (oxI r.1 f) dd H locs _ _ ls hP hD hS (by omega) (by omega) (lv_sub hl [2, 3, 4, 5, 6, 7] rfl)
set_option maxHeartbeats 4000000 in
set_option maxRecDepth 100000 in
theorem cs_chosenSpool {p : Program} {l : Launch} {e : Env} {s : State} {m : MethodId} {below : List Frame} {meth : Method} {c : Code} {H : Heap} {locs : List Loc} {cells slots : Nat} {Q : State → Prop} {ls : Array Slot} {dC : Nat → ClassId} {dI : Nat → Nat → Nat} {g : Nat → ClassId} {A : Nat → Nat} {A1 A2 : Nat → Nat → Nat} {aq o o2 : Nat} {B : Nat → Nat} {AA : Nat → Prop} {b L : Nat} {xs : Nat → Int32} {i : Int32} {u : XT} {f : Nat → Int64} {dd : Nat → UInt64} {v : MT} (hl9 : l.stackTraces = false) (F : CF p m c code 9 s #[.ref b] RL) (hE : EK dC dI g s) (hX : EX g AA s s.heap) (hA : ∀ q : Nat, s.heap.size ≤ q → AA q) (hXs : va_X b L xs s s.heap) (hbl : b < s.heap.size) (hbA : ¬ AA b) (j1 : inR (i + 1) L = true) {r : (Except String Int32) × XT} (hx : gX12_chosenSpool u (xs (i + 1).toNatClampNeg) = some r) {k : Int32} (hk : kx ["java/util/NoSuchElementException"] r.1 = some k) {rm : Int32 × MT} (hm : gX13_chosenSpool v (xs (i + 1).toNatClampNeg) = some rm) (hth : mt_th rm.2 = k) (hag : k = 0 → oxI r.1 f 0 = rm.1.toInt64) (hc : cells + 1000 ≤ 603072) (hsl : slots + 2000 ≤ 7211114) (hP : va_P (dC, dI) vwCl (WL g A A1 A2 aq o o2 B u f dd v) H) (hD : va_D AA (WL g A A1 A2 aq o o2 B u f dd v)) (hS : va_S AA s.heap H locs) (hl : lv_has ls 9 [(0, .ref b), (1, .ref (A 0)), (2, .ref (B 0)), (3, .ref o), (4, .ref o2), (5, .int i)])
    (kk : ∀ (aq1 : Nat) (f1 : Nat → Int64) (dd1 : Nat → UInt64) (H1 : Heap) (locs1 : List Loc) (cells1 slots1 : Nat) (ls1 : Array Slot), va_P (dC, dI) vwCl (WL g A A1 A2 aq1 o o2 B r.2 f1 dd1 rm.2) H1 → va_D AA (WL g A A1 A2 aq1 o o2 B r.2 f1 dd1 rm.2) → va_S AA s.heap H1 locs1 → cells1 ≤ cells + 1000 → slots1 ≤ slots + 2000 → lv_has ls1 9 [(0, .ref b), (1, .ref (A 0)), (2, .ref (B 0)), (3, .ref o), (4, .ref o2), (5, .int i)] → W p l e room_1 s m #[.ref b] below meth c H1 locs1 cells1 slots1 Q (F0 m 2665 ls1 [])) : W p l e room_1 s m #[.ref b] below meth c H locs cells slots Q (F0 m 1790 ls []) := by
  refine lv_aload_n F.1 F.2.1 dL_law_1790 rfl (lv_at hl 1 rfl) ?_
  refine lv_aload_n F.1 F.2.1 dL_law_1791 rfl (lv_at hl 0 rfl) ?_
  refine lv_iload F.1 F.2.1 dL_law_1792 (lv_at hl 5 rfl) ?_
  refine lv_iconst (v := 1) F.1 F.2.1 dL_law_1794 (by decide) ?_
  refine lv_iadd F.1 F.2.1 dL_law_1795 ?_
  refine va_sld F.1 F.2.1 hXs hbl hbA hS (inR_in j1) dL_law_1796 ?_
  refine lv_aload_n F.1 F.2.1 dL_law_1797 rfl (lv_at hl 3 rfl) ?_
  refine cZS (As := [.ref (A 0), .int (xs (i + 1).toNatClampNeg), .ref o]) (rest := []) (post := catp [[(o2, .inl (g 7, 1, .inr (.inr (.inr (.inl dd)))))], wMt g B v] []) F hE hX (tL_chosenSpool l hl9 dC dI g A A1 A2 aq o f u (xs (i + 1).toNatClampNeg) hx hk) mbL_chosenSpool q1365 ⟨(Nat.le_of_ble_eq_true rfl), (Nat.le_of_ble_eq_true rfl)⟩ ⟨by show _ ≤ 603072; omega, by show _ ≤ 7211114; omega⟩ hP hD hS hA [] rfl rfl hl.1 rfl (Nat.le_of_ble_eq_true rfl) dL_law_1798 (fun b9 H locs hP hD hS => ?_)
  replace hP : va_P (dC, dI) vwCl (WL g A A1 A2 aq o o2 B r.2 (oxI r.1 f) dd v) H := hP
  replace hD : va_D AA (WL g A A1 A2 aq o o2 B r.2 (oxI r.1 f) dd v) := hD
  refine lv_istore (lv' := [(6, .int k), (0, .ref b), (1, .ref (A 0)), (2, .ref (B 0)), (3, .ref o), (4, .ref o2), (5, .int i)]) F.1 F.2.1 dL_law_1801 hl (by decide) rfl (fun ls hl => ?_)
  refine lv_aload_n F.1 F.2.1 dL_law_1803 rfl (lv_at hl 3 rfl) ?_
  refine lv_aload_n F.1 F.2.1 dL_law_1804 rfl (lv_at hl 1 rfl) ?_
  refine lv_iload F.1 F.2.1 dL_law_1805 (lv_at hl 6 rfl) ?_
  refine lv_iconst (v := 1) F.1 F.2.1 dL_law_1807 (by decide) ?_
  refine lv_iadd F.1 F.2.1 dL_law_1808 ?_
  refine va_sld F.1 F.2.1 hXs hbl hbA hS (inR_in j1) dL_law_1809 ?_
  refine cMV1 (As := [.int (xs (i + 1).toNatClampNeg)]) (rest := []) (post := catp [] []) (ws' := WL g A A1 A2 aq o o2 B r.2 (oxI r.1 f) dd rm.2) F hE hX (kX13_chosenSpool l dC dI g B v (xs (i + 1).toNatClampNeg) hm) mbX13_chosenSpool q2048 ⟨(Nat.le_of_ble_eq_true rfl), (Nat.le_of_ble_eq_true rfl)⟩ ⟨by show _ ≤ 603072; omega, by show _ ≤ 7211114; omega⟩ hP hD hS hA [wXt g A A1 A2 aq r.2, [(o, .inl (g 6, 1, .inr (.inl (oxI r.1 f))))], [(o2, .inl (g 7, 1, .inr (.inr (.inr (.inl dd)))))]] rfl (wMt_fst g B _ _) rfl 0 rfl rfl rfl hl.1 rfl (Nat.le_of_ble_eq_true rfl) dL_law_1810 (fun H locs hP hD hS => ?_)
  replace hP : va_P (dC, dI) vwCl (WL g A A1 A2 aq o o2 B r.2 (oxI r.1 f) dd rm.2) H := hP
  replace hD : va_D AA (WL g A A1 A2 aq o o2 B r.2 (oxI r.1 f) dd rm.2) := hD
  refine lv_istore (lv' := [(7, .int rm.1), (6, .int k), (0, .ref b), (1, .ref (A 0)), (2, .ref (B 0)), (3, .ref o), (4, .ref o2), (5, .int i)]) F.1 F.2.1 dL_law_1813 hl (by decide) rfl (fun ls hl => ?_)
  refine lv_aload_n F.1 F.2.1 dL_law_1815 rfl (lv_at hl 4 rfl) ?_
  refine cRV1 (As := []) (rest := []) (post := catp [] []) F hE hX hS (kX13_thrown l dC dI g B rm.2 (r := mt_th rm.2) rfl) mbX13_thrown q1674 ⟨(Nat.le_of_ble_eq_true rfl), (Nat.le_of_ble_eq_true rfl)⟩ ⟨by show _ ≤ 603072; omega, by show _ ≤ 7211114; omega⟩ hP [wXt g A A1 A2 aq r.2, [(o, .inl (g 6, 1, .inr (.inl (oxI r.1 f))))], [(o2, .inl (g 7, 1, .inr (.inr (.inr (.inl dd)))))]] rfl 0 rfl rfl rfl hl.1 rfl (Nat.le_of_ble_eq_true rfl) dL_law_1816 ?_
  refine lv_iload F.1 F.2.1 dL_law_1819 (lv_at hl 1 rfl) ?_
  refine lv_icmp_eq (tgt := 1826) F.1 F.2.1 dL_law_1821 (by decide) (fun _ => ?_) (fun k9 => absurd hth k9)
  refine lv_iload F.1 F.2.1 dL_law_1826 (lv_at hl 1 rfl) ?_
  refine lv_if_ne (tgt := 1843) F.1 F.2.1 dL_law_1828 (by decide) (fun kz => ?_) (fun kz => ?_)
  · refine lv_goto (tgt := 2665) F.1 F.2.1 dL_law_1843 (by decide) ?_
    exact kk aq (oxI r.1 f) dd H locs _ _ ls hP hD hS (by omega) (by omega) (lv_sub hl [2, 3, 4, 5, 6, 7] rfl)
  · refine lv_aload_n F.1 F.2.1 dL_law_1831 rfl (lv_at hl 5 rfl) ?_
    refine lv_iconst (v := 0) F.1 F.2.1 dL_law_1832 (by decide) ?_
    refine va_lald F.1 F.2.1 hE.1 hP 387 6 rfl rfl (inR_in (by decide : inR 0 1 = true)) dL_law_1833 ?_
    refine lv_iload F.1 F.2.1 dL_law_1834 (lv_at hl 0 rfl) ?_
    refine lv_i2l F.1 F.2.1 dL_law_1836 rfl ?_
    refine W.lcmp F.1 F.2.1 dL_law_1837 ?_
    refine lv_if_eq (tgt := 1843) F.1 F.2.1 dL_law_1838 (by decide) (fun _ => ?_) (fun k9 => absurd (by show lg_cmp (oxI r.1 f 0) rm.1.toInt64 = 0; rw [hag kz]; exact lg_cmp_self _) k9)
    refine lv_goto (tgt := 2665) F.1 F.2.1 dL_law_1843 (by decide) ?_
    exact kk aq (oxI r.1 f) dd H locs _ _ ls hP hD hS (by omega) (by omega) (lv_sub hl [2, 3, 4, 5, 6, 7] rfl)
set_option maxHeartbeats 4000000 in
set_option maxRecDepth 100000 in
theorem cs_wound {p : Program} {l : Launch} {e : Env} {s : State} {m : MethodId} {below : List Frame} {meth : Method} {c : Code} {H : Heap} {locs : List Loc} {cells slots : Nat} {Q : State → Prop} {ls : Array Slot} {dC : Nat → ClassId} {dI : Nat → Nat → Nat} {g : Nat → ClassId} {A : Nat → Nat} {A1 A2 : Nat → Nat → Nat} {aq o o2 : Nat} {B : Nat → Nat} {AA : Nat → Prop} {b L : Nat} {xs : Nat → Int32} {i : Int32} {u : XT} {f : Nat → Int64} {dd : Nat → UInt64} {v : MT} (hl9 : l.stackTraces = false) (F : CF p m c code 9 s #[.ref b] RL) (hE : EK dC dI g s) (hX : EX g AA s s.heap) (hA : ∀ q : Nat, s.heap.size ≤ q → AA q) (hXs : va_X b L xs s s.heap) (hbl : b < s.heap.size) (hbA : ¬ AA b) (j1 : inR (i + 1) L = true) {r : (Except String Int32) × XT} (hx : gX12_wound u (c16 (xs (i + 1).toNatClampNeg)) = some r) {k : Int32} (hk : kx ["java/lang/IllegalArgumentException"] r.1 = some k) {rm : Int32 × MT} (hm : gX13_wound v (c16 (xs (i + 1).toNatClampNeg)) = some rm) (hth : mt_th rm.2 = k) (hag : k = 0 → oxI r.1 f 0 = rm.1.toInt64) (hc : cells + 1000 ≤ 603072) (hsl : slots + 2000 ≤ 7211114) (hP : va_P (dC, dI) vwCl (WL g A A1 A2 aq o o2 B u f dd v) H) (hD : va_D AA (WL g A A1 A2 aq o o2 B u f dd v)) (hS : va_S AA s.heap H locs) (hl : lv_has ls 9 [(0, .ref b), (1, .ref (A 0)), (2, .ref (B 0)), (3, .ref o), (4, .ref o2), (5, .int i)])
    (kk : ∀ (aq1 : Nat) (f1 : Nat → Int64) (dd1 : Nat → UInt64) (H1 : Heap) (locs1 : List Loc) (cells1 slots1 : Nat) (ls1 : Array Slot), va_P (dC, dI) vwCl (WL g A A1 A2 aq1 o o2 B r.2 f1 dd1 rm.2) H1 → va_D AA (WL g A A1 A2 aq1 o o2 B r.2 f1 dd1 rm.2) → va_S AA s.heap H1 locs1 → cells1 ≤ cells + 1000 → slots1 ≤ slots + 2000 → lv_has ls1 9 [(0, .ref b), (1, .ref (A 0)), (2, .ref (B 0)), (3, .ref o), (4, .ref o2), (5, .int i)] → W p l e room_1 s m #[.ref b] below meth c H1 locs1 cells1 slots1 Q (F0 m 2665 ls1 [])) : W p l e room_1 s m #[.ref b] below meth c H locs cells slots Q (F0 m 1846 ls []) := by
  refine lv_aload_n F.1 F.2.1 dL_law_1846 rfl (lv_at hl 1 rfl) ?_
  refine lv_aload_n F.1 F.2.1 dL_law_1847 rfl (lv_at hl 0 rfl) ?_
  refine lv_iload F.1 F.2.1 dL_law_1848 (lv_at hl 5 rfl) ?_
  refine lv_iconst (v := 1) F.1 F.2.1 dL_law_1850 (by decide) ?_
  refine lv_iadd F.1 F.2.1 dL_law_1851 ?_
  refine va_sld F.1 F.2.1 hXs hbl hbA hS (inR_in j1) dL_law_1852 ?_
  refine lv_i2c (v := c16 (xs (i + 1).toNatClampNeg)) F.1 F.2.1 dL_law_1853 rfl ?_
  refine lv_aload_n F.1 F.2.1 dL_law_1854 rfl (lv_at hl 3 rfl) ?_
  refine cZS (As := [.ref (A 0), .int (c16 (xs (i + 1).toNatClampNeg)), .ref o]) (rest := []) (post := catp [[(o2, .inl (g 7, 1, .inr (.inr (.inr (.inl dd)))))], wMt g B v] []) F hE hX (tL_wound l hl9 dC dI g A A1 A2 aq o f u (c16 (xs (i + 1).toNatClampNeg)) hx hk) mbL_wound q1377 ⟨(Nat.le_of_ble_eq_true rfl), (Nat.le_of_ble_eq_true rfl)⟩ ⟨by show _ ≤ 603072; omega, by show _ ≤ 7211114; omega⟩ hP hD hS hA [] rfl rfl hl.1 rfl (Nat.le_of_ble_eq_true rfl) dL_law_1855 (fun b9 H locs hP hD hS => ?_)
  replace hP : va_P (dC, dI) vwCl (WL g A A1 A2 aq o o2 B r.2 (oxI r.1 f) dd v) H := hP
  replace hD : va_D AA (WL g A A1 A2 aq o o2 B r.2 (oxI r.1 f) dd v) := hD
  refine lv_istore (lv' := [(6, .int k), (0, .ref b), (1, .ref (A 0)), (2, .ref (B 0)), (3, .ref o), (4, .ref o2), (5, .int i)]) F.1 F.2.1 dL_law_1858 hl (by decide) rfl (fun ls hl => ?_)
  refine lv_aload_n F.1 F.2.1 dL_law_1860 rfl (lv_at hl 3 rfl) ?_
  refine lv_aload_n F.1 F.2.1 dL_law_1861 rfl (lv_at hl 1 rfl) ?_
  refine lv_iload F.1 F.2.1 dL_law_1862 (lv_at hl 6 rfl) ?_
  refine lv_iconst (v := 1) F.1 F.2.1 dL_law_1864 (by decide) ?_
  refine lv_iadd F.1 F.2.1 dL_law_1865 ?_
  refine va_sld F.1 F.2.1 hXs hbl hbA hS (inR_in j1) dL_law_1866 ?_
  refine lv_i2c (v := c16 (xs (i + 1).toNatClampNeg)) F.1 F.2.1 dL_law_1867 rfl ?_
  refine cMV1 (As := [.int (c16 (xs (i + 1).toNatClampNeg))]) (rest := []) (post := catp [] []) (ws' := WL g A A1 A2 aq o o2 B r.2 (oxI r.1 f) dd rm.2) F hE hX (kX13_wound l dC dI g B v (c16 (xs (i + 1).toNatClampNeg)) hm) mbX13_wound q2052 ⟨(Nat.le_of_ble_eq_true rfl), (Nat.le_of_ble_eq_true rfl)⟩ ⟨by show _ ≤ 603072; omega, by show _ ≤ 7211114; omega⟩ hP hD hS hA [wXt g A A1 A2 aq r.2, [(o, .inl (g 6, 1, .inr (.inl (oxI r.1 f))))], [(o2, .inl (g 7, 1, .inr (.inr (.inr (.inl dd)))))]] rfl (wMt_fst g B _ _) rfl 0 rfl rfl rfl hl.1 rfl (Nat.le_of_ble_eq_true rfl) dL_law_1868 (fun H locs hP hD hS => ?_)
  replace hP : va_P (dC, dI) vwCl (WL g A A1 A2 aq o o2 B r.2 (oxI r.1 f) dd rm.2) H := hP
  replace hD : va_D AA (WL g A A1 A2 aq o o2 B r.2 (oxI r.1 f) dd rm.2) := hD
  refine lv_istore (lv' := [(7, .int rm.1), (6, .int k), (0, .ref b), (1, .ref (A 0)), (2, .ref (B 0)), (3, .ref o), (4, .ref o2), (5, .int i)]) F.1 F.2.1 dL_law_1871 hl (by decide) rfl (fun ls hl => ?_)
  refine lv_aload_n F.1 F.2.1 dL_law_1873 rfl (lv_at hl 4 rfl) ?_
  refine cRV1 (As := []) (rest := []) (post := catp [] []) F hE hX hS (kX13_thrown l dC dI g B rm.2 (r := mt_th rm.2) rfl) mbX13_thrown q1674 ⟨(Nat.le_of_ble_eq_true rfl), (Nat.le_of_ble_eq_true rfl)⟩ ⟨by show _ ≤ 603072; omega, by show _ ≤ 7211114; omega⟩ hP [wXt g A A1 A2 aq r.2, [(o, .inl (g 6, 1, .inr (.inl (oxI r.1 f))))], [(o2, .inl (g 7, 1, .inr (.inr (.inr (.inl dd)))))]] rfl 0 rfl rfl rfl hl.1 rfl (Nat.le_of_ble_eq_true rfl) dL_law_1874 ?_
  refine lv_iload F.1 F.2.1 dL_law_1877 (lv_at hl 1 rfl) ?_
  refine lv_icmp_eq (tgt := 1884) F.1 F.2.1 dL_law_1879 (by decide) (fun _ => ?_) (fun k9 => absurd hth k9)
  refine lv_iload F.1 F.2.1 dL_law_1884 (lv_at hl 1 rfl) ?_
  refine lv_if_ne (tgt := 1901) F.1 F.2.1 dL_law_1886 (by decide) (fun kz => ?_) (fun kz => ?_)
  · refine lv_goto (tgt := 2665) F.1 F.2.1 dL_law_1901 (by decide) ?_
    exact kk aq (oxI r.1 f) dd H locs _ _ ls hP hD hS (by omega) (by omega) (lv_sub hl [2, 3, 4, 5, 6, 7] rfl)
  · refine lv_aload_n F.1 F.2.1 dL_law_1889 rfl (lv_at hl 5 rfl) ?_
    refine lv_iconst (v := 0) F.1 F.2.1 dL_law_1890 (by decide) ?_
    refine va_lald F.1 F.2.1 hE.1 hP 387 6 rfl rfl (inR_in (by decide : inR 0 1 = true)) dL_law_1891 ?_
    refine lv_iload F.1 F.2.1 dL_law_1892 (lv_at hl 0 rfl) ?_
    refine lv_i2l F.1 F.2.1 dL_law_1894 rfl ?_
    refine W.lcmp F.1 F.2.1 dL_law_1895 ?_
    refine lv_if_eq (tgt := 1901) F.1 F.2.1 dL_law_1896 (by decide) (fun _ => ?_) (fun k9 => absurd (by show lg_cmp (oxI r.1 f 0) rm.1.toInt64 = 0; rw [hag kz]; exact lg_cmp_self _) k9)
    refine lv_goto (tgt := 2665) F.1 F.2.1 dL_law_1901 (by decide) ?_
    exact kk aq (oxI r.1 f) dd H locs _ _ ls hP hD hS (by omega) (by omega) (lv_sub hl [2, 3, 4, 5, 6, 7] rfl)
set_option maxHeartbeats 4000000 in
set_option maxRecDepth 100000 in
theorem cs_woundByParts {p : Program} {l : Launch} {e : Env} {s : State} {m : MethodId} {below : List Frame} {meth : Method} {c : Code} {H : Heap} {locs : List Loc} {cells slots : Nat} {Q : State → Prop} {ls : Array Slot} {dC : Nat → ClassId} {dI : Nat → Nat → Nat} {g : Nat → ClassId} {A : Nat → Nat} {A1 A2 : Nat → Nat → Nat} {aq o o2 : Nat} {B : Nat → Nat} {AA : Nat → Prop} {b L : Nat} {xs : Nat → Int32} {i : Int32} {u : XT} {f : Nat → Int64} {dd : Nat → UInt64} {v : MT} (hl9 : l.stackTraces = false) (F : CF p m c code 9 s #[.ref b] RL) (hE : EK dC dI g s) (hX : EX g AA s s.heap) (hA : ∀ q : Nat, s.heap.size ≤ q → AA q) (hXs : va_X b L xs s s.heap) (hbl : b < s.heap.size) (hbA : ¬ AA b) (j1 : inR (i + 1) L = true) {r : (Except String Int32) × XT} (hx : gX12_woundByParts u (c16 (xs (i + 1).toNatClampNeg)) = some r) {k : Int32} (hk : kx ["java/lang/IllegalArgumentException"] r.1 = some k) {rm : Int32 × MT} (hm : gX13_woundByParts v (c16 (xs (i + 1).toNatClampNeg)) = some rm) (hth : mt_th rm.2 = k) (hag : k = 0 → oxI r.1 f 0 = rm.1.toInt64) (hc : cells + 1000 ≤ 603072) (hsl : slots + 2000 ≤ 7211114) (hP : va_P (dC, dI) vwCl (WL g A A1 A2 aq o o2 B u f dd v) H) (hD : va_D AA (WL g A A1 A2 aq o o2 B u f dd v)) (hS : va_S AA s.heap H locs) (hl : lv_has ls 9 [(0, .ref b), (1, .ref (A 0)), (2, .ref (B 0)), (3, .ref o), (4, .ref o2), (5, .int i)])
    (kk : ∀ (aq1 : Nat) (f1 : Nat → Int64) (dd1 : Nat → UInt64) (H1 : Heap) (locs1 : List Loc) (cells1 slots1 : Nat) (ls1 : Array Slot), va_P (dC, dI) vwCl (WL g A A1 A2 aq1 o o2 B r.2 f1 dd1 rm.2) H1 → va_D AA (WL g A A1 A2 aq1 o o2 B r.2 f1 dd1 rm.2) → va_S AA s.heap H1 locs1 → cells1 ≤ cells + 1000 → slots1 ≤ slots + 2000 → lv_has ls1 9 [(0, .ref b), (1, .ref (A 0)), (2, .ref (B 0)), (3, .ref o), (4, .ref o2), (5, .int i)] → W p l e room_1 s m #[.ref b] below meth c H1 locs1 cells1 slots1 Q (F0 m 2665 ls1 [])) : W p l e room_1 s m #[.ref b] below meth c H locs cells slots Q (F0 m 1904 ls []) := by
  refine lv_aload_n F.1 F.2.1 dL_law_1904 rfl (lv_at hl 1 rfl) ?_
  refine lv_aload_n F.1 F.2.1 dL_law_1905 rfl (lv_at hl 0 rfl) ?_
  refine lv_iload F.1 F.2.1 dL_law_1906 (lv_at hl 5 rfl) ?_
  refine lv_iconst (v := 1) F.1 F.2.1 dL_law_1908 (by decide) ?_
  refine lv_iadd F.1 F.2.1 dL_law_1909 ?_
  refine va_sld F.1 F.2.1 hXs hbl hbA hS (inR_in j1) dL_law_1910 ?_
  refine lv_i2c (v := c16 (xs (i + 1).toNatClampNeg)) F.1 F.2.1 dL_law_1911 rfl ?_
  refine lv_aload_n F.1 F.2.1 dL_law_1912 rfl (lv_at hl 3 rfl) ?_
  refine cZS (As := [.ref (A 0), .int (c16 (xs (i + 1).toNatClampNeg)), .ref o]) (rest := []) (post := catp [[(o2, .inl (g 7, 1, .inr (.inr (.inr (.inl dd)))))], wMt g B v] []) F hE hX (tL_woundByParts l hl9 dC dI g A A1 A2 aq o f u (c16 (xs (i + 1).toNatClampNeg)) hx hk) mbL_woundByParts q1385 ⟨(Nat.le_of_ble_eq_true rfl), (Nat.le_of_ble_eq_true rfl)⟩ ⟨by show _ ≤ 603072; omega, by show _ ≤ 7211114; omega⟩ hP hD hS hA [] rfl rfl hl.1 rfl (Nat.le_of_ble_eq_true rfl) dL_law_1913 (fun b9 H locs hP hD hS => ?_)
  replace hP : va_P (dC, dI) vwCl (WL g A A1 A2 aq o o2 B r.2 (oxI r.1 f) dd v) H := hP
  replace hD : va_D AA (WL g A A1 A2 aq o o2 B r.2 (oxI r.1 f) dd v) := hD
  refine lv_istore (lv' := [(6, .int k), (0, .ref b), (1, .ref (A 0)), (2, .ref (B 0)), (3, .ref o), (4, .ref o2), (5, .int i)]) F.1 F.2.1 dL_law_1916 hl (by decide) rfl (fun ls hl => ?_)
  refine lv_aload_n F.1 F.2.1 dL_law_1918 rfl (lv_at hl 3 rfl) ?_
  refine lv_aload_n F.1 F.2.1 dL_law_1919 rfl (lv_at hl 1 rfl) ?_
  refine lv_iload F.1 F.2.1 dL_law_1920 (lv_at hl 6 rfl) ?_
  refine lv_iconst (v := 1) F.1 F.2.1 dL_law_1922 (by decide) ?_
  refine lv_iadd F.1 F.2.1 dL_law_1923 ?_
  refine va_sld F.1 F.2.1 hXs hbl hbA hS (inR_in j1) dL_law_1924 ?_
  refine lv_i2c (v := c16 (xs (i + 1).toNatClampNeg)) F.1 F.2.1 dL_law_1925 rfl ?_
  refine cMV1 (As := [.int (c16 (xs (i + 1).toNatClampNeg))]) (rest := []) (post := catp [] []) (ws' := WL g A A1 A2 aq o o2 B r.2 (oxI r.1 f) dd rm.2) F hE hX (kX13_woundByParts l dC dI g B v (c16 (xs (i + 1).toNatClampNeg)) hm) mbX13_woundByParts q2060 ⟨(Nat.le_of_ble_eq_true rfl), (Nat.le_of_ble_eq_true rfl)⟩ ⟨by show _ ≤ 603072; omega, by show _ ≤ 7211114; omega⟩ hP hD hS hA [wXt g A A1 A2 aq r.2, [(o, .inl (g 6, 1, .inr (.inl (oxI r.1 f))))], [(o2, .inl (g 7, 1, .inr (.inr (.inr (.inl dd)))))]] rfl (wMt_fst g B _ _) rfl 0 rfl rfl rfl hl.1 rfl (Nat.le_of_ble_eq_true rfl) dL_law_1926 (fun H locs hP hD hS => ?_)
  replace hP : va_P (dC, dI) vwCl (WL g A A1 A2 aq o o2 B r.2 (oxI r.1 f) dd rm.2) H := hP
  replace hD : va_D AA (WL g A A1 A2 aq o o2 B r.2 (oxI r.1 f) dd rm.2) := hD
  refine lv_istore (lv' := [(7, .int rm.1), (6, .int k), (0, .ref b), (1, .ref (A 0)), (2, .ref (B 0)), (3, .ref o), (4, .ref o2), (5, .int i)]) F.1 F.2.1 dL_law_1929 hl (by decide) rfl (fun ls hl => ?_)
  refine lv_aload_n F.1 F.2.1 dL_law_1931 rfl (lv_at hl 4 rfl) ?_
  refine cRV1 (As := []) (rest := []) (post := catp [] []) F hE hX hS (kX13_thrown l dC dI g B rm.2 (r := mt_th rm.2) rfl) mbX13_thrown q1674 ⟨(Nat.le_of_ble_eq_true rfl), (Nat.le_of_ble_eq_true rfl)⟩ ⟨by show _ ≤ 603072; omega, by show _ ≤ 7211114; omega⟩ hP [wXt g A A1 A2 aq r.2, [(o, .inl (g 6, 1, .inr (.inl (oxI r.1 f))))], [(o2, .inl (g 7, 1, .inr (.inr (.inr (.inl dd)))))]] rfl 0 rfl rfl rfl hl.1 rfl (Nat.le_of_ble_eq_true rfl) dL_law_1932 ?_
  refine lv_iload F.1 F.2.1 dL_law_1935 (lv_at hl 1 rfl) ?_
  refine lv_icmp_eq (tgt := 1942) F.1 F.2.1 dL_law_1937 (by decide) (fun _ => ?_) (fun k9 => absurd hth k9)
  refine lv_iload F.1 F.2.1 dL_law_1942 (lv_at hl 1 rfl) ?_
  refine lv_if_ne (tgt := 1959) F.1 F.2.1 dL_law_1944 (by decide) (fun kz => ?_) (fun kz => ?_)
  · refine lv_goto (tgt := 2665) F.1 F.2.1 dL_law_1959 (by decide) ?_
    exact kk aq (oxI r.1 f) dd H locs _ _ ls hP hD hS (by omega) (by omega) (lv_sub hl [2, 3, 4, 5, 6, 7] rfl)
  · refine lv_aload_n F.1 F.2.1 dL_law_1947 rfl (lv_at hl 5 rfl) ?_
    refine lv_iconst (v := 0) F.1 F.2.1 dL_law_1948 (by decide) ?_
    refine va_lald F.1 F.2.1 hE.1 hP 387 6 rfl rfl (inR_in (by decide : inR 0 1 = true)) dL_law_1949 ?_
    refine lv_iload F.1 F.2.1 dL_law_1950 (lv_at hl 0 rfl) ?_
    refine lv_i2l F.1 F.2.1 dL_law_1952 rfl ?_
    refine W.lcmp F.1 F.2.1 dL_law_1953 ?_
    refine lv_if_eq (tgt := 1959) F.1 F.2.1 dL_law_1954 (by decide) (fun _ => ?_) (fun k9 => absurd (by show lg_cmp (oxI r.1 f 0) rm.1.toInt64 = 0; rw [hag kz]; exact lg_cmp_self _) k9)
    refine lv_goto (tgt := 2665) F.1 F.2.1 dL_law_1959 (by decide) ?_
    exact kk aq (oxI r.1 f) dd H locs _ _ ls hP hD hS (by omega) (by omega) (lv_sub hl [2, 3, 4, 5, 6, 7] rfl)
set_option maxHeartbeats 4000000 in
set_option maxRecDepth 100000 in
theorem cs_delivered {p : Program} {l : Launch} {e : Env} {s : State} {m : MethodId} {below : List Frame} {meth : Method} {c : Code} {H : Heap} {locs : List Loc} {cells slots : Nat} {Q : State → Prop} {ls : Array Slot} {dC : Nat → ClassId} {dI : Nat → Nat → Nat} {g : Nat → ClassId} {A : Nat → Nat} {A1 A2 : Nat → Nat → Nat} {aq o o2 : Nat} {B : Nat → Nat} {AA : Nat → Prop} {b L : Nat} {xs : Nat → Int32} {i : Int32} {u : XT} {f : Nat → Int64} {dd : Nat → UInt64} {v : MT} (hl9 : l.stackTraces = false) (F : CF p m c code 9 s #[.ref b] RL) (hE : EK dC dI g s) (hX : EX g AA s s.heap) (hA : ∀ q : Nat, s.heap.size ≤ q → AA q) (hXs : va_X b L xs s s.heap) (hbl : b < s.heap.size) (hbA : ¬ AA b) (j1 : inR (i + 1) L = true) {r : (Except String Int32) × XT} (hx : gX12_delivered u (c16 (xs (i + 1).toNatClampNeg)) = some r) {k : Int32} (hk : kx ["java/lang/IllegalArgumentException"] r.1 = some k) {rm : Int32 × MT} (hm : gX13_delivered v (c16 (xs (i + 1).toNatClampNeg)) = some rm) (hth : mt_th rm.2 = k) (hag : k = 0 → oxI r.1 f 0 = rm.1.toInt64) (hc : cells + 1000 ≤ 603072) (hsl : slots + 2000 ≤ 7211114) (hP : va_P (dC, dI) vwCl (WL g A A1 A2 aq o o2 B u f dd v) H) (hD : va_D AA (WL g A A1 A2 aq o o2 B u f dd v)) (hS : va_S AA s.heap H locs) (hl : lv_has ls 9 [(0, .ref b), (1, .ref (A 0)), (2, .ref (B 0)), (3, .ref o), (4, .ref o2), (5, .int i)])
    (kk : ∀ (aq1 : Nat) (f1 : Nat → Int64) (dd1 : Nat → UInt64) (H1 : Heap) (locs1 : List Loc) (cells1 slots1 : Nat) (ls1 : Array Slot), va_P (dC, dI) vwCl (WL g A A1 A2 aq1 o o2 B r.2 f1 dd1 rm.2) H1 → va_D AA (WL g A A1 A2 aq1 o o2 B r.2 f1 dd1 rm.2) → va_S AA s.heap H1 locs1 → cells1 ≤ cells + 1000 → slots1 ≤ slots + 2000 → lv_has ls1 9 [(0, .ref b), (1, .ref (A 0)), (2, .ref (B 0)), (3, .ref o), (4, .ref o2), (5, .int i)] → W p l e room_1 s m #[.ref b] below meth c H1 locs1 cells1 slots1 Q (F0 m 2665 ls1 [])) : W p l e room_1 s m #[.ref b] below meth c H locs cells slots Q (F0 m 1962 ls []) := by
  refine lv_aload_n F.1 F.2.1 dL_law_1962 rfl (lv_at hl 1 rfl) ?_
  refine lv_aload_n F.1 F.2.1 dL_law_1963 rfl (lv_at hl 0 rfl) ?_
  refine lv_iload F.1 F.2.1 dL_law_1964 (lv_at hl 5 rfl) ?_
  refine lv_iconst (v := 1) F.1 F.2.1 dL_law_1966 (by decide) ?_
  refine lv_iadd F.1 F.2.1 dL_law_1967 ?_
  refine va_sld F.1 F.2.1 hXs hbl hbA hS (inR_in j1) dL_law_1968 ?_
  refine lv_i2c (v := c16 (xs (i + 1).toNatClampNeg)) F.1 F.2.1 dL_law_1969 rfl ?_
  refine lv_aload_n F.1 F.2.1 dL_law_1970 rfl (lv_at hl 3 rfl) ?_
  refine cZS (As := [.ref (A 0), .int (c16 (xs (i + 1).toNatClampNeg)), .ref o]) (rest := []) (post := catp [[(o2, .inl (g 7, 1, .inr (.inr (.inr (.inl dd)))))], wMt g B v] []) F hE hX (tL_delivered l hl9 dC dI g A A1 A2 aq o f u (c16 (xs (i + 1).toNatClampNeg)) hx hk) mbL_delivered q1392 ⟨(Nat.le_of_ble_eq_true rfl), (Nat.le_of_ble_eq_true rfl)⟩ ⟨by show _ ≤ 603072; omega, by show _ ≤ 7211114; omega⟩ hP hD hS hA [] rfl rfl hl.1 rfl (Nat.le_of_ble_eq_true rfl) dL_law_1971 (fun b9 H locs hP hD hS => ?_)
  replace hP : va_P (dC, dI) vwCl (WL g A A1 A2 aq o o2 B r.2 (oxI r.1 f) dd v) H := hP
  replace hD : va_D AA (WL g A A1 A2 aq o o2 B r.2 (oxI r.1 f) dd v) := hD
  refine lv_istore (lv' := [(6, .int k), (0, .ref b), (1, .ref (A 0)), (2, .ref (B 0)), (3, .ref o), (4, .ref o2), (5, .int i)]) F.1 F.2.1 dL_law_1974 hl (by decide) rfl (fun ls hl => ?_)
  refine lv_aload_n F.1 F.2.1 dL_law_1976 rfl (lv_at hl 3 rfl) ?_
  refine lv_aload_n F.1 F.2.1 dL_law_1977 rfl (lv_at hl 1 rfl) ?_
  refine lv_iload F.1 F.2.1 dL_law_1978 (lv_at hl 6 rfl) ?_
  refine lv_iconst (v := 1) F.1 F.2.1 dL_law_1980 (by decide) ?_
  refine lv_iadd F.1 F.2.1 dL_law_1981 ?_
  refine va_sld F.1 F.2.1 hXs hbl hbA hS (inR_in j1) dL_law_1982 ?_
  refine lv_i2c (v := c16 (xs (i + 1).toNatClampNeg)) F.1 F.2.1 dL_law_1983 rfl ?_
  refine cMV1 (As := [.int (c16 (xs (i + 1).toNatClampNeg))]) (rest := []) (post := catp [] []) (ws' := WL g A A1 A2 aq o o2 B r.2 (oxI r.1 f) dd rm.2) F hE hX (kX13_delivered l dC dI g B v (c16 (xs (i + 1).toNatClampNeg)) hm) mbX13_delivered q2068 ⟨(Nat.le_of_ble_eq_true rfl), (Nat.le_of_ble_eq_true rfl)⟩ ⟨by show _ ≤ 603072; omega, by show _ ≤ 7211114; omega⟩ hP hD hS hA [wXt g A A1 A2 aq r.2, [(o, .inl (g 6, 1, .inr (.inl (oxI r.1 f))))], [(o2, .inl (g 7, 1, .inr (.inr (.inr (.inl dd)))))]] rfl (wMt_fst g B _ _) rfl 0 rfl rfl rfl hl.1 rfl (Nat.le_of_ble_eq_true rfl) dL_law_1984 (fun H locs hP hD hS => ?_)
  replace hP : va_P (dC, dI) vwCl (WL g A A1 A2 aq o o2 B r.2 (oxI r.1 f) dd rm.2) H := hP
  replace hD : va_D AA (WL g A A1 A2 aq o o2 B r.2 (oxI r.1 f) dd rm.2) := hD
  refine lv_istore (lv' := [(7, .int rm.1), (6, .int k), (0, .ref b), (1, .ref (A 0)), (2, .ref (B 0)), (3, .ref o), (4, .ref o2), (5, .int i)]) F.1 F.2.1 dL_law_1987 hl (by decide) rfl (fun ls hl => ?_)
  refine lv_aload_n F.1 F.2.1 dL_law_1989 rfl (lv_at hl 4 rfl) ?_
  refine cRV1 (As := []) (rest := []) (post := catp [] []) F hE hX hS (kX13_thrown l dC dI g B rm.2 (r := mt_th rm.2) rfl) mbX13_thrown q1674 ⟨(Nat.le_of_ble_eq_true rfl), (Nat.le_of_ble_eq_true rfl)⟩ ⟨by show _ ≤ 603072; omega, by show _ ≤ 7211114; omega⟩ hP [wXt g A A1 A2 aq r.2, [(o, .inl (g 6, 1, .inr (.inl (oxI r.1 f))))], [(o2, .inl (g 7, 1, .inr (.inr (.inr (.inl dd)))))]] rfl 0 rfl rfl rfl hl.1 rfl (Nat.le_of_ble_eq_true rfl) dL_law_1990 ?_
  refine lv_iload F.1 F.2.1 dL_law_1993 (lv_at hl 1 rfl) ?_
  refine lv_icmp_eq (tgt := 2000) F.1 F.2.1 dL_law_1995 (by decide) (fun _ => ?_) (fun k9 => absurd hth k9)
  refine lv_iload F.1 F.2.1 dL_law_2000 (lv_at hl 1 rfl) ?_
  refine lv_if_ne (tgt := 2017) F.1 F.2.1 dL_law_2002 (by decide) (fun kz => ?_) (fun kz => ?_)
  · refine lv_goto (tgt := 2665) F.1 F.2.1 dL_law_2017 (by decide) ?_
    exact kk aq (oxI r.1 f) dd H locs _ _ ls hP hD hS (by omega) (by omega) (lv_sub hl [2, 3, 4, 5, 6, 7] rfl)
  · refine lv_aload_n F.1 F.2.1 dL_law_2005 rfl (lv_at hl 5 rfl) ?_
    refine lv_iconst (v := 0) F.1 F.2.1 dL_law_2006 (by decide) ?_
    refine va_lald F.1 F.2.1 hE.1 hP 387 6 rfl rfl (inR_in (by decide : inR 0 1 = true)) dL_law_2007 ?_
    refine lv_iload F.1 F.2.1 dL_law_2008 (lv_at hl 0 rfl) ?_
    refine lv_i2l F.1 F.2.1 dL_law_2010 rfl ?_
    refine W.lcmp F.1 F.2.1 dL_law_2011 ?_
    refine lv_if_eq (tgt := 2017) F.1 F.2.1 dL_law_2012 (by decide) (fun _ => ?_) (fun k9 => absurd (by show lg_cmp (oxI r.1 f 0) rm.1.toInt64 = 0; rw [hag kz]; exact lg_cmp_self _) k9)
    refine lv_goto (tgt := 2665) F.1 F.2.1 dL_law_2017 (by decide) ?_
    exact kk aq (oxI r.1 f) dd H locs _ _ ls hP hD hS (by omega) (by omega) (lv_sub hl [2, 3, 4, 5, 6, 7] rfl)
