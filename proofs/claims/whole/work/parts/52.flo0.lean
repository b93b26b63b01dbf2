/-! floats -/
def n64 (r : UInt64) : Bool := decide (r &&& 0x7fffffffffffffff ≤ 0x7ff0000000000000)
theorem n64_ok {r : UInt64} (h : n64 r = true) : vf_n64 r := (of_decide_eq_true h : r &&& 0x7fffffffffffffff ≤ 0x7ff0000000000000)
def n32 (r : UInt32) : Bool := decide (r &&& 0x7fffffff ≤ 0x7f800000)
theorem n32_ok {r : UInt32} (h : n32 r = true) : vf_n32 r := (of_decide_eq_true h : r &&& 0x7fffffff ≤ 0x7f800000)
def vD : UInt64 → Option Value := fun v => some (.double v)
def vF : UInt32 → Option Value := fun v => some (.float v)
section
variable {p : Program} {l : Launch} {e : Env} {R : Room} {s : State} {m : MethodId} {args : Array Value} {below : List Frame} {meth : Method} {c : Code} {H : Heap} {locs : List Loc} {cells slots mc ms : Nat} {pc : Nat} {ls : Array Slot} {cc : ByteArray} {nL : Nat} {own : String} {dC : Nat → ClassId} {dI : Nat → Nat → Nat} {g : Nat → ClassId} {ws' : va_W} {A : Nat → Prop}
theorem MX_d {v : UInt64} {x : Except String UInt64} (hx : x = .ok v) (F : CF p m c cc nL s args own) (hr : meth.sig.returnType = some .double) (hlocks : meth.locks = false) (hc : cells ≤ mc) (hs : slots ≤ ms) (hP : va_P (dC, dI) vwCl ws' H) (hS : va_S A s.heap H locs) (hdg : decode cc pc = .ok (.dreturn, 1)) : W p l e R s m args below meth c H locs cells slots (vx_MQ below (MXQ vD x dC dI ws' A) (MXX x dC dI ws' A) args s mc ms A) (F0 m pc ls [.double v]) :=
  W.widen hc hs (vx_ret (W.dret F.1 F.2.1 hr (fun _ ht _ => ⟨⟨v, hx, rfl⟩, by rw [ht]; exact hP, hS.F ht⟩) hS.2.2 hdg))
theorem MX_f {v : UInt32} {x : Except String UInt32} (hx : x = .ok v) (F : CF p m c cc nL s args own) (hr : meth.sig.returnType = some .float) (hlocks : meth.locks = false) (hc : cells ≤ mc) (hs : slots ≤ ms) (hP : va_P (dC, dI) vwCl ws' H) (hS : va_S A s.heap H locs) (hdg : decode cc pc = .ok (.freturn, 1)) : W p l e R s m args below meth c H locs cells slots (vx_MQ below (MXQ vF x dC dI ws' A) (MXX x dC dI ws' A) args s mc ms A) (F0 m pc ls [.float v]) :=
  W.widen hc hs (vx_ret (W.fret F.1 F.2.1 hr (fun _ ht _ => ⟨⟨v, hx, rfl⟩, by rw [ht]; exact hP, hS.F ht⟩) hS.2.2 hdg))
theorem MU_d {v : UInt64} (F : CF p m c cc nL s args own) (hr : meth.sig.returnType = some .double) (hlocks : meth.locks = false) (hc : cells ≤ mc) (hs : slots ≤ ms) (hP : va_P (dC, dI) vwCl ws' H) (hS : va_S A s.heap H locs) (hdg : decode cc pc = .ok (.dreturn, 1)) : W p l e R s m args below meth c H locs cells slots (MQ below (fun _ st o t => o = .returned (some (.double v)) ∧ va_P (dC, dI) vwCl ws' t.heap ∧ va_F A st t) args s mc ms A) (F0 m pc ls [.double v]) :=
  W.widen hc hs (W.dret F.1 F.2.1 hr (fun _ ht _ => ⟨rfl, by rw [ht]; exact hP, hS.F ht⟩) hS.2.2 hdg)
theorem MU_f {v : UInt32} (F : CF p m c cc nL s args own) (hr : meth.sig.returnType = some .float) (hlocks : meth.locks = false) (hc : cells ≤ mc) (hs : slots ≤ ms) (hP : va_P (dC, dI) vwCl ws' H) (hS : va_S A s.heap H locs) (hdg : decode cc pc = .ok (.freturn, 1)) : W p l e R s m args below meth c H locs cells slots (MQ below (fun _ st o t => o = .returned (some (.float v)) ∧ va_P (dC, dI) vwCl ws' t.heap ∧ va_F A st t) args s mc ms A) (F0 m pc ls [.float v]) :=
  W.widen hc hs (W.fret F.1 F.2.1 hr (fun _ ht _ => ⟨rfl, by rw [ht]; exact hP, hS.F ht⟩) hS.2.2 hdg)
end
/-! WireCutter.meanRemaining -/
def fX12_meanRemaining (uwsNn : Int32) (uwsLn : Int32) (uwsLf : Nat → Int32) : Option (Except String UInt64) :=
  (fX9_count uwsNn).bind fun z1 =>
  if 0 < z1 then
    (fX9_sumOfLengths uwsLn uwsLf).bind fun z4 =>
    gd (n64 (FP.ddiv (FP.i2d z4) (FP.i2d z1))) <|
    some (.ok (FP.ddiv (FP.i2d z4) (FP.i2d z1)))
  else
    some (.error "java/lang/ArithmeticException")
theorem mbX12_meanRemaining : MV yX12_meanRemaining cX12_meanRemaining 2 (some .double) 0 := ⟨⟨q1426, q1, by decide +kernel⟩, q1424, q1425⟩
set_option maxHeartbeats 4000000 in
set_option maxRecDepth 100000 in
theorem tX12_meanRemaining (l : Launch) (hl9 : l.stackTraces = false) (dC : Nat → ClassId) (dI : Nat → Nat → Nat) (g : Nat → ClassId) (a0 a1 a2 a3 a4 a5 a6 a7 a8 a9 a10 a11 a12 a13 a14 a15 a16 a17 a18 a19 a20 a21 a22 a23 a24 a25 a26 a27 a28 a29 a30 a31 a32 a33 a34 a35 a36 a37 a38 a39 a40 a41 a42 a43 a44 a45 a46 a47 a48 a49 a50 a51 a52 a53 a54 a55 a56 a57 a58 a59 a60 a61 a62 a63 a64 a65 a66 a67 a68 : Nat) (a68A : Nat → Nat → Nat) (a69 a70 a71 a72 a73 a74 a75 : Nat) (a75A : Nat → Nat → Nat) (a76 a77 : Nat) (ui : Int32) (ue : Int32) (uf : Int32) (uwk : Int32) (uwl : Int32) (uwr : Int32) (uwsx : Int32) (uwsNn : Int32) (uwsNf : Nat → Int32) (uwsMn : Int32) (uwsMf : Nat → Int32) (uwsLn : Int32) (uwsLf : Nat → Int32) (uwsKn : Int32) (uwsKf : Nat → Int32) (uwcMn : Int32) (uwcMf : Nat → Int32) (uwcLn : Int32) (uwcLf : Nat → Int32) (uwcTn : Int32) (uwcTf : Nat → Int32) (uwox : Int32) (uwoNn : Int32) (uwoNf : Nat → Int32) (uwoMn : Int32) (uwoMf : Nat → Int32) (uwoLn : Int32) (uwoLf : Nat → Int32) (uwoDn : Int32) (uwoDf : Nat → Int32) (uwac : Int32) (uwaWn : Int32) (uwaWf : Nat → Int32) (uwaDn : Int32) (uwaDf : Nat → Int32) (uwaLn : Int32) (uwaLf : Nat → Int32) (uvk : Int32) (uvl : Int32) (uvr : Int32) (uvsx : Int32) (uvsNn : Int32) (uvsNf : Nat → Int32) (uvsMn : Int32) (uvsMf : Nat → Int32) (uvsLn : Int32) (uvsLf : Nat → Int32) (uvsKn : Int32) (uvsKf : Nat → Int32) (uvcMn : Int32) (uvcMf : Nat → Int32) (uvcLn : Int32) (uvcLf : Nat → Int32) (uvcTn : Int32) (uvcTf : Nat → Int32) (uvox : Int32) (uvoNn : Int32) (uvoNf : Nat → Int32) (uvoMn : Int32) (uvoMf : Nat → Int32) (uvoLn : Int32) (uvoLf : Nat → Int32) (uvoDn : Int32) (uvoDf : Nat → Int32) (uvac : Int32) (uvaWn : Int32) (uvaWf : Nat → Int32) (uvaDn : Int32) (uvaDf : Nat → Int32) (uvaLn : Int32) (uvaLf : Nat → Int32) (uhn : Int32) (uhc : Int32) (uhS : Nat → WT) (ult : Nat → Int32) (ulpn : Int32) (ulpf : Nat → Int32) (upl : Int32) (upp : Int32) (upc : Int32) (upt : Nat → Int32) (upK : Nat → CT) (ubm : Int32) (ubn : Int32) (ubq : Nat) (ubv : Nat → Int32) {r : Except String UInt64} (h : fX12_meanRemaining uwsNn uwsLn uwsLf = some r) : MX vD l yX12_meanRemaining cX12_meanRemaining 2 (some .double) 6 82 1 6 dC dI g [.ref a0] (wX12 g a0 a1 a2 a3 a4 a5 a6 a7 a8 a9 a10 a11 a12 a13 a14 a15 a16 a17 a18 a19 a20 a21 a22 a23 a24 a25 a26 a27 a28 a29 a30 a31 a32 a33 a34 a35 a36 a37 a38 a39 a40 a41 a42 a43 a44 a45 a46 a47 a48 a49 a50 a51 a52 a53 a54 a55 a56 a57 a58 a59 a60 a61 a62 a63 a64 a65 a66 a67 a68 a68A a69 a70 a71 a72 a73 a74 a75 a75A a76 a77 ui ue uf uwk uwl uwr uwsx uwsNn uwsNf uwsMn uwsMf uwsLn uwsLf uwsKn uwsKf uwcMn uwcMf uwcLn uwcLf uwcTn uwcTf uwox uwoNn uwoNf uwoMn uwoMf uwoLn uwoLf uwoDn uwoDf uwac uwaWn uwaWf uwaDn uwaDf uwaLn uwaLf uvk uvl uvr uvsx uvsNn uvsNf uvsMn uvsMf uvsLn uvsLf uvsKn uvsKf uvcMn uvcMf uvcLn uvcLf uvcTn uvcTf uvox uvoNn uvoNf uvoMn uvoMf uvoLn uvoLf uvoDn uvoDf uvac uvaWn uvaWf uvaDn uvaDf uvaLn uvaLf uhn uhc uhS ult ulpn ulpf upl upp upc upt upK ubm ubn ubq ubv) (wX12 g a0 a1 a2 a3 a4 a5 a6 a7 a8 a9 a10 a11 a12 a13 a14 a15 a16 a17 a18 a19 a20 a21 a22 a23 a24 a25 a26 a27 a28 a29 a30 a31 a32 a33 a34 a35 a36 a37 a38 a39 a40 a41 a42 a43 a44 a45 a46 a47 a48 a49 a50 a51 a52 a53 a54 a55 a56 a57 a58 a59 a60 a61 a62 a63 a64 a65 a66 a67 a68 a68A a69 a70 a71 a72 a73 a74 a75 a75A a76 a77 ui ue uf uwk uwl uwr uwsx uwsNn uwsNf uwsMn uwsMf uwsLn uwsLf uwsKn uwsKf uwcMn uwcMf uwcLn uwcLf uwcTn uwcTf uwox uwoNn uwoNf uwoMn uwoMf uwoLn uwoLf uwoDn uwoDf uwac uwaWn uwaWf uwaDn uwaDf uwaLn uwaLf uvk uvl uvr uvsx uvsNn uvsNf uvsMn uvsMf uvsLn uvsLf uvsKn uvsKf uvcMn uvcMf uvcLn uvcLf uvcTn uvcTf uvox uvoNn uvoNf uvoMn uvoMf uvoLn uvoLf uvoDn uvoDf uvac uvaWn uvaWf uvaDn uvaDf uvaLn uvaLf uhn uhc uhS ult ulpn ulpf upl upp upc upt upK ubm ubn ubq ubv) r := by
  refine MX_of (by decide) (Nat.le_of_ble_eq_true rfl) ?_
  intro p e s m below meth c ls F hr hlocks ht hE hX hA hP hD hS hl
  generalize va_A (wX12 g a0 a1 a2 a3 a4 a5 a6 a7 a8 a9 a10 a11 a12 a13 a14 a15 a16 a17 a18 a19 a20 a21 a22 a23 a24 a25 a26 a27 a28 a29 a30 a31 a32 a33 a34 a35 a36 a37 a38 a39 a40 a41 a42 a43 a44 a45 a46 a47 a48 a49 a50 a51 a52 a53 a54 a55 a56 a57 a58 a59 a60 a61 a62 a63 a64 a65 a66 a67 a68 a68A a69 a70 a71 a72 a73 a74 a75 a75A a76 a77 ui ue uf uwk uwl uwr uwsx uwsNn uwsNf uwsMn uwsMf uwsLn uwsLf uwsKn uwsKf uwcMn uwcMf uwcLn uwcLf uwcTn uwcTf uwox uwoNn uwoNf uwoMn uwoMf uwoLn uwoLf uwoDn uwoDf uwac uwaWn uwaWf uwaDn uwaDf uwaLn uwaLf uvk uvl uvr uvsx uvsNn uvsNf uvsMn uvsMf uvsLn uvsLf uvsKn uvsKf uvcMn uvcMf uvcLn uvcLf uvcTn uvcTf uvox uvoNn uvoNf uvoMn uvoMf uvoLn uvoLf uvoDn uvoDf uvac uvaWn uvaWf uvaDn uvaDf uvaLn uvaLf uhn uhc uhS ult ulpn ulpf upl upp upc upt upK ubm ubn ubq ubv) s.heap.size = A at hA hD hS hX ⊢
  replace F : CF p m c cX12_meanRemaining 2 s _ RX12 := F
  replace hl : lv_has ls 2 [(0, .ref a0)] := hl
  rw [fX12_meanRemaining] at h
  replace hP : va_P (dC, dI) vwCl (catp [[(a0, .inr (14, [.ref a1, .ref a34, .ref a67, .ref a69, .ref a73, .ref a76, .int ui, .int ue, .int uf]))], [(a1, .inr (13, [.ref a2, .ref a11, .ref a18, .ref a27, .int uwk, .int uwl, .int uwr]))], wX9 g a2 a3 a4 a5 a6 a7 a8 a9 a10 uwsx uwsNn uwsNf uwsMn uwsMf uwsLn uwsLf uwsKn uwsKf, wX8 g a11 a12 a13 a14 a15 a16 a17 uwcMn uwcMf uwcLn uwcLf uwcTn uwcTf, wX5 g a18 a19 a20 a21 a22 a23 a24 a25 a26 uwox uwoNn uwoNf uwoMn uwoMf uwoLn uwoLf uwoDn uwoDf, wX1 g a27 a28 a29 a30 a31 a32 a33 uwac uwaWn uwaWf uwaDn uwaDf uwaLn uwaLf, wX11 g a34 a35 a36 a37 a38 a39 a40 a41 a42 a43 a44 a45 a46 a47 a48 a49 a50 a51 a52 a53 a54 a55 a56 a57 a58 a59 a60 a61 a62 a63 a64 a65 a66 uvk uvl uvr uvsx uvsNn uvsNf uvsMn uvsMf uvsLn uvsLf uvsKn uvsKf uvcMn uvcMf uvcLn uvcLf uvcTn uvcTf uvox uvoNn uvoNf uvoMn uvoMf uvoLn uvoLf uvoDn uvoDf uvac uvaWn uvaWf uvaDn uvaDf uvaLn uvaLf, wX3 g a67 a68 a68A uhn uhc uhS, wX4 g a69 a70 a71 a72 ult ulpn ulpf, wX6 g a73 a74 a75 a75A upl upp upc upt upK, wJ4 g a76 a77 ubm ubn ubq ubv] []) s.heap := hP
  replace hD : va_D A (catp [[(a0, .inr (14, [.ref a1, .ref a34, .ref a67, .ref a69, .ref a73, .ref a76, .int ui, .int ue, .int uf]))], [(a1, .inr (13, [.ref a2, .ref a11, .ref a18, .ref a27, .int uwk, .int uwl, .int uwr]))], wX9 g a2 a3 a4 a5 a6 a7 a8 a9 a10 uwsx uwsNn uwsNf uwsMn uwsMf uwsLn uwsLf uwsKn uwsKf, wX8 g a11 a12 a13 a14 a15 a16 a17 uwcMn uwcMf uwcLn uwcLf uwcTn uwcTf, wX5 g a18 a19 a20 a21 a22 a23 a24 a25 a26 uwox uwoNn uwoNf uwoMn uwoMf uwoLn uwoLf uwoDn uwoDf, wX1 g a27 a28 a29 a30 a31 a32 a33 uwac uwaWn uwaWf uwaDn uwaDf uwaLn uwaLf, wX11 g a34 a35 a36 a37 a38 a39 a40 a41 a42 a43 a44 a45 a46 a47 a48 a49 a50 a51 a52 a53 a54 a55 a56 a57 a58 a59 a60 a61 a62 a63 a64 a65 a66 uvk uvl uvr uvsx uvsNn uvsNf uvsMn uvsMf uvsLn uvsLf uvsKn uvsKf uvcMn uvcMf uvcLn uvcLf uvcTn uvcTf uvox uvoNn uvoNf uvoMn uvoMf uvoLn uvoLf uvoDn uvoDf uvac uvaWn uvaWf uvaDn uvaDf uvaLn uvaLf, wX3 g a67 a68 a68A uhn uhc uhS, wX4 g a69 a70 a71 a72 ult ulpn ulpf, wX6 g a73 a74 a75 a75A upl upp upc upt upK, wJ4 g a76 a77 ubm ubn ubq ubv] []) := hD
  refine lv_aload_n F.1 F.2.1 dX12_meanRemaining_0 rfl (lv_at hl 0 rfl) ?_
  refine gF (v := .ref a1) F hE hP 0 rfl rfl inX12 0 (by decide) q312 rfl dX12_meanRemaining_1 ?_
  refine gFN (v := .ref a2) F hE hP 1 rfl rfl inX11 0 (by decide) q164 rfl dX12_meanRemaining_4 ?_
  obtain ⟨z1, k2, h⟩ := bd_ok h
  refine cRV1 (As := []) (rest := []) (post := catp [wX8 g a11 a12 a13 a14 a15 a16 a17 uwcMn uwcMf uwcLn uwcLf uwcTn uwcTf, wX5 g a18 a19 a20 a21 a22 a23 a24 a25 a26 uwox uwoNn uwoNf uwoMn uwoMf uwoLn uwoLf uwoDn uwoDf, wX1 g a27 a28 a29 a30 a31 a32 a33 uwac uwaWn uwaWf uwaDn uwaDf uwaLn uwaLf, wX11 g a34 a35 a36 a37 a38 a39 a40 a41 a42 a43 a44 a45 a46 a47 a48 a49 a50 a51 a52 a53 a54 a55 a56 a57 a58 a59 a60 a61 a62 a63 a64 a65 a66 uvk uvl uvr uvsx uvsNn uvsNf uvsMn uvsMf uvsLn uvsLf uvsKn uvsKf uvcMn uvcMf uvcLn uvcLf uvcTn uvcTf uvox uvoNn uvoNf uvoMn uvoMf uvoLn uvoLf uvoDn uvoDf uvac uvaWn uvaWf uvaDn uvaDf uvaLn uvaLf, wX3 g a67 a68 a68A uhn uhc uhS, wX4 g a69 a70 a71 a72 ult ulpn ulpf, wX6 g a73 a74 a75 a75A upl upp upc upt upK, wJ4 g a76 a77 ubm ubn ubq ubv] []) F hE hX hS (tX9_count l dC dI g a2 a3 a4 a5 a6 a7 a8 a9 a10 uwsx uwsNn uwsNf uwsMn uwsMf uwsLn uwsLf uwsKn uwsKf k2) mbX9_count q356 ⟨(Nat.le_of_ble_eq_true rfl), (Nat.le_of_ble_eq_true rfl)⟩ ⟨(Nat.le_of_ble_eq_true rfl), (Nat.le_of_ble_eq_true rfl)⟩ hP [[(a0, .inr (14, [.ref a1, .ref a34, .ref a67, .ref a69, .ref a73, .ref a76, .int ui, .int ue, .int uf]))], [(a1, .inr (13, [.ref a2, .ref a11, .ref a18, .ref a27, .int uwk, .int uwl, .int uwr]))]] rfl 0 rfl rfl rfl hl.1 rfl (Nat.le_of_ble_eq_true rfl) dX12_meanRemaining_7 ?_
  refine lv_istore_n (lv' := [(1, .int z1), (0, .ref a0)]) F.1 F.2.1 dX12_meanRemaining_10 rfl hl (by decide) rfl (fun ls hl => ?_)
  refine lv_iload_n F.1 F.2.1 dX12_meanRemaining_11 rfl (lv_at hl 0 rfl) ?_
  refine lv_if_gt (tgt := 25) F.1 F.2.1 dX12_meanRemaining_12 (by decide) (fun k3 => ?_) (fun k3 => ?_)
  · replace h := it_t k3 h
    refine lv_aload_n F.1 F.2.1 dX12_meanRemaining_25 rfl (lv_at hl 1 rfl) ?_
    refine gF (v := .ref a1) F hE hP 0 rfl rfl inX12 0 (by decide) q312 rfl dX12_meanRemaining_26 ?_
    refine gFN (v := .ref a2) F hE hP 1 rfl rfl inX11 0 (by decide) q164 rfl dX12_meanRemaining_29 ?_
    obtain ⟨z4, k5, h⟩ := bd_ok h
    refine cRV1 (As := []) (rest := []) (post := catp [wX8 g a11 a12 a13 a14 a15 a16 a17 uwcMn uwcMf uwcLn uwcLf uwcTn uwcTf, wX5 g a18 a19 a20 a21 a22 a23 a24 a25 a26 uwox uwoNn uwoNf uwoMn uwoMf uwoLn uwoLf uwoDn uwoDf, wX1 g a27 a28 a29 a30 a31 a32 a33 uwac uwaWn uwaWf uwaDn uwaDf uwaLn uwaLf, wX11 g a34 a35 a36 a37 a38 a39 a40 a41 a42 a43 a44 a45 a46 a47 a48 a49 a50 a51 a52 a53 a54 a55 a56 a57 a58 a59 a60 a61 a62 a63 a64 a65 a66 uvk uvl uvr uvsx uvsNn uvsNf uvsMn uvsMf uvsLn uvsLf uvsKn uvsKf uvcMn uvcMf uvcLn uvcLf uvcTn uvcTf uvox uvoNn uvoNf uvoMn uvoMf uvoLn uvoLf uvoDn uvoDf uvac uvaWn uvaWf uvaDn uvaDf uvaLn uvaLf, wX3 g a67 a68 a68A uhn uhc uhS, wX4 g a69 a70 a71 a72 ult ulpn ulpf, wX6 g a73 a74 a75 a75A upl upp upc upt upK, wJ4 g a76 a77 ubm ubn ubq ubv] []) F hE hX hS (tX9_sumOfLengths l dC dI g a2 a3 a4 a5 a6 a7 a8 a9 a10 uwsx uwsNn uwsNf uwsMn uwsMf uwsLn uwsLf uwsKn uwsKf k5) mbX9_sumOfLengths q1430 ⟨(Nat.le_of_ble_eq_true rfl), (Nat.le_of_ble_eq_true rfl)⟩ ⟨(Nat.le_of_ble_eq_true rfl), (Nat.le_of_ble_eq_true rfl)⟩ hP [[(a0, .inr (14, [.ref a1, .ref a34, .ref a67, .ref a69, .ref a73, .ref a76, .int ui, .int ue, .int uf]))], [(a1, .inr (13, [.ref a2, .ref a11, .ref a18, .ref a27, .int uwk, .int uwl, .int uwr]))]] rfl 0 rfl rfl rfl hl.1 rfl (Nat.le_of_ble_eq_true rfl) dX12_meanRemaining_32 ?_
    refine lv_i2d F.1 F.2.1 dX12_meanRemaining_35 ?_
    refine lv_iload_n F.1 F.2.1 dX12_meanRemaining_36 rfl (lv_at hl 0 rfl) ?_
    refine lv_i2d F.1 F.2.1 dX12_meanRemaining_37 ?_
    obtain ⟨k6, h⟩ := gd_ok h
    refine lv_ddiv F.1 F.2.1 dX12_meanRemaining_38 (n64_ok k6) ?_
    cases h
    exact MX_d rfl F hr hlocks (Nat.le_of_ble_eq_true rfl) (Nat.le_of_ble_eq_true rfl) hP hS dX12_meanRemaining_39
  · replace h := it_f k3 h
    cases h
    exact MX_t (rest := []) rfl F hE hX hl9 ht hlocks hP hS (by decide +kernel) q1427 q24 sq4 at0 gt0 hl.1 dX12_meanRemaining_15 dX12_meanRemaining_18 dX12_meanRemaining_19 dX12_meanRemaining_21 dX12_meanRemaining_24 (Nat.le_of_ble_eq_true rfl) (Nat.le_of_ble_eq_true rfl) (Nat.le_of_ble_eq_true rfl) (Nat.le_of_ble_eq_true rfl) (Nat.le_of_ble_eq_true rfl) (Nat.le_of_ble_eq_true rfl)
/-! WireCutter.lossRate -/
def fX12_lossRate (uwaDn : Int32) (uwaDf : Nat → Int32) (uwaLn : Int32) (uwaLf : Nat → Int32) : Option (Except String UInt32) :=
  (fX7_sum 6 uwaDn uwaDf).bind fun z1 =>
  if 0 < (lg_cmp z1.toInt64 0) then
    (fX7_sum 6 uwaLn uwaLf).bind fun z4 =>
    gd (n32 (FP.fdiv (FP.i2f z4) (FP.l2f z1.toInt64))) <|
    some (.ok (FP.fdiv (FP.i2f z4) (FP.l2f z1.toInt64)))
  else
    some (.error "java/lang/ArithmeticException")
theorem mbX12_lossRate : MV yX12_lossRate cX12_lossRate 3 (some .float) 0 := ⟨⟨q1441, q1, by decide +kernel⟩, q1439, q1440⟩
set_option maxHeartbeats 4000000 in
set_option maxRecDepth 100000 in
theorem tX12_lossRate (l : Launch) (hl9 : l.stackTraces = false) (dC : Nat → ClassId) (dI : Nat → Nat → Nat) (g : Nat → ClassId) (a0 a1 a2 a3 a4 a5 a6 a7 a8 a9 a10 a11 a12 a13 a14 a15 a16 a17 a18 a19 a20 a21 a22 a23 a24 a25 a26 a27 a28 a29 a30 a31 a32 a33 a34 a35 a36 a37 a38 a39 a40 a41 a42 a43 a44 a45 a46 a47 a48 a49 a50 a51 a52 a53 a54 a55 a56 a57 a58 a59 a60 a61 a62 a63 a64 a65 a66 a67 a68 : Nat) (a68A : Nat → Nat → Nat) (a69 a70 a71 a72 a73 a74 a75 : Nat) (a75A : Nat → Nat → Nat) (a76 a77 : Nat) (ui : Int32) (ue : Int32) (uf : Int32) (uwk : Int32) (uwl : Int32) (uwr : Int32) (uwsx : Int32) (uwsNn : Int32) (uwsNf : Nat → Int32) (uwsMn : Int32) (uwsMf : Nat → Int32) (uwsLn : Int32) (uwsLf : Nat → Int32) (uwsKn : Int32) (uwsKf : Nat → Int32) (uwcMn : Int32) (uwcMf : Nat → Int32) (uwcLn : Int32) (uwcLf : Nat → Int32) (uwcTn : Int32) (uwcTf : Nat → Int32) (uwox : Int32) (uwoNn : Int32) (uwoNf : Nat → Int32) (uwoMn : Int32) (uwoMf : Nat → Int32) (uwoLn : Int32) (uwoLf : Nat → Int32) (uwoDn : Int32) (uwoDf : Nat → Int32) (uwac : Int32) (uwaWn : Int32) (uwaWf : Nat → Int32) (uwaDn : Int32) (uwaDf : Nat → Int32) (uwaLn : Int32) (uwaLf : Nat → Int32) (uvk : Int32) (uvl : Int32) (uvr : Int32) (uvsx : Int32) (uvsNn : Int32) (uvsNf : Nat → Int32) (uvsMn : Int32) (uvsMf : Nat → Int32) (uvsLn : Int32) (uvsLf : Nat → Int32) (uvsKn : Int32) (uvsKf : Nat → Int32) (uvcMn : Int32) (uvcMf : Nat → Int32) (uvcLn : Int32) (uvcLf : Nat → Int32) (uvcTn : Int32) (uvcTf : Nat → Int32) (uvox : Int32) (uvoNn : Int32) (uvoNf : Nat → Int32) (uvoMn : Int32) (uvoMf : Nat → Int32) (uvoLn : Int32) (uvoLf : Nat → Int32) (uvoDn : Int32) (uvoDf : Nat → Int32) (uvac : Int32) (uvaWn : Int32) (uvaWf : Nat → Int32) (uvaDn : Int32) (uvaDf : Nat → Int32) (uvaLn : Int32) (uvaLf : Nat → Int32) (uhn : Int32) (uhc : Int32) (uhS : Nat → WT) (ult : Nat → Int32) (ulpn : Int32) (ulpf : Nat → Int32) (upl : Int32) (upp : Int32) (upc : Int32) (upt : Nat → Int32) (upK : Nat → CT) (ubm : Int32) (ubn : Int32) (ubq : Nat) (ubv : Nat → Int32) {r : Except String UInt32} (h : fX12_lossRate uwaDn uwaDf uwaLn uwaLf = some r) : MX vF l yX12_lossRate cX12_lossRate 3 (some .float) 6 82 1 6 dC dI g [.ref a0] (wX12 g a0 a1 a2 a3 a4 a5 a6 a7 a8 a9 a10 a11 a12 a13 a14 a15 a16 a17 a18 a19 a20 a21 a22 a23 a24 a25 a26 a27 a28 a29 a30 a31 a32 a33 a34 a35 a36 a37 a38 a39 a40 a41 a42 a43 a44 a45 a46 a47 a48 a49 a50 a51 a52 a53 a54 a55 a56 a57 a58 a59 a60 a61 a62 a63 a64 a65 a66 a67 a68 a68A a69 a70 a71 a72 a73 a74 a75 a75A a76 a77 ui ue uf uwk uwl uwr uwsx uwsNn uwsNf uwsMn uwsMf uwsLn uwsLf uwsKn uwsKf uwcMn uwcMf uwcLn uwcLf uwcTn uwcTf uwox uwoNn uwoNf uwoMn uwoMf uwoLn uwoLf uwoDn uwoDf uwac uwaWn uwaWf uwaDn uwaDf uwaLn uwaLf uvk uvl uvr uvsx uvsNn uvsNf uvsMn uvsMf uvsLn uvsLf uvsKn uvsKf uvcMn uvcMf uvcLn uvcLf uvcTn uvcTf uvox uvoNn uvoNf uvoMn uvoMf uvoLn uvoLf uvoDn uvoDf uvac uvaWn uvaWf uvaDn uvaDf uvaLn uvaLf uhn uhc uhS ult ulpn ulpf upl upp upc upt upK ubm ubn ubq ubv) (wX12 g a0 a1 a2 a3 a4 a5 a6 a7 a8 a9 a10 a11 a12 a13 a14 a15 a16 a17 a18 a19 a20 a21 a22 a23 a24 a25 a26 a27 a28 a29 a30 a31 a32 a33 a34 a35 a36 a37 a38 a39 a40 a41 a42 a43 a44 a45 a46 a47 a48 a49 a50 a51 a52 a53 a54 a55 a56 a57 a58 a59 a60 a61 a62 a63 a64 a65 a66 a67 a68 a68A a69 a70 a71 a72 a73 a74 a75 a75A a76 a77 ui ue uf uwk uwl uwr uwsx uwsNn uwsNf uwsMn uwsMf uwsLn uwsLf uwsKn uwsKf uwcMn uwcMf uwcLn uwcLf uwcTn uwcTf uwox uwoNn uwoNf uwoMn uwoMf uwoLn uwoLf uwoDn uwoDf uwac uwaWn uwaWf uwaDn uwaDf uwaLn uwaLf uvk uvl uvr uvsx uvsNn uvsNf uvsMn uvsMf uvsLn uvsLf uvsKn uvsKf uvcMn uvcMf uvcLn uvcLf uvcTn uvcTf uvox uvoNn uvoNf uvoMn uvoMf uvoLn uvoLf uvoDn uvoDf uvac uvaWn uvaWf uvaDn uvaDf uvaLn uvaLf uhn uhc uhS ult ulpn ulpf upl upp upc upt upK ubm ubn ubq ubv) r := by
  refine MX_of (by decide) (Nat.le_of_ble_eq_true rfl) ?_
  intro p e s m below meth c ls F hr hlocks ht hE hX hA hP hD hS hl
  generalize va_A (wX12 g a0 a1 a2 a3 a4 a5 a6 a7 a8 a9 a10 a11 a12 a13 a14 a15 a16 a17 a18 a19 a20 a21 a22 a23 a24 a25 a26 a27 a28 a29 a30 a31 a32 a33 a34 a35 a36 a37 a38 a39 a40 a41 a42 a43 a44 a45 a46 a47 a48 a49 a50 a51 a52 a53 a54 a55 a56 a57 a58 a59 a60 a61 a62 a63 a64 a65 a66 a67 a68 a68A a69 a70 a71 a72 a73 a74 a75 a75A a76 a77 ui ue uf uwk uwl uwr uwsx uwsNn uwsNf uwsMn uwsMf uwsLn uwsLf uwsKn uwsKf uwcMn uwcMf uwcLn uwcLf uwcTn uwcTf uwox uwoNn uwoNf uwoMn uwoMf uwoLn uwoLf uwoDn uwoDf uwac uwaWn uwaWf uwaDn uwaDf uwaLn uwaLf uvk uvl uvr uvsx uvsNn uvsNf uvsMn uvsMf uvsLn uvsLf uvsKn uvsKf uvcMn uvcMf uvcLn uvcLf uvcTn uvcTf uvox uvoNn uvoNf uvoMn uvoMf uvoLn uvoLf uvoDn uvoDf uvac uvaWn uvaWf uvaDn uvaDf uvaLn uvaLf uhn uhc uhS ult ulpn ulpf upl upp upc upt upK ubm ubn ubq ubv) s.heap.size = A at hA hD hS hX ⊢
  replace F : CF p m c cX12_lossRate 3 s _ RX12 := F
  replace hl : lv_has ls 3 [(0, .ref a0)] := hl
  rw [fX12_lossRate] at h
  replace hP : va_P (dC, dI) vwCl (catp [[(a0, .inr (14, [.ref a1, .ref a34, .ref a67, .ref a69, .ref a73, .ref a76, .int ui, .int ue, .int uf]))], [(a1, .inr (13, [.ref a2, .ref a11, .ref a18, .ref a27, .int uwk, .int uwl, .int uwr]))], wX9 g a2 a3 a4 a5 a6 a7 a8 a9 a10 uwsx uwsNn uwsNf uwsMn uwsMf uwsLn uwsLf uwsKn uwsKf, wX8 g a11 a12 a13 a14 a15 a16 a17 uwcMn uwcMf uwcLn uwcLf uwcTn uwcTf, wX5 g a18 a19 a20 a21 a22 a23 a24 a25 a26 uwox uwoNn uwoNf uwoMn uwoMf uwoLn uwoLf uwoDn uwoDf, [(a27, .inr (4, [.ref a28, .ref a30, .ref a32, .int uwac]))], wX7 g a28 a29 6 uwaWn uwaWf, wX7 g a30 a31 6 uwaDn uwaDf, wX7 g a32 a33 6 uwaLn uwaLf, wX11 g a34 a35 a36 a37 a38 a39 a40 a41 a42 a43 a44 a45 a46 a47 a48 a49 a50 a51 a52 a53 a54 a55 a56 a57 a58 a59 a60 a61 a62 a63 a64 a65 a66 uvk uvl uvr uvsx uvsNn uvsNf uvsMn uvsMf uvsLn uvsLf uvsKn uvsKf uvcMn uvcMf uvcLn uvcLf uvcTn uvcTf uvox uvoNn uvoNf uvoMn uvoMf uvoLn uvoLf uvoDn uvoDf uvac uvaWn uvaWf uvaDn uvaDf uvaLn uvaLf, wX3 g a67 a68 a68A uhn uhc uhS, wX4 g a69 a70 a71 a72 ult ulpn ulpf, wX6 g a73 a74 a75 a75A upl upp upc upt upK, wJ4 g a76 a77 ubm ubn ubq ubv] []) s.heap := hP
  replace hD : va_D A (catp [[(a0, .inr (14, [.ref a1, .ref a34, .ref a67, .ref a69, .ref a73, .ref a76, .int ui, .int ue, .int uf]))], [(a1, .inr (13, [.ref a2, .ref a11, .ref a18, .ref a27, .int uwk, .int uwl, .int uwr]))], wX9 g a2 a3 a4 a5 a6 a7 a8 a9 a10 uwsx uwsNn uwsNf uwsMn uwsMf uwsLn uwsLf uwsKn uwsKf, wX8 g a11 a12 a13 a14 a15 a16 a17 uwcMn uwcMf uwcLn uwcLf uwcTn uwcTf, wX5 g a18 a19 a20 a21 a22 a23 a24 a25 a26 uwox uwoNn uwoNf uwoMn uwoMf uwoLn uwoLf uwoDn uwoDf, [(a27, .inr (4, [.ref a28, .ref a30, .ref a32, .int uwac]))], wX7 g a28 a29 6 uwaWn uwaWf, wX7 g a30 a31 6 uwaDn uwaDf, wX7 g a32 a33 6 uwaLn uwaLf, wX11 g a34 a35 a36 a37 a38 a39 a40 a41 a42 a43 a44 a45 a46 a47 a48 a49 a50 a51 a52 a53 a54 a55 a56 a57 a58 a59 a60 a61 a62 a63 a64 a65 a66 uvk uvl uvr uvsx uvsNn uvsNf uvsMn uvsMf uvsLn uvsLf uvsKn uvsKf uvcMn uvcMf uvcLn uvcLf uvcTn uvcTf uvox uvoNn uvoNf uvoMn uvoMf uvoLn uvoLf uvoDn uvoDf uvac uvaWn uvaWf uvaDn uvaDf uvaLn uvaLf, wX3 g a67 a68 a68A uhn uhc uhS, wX4 g a69 a70 a71 a72 ult ulpn ulpf, wX6 g a73 a74 a75 a75A upl upp upc upt upK, wJ4 g a76 a77 ubm ubn ubq ubv] []) := hD
  refine lv_aload_n F.1 F.2.1 dX12_lossRate_0 rfl (lv_at hl 0 rfl) ?_
  refine gF (v := .ref a1) F hE hP 0 rfl rfl inX12 0 (by decide) q312 rfl dX12_lossRate_1 ?_
  refine gFN (v := .ref a27) F hE hP 1 rfl rfl inX11 3 (by decide) q171 rfl dX12_lossRate_4 ?_
  refine gFN (v := .ref a30) F hE hP 27 rfl rfl inX1 1 (by decide) q146 rfl dX12_lossRate_7 ?_
  obtain ⟨z1, k2, h⟩ := bd_ok h
  refine cRV1 (As := []) (rest := []) (post := catp [wX7 g a32 a33 6 uwaLn uwaLf, wX11 g a34 a35 a36 a37 a38 a39 a40 a41 a42 a43 a44 a45 a46 a47 a48 a49 a50 a51 a52 a53 a54 a55 a56 a57 a58 a59 a60 a61 a62 a63 a64 a65 a66 uvk uvl uvr uvsx uvsNn uvsNf uvsMn uvsMf uvsLn uvsLf uvsKn uvsKf uvcMn uvcMf uvcLn uvcLf uvcTn uvcTf uvox uvoNn uvoNf uvoMn uvoMf uvoLn uvoLf uvoDn uvoDf uvac uvaWn uvaWf uvaDn uvaDf uvaLn uvaLf, wX3 g a67 a68 a68A uhn uhc uhS, wX4 g a69 a70 a71 a72 ult ulpn ulpf, wX6 g a73 a74 a75 a75A upl upp upc upt upK, wJ4 g a76 a77 ubm ubn ubq ubv] []) F hE hX hS (tX7_sum l dC dI g a30 a31 6 uwaDn uwaDf k2) mbX7_sum q402 ⟨(Nat.le_of_ble_eq_true rfl), (Nat.le_of_ble_eq_true rfl)⟩ ⟨(Nat.le_of_ble_eq_true rfl), (Nat.le_of_ble_eq_true rfl)⟩ hP [[(a0, .inr (14, [.ref a1, .ref a34, .ref a67, .ref a69, .ref a73, .ref a76, .int ui, .int ue, .int uf]))], [(a1, .inr (13, [.ref a2, .ref a11, .ref a18, .ref a27, .int uwk, .int uwl, .int uwr]))], wX9 g a2 a3 a4 a5 a6 a7 a8 a9 a10 uwsx uwsNn uwsNf uwsMn uwsMf uwsLn uwsLf uwsKn uwsKf, wX8 g a11 a12 a13 a14 a15 a16 a17 uwcMn uwcMf uwcLn uwcLf uwcTn uwcTf, wX5 g a18 a19 a20 a21 a22 a23 a24 a25 a26 uwox uwoNn uwoNf uwoMn uwoMf uwoLn uwoLf uwoDn uwoDf, [(a27, .inr (4, [.ref a28, .ref a30, .ref a32, .int uwac]))], wX7 g a28 a29 6 uwaWn uwaWf] rfl 0 rfl rfl rfl hl.1 rfl (Nat.le_of_ble_eq_true rfl) dX12_lossRate_10 ?_
  refine lv_i2l F.1 F.2.1 dX12_lossRate_13 rfl ?_
  refine lv_lstore_n (lv' := [(1, .long z1.toInt64), (0, .ref a0)]) F.1 F.2.1 dX12_lossRate_14 rfl hl (by decide) rfl (fun ls hl => ?_)
  refine lv_lload_n F.1 F.2.1 dX12_lossRate_15 rfl (lv_at hl 0 rfl) ?_
  refine lv_lconst (v := 0) F.1 F.2.1 dX12_lossRate_16 (by decide) ?_
  refine W.lcmp F.1 F.2.1 dX12_lossRate_17 ?_
  refine lv_if_gt (tgt := 31) F.1 F.2.1 dX12_lossRate_18 (by decide) (fun k3 => ?_) (fun k3 => ?_)
  · replace h := it_t k3 h
    refine lv_aload_n F.1 F.2.1 dX12_lossRate_31 rfl (lv_at hl 1 rfl) ?_
    refine gF (v := .ref a1) F hE hP 0 rfl rfl inX12 0 (by decide) q312 rfl dX12_lossRate_32 ?_
    refine gFN (v := .ref a27) F hE hP 1 rfl rfl inX11 3 (by decide) q171 rfl dX12_lossRate_35 ?_
    refine gFN (v := .ref a32) F hE hP 27 rfl rfl inX1 2 (by decide) q149 rfl dX12_lossRate_38 ?_
    obtain ⟨z4, k5, h⟩ := bd_ok h
    refine cRV1 (As := []) (rest := []) (post := catp [wX11 g a34 a35 a36 a37 a38 a39 a40 a41 a42 a43 a44 a45 a46 a47 a48 a49 a50 a51 a52 a53 a54 a55 a56 a57 a58 a59 a60 a61 a62 a63 a64 a65 a66 uvk uvl uvr uvsx uvsNn uvsNf uvsMn uvsMf uvsLn uvsLf uvsKn uvsKf uvcMn uvcMf uvcLn uvcLf uvcTn uvcTf uvox uvoNn uvoNf uvoMn uvoMf uvoLn uvoLf uvoDn uvoDf uvac uvaWn uvaWf uvaDn uvaDf uvaLn uvaLf, wX3 g a67 a68 a68A uhn uhc uhS, wX4 g a69 a70 a71 a72 ult ulpn ulpf, wX6 g a73 a74 a75 a75A upl upp upc upt upK, wJ4 g a76 a77 ubm ubn ubq ubv] []) F hE hX hS (tX7_sum l dC dI g a32 a33 6 uwaLn uwaLf k5) mbX7_sum q402 ⟨(Nat.le_of_ble_eq_true rfl), (Nat.le_of_ble_eq_true rfl)⟩ ⟨(Nat.le_of_ble_eq_true rfl), (Nat.le_of_ble_eq_true rfl)⟩ hP [[(a0, .inr (14, [.ref a1, .ref a34, .ref a67, .ref a69, .ref a73, .ref a76, .int ui, .int ue, .int uf]))], [(a1, .inr (13, [.ref a2, .ref a11, .ref a18, .ref a27, .int uwk, .int uwl, .int uwr]))], wX9 g a2 a3 a4 a5 a6 a7 a8 a9 a10 uwsx uwsNn uwsNf uwsMn uwsMf uwsLn uwsLf uwsKn uwsKf, wX8 g a11 a12 a13 a14 a15 a16 a17 uwcMn uwcMf uwcLn uwcLf uwcTn uwcTf, wX5 g a18 a19 a20 a21 a22 a23 a24 a25 a26 uwox uwoNn uwoNf uwoMn uwoMf uwoLn uwoLf uwoDn uwoDf, [(a27, .inr (4, [.ref a28, .ref a30, .ref a32, .int uwac]))], wX7 g a28 a29 6 uwaWn uwaWf, wX7 g a30 a31 6 uwaDn uwaDf] rfl 0 rfl rfl rfl hl.1 rfl (Nat.le_of_ble_eq_true rfl) dX12_lossRate_41 ?_
    refine lv_i2f F.1 F.2.1 dX12_lossRate_44 ?_
    refine lv_lload_n F.1 F.2.1 dX12_lossRate_45 rfl (lv_at hl 0 rfl) ?_
    refine lv_l2f F.1 F.2.1 dX12_lossRate_46 ?_
    obtain ⟨k6, h⟩ := gd_ok h
    refine lv_fdiv F.1 F.2.1 dX12_lossRate_47 (n32_ok k6) ?_
    cases h
    exact MX_f rfl F hr hlocks (Nat.le_of_ble_eq_true rfl) (Nat.le_of_ble_eq_true rfl) hP hS dX12_lossRate_48
  · replace h := it_f k3 h
    cases h
    exact MX_t (rest := []) rfl F hE hX hl9 ht hlocks hP hS (by decide +kernel) q1427 q24 sq5 at0 gt0 hl.1 dX12_lossRate_21 dX12_lossRate_24 dX12_lossRate_25 dX12_lossRate_27 dX12_lossRate_30 (Nat.le_of_ble_eq_true rfl) (Nat.le_of_ble_eq_true rfl) (Nat.le_of_ble_eq_true rfl) (Nat.le_of_ble_eq_true rfl) (Nat.le_of_ble_eq_true rfl) (Nat.le_of_ble_eq_true rfl)
/-! WireCutterModel.meanRemaining -/
def fX13_meanRemaining_L25 (uth : Int32) (uw : Nat → Int32) : Nat → Int32 → Int32 → Option (UInt64 × Int32)
  | 0, _, _ => none
  | k + 1, x1, x2 =>
    if (uw 0) ≤ x2 then
      gd (n64 (FP.ddiv (FP.i2d x1) (FP.i2d (uw 0)))) <|
      some (FP.ddiv (FP.i2d x1) (FP.i2d (uw 0)), uth)
    else
      (fX13_spoolAt uw x2 2).bind fun z4 =>
      fX13_meanRemaining_L25 uth uw k (x1 + z4) (x2 + 1)
def fX13_meanRemaining (uw : Nat → Int32) : Option (UInt64 × Int32) :=
  if (uw 0) = 0 then
    (fX13_fails 1).bind fun z6 =>
    some (FP.i2d z6.1, z6.2)
  else
    fX13_meanRemaining_L25 0 uw FU 0 0
theorem mbX13_meanRemaining : MV yX13_meanRemaining cX13_meanRemaining 3 (some .double) 0 := ⟨⟨q2091, q16, by decide +kernel⟩, q2089, q2090⟩
set_option maxHeartbeats 4000000 in
set_option maxRecDepth 100000 in
theorem tX13_meanRemaining_L25 {p : Program} {l : Launch} {e : Env} {s : State} {m : MethodId} {args : Array Value} {below : List Frame} {meth : Method} {c : Code} {dC : Nat → ClassId} {dI : Nat → Nat → Nat} {g : Nat → ClassId} {a0 a1 a2 a3 a4 a5 a6 a7 a8 : Nat} {r : UInt64 × Int32} {A : Nat → Prop} (F : CF p m c cX13_meanRemaining 3 s args RX13) (hr : meth.sig.returnType = (some .double)) (hlocks : meth.locks = false) (hE : EK dC dI g s) (hX : EX g A s s.heap) (hA : ∀ q : Nat, s.heap.size ≤ q → A q) (uth : Int32) (uch : Int32) (ufc : Int32) (usv : Int32) (ull : Int32) (ubl : Int32) (uba : Int32) (uea : Int32) (ufa : Int32) (uso : Int32) (udn : Int32) (uw : Nat → Int32) (uun : Nat → Int32) (usr : Nat → Int32) (ube : Nat → Int32) (ubs : Nat → Int32) (uln : Nat → Int32) (ubu : Nat → Int32) (unu : Nat → Int32) : ∀ (k : Nat) (x1 : Int32) (x2 : Int32), fX13_meanRemaining_L25 uth uw k x1 x2 = some r → ∀ (H : Heap) (locs : List Loc), va_P (dC, dI) vwCl (wX13 g a0 a1 a2 a3 a4 a5 a6 a7 a8 uth uch ufc usv ull ubl uba uea ufa uso udn uw uun usr ube ubs uln ubu unu) H → va_D A (wX13 g a0 a1 a2 a3 a4 a5 a6 a7 a8 uth uch ufc usv ull ubl uba uea ufa uso udn uw uun usr ube ubs uln ubu unu) → va_S A s.heap H locs → ∀ (ls : Array Slot), lv_has ls 3 [(0, .ref a0), (1, .int x1), (2, .int x2)] → W p l e { frames := 1, cells := 0, slots := 0, locals := 22 } s m args below meth c H locs 0 0 (MQ below (fun _ st o t => o = .returned (some (.double r.1)) ∧ va_P (dC, dI) vwCl (wX13 g a0 a1 a2 a3 a4 a5 a6 a7 a8 r.2 uch ufc usv ull ubl uba uea ufa uso udn uw uun usr ube ubs uln ubu unu) t.heap ∧ va_F A st t) args s 0 0 A) (F0 m 25 ls []) := by
  intro k
  induction k with
  | zero =>
    intro x1 x2 h
    exact absurd h (by simp [fX13_meanRemaining_L25])
  | succ k ih =>
    intro x1 x2 h H locs hP hD hS ls hl
    rw [fX13_meanRemaining_L25] at h
    refine lv_iload_n F.1 F.2.1 dX13_meanRemaining_25 rfl (lv_at hl 2 rfl) ?_
    refine lv_aload_n F.1 F.2.1 dX13_meanRemaining_26 rfl (lv_at hl 0 rfl) ?_
    refine gF (v := .ref a1) F hE hP 0 rfl rfl inX13 1 (by decide) q1685 rfl dX13_meanRemaining_27 ?_
    refine lv_iconst (v := 0) F.1 F.2.1 dX13_meanRemaining_30 (by decide) ?_
    refine aLi (k := 0) F hE hP 1 0 rfl rfl (by decide) (by decide) dX13_meanRemaining_31 ?_
    refine lv_icmp_ge (tgt := 50) F.1 F.2.1 dX13_meanRemaining_32 (by decide) (fun k2 => ?_) (fun k2 => ?_)
    · replace h := it_t k2 h
      refine lv_iload_n F.1 F.2.1 dX13_meanRemaining_50 rfl (lv_at hl 1 rfl) ?_
      refine lv_i2d F.1 F.2.1 dX13_meanRemaining_51 ?_
      refine lv_aload_n F.1 F.2.1 dX13_meanRemaining_52 rfl (lv_at hl 0 rfl) ?_
      refine gF (v := .ref a1) F hE hP 0 rfl rfl inX13 1 (by decide) q1685 rfl dX13_meanRemaining_53 ?_
      refine lv_iconst (v := 0) F.1 F.2.1 dX13_meanRemaining_56 (by decide) ?_
      refine aLi (k := 0) F hE hP 1 0 rfl rfl (by decide) (by decide) dX13_meanRemaining_57 ?_
      refine lv_i2d F.1 F.2.1 dX13_meanRemaining_58 ?_
      obtain ⟨k3, h⟩ := gd_ok h
      refine lv_ddiv F.1 F.2.1 dX13_meanRemaining_59 (n64_ok k3) ?_
      cases h
      exact MU_d F hr hlocks (Nat.le_refl _) (Nat.le_refl _) hP hS dX13_meanRemaining_60
    · replace h := it_f k2 h
      refine lv_iload_n F.1 F.2.1 dX13_meanRemaining_35 rfl (lv_at hl 1 rfl) ?_
      refine lv_aload_n F.1 F.2.1 dX13_meanRemaining_36 rfl (lv_at hl 0 rfl) ?_
      refine lv_iload_n F.1 F.2.1 dX13_meanRemaining_37 rfl (lv_at hl 2 rfl) ?_
      refine lv_iconst (v := 2) F.1 F.2.1 dX13_meanRemaining_38 (by decide) ?_
      obtain ⟨z4, k5, h⟩ := bd_ok h
      refine cRV (As := [.int x2, .int 2]) (rest := [.int x1]) F hE hX hS (tX13_spoolAt l dC dI g a0 a1 a2 a3 a4 a5 a6 a7 a8 uth uch ufc usv ull ubl uba uea ufa uso udn uw uun usr ube ubs uln ubu unu x2 2 k5) mbX13_spoolAt q1788 ⟨(Nat.le_of_ble_eq_true rfl), (Nat.le_of_ble_eq_true rfl)⟩ ⟨Nat.zero_le _, Nat.zero_le _⟩ hP [0, 1, 2, 3, 4, 5, 6, 7, 8] rfl 0 rfl rfl rfl hl.1 rfl (Nat.le_of_ble_eq_true rfl) dX13_meanRemaining_39 ?_
      refine lv_iadd F.1 F.2.1 dX13_meanRemaining_42 ?_
      refine lv_istore_n (lv' := [(1, .int (x1 + z4)), (0, .ref a0), (2, .int x2)]) F.1 F.2.1 dX13_meanRemaining_43 rfl hl (by decide) rfl (fun ls hl => ?_)
      refine lv_iinc (v := x2 + 1) (lv' := [(2, .int (x2 + 1)), (1, .int (x1 + z4)), (0, .ref a0)]) F.1 F.2.1 dX13_meanRemaining_44 hl (k := 2) rfl (by rfl) (by decide) rfl (fun ls hl => ?_)
      refine lv_goto (tgt := 25) F.1 F.2.1 dX13_meanRemaining_47 (by decide) ?_
      exact ih (x1 + z4) (x2 + 1) h _ _ hP hD hS ls (lv_sub hl [2, 1, 0] rfl)
set_option maxHeartbeats 4000000 in
set_option maxRecDepth 100000 in
theorem tX13_meanRemaining (l : Launch) (dC : Nat → ClassId) (dI : Nat → Nat → Nat) (g : Nat → ClassId) (a0 a1 a2 a3 a4 a5 a6 a7 a8 : Nat) (uth : Int32) (uch : Int32) (ufc : Int32) (usv : Int32) (ull : Int32) (ubl : Int32) (uba : Int32) (uea : Int32) (ufa : Int32) (uso : Int32) (udn : Int32) (uw : Nat → Int32) (uun : Nat → Int32) (usr : Nat → Int32) (ube : Nat → Int32) (ubs : Nat → Int32) (uln : Nat → Int32) (ubu : Nat → Int32) (unu : Nat → Int32) {r : UInt64 × Int32} (h : fX13_meanRemaining uw = some r) : MU l yX13_meanRemaining cX13_meanRemaining 3 (some .double) 1 22 0 0 dC dI g [.ref a0] (wX13 g a0 a1 a2 a3 a4 a5 a6 a7 a8 uth uch ufc usv ull ubl uba uea ufa uso udn uw uun usr ube ubs uln ubu unu) (wX13 g a0 a1 a2 a3 a4 a5 a6 a7 a8 r.2 uch ufc usv ull ubl uba uea ufa uso udn uw uun usr ube ubs uln ubu unu) (some (.double r.1)) := by
  refine MU_of (by decide) (Nat.le_of_ble_eq_true rfl) ?_
  intro p e s m below meth c ls F hr hlocks hE hX hA hP hD hS hl
  generalize va_A (wX13 g a0 a1 a2 a3 a4 a5 a6 a7 a8 uth uch ufc usv ull ubl uba uea ufa uso udn uw uun usr ube ubs uln ubu unu) s.heap.size = A at hA hD hS hX ⊢
  replace F : CF p m c cX13_meanRemaining 3 s _ RX13 := F
  replace hl : lv_has ls 3 [(0, .ref a0)] := hl
  rw [fX13_meanRemaining] at h
  refine lv_aload_n F.1 F.2.1 dX13_meanRemaining_0 rfl (lv_at hl 0 rfl) ?_
  refine lv_iconst (v := 0) F.1 F.2.1 dX13_meanRemaining_1 (by decide) ?_
  refine pF (v := .int 0) F hE hP hD hS 0 rfl rfl inX13 tyX13 tyX13_ok nmX13 0 (by decide) q1684 rfl rfl rfl (Nat.le_of_ble_eq_true rfl) dX13_meanRemaining_2 (fun H locs hP hD hS => ?_)
  replace hP : va_P (dC, dI) vwCl (wX13 g a0 a1 a2 a3 a4 a5 a6 a7 a8 0 uch ufc usv ull ubl uba uea ufa uso udn uw uun usr ube ubs uln ubu unu) H := hP
  replace hD : va_D A (wX13 g a0 a1 a2 a3 a4 a5 a6 a7 a8 0 uch ufc usv ull ubl uba uea ufa uso udn uw uun usr ube ubs uln ubu unu) := hD
  refine lv_aload_n F.1 F.2.1 dX13_meanRemaining_5 rfl (lv_at hl 0 rfl) ?_
  refine gF (v := .ref a1) F hE hP 0 rfl rfl inX13 1 (by decide) q1685 rfl dX13_meanRemaining_6 ?_
  refine lv_iconst (v := 0) F.1 F.2.1 dX13_meanRemaining_9 (by decide) ?_
  refine aLi (k := 0) F hE hP 1 0 rfl rfl (by decide) (by decide) dX13_meanRemaining_10 ?_
  refine lv_if_ne (tgt := 21) F.1 F.2.1 dX13_meanRemaining_11 (by decide) (fun k1 => ?_) (fun k1 => ?_)
  · replace h := it_f k1 h
    refine lv_iconst (v := 0) F.1 F.2.1 dX13_meanRemaining_21 (by decide) ?_
    refine lv_istore_n (lv' := [(1, .int 0), (0, .ref a0)]) F.1 F.2.1 dX13_meanRemaining_22 rfl hl (by decide) rfl (fun ls hl => ?_)
    refine lv_iconst (v := 0) F.1 F.2.1 dX13_meanRemaining_23 (by decide) ?_
    refine lv_istore_n (lv' := [(2, .int 0), (1, .int 0), (0, .ref a0)]) F.1 F.2.1 dX13_meanRemaining_24 rfl hl (by decide) rfl (fun ls hl => ?_)
    exact tX13_meanRemaining_L25 F hr hlocks hE hX hA 0 uch ufc usv ull ubl uba uea ufa uso udn uw uun usr ube ubs uln ubu unu FU 0 0 h _ _ hP hD hS ls (lv_sub hl [2, 1, 0] rfl)
  · replace h := it_t k1 h
    refine lv_aload_n F.1 F.2.1 dX13_meanRemaining_14 rfl (lv_at hl 0 rfl) ?_
    refine lv_iconst (v := 1) F.1 F.2.1 dX13_meanRemaining_15 (by decide) ?_
    obtain ⟨z6, k7, h⟩ := bd_ok h
    refine cMV (As := [.int 1]) (rest := []) (ws' := wX13 g a0 a1 a2 a3 a4 a5 a6 a7 a8 z6.2 uch ufc usv ull ubl uba uea ufa uso udn uw uun usr ube ubs uln ubu unu) F hE hX (tX13_fails l dC dI g a0 a1 a2 a3 a4 a5 a6 a7 a8 0 uch ufc usv ull ubl uba uea ufa uso udn uw uun usr ube ubs uln ubu unu 1 k7) mbX13_fails q1756 ⟨(Nat.le_of_ble_eq_true rfl), (Nat.le_of_ble_eq_true rfl)⟩ ⟨(Nat.le_of_ble_eq_true rfl), (Nat.le_of_ble_eq_true rfl)⟩ hP hD hS hA [0, 1, 2, 3, 4, 5, 6, 7, 8] rfl rfl rfl rfl rfl 0 rfl rfl rfl hl.1 rfl (Nat.le_of_ble_eq_true rfl) dX13_meanRemaining_16 (fun H locs hP hD hS => ?_)
    refine lv_i2d F.1 F.2.1 dX13_meanRemaining_19 ?_
    cases h
    exact MU_d F hr hlocks (Nat.le_refl _) (Nat.le_refl _) hP hS dX13_meanRemaining_20
/-! WireCutterModel.lossRate -/
def fX13_lossRate (uw : Nat → Int32) : Option (UInt32 × Int32) :=
  (fX13_sumOf uw 15).bind fun z1 =>
  if z1 = 0 then
    (fX13_fails 1).bind fun z9 =>
    some (FP.i2f z9.1, z9.2)
  else
    (fX13_sumOf uw 21).bind fun z4 =>
    (fX13_sumOf uw 15).bind fun z6 =>
    gd (n32 (FP.fdiv (FP.i2f z4) (FP.i2f z6))) <|
    some (FP.fdiv (FP.i2f z4) (FP.i2f z6), 0)
theorem mbX13_lossRate : MV yX13_lossRate cX13_lossRate 1 (some .float) 0 := ⟨⟨q2095, q16, by decide +kernel⟩, q2093, q2094⟩
set_option maxHeartbeats 4000000 in
set_option maxRecDepth 100000 in
theorem tX13_lossRate (l : Launch) (dC : Nat → ClassId) (dI : Nat → Nat → Nat) (g : Nat → ClassId) (a0 a1 a2 a3 a4 a5 a6 a7 a8 : Nat) (uth : Int32) (uch : Int32) (ufc : Int32) (usv : Int32) (ull : Int32) (ubl : Int32) (uba : Int32) (uea : Int32) (ufa : Int32) (uso : Int32) (udn : Int32) (uw : Nat → Int32) (uun : Nat → Int32) (usr : Nat → Int32) (ube : Nat → Int32) (ubs : Nat → Int32) (uln : Nat → Int32) (ubu : Nat → Int32) (unu : Nat → Int32) {r : UInt32 × Int32} (h : fX13_lossRate uw = some r) : MU l yX13_lossRate cX13_lossRate 1 (some .float) 1 23 0 0 dC dI g [.ref a0] (wX13 g a0 a1 a2 a3 a4 a5 a6 a7 a8 uth uch ufc usv ull ubl uba uea ufa uso udn uw uun usr ube ubs uln ubu unu) (wX13 g a0 a1 a2 a3 a4 a5 a6 a7 a8 r.2 uch ufc usv ull ubl uba uea ufa uso udn uw uun usr ube ubs uln ubu unu) (some (.float r.1)) := by
  refine MU_of (by decide) (Nat.le_of_ble_eq_true rfl) ?_
  intro p e s m below meth c ls F hr hlocks hE hX hA hP hD hS hl
  generalize va_A (wX13 g a0 a1 a2 a3 a4 a5 a6 a7 a8 uth uch ufc usv ull ubl uba uea ufa uso udn uw uun usr ube ubs uln ubu unu) s.heap.size = A at hA hD hS hX ⊢
  replace F : CF p m c cX13_lossRate 1 s _ RX13 := F
  replace hl : lv_has ls 1 [(0, .ref a0)] := hl
  rw [fX13_lossRate] at h
  refine lv_aload_n F.1 F.2.1 dX13_lossRate_0 rfl (lv_at hl 0 rfl) ?_
  refine lv_iconst (v := 0) F.1 F.2.1 dX13_lossRate_1 (by decide) ?_
  refine pF (v := .int 0) F hE hP hD hS 0 rfl rfl inX13 tyX13 tyX13_ok nmX13 0 (by decide) q1684 rfl rfl rfl (Nat.le_of_ble_eq_true rfl) dX13_lossRate_2 (fun H locs hP hD hS => ?_)
  replace hP : va_P (dC, dI) vwCl (wX13 g a0 a1 a2 a3 a4 a5 a6 a7 a8 0 uch ufc usv ull ubl uba uea ufa uso udn uw uun usr ube ubs uln ubu unu) H := hP
  replace hD : va_D A (wX13 g a0 a1 a2 a3 a4 a5 a6 a7 a8 0 uch ufc usv ull ubl uba uea ufa uso udn uw uun usr ube ubs uln ubu unu) := hD
  refine lv_aload_n F.1 F.2.1 dX13_lossRate_5 rfl (lv_at hl 0 rfl) ?_
  refine lv_bipush (v := 15) F.1 F.2.1 dX13_lossRate_6 (by decide) ?_
  obtain ⟨z1, k2, h⟩ := bd_ok h
  refine cRV (As := [.int 15]) (rest := []) F hE hX hS (tX13_sumOf l dC dI g a0 a1 a2 a3 a4 a5 a6 a7 a8 0 uch ufc usv ull ubl uba uea ufa uso udn uw uun usr ube ubs uln ubu unu 15 k2) mbX13_sumOf q2084 ⟨(Nat.le_of_ble_eq_true rfl), (Nat.le_of_ble_eq_true rfl)⟩ ⟨Nat.zero_le _, Nat.zero_le _⟩ hP [0, 1, 2, 3, 4, 5, 6, 7, 8] rfl 0 rfl rfl rfl hl.1 rfl (Nat.le_of_ble_eq_true rfl) dX13_lossRate_8 ?_
  refine lv_if_ne (tgt := 23) F.1 F.2.1 dX13_lossRate_11 (by decide) (fun k3 => ?_) (fun k3 => ?_)
  · replace h := it_f k3 h
    refine lv_aload_n F.1 F.2.1 dX13_lossRate_23 rfl (lv_at hl 0 rfl) ?_
    refine lv_bipush (v := 21) F.1 F.2.1 dX13_lossRate_24 (by decide) ?_
    obtain ⟨z4, k5, h⟩ := bd_ok h
    refine cRV (As := [.int 21]) (rest := []) F hE hX hS (tX13_sumOf l dC dI g a0 a1 a2 a3 a4 a5 a6 a7 a8 0 uch ufc usv ull ubl uba uea ufa uso udn uw uun usr ube ubs uln ubu unu 21 k5) mbX13_sumOf q2084 ⟨(Nat.le_of_ble_eq_true rfl), (Nat.le_of_ble_eq_true rfl)⟩ ⟨Nat.zero_le _, Nat.zero_le _⟩ hP [0, 1, 2, 3, 4, 5, 6, 7, 8] rfl 0 rfl rfl rfl hl.1 rfl (Nat.le_of_ble_eq_true rfl) dX13_lossRate_26 ?_
    refine lv_i2f F.1 F.2.1 dX13_lossRate_29 ?_
    refine lv_aload_n F.1 F.2.1 dX13_lossRate_30 rfl (lv_at hl 0 rfl) ?_
    refine lv_bipush (v := 15) F.1 F.2.1 dX13_lossRate_31 (by decide) ?_
    obtain ⟨z6, k7, h⟩ := bd_ok h
    refine cRV (As := [.int 15]) (rest := [.float (FP.i2f z4)]) F hE hX hS (tX13_sumOf l dC dI g a0 a1 a2 a3 a4 a5 a6 a7 a8 0 uch ufc usv ull ubl uba uea ufa uso udn uw uun usr ube ubs uln ubu unu 15 k7) mbX13_sumOf q2084 ⟨(Nat.le_of_ble_eq_true rfl), (Nat.le_of_ble_eq_true rfl)⟩ ⟨Nat.zero_le _, Nat.zero_le _⟩ hP [0, 1, 2, 3, 4, 5, 6, 7, 8] rfl 0 rfl rfl rfl hl.1 rfl (Nat.le_of_ble_eq_true rfl) dX13_lossRate_33 ?_
    refine lv_i2f F.1 F.2.1 dX13_lossRate_36 ?_
    obtain ⟨k8, h⟩ := gd_ok h
    refine lv_fdiv F.1 F.2.1 dX13_lossRate_37 (n32_ok k8) ?_
    cases h
    exact MU_f F hr hlocks (Nat.le_refl _) (Nat.le_refl _) hP hS dX13_lossRate_38
  · replace h := it_t k3 h
    refine lv_aload_n F.1 F.2.1 dX13_lossRate_14 rfl (lv_at hl 0 rfl) ?_
    refine lv_iconst (v := 1) F.1 F.2.1 dX13_lossRate_15 (by decide) ?_
    obtain ⟨z9, k10, h⟩ := bd_ok h
    refine cMV (As := [.int 1]) (rest := []) (ws' := wX13 g a0 a1 a2 a3 a4 a5 a6 a7 a8 z9.2 uch ufc usv ull ubl uba uea ufa uso udn uw uun usr ube ubs uln ubu unu) F hE hX (tX13_fails l dC dI g a0 a1 a2 a3 a4 a5 a6 a7 a8 0 uch ufc usv ull ubl uba uea ufa uso udn uw uun usr ube ubs uln ubu unu 1 k10) mbX13_fails q1756 ⟨(Nat.le_of_ble_eq_true rfl), (Nat.le_of_ble_eq_true rfl)⟩ ⟨(Nat.le_of_ble_eq_true rfl), (Nat.le_of_ble_eq_true rfl)⟩ hP hD hS hA [0, 1, 2, 3, 4, 5, 6, 7, 8] rfl rfl rfl rfl rfl 0 rfl rfl rfl hl.1 rfl (Nat.le_of_ble_eq_true rfl) dX13_lossRate_16 (fun H locs hP hD hS => ?_)
    refine lv_i2f F.1 F.2.1 dX13_lossRate_19 ?_
    refine lv_goto (tgt := 38) F.1 F.2.1 dX13_lossRate_20 (by decide) ?_
    cases h
    exact MU_f F hr hlocks (Nat.le_refl _) (Nat.le_refl _) hP hS dX13_lossRate_38
