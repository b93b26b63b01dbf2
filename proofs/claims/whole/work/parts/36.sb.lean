/-! StringBuilder: the methods that may make a new array; a capacity stays at most 290, a call takes at most twice what the capacity grows -/
theorem qsup : Cond.superclass RJ4 RJ5 ∈ lw_U := mU (mT (mT2 (List.mem_of_getElem? (i := 70) rfl))) rfl
theorem qnat : Cond.native ⟨"java/lang/System", "arraycopy", "(Ljava/lang/Object;ILjava/lang/Object;II)V"⟩ ∈ lw_U := mU (mT (mT3 (List.mem_of_getElem? (i := 87) rfl))) rfl
theorem MN_aA {p : Program} {l : Launch} {e : Env} {R : Room} {s : State} {m : MethodId} {args : Array Value} {below : List Frame} {meth : Method} {c : Code} {H : Heap} {locs : List Loc} {cells slots mc ms : Nat} {pc : Nat} {ls : Array Slot} {cc : ByteArray} {nL : Nat} {own : String} {dC : Nat → ClassId} {dI : Nat → Nat → Nat} {A : Nat → Prop} {W' : BT → va_W} {rv : BT → Option Value} {a : Nat} {nm : FieldType} (β : BT) (hrv : rv β = some (.ref a)) (F : CF p m c cc nL s args own) (hr : meth.sig.returnType = some (.array nm)) (hlocks : meth.locks = false) (hc : cells ≤ mc) (hs : slots ≤ ms) (hP : va_P (dC, dI) vwCl (W' β) H) (hD : va_D A (W' β)) (hS : va_S A s.heap H locs) (hdg : decode cc pc = .ok (.areturn, 1)) :
    W p l e R s m args below meth c H locs cells slots (MQ below (fun _ st o t => ∃ β : BT, o = .returned (rv β) ∧ va_P (dC, dI) vwCl (W' β) t.heap ∧ va_D A (W' β) ∧ va_F A st t) args s mc ms A) (F0 m pc ls [.ref a]) :=
  W.widen hc hs (W.aret F.1 F.2.1 hr (Or.inr ⟨_, rfl⟩) (Or.inr ⟨_, rfl⟩) (fun _ ht _ => ⟨β, by rw [hrv], by rw [ht]; exact hP, hD, hS.F ht⟩) hS.2.2 hdg)
theorem MN_i {p : Program} {l : Launch} {e : Env} {R : Room} {s : State} {m : MethodId} {args : Array Value} {below : List Frame} {meth : Method} {c : Code} {H : Heap} {locs : List Loc} {cells slots mc ms : Nat} {pc : Nat} {ls : Array Slot} {cc : ByteArray} {nL : Nat} {own : String} {dC : Nat → ClassId} {dI : Nat → Nat → Nat} {A : Nat → Prop} {W' : BT → va_W} {rv : BT → Option Value} {v : Int32} (β : BT) (hrv : rv β = some (.int v)) (F : CF p m c cc nL s args own) (hr : meth.sig.returnType = some .int) (hlocks : meth.locks = false) (hc : cells ≤ mc) (hs : slots ≤ ms) (hP : va_P (dC, dI) vwCl (W' β) H) (hD : va_D A (W' β)) (hS : va_S A s.heap H locs) (hdg : decode cc pc = .ok (.ireturn, 1)) :
    W p l e R s m args below meth c H locs cells slots (MQ below (fun _ st o t => ∃ β : BT, o = .returned (rv β) ∧ va_P (dC, dI) vwCl (W' β) t.heap ∧ va_D A (W' β) ∧ va_F A st t) args s mc ms A) (F0 m pc ls [.int v]) :=
  W.widen hc hs (W.iret F.1 F.2.1 hr (fun _ ht _ => ⟨β, by rw [hrv], by rw [ht]; exact hP, hD, hS.F ht⟩) hS.2.2 hdg)
def fitB (q : Nat) (v : Nat → Int32) : Bool := (List.range q).all (fun i => fits .byte (.int (v i)))
theorem fitB_n {q : Nat} {v : Nat → Int32} (h : fitB q v = true) : ∀ i, i < q → fits .byte (.int (v i)) = true := fun i hi => List.all_eq_true.mp h i (List.mem_range.mpr hi)
section
variable {p : Program} {l : Launch} {e : Env} {R : Room} {s : State} {m : MethodId} {args : Array Value} {below : List Frame} {meth : Method} {c : Code} {H : Heap} {locs : List Loc} {cells slots mc ms : Nat} {Q : State → Prop} {pc : Nat} {ls : Array Slot} {st rest : List Value}
variable {cc bytes : ByteArray} {nL maxL index n fr lo b i0 : Nat} {own : String} {y : MethodName} {ret : Option FieldType} {dC : Nat → ClassId} {dI : Nat → Nat → Nat} {g : Nat → ClassId} {As : List Value} {ws wc w1 ws' pre post : va_W} {A : Nat → Prop} {fs : List Value} {rv : Option Value} {W' : BT → va_W} {rvB : BT → Option Value}
theorem csJ {rm : Room} (F : CF p m c cc nL s args RJ4) (mb : MB y bytes maxL ret n) (hno : y.name ≠ "<init>") (hin : Cond.instanceMethod y ∈ lw_U) (hsame : Cond.sameMethod y.cls y.cls y.name y.desc ∈ lw_U) (hcls : y.cls = RJ5) (hl : Cond.methodLink RJ4 index y ∈ lw_U) (hrc : rm.cells = mc) (hrs : rm.slots = ms) (hR : rm.frames + 1 ≤ R.frames ∧ 8 + (maxL + 11) + rm.locals ≤ R.locals) : va_CS R s args RJ4 index y bytes maxL ret (wU y bytes maxL ret) rm mc ms n := by
  have B := mbB (ws' := lw_U) F mb hl hrc hrs hR
  obtain ⟨h1, h2, h3, h4, h5, h6, -, -, -, h7, -⟩ := B
  refine ⟨⟨h1, h2, h3, h4, h5, h6⟩, F.2.2.2.2 _ hl, F.2.2.2.2 _ hsame, by rw [hcls]; exact F.2.2.2.2 _ qsup, F.2.2.2.2 _ hin, F.2.2.2.2 _ mb.2.1, F.2.2.2.2 _ mb.1, hno, h7⟩
/-- super.m(..), of StringBuilder: a method that reads -/
theorem cRSu (F : CF p m c cc nL s args RJ4) (hE : EK dC dI g s) (hX : EX g A s s.heap) (hS : va_S A s.heap H locs) (M : RO l y bytes maxL ret fr lo dC dI g (.ref b :: As) wc rv) (mb : MB y bytes maxL ret n) (hno : y.name ≠ "<init>") (hin : Cond.instanceMethod y ∈ lw_U) (hsame : Cond.sameMethod y.cls y.cls y.name y.desc ∈ lw_U) (hcls : y.cls = RJ5) (hl : Cond.methodLink RJ4 index y ∈ lw_U) (hR : fr + 1 ≤ R.frames ∧ 8 + (maxL + 11) + lo ≤ R.locals) (hf : cells ≤ R.cells ∧ slots ≤ R.slots)
    (hP : va_P (dC, dI) vwCl ws H) (is : List Nat) (hs : is.filterMap (fun i => ws[i]?) = wc) (i0 : Nat) (h0 : ws[i0]? = some (b, .inr (1, fs))) (hn : As.length = n) (hls : ls.size = nL) (hst : st = As.reverse ++ .ref b :: rest) (hW : (rest.map fun v => v.category).sum ≤ 8) (hdg : decode cc pc = .ok (.invokespecial index, 3))
    (kk : W p l e R s m args below meth c H locs cells slots Q (F0 m (pc + 3) ls (rv.toList ++ rest))) : W p l e R s m args below meth c H locs cells slots Q (F0 m pc ls st) := by
  have hPc := hP.sub (ws' := wc) is hs
  unfold RO at M
  exact clRO (a := (Value.ref b :: As).toArray) (va_runSU (hE.1.1 1 (RJ4, TJ4, 4) rfl).2 F M (csJ F mb hno hin hsame hcls hl rfl rfl hR) ⟨fun a U G mk q => ⟨q.1, q.2.1.calling, q.2.2.1.calling, q.2.2.2⟩, rcv hE hP h0 rfl, fun U hU hW => ⟨rfl, hE.warm hW, by show EX g (fun _ => False) U U.heap; rw [hU]; exact ((hX.at hS).narrow (fun _ h => h.elim)).moved hW, by rw [hU]; exact hPc⟩⟩ rfl hn hls hst (lv_room hW) hdg ⟨by rw [Nat.add_zero]; exact hf.1, by rw [Nat.add_zero]; exact hf.2⟩) kk
/-- super.m(..), of StringBuilder: a method that may make a new array -/
theorem cNSu (F : CF p m c cc nL s args RJ4) (hE : EK dC dI g s) (hX : EX g A s s.heap) (M : MN l y bytes maxL ret fr lo mc ms dC dI g (.ref b :: As) wc W' rvB) (mb : MB y bytes maxL ret n) (hno : y.name ≠ "<init>") (hin : Cond.instanceMethod y ∈ lw_U) (hsame : Cond.sameMethod y.cls y.cls y.name y.desc ∈ lw_U) (hcls : y.cls = RJ5) (hl : Cond.methodLink RJ4 index y ∈ lw_U) (hR : fr + 1 ≤ R.frames ∧ 8 + (maxL + 11) + lo ≤ R.locals) (hf : cells + mc ≤ R.cells ∧ slots + ms ≤ R.slots)
    (hP : va_P (dC, dI) vwCl ws H) (hD : va_D A ws) (hS : va_S A s.heap H locs) (hA : ∀ q : Nat, s.heap.size ≤ q → A q) (ps : List va_W) (hw : catp ps (wc ++ post) = ws) (j0 : Nat) (h0 : wc[j0]? = some (b, .inr (1, fs))) (hn : As.length = n) (hls : ls.size = nL) (hst : st = As.reverse ++ .ref b :: rest) (hW : (rest.map fun v => v.category).sum ≤ 8) (hdg : decode cc pc = .ok (.invokespecial index, 3))
    (kk : ∀ (β : BT) (H1 : Heap) (locs1 : List Loc), va_P (dC, dI) vwCl (catp ps (W' β ++ post)) H1 → va_D A (catp ps (W' β ++ post)) → va_S A s.heap H1 locs1 → W p l e R s m args below meth c H1 locs1 (cells + mc) (slots + ms) Q (F0 m (pc + 3) ls ((rvB β).toList ++ rest))) : W p l e R s m args below meth c H locs cells slots Q (F0 m pc ls st) := by
  rw [catp_eq] at hw
  subst hw
  have hPc := apP_l (apP_r hP)
  have hDc := apD_l (apD_r hD)
  have hXc := exN hX hD hS hA
  unfold MN at M
  refine clMN (a := (.ref b :: As).toArray) (va_runSU (hE.1.1 1 (RJ4, TJ4, 4) rfl).2 F (M H.size) (csJ F mb hno hin hsame hcls hl rfl rfl hR) ⟨fun a U G mk q => ⟨q.1, q.2.1, q.2.2.1.calling, q.2.2.2.1.calling, q.2.2.2.2⟩, rcv hE hP (one_rc h0) rfl, fun U hU hW => ⟨rfl, by rw [hU], hE.warm hW, by rw [hU]; exact hXc.moved hW, by rw [hU]; exact hPc, hDc.weaken (fun _ _ _ _ => trivial)⟩⟩ rfl hn hls hst (lv_room hW) hdg hf) hP hD hS hA (fun β H1 locs1 h1 h2 h3 => kk β H1 locs1 ?_ ?_ h3)
  · rw [catp_eq]; exact h1
  · rw [catp_eq]; exact h2
/-- a call on a StringBuilder, of its own method, which may make a new array -/
theorem cNV4 (F : CF p m c cc nL s args own) (hE : EK dC dI g s) (hX : EX g A s s.heap) (M : MN l y bytes maxL ret fr lo mc ms dC dI g (.ref b :: As) wc W' rvB) (mv : MV y bytes maxL ret n) (hcls : y.cls = RJ4) (hl : Cond.methodLink own index y ∈ lw_U) (hR : fr + 1 ≤ R.frames ∧ 8 + (maxL + 11) + lo ≤ R.locals) (hf : cells + mc ≤ R.cells ∧ slots + ms ≤ R.slots)
    (hP : va_P (dC, dI) vwCl ws H) (hD : va_D A ws) (hS : va_S A s.heap H locs) (hA : ∀ q : Nat, s.heap.size ≤ q → A q) (ps : List va_W) (hw : catp ps (wc ++ post) = ws) (j0 : Nat) (h0 : wc[j0]? = some (b, .inr (1, fs))) (hn : As.length = n) (hls : ls.size = nL) (hst : st = As.reverse ++ .ref b :: rest) (hW : (rest.map fun v => v.category).sum ≤ 8) (hdg : decode cc pc = .ok (.invokevirtual index, 3))
    (kk : ∀ (β : BT) (H1 : Heap) (locs1 : List Loc), va_P (dC, dI) vwCl (catp ps (W' β ++ post)) H1 → va_D A (catp ps (W' β ++ post)) → va_S A s.heap H1 locs1 → W p l e R s m args below meth c H1 locs1 (cells + mc) (slots + ms) Q (F0 m (pc + 3) ls ((rvB β).toList ++ rest))) : W p l e R s m args below meth c H locs cells slots Q (F0 m pc ls st) := by
  rw [catp_eq] at hw
  subst hw
  have hPc := apP_l (apP_r hP)
  have hDc := apD_l (apD_r hD)
  have hXc := exN hX hD hS hA
  unfold MN at M
  refine clMN (a := (.ref b :: As).toArray) (va_runV F (M H.size) ⟨mbB (ws' := lw_U) F mv.1 hl rfl rfl hR, F.2.2.2.2 _ mv.2.1, F.2.2.2.2 _ mv.2.2⟩ ⟨fun a U G mk q => ⟨q.1, q.2.1, q.2.2.1.calling, q.2.2.2.1.calling, q.2.2.2.2⟩, by rw [hcls]; exact rcv hE hP (one_rc h0) rfl, fun U hU hW => ⟨rfl, by rw [hU], hE.warm hW, by rw [hU]; exact hXc.moved hW, by rw [hU]; exact hPc, hDc.weaken (fun _ _ _ _ => trivial)⟩⟩ rfl hn hls hst (lv_room hW) hdg hf) hP hD hS hA (fun β H1 locs1 h1 h2 h3 => kk β H1 locs1 ?_ ?_ h3)
  · rw [catp_eq]; exact h1
  · rw [catp_eq]; exact h2
end
def fJ7_copyOf_9075b (q : Nat) (v : Nat → Int32) (n : Int32) : Option (Nat × (Nat → Int32)) :=
  gd (decide (¬ n < 0 ∧ n ≠ nI q ∧ mn32 (nI q) n = nI q ∧ q < 2 ^ 31 ∧ q < n.toNatClampNeg ∧ n.toNatClampNeg ≤ 290)) <|
  gd (fitB q v) <|
  some (n.toNatClampNeg, va_cpy v (fun _ => 0) 0 0 q)
theorem mbJ7_copyOf_9075b : MS yJ7_copyOf_9075b cJ7_copyOf_9075b 3 (some (.array .byte)) 2 := ⟨⟨q554, q29, by decide +kernel⟩, q553⟩
set_option maxHeartbeats 4000000 in
set_option maxRecDepth 100000 in
theorem tJ7_copyOf_9075b (l : Launch) (dC : Nat → ClassId) (dI : Nat → Nat → Nat) (g : Nat → ClassId) (b0 q : Nat) (v : Nat → Int32) (n : Int32) {r : Nat × (Nat → Int32)} (h : fJ7_copyOf_9075b q v n = some r) : MN l yJ7_copyOf_9075b cJ7_copyOf_9075b 3 (some (.array .byte)) 1 60 1 r.1 dC dI g [.ref b0, .int n] [(b0, .inl (g 5, q, .inl v))] (fun β => [(b0, .inl (g 5, q, .inl v)), (β.1 0, .inl (g 5, r.1, .inl r.2))]) (fun β => some (.ref (β.1 0))) := by
  unfold fJ7_copyOf_9075b at h
  obtain ⟨k1, h⟩ := gd_ok h
  obtain ⟨k2, h⟩ := gd_ok h
  obtain ⟨n1, n2, n3, n4, n5, n6⟩ := of_decide_eq_true k1
  cases h
  refine MN_of (by decide +kernel) (Nat.le_of_ble_eq_true rfl) ?_
  intro p e s m below meth c ls F hmn hr hlocks hE hX hA hP hD hS hl
  generalize va_A [(b0, .inl (g 5, q, .inl v))] s.heap.size = A at hA hD hS hX ⊢
  replace F : CF p m c cJ7_copyOf_9075b 3 s _ RJ7 := F
  replace hl : lv_has ls 3 [(0, .ref b0), (1, .int n)] := hl
  replace hP : va_P (dC, dI) vwCl (catp [[(b0, .inl (g 5, q, .inl v))]] []) s.heap := hP
  replace hD : va_D A (catp [[(b0, .inl (g 5, q, .inl v))]] []) := hD
  refine lv_iload_n F.1 F.2.1 dJ7_copyOf_9075b_0 rfl (lv_at hl 1 rfl) ?_
  refine lv_aload_n F.1 F.2.1 dJ7_copyOf_9075b_1 rfl (lv_at hl 0 rfl) ?_
  refine va_alen (v := nI q) F.1 F.2.1 hE.1 hP 0 5 rfl rfl rfl dJ7_copyOf_9075b_2 ?_
  refine lv_icmp_ne (tgt := 14) F.1 F.2.1 dJ7_copyOf_9075b_3 (by decide) (fun _ => ?_) (fun k => absurd k n2)
  refine lv_iload_n F.1 F.2.1 dJ7_copyOf_9075b_14 rfl (lv_at hl 1 rfl) ?_
  refine nwA (atype := .byte) (k0 := 5) F hE q311 rfl rfl (fun _ _ _ => ra_B) (fun _ _ => rfl) [[(b0, .inl (g 5, q, .inl v))]] hP hD hS hA n1 rfl (by show n.toNatClampNeg * 1 ≤ 536870912; omega) (by first | omega | (dsimp only; omega)) (by first | omega | (dsimp only; omega)) dJ7_copyOf_9075b_15 (fun qa H hP hD hS => ?_)
  replace hP : va_P (dC, dI) vwCl [(b0, .inl (g 5, q, .inl v)), (qa, .inl (g 5, n.toNatClampNeg, .inl (fun _ => 0)))] H := hP
  replace hD : va_D A [(b0, .inl (g 5, q, .inl v)), (qa, .inl (g 5, n.toNatClampNeg, .inl (fun _ => 0)))] := hD
  refine lv_astore_n (lv' := [(2, .ref qa), (0, .ref b0), (1, .int n)]) F.1 F.2.1 dJ7_copyOf_9075b_17 rfl hl (by decide) rfl (fun ls hl => ?_)
  refine lv_aload_n F.1 F.2.1 dJ7_copyOf_9075b_18 rfl (lv_at hl 1 rfl) ?_
  refine lv_iconst (v := 0) F.1 F.2.1 dJ7_copyOf_9075b_19 (by decide) ?_
  refine lv_aload_n F.1 F.2.1 dJ7_copyOf_9075b_20 rfl (lv_at hl 0 rfl) ?_
  refine lv_iconst (v := 0) F.1 F.2.1 dJ7_copyOf_9075b_21 (by decide) ?_
  refine lv_aload_n F.1 F.2.1 dJ7_copyOf_9075b_22 rfl (lv_at hl 1 rfl) ?_
  refine va_alen (v := nI q) F.1 F.2.1 hE.1 hP 0 5 rfl rfl rfl dJ7_copyOf_9075b_23 ?_
  refine lv_iload_n F.1 F.2.1 dJ7_copyOf_9075b_24 rfl (lv_at hl 2 rfl) ?_
  refine va_mmin F.1 F.2.1 (F.2.2.1.trans hl.1.symm) F.2.2.2.1 (F.2.2.2.2 _ q562) (F.2.2.2.2 _ q563) (F.2.2.2.2 _ q28) (F.2.2.2.2 _ q564) (Nat.le_of_ble_eq_true rfl) (Nat.le_of_ble_eq_true rfl) (by first | omega | (dsimp only; omega)) (by first | omega | (dsimp only; omega)) dJ7_copyOf_9075b_25 ?_
  have n3 : (if n < nI q then n else nI q) = nI q := n3
  rw [n3]
  have e1 : (nI q).toNatClampNeg = q := nI_clamp n4
  refine va_copyi F.1 F.2.1 (F.2.2.1.trans hl.1.symm) F.2.2.2.1 (F.2.2.2.2 _ q565) (F.2.2.2.2 _ qnat) (F.2.2.2.2 _ q566) (F.2.2.2.2 _ q30) hE.1 hP hD hS 0 1 5 5 rfl rfl rfl rfl rfl (by decide) (by decide) (nI_pos n4) (by rw [e1]; show 0 + q ≤ q; omega) (by rw [e1]; show 0 + q ≤ n.toNatClampNeg; omega) (fun i hi => by rw [e1] at hi; show fits .byte (.int (v (0 + i))) = true; rw [Nat.zero_add]; exact fitB_n k2 i hi) (Nat.le_of_ble_eq_true rfl) (Nat.le_of_ble_eq_true rfl) dJ7_copyOf_9075b_28 (fun H locs hP hD hS => ?_)
  rw [e1] at hP hD
  refine lv_aload_n F.1 F.2.1 dJ7_copyOf_9075b_31 rfl (lv_at hl 0 rfl) ?_
  exact MN_aA ⟨fun _ => qa, fun _ _ => 0, fun _ _ => 0⟩ rfl F hr hlocks (by omega) (by first | omega | (dsimp only; omega)) hP hD hS dJ7_copyOf_9075b_32
/-- room for p1 letters: the capacity, the bytes behind it -/
def fens (uq : Nat) (uv : Nat → Int32) (p1 : Int32) : Option (Nat × (Nat → Int32)) :=
  if p1 - nI uq ≤ 0 then some (uq, uv) else
  (fJ5_newCapacity_0f7a4 uq p1).bind fun z => (fJ7_copyOf_9075b uq uv z).bind fun r => gd (decide (2 * uq + 2 ≤ r.1)) <| some r
theorem fens_q {uq : Nat} {uv : Nat → Int32} {p1 : Int32} {r : Nat × (Nat → Int32)} (h : fens uq uv p1 = some r) : uq ≤ r.1 ∧ (uq ≤ 290 → r.1 ≤ 290) := by
  unfold fens at h
  split at h
  · cases h; exact ⟨Nat.le_refl _, fun q => q⟩
  · obtain ⟨z, -, h⟩ := bd_ok h
    obtain ⟨r1, h1, h⟩ := bd_ok h
    obtain ⟨k, h⟩ := gd_ok h
    have k := of_decide_eq_true k
    cases h
    unfold fJ7_copyOf_9075b at h1
    obtain ⟨k1, h1⟩ := gd_ok h1
    obtain ⟨-, h1⟩ := gd_ok h1
    have k1 := of_decide_eq_true k1
    cases h1
    exact ⟨by omega, fun _ => k1.2.2.2.2.2⟩
theorem mbJ5_ensureCapacityInternal_d00df : MB yJ5_ensureCapacityInternal_d00df cJ5_ensureCapacityInternal_d00df 3 none 1 := ⟨q536, q12, by decide +kernel⟩
set_option maxHeartbeats 4000000 in
set_option maxRecDepth 100000 in
theorem tJ5_ensureCapacityInternal_d00df (l : Launch) (dC : Nat → ClassId) (dI : Nat → Nat → Nat) (g : Nat → ClassId) (a0 a1 : Nat) (um : Int32) (un : Int32) (uq : Nat) (uv : Nat → Int32) (p1 : Int32) {r : Nat × (Nat → Int32)} (h : fens uq uv p1 = some r) : MN l yJ5_ensureCapacityInternal_d00df cJ5_ensureCapacityInternal_d00df 3 none 6 140 (2 * (r.1 - uq)) (2 * (r.1 - uq)) dC dI g [.ref a0, .int p1] (wJ4 g a0 a1 um un uq uv) (fun β => wJ4 g a0 (β.1 0) um un r.1 r.2) (fun _ => none) := by
  refine MN_of (by decide +kernel) (Nat.le_of_ble_eq_true rfl) ?_
  intro p e s m below meth c ls F hmn hr hlocks hE hX hA hP hD hS hl
  generalize va_A (wJ4 g a0 a1 um un uq uv) s.heap.size = A at hA hD hS hX ⊢
  replace F : CF p m c cJ5_ensureCapacityInternal_d00df 3 s _ RJ5 := F
  replace hl : lv_has ls 3 [(0, .ref a0), (1, .int p1)] := hl
  unfold fens at h
  refine lv_aload_n F.1 F.2.1 dJ5_ensureCapacityInternal_d00df_0 rfl (lv_at hl 0 rfl) ?_
  refine gF (v := .ref a1) F hE hP 0 rfl rfl inJ4 0 (by decide) q297 rfl dJ5_ensureCapacityInternal_d00df_1 ?_
  refine va_alen (v := nI uq) F.1 F.2.1 hE.1 hP 1 5 rfl rfl rfl dJ5_ensureCapacityInternal_d00df_4 ?_
  refine lv_aload_n F.1 F.2.1 dJ5_ensureCapacityInternal_d00df_5 rfl (lv_at hl 0 rfl) ?_
  refine gF (v := .int 0) F hE hP 0 rfl rfl inJ4 1 (by decide) q298 rfl dJ5_ensureCapacityInternal_d00df_6 ?_
  refine lv_ishr F.1 F.2.1 dJ5_ensureCapacityInternal_d00df_9 ?_
  rw [sb_shr0]
  refine lv_istore_n (lv' := [(2, .int (nI uq)), (0, .ref a0), (1, .int p1)]) F.1 F.2.1 dJ5_ensureCapacityInternal_d00df_10 rfl hl (by decide) rfl (fun ls hl => ?_)
  refine lv_iload_n F.1 F.2.1 dJ5_ensureCapacityInternal_d00df_11 rfl (lv_at hl 2 rfl) ?_
  refine lv_iload_n F.1 F.2.1 dJ5_ensureCapacityInternal_d00df_12 rfl (lv_at hl 0 rfl) ?_
  refine lv_isub F.1 F.2.1 dJ5_ensureCapacityInternal_d00df_13 ?_
  refine lv_if_le (tgt := 38) F.1 F.2.1 dJ5_ensureCapacityInternal_d00df_14 (by decide) (fun k1 => ?_) (fun k1 => ?_)
  · replace h := it_t k1 h
    cases h
    exact MN_v ⟨fun _ => a1, fun _ _ => 0, fun _ _ => 0⟩ rfl F hr hlocks (Nat.zero_le _) (Nat.zero_le _) hP hD hS dJ5_ensureCapacityInternal_d00df_38
  replace h := it_f k1 h
  obtain ⟨z, h1, h⟩ := bd_ok h
  obtain ⟨r2, h2, h⟩ := bd_ok h
  obtain ⟨k2, h⟩ := gd_ok h
  have k2 := of_decide_eq_true k2
  cases h
  refine lv_aload_n F.1 F.2.1 dJ5_ensureCapacityInternal_d00df_17 rfl (lv_at hl 1 rfl) ?_
  refine lv_aload_n F.1 F.2.1 dJ5_ensureCapacityInternal_d00df_18 rfl (lv_at hl 1 rfl) ?_
  refine gF (v := .ref a1) F hE hP 0 rfl rfl inJ4 0 (by decide) q297 rfl dJ5_ensureCapacityInternal_d00df_19 ?_
  refine lv_aload_n F.1 F.2.1 dJ5_ensureCapacityInternal_d00df_22 rfl (lv_at hl 1 rfl) ?_
  refine lv_iload_n F.1 F.2.1 dJ5_ensureCapacityInternal_d00df_23 rfl (lv_at hl 2 rfl) ?_
  refine cRVj (As := [.int p1]) (rest := [.ref a1, .ref a0]) F hE hX hS (tJ5_newCapacity_0f7a4 l dC dI g a0 a1 um un uq uv p1 h1) mbJ5_newCapacity_0f7a4 q539 (selJ_newCapacity F) q537 ⟨(Nat.le_of_ble_eq_true rfl), (Nat.le_of_ble_eq_true rfl)⟩ ⟨by first | omega | (dsimp only; omega), by first | omega | (dsimp only; omega)⟩ hP [0, 1] rfl 0 rfl rfl rfl hl.1 rfl (Nat.le_of_ble_eq_true rfl) dJ5_ensureCapacityInternal_d00df_24 ?_
  refine lv_aload_n F.1 F.2.1 dJ5_ensureCapacityInternal_d00df_27 rfl (lv_at hl 1 rfl) ?_
  refine gF (v := .int 0) F hE hP 0 rfl rfl inJ4 1 (by decide) q298 rfl dJ5_ensureCapacityInternal_d00df_28 ?_
  refine lv_ishl F.1 F.2.1 dJ5_ensureCapacityInternal_d00df_31 ?_
  rw [sb_shl0]
  refine cNS (As := [.ref a1, .int z]) (rest := [.ref a0]) (post := []) F hE hX (tJ7_copyOf_9075b l dC dI g a1 uq uv z h2) mbJ7_copyOf_9075b q552 ⟨(Nat.le_of_ble_eq_true rfl), (Nat.le_of_ble_eq_true rfl)⟩ ⟨by first | omega | (dsimp only; omega), by first | omega | (dsimp only; omega)⟩ hP hD hS hA [[(a0, .inr (1, [.ref a1, .int 0, .int um, .int un]))]] rfl rfl hl.1 rfl (Nat.le_of_ble_eq_true rfl) dJ5_ensureCapacityInternal_d00df_32 (fun b H locs hP hD hS => ?_)
  replace hP : va_P (dC, dI) vwCl ([(a0, .inr (1, [.ref a1, .int 0, .int um, .int un])), (a1, .inl (g 5, uq, .inl uv)), (b.1 0, .inl (g 5, r.1, .inl r.2))]) H := hP
  replace hD : va_D A ([(a0, .inr (1, [.ref a1, .int 0, .int um, .int un])), (a1, .inl (g 5, uq, .inl uv)), (b.1 0, .inl (g 5, r.1, .inl r.2))]) := hD
  refine pF (v := .ref (b.1 0)) F hE hP hD hS 0 rfl rfl inJ4 tyJ4 tyJ4_ok nmJ4 0 (by decide) q297 rfl rfl rfl (Nat.le_of_ble_eq_true rfl) dJ5_ensureCapacityInternal_d00df_35 (fun H locs hP hD hS => ?_)
  replace hP : va_P (dC, dI) vwCl ([(a0, .inr (1, [.ref (b.1 0), .int 0, .int um, .int un])), (a1, .inl (g 5, uq, .inl uv)), (b.1 0, .inl (g 5, r.1, .inl r.2))]) H := hP
  replace hD : va_D A ([(a0, .inr (1, [.ref (b.1 0), .int 0, .int um, .int un])), (a1, .inl (g 5, uq, .inl uv)), (b.1 0, .inl (g 5, r.1, .inl r.2))]) := hD
  exact MN_v ⟨fun _ => b.1 0, fun _ _ => 0, fun _ _ => 0⟩ rfl F hr hlocks (by omega) (by omega) (hP.sub (ws' := wJ4 g a0 (b.1 0) um un r.1 r.2) [0, 2] rfl) (hD.sub (ws' := wJ4 g a0 (b.1 0) um un r.1 r.2) [0, 2] rfl rfl) hS dJ5_ensureCapacityInternal_d00df_38
/-- append(char): how many letters, the capacity, the bytes -/
def fapC (un : Int32) (uq : Nat) (uv : Nat → Int32) (p1 : Int32) : Option (Int32 × Nat × (Nat → Int32)) :=
  (fens uq uv (un + 1)).bind fun z => (fJ1_canEncode_fc78d p1).bind fun k => gd (ne0 k) <| gd (inR un z.1) <|
  some (un + 1, z.1, upd z.2 un.toNatClampNeg (vp_nar .byte p1.toInt8.toInt32))
theorem fapC_q {un : Int32} {uq : Nat} {uv : Nat → Int32} {p1 : Int32} {r : Int32 × Nat × (Nat → Int32)} (h : fapC un uq uv p1 = some r) : uq ≤ r.2.1 ∧ (uq ≤ 290 → r.2.1 ≤ 290) := by
  unfold fapC at h
  obtain ⟨z, h1, h⟩ := bd_ok h
  obtain ⟨k, -, h⟩ := bd_ok h
  obtain ⟨-, h⟩ := gd_ok h
  obtain ⟨-, h⟩ := gd_ok h
  cases h
  have h2 := fens_q h1
  exact h2
theorem mbJ5_append_3fe6f : MB yJ5_append_3fe6f cJ5_append_3fe6f 2 (some (.object RJ5)) 1 := ⟨q860, q12, by decide +kernel⟩
set_option maxHeartbeats 4000000 in
set_option maxRecDepth 100000 in
theorem tJ5_append_3fe6f (l : Launch) (dC : Nat → ClassId) (dI : Nat → Nat → Nat) (g : Nat → ClassId) (a0 a1 : Nat) (um : Int32) (un : Int32) (uq : Nat) (uv : Nat → Int32) (p1 : Int32) {r : Int32 × Nat × (Nat → Int32)} (h : fapC un uq uv p1 = some r) : MN l yJ5_append_3fe6f cJ5_append_3fe6f 2 (some (.object RJ5)) 7 165 (2 * (r.2.1 - uq)) (2 * (r.2.1 - uq)) dC dI g [.ref a0, .int p1] (wJ4 g a0 a1 um un uq uv) (fun β => wJ4 g a0 (β.1 0) um r.1 r.2.1 r.2.2) (fun _ => some (.ref a0)) := by
  unfold fapC at h
  obtain ⟨z, h1, h⟩ := bd_ok h
  obtain ⟨k, h2, h⟩ := bd_ok h
  obtain ⟨k3, h⟩ := gd_ok h
  obtain ⟨k4, h⟩ := gd_ok h
  cases h
  refine MN_of (by decide +kernel) (Nat.le_of_ble_eq_true rfl) ?_
  intro p e s m below meth c ls F hmn hr hlocks hE hX hA hP hD hS hl
  generalize va_A (wJ4 g a0 a1 um un uq uv) s.heap.size = A at hA hD hS hX ⊢
  replace F : CF p m c cJ5_append_3fe6f 2 s _ RJ5 := F
  replace hl : lv_has ls 2 [(0, .ref a0), (1, .int p1)] := hl
  refine lv_aload_n F.1 F.2.1 dJ5_append_3fe6f_0 rfl (lv_at hl 0 rfl) ?_
  refine lv_aload_n F.1 F.2.1 dJ5_append_3fe6f_1 rfl (lv_at hl 0 rfl) ?_
  refine gF (v := .int un) F hE hP 0 rfl rfl inJ4 3 (by decide) q301 rfl dJ5_append_3fe6f_2 ?_
  refine lv_iconst (v := 1) F.1 F.2.1 dJ5_append_3fe6f_5 (by decide) ?_
  refine lv_iadd F.1 F.2.1 dJ5_append_3fe6f_6 ?_
  refine cNVj (As := [.int (un + 1)]) (rest := []) (post := []) F hE hX (tJ5_ensureCapacityInternal_d00df l dC dI g a0 a1 um un uq uv (un + 1) h1) mbJ5_ensureCapacityInternal_d00df q535 (selJ_ensureCapacityInternal F) q533 ⟨(Nat.le_of_ble_eq_true rfl), (Nat.le_of_ble_eq_true rfl)⟩ ⟨by first | omega | (dsimp only; omega), by first | omega | (dsimp only; omega)⟩ hP hD hS hA [] (by simp [catp_eq]) 0 rfl rfl rfl hl.1 rfl (Nat.le_of_ble_eq_true rfl) dJ5_append_3fe6f_7 (fun b H locs hP hD hS => ?_)
  replace hP : va_P (dC, dI) vwCl (wJ4 g a0 (b.1 0) um un z.1 z.2) H := hP
  replace hD : va_D A (wJ4 g a0 (b.1 0) um un z.1 z.2) := hD
  refine lv_aload_n F.1 F.2.1 dJ5_append_3fe6f_10 rfl (lv_at hl 0 rfl) ?_
  refine cRVj (As := []) (rest := []) F hE hX hS (tJ5_isLatin1_aae02 l dC dI g a0 (b.1 0) um un z.1 z.2 (r := 1) rfl) mbJ5_isLatin1_aae02 q569 (selJ_isLatin1 F) q568 ⟨(Nat.le_of_ble_eq_true rfl), (Nat.le_of_ble_eq_true rfl)⟩ ⟨by first | omega | (dsimp only; omega), by first | omega | (dsimp only; omega)⟩ hP [0, 1] rfl 0 rfl rfl rfl hl.1 rfl (Nat.le_of_ble_eq_true rfl) dJ5_append_3fe6f_11 ?_
  refine lv_if_eq (tgt := 45) F.1 F.2.1 dJ5_append_3fe6f_14 (by decide) (fun q9 => absurd q9 (by decide)) (fun _ => ?_)
  refine lv_iload_n F.1 F.2.1 dJ5_append_3fe6f_17 rfl (lv_at hl 1 rfl) ?_
  refine cRS0 (As := [.int p1]) (rest := []) F hE hX hS (tJ1_canEncode_fc78d l dC dI g p1 h2) mbJ1_canEncode_fc78d q861 ⟨(Nat.le_of_ble_eq_true rfl), (Nat.le_of_ble_eq_true rfl)⟩ ⟨by first | omega | (dsimp only; omega), by first | omega | (dsimp only; omega)⟩ hP rfl hl.1 rfl (Nat.le_of_ble_eq_true rfl) dJ5_append_3fe6f_18 ?_
  refine lv_if_eq (tgt := 45) F.1 F.2.1 dJ5_append_3fe6f_21 (by decide) (fun q9 => absurd q9 (of_decide_eq_true k3)) (fun _ => ?_)
  refine lv_aload_n F.1 F.2.1 dJ5_append_3fe6f_24 rfl (lv_at hl 0 rfl) ?_
  refine gF (v := .ref (b.1 0)) F hE hP 0 rfl rfl inJ4 0 (by decide) q297 rfl dJ5_append_3fe6f_25 ?_
  refine lv_aload_n F.1 F.2.1 dJ5_append_3fe6f_28 rfl (lv_at hl 0 rfl) ?_
  refine lv_dup F.1 F.2.1 dJ5_append_3fe6f_29 rfl ?_
  refine gF (v := .int un) F hE hP 0 rfl rfl inJ4 3 (by decide) q301 rfl dJ5_append_3fe6f_30 ?_
  refine lv_dup_x1 F.1 F.2.1 dJ5_append_3fe6f_33 rfl rfl ?_
  refine lv_iconst (v := 1) F.1 F.2.1 dJ5_append_3fe6f_34 (by decide) ?_
  refine lv_iadd F.1 F.2.1 dJ5_append_3fe6f_35 ?_
  refine pF (v := .int (un + 1)) F hE hP hD hS 0 rfl rfl inJ4 tyJ4 tyJ4_ok nmJ4 3 (by decide) q301 rfl rfl rfl (Nat.le_of_ble_eq_true rfl) dJ5_append_3fe6f_36 (fun H locs hP hD hS => ?_)
  replace hP : va_P (dC, dI) vwCl (wJ4 g a0 (b.1 0) um (un + 1) z.1 z.2) H := hP
  replace hD : va_D A (wJ4 g a0 (b.1 0) um (un + 1) z.1 z.2) := hD
  refine lv_iload_n F.1 F.2.1 dJ5_append_3fe6f_39 rfl (lv_at hl 1 rfl) ?_
  refine lv_i2b F.1 F.2.1 dJ5_append_3fe6f_40 rfl ?_
  refine va_bast F.1 F.2.1 hE.1 hP hD hS 1 5 rfl rfl (inR_in k4) dJ5_append_3fe6f_41 (fun H locs hP hD hS => ?_)
  replace hP : va_P (dC, dI) vwCl (wJ4 g a0 (b.1 0) um (un + 1) z.1 (upd z.2 un.toNatClampNeg (vp_nar .byte p1.toInt8.toInt32))) H := hP
  replace hD : va_D A (wJ4 g a0 (b.1 0) um (un + 1) z.1 (upd z.2 un.toNatClampNeg (vp_nar .byte p1.toInt8.toInt32))) := hD
  refine lv_goto (tgt := 75) F.1 F.2.1 dJ5_append_3fe6f_42 (by decide) ?_
  refine lv_aload_n F.1 F.2.1 dJ5_append_3fe6f_75 rfl (lv_at hl 0 rfl) ?_
  exact MN_a ⟨fun _ => b.1 0, fun _ _ => 0, fun _ _ => 0⟩ rfl F hr hlocks (by first | omega | (dsimp only; omega)) (by first | omega | (dsimp only; omega)) hP hD hS dJ5_append_3fe6f_76
/-- append(int) -/
def fapI (un : Int32) (uq : Nat) (uv : Nat → Int32) (p1 : Int32) : Option (Int32 × Nat × (Nat → Int32)) :=
  (fJ6_stringSize_0f7a4 p1).bind fun k => (fens uq uv (un + k)).bind fun z => (fJ6_getChars_ba4f3 z.1 z.2 p1 (un + k)).bind fun c =>
  some (un + k, z.1, c.2)
theorem fapI_q {un : Int32} {uq : Nat} {uv : Nat → Int32} {p1 : Int32} {r : Int32 × Nat × (Nat → Int32)} (h : fapI un uq uv p1 = some r) : uq ≤ r.2.1 ∧ (uq ≤ 290 → r.2.1 ≤ 290) := by
  unfold fapI at h
  obtain ⟨k, -, h⟩ := bd_ok h
  obtain ⟨z, h1, h⟩ := bd_ok h
  obtain ⟨c, -, h⟩ := bd_ok h
  cases h
  have h2 := fens_q h1
  exact h2
theorem mbJ5_append_c97b9 : MB yJ5_append_c97b9 cJ5_append_c97b9 4 (some (.object RJ5)) 1 := ⟨q648, q12, by decide +kernel⟩
set_option maxHeartbeats 4000000 in
set_option maxRecDepth 100000 in
theorem tJ5_append_c97b9 (l : Launch) (dC : Nat → ClassId) (dI : Nat → Nat → Nat) (g : Nat → ClassId) (a0 a1 : Nat) (um : Int32) (un : Int32) (uq : Nat) (uv : Nat → Int32) (p1 : Int32) {r : Int32 × Nat × (Nat → Int32)} (h : fapI un uq uv p1 = some r) : MN l yJ5_append_c97b9 cJ5_append_c97b9 4 (some (.object RJ5)) 7 165 (2 * (r.2.1 - uq)) (2 * (r.2.1 - uq)) dC dI g [.ref a0, .int p1] (wJ4 g a0 a1 um un uq uv) (fun β => wJ4 g a0 (β.1 0) um r.1 r.2.1 r.2.2) (fun _ => some (.ref a0)) := by
  unfold fapI at h
  obtain ⟨k, h2, h⟩ := bd_ok h
  obtain ⟨z, h1, h⟩ := bd_ok h
  obtain ⟨w, h3, h⟩ := bd_ok h
  cases h
  refine MN_of (by decide +kernel) (Nat.le_of_ble_eq_true rfl) ?_
  intro p e s m below meth c ls F hmn hr hlocks hE hX hA hP hD hS hl
  generalize va_A (wJ4 g a0 a1 um un uq uv) s.heap.size = A at hA hD hS hX ⊢
  replace F : CF p m c cJ5_append_c97b9 4 s _ RJ5 := F
  replace hl : lv_has ls 4 [(0, .ref a0), (1, .int p1)] := hl
  refine lv_aload_n F.1 F.2.1 dJ5_append_c97b9_0 rfl (lv_at hl 0 rfl) ?_
  refine gF (v := .int un) F hE hP 0 rfl rfl inJ4 3 (by decide) q301 rfl dJ5_append_c97b9_1 ?_
  refine lv_istore_n (lv' := [(2, .int un), (0, .ref a0), (1, .int p1)]) F.1 F.2.1 dJ5_append_c97b9_4 rfl hl (by decide) rfl (fun ls hl => ?_)
  refine lv_iload_n F.1 F.2.1 dJ5_append_c97b9_5 rfl (lv_at hl 0 rfl) ?_
  refine lv_iload_n F.1 F.2.1 dJ5_append_c97b9_6 rfl (lv_at hl 2 rfl) ?_
  refine cRS0 (As := [.int p1]) (rest := [.int un]) F hE hX hS (tJ6_stringSize_0f7a4 l dC dI g p1 h2) mbJ6_stringSize_0f7a4 q649 ⟨(Nat.le_of_ble_eq_true rfl), (Nat.le_of_ble_eq_true rfl)⟩ ⟨by first | omega | (dsimp only; omega), by first | omega | (dsimp only; omega)⟩ hP rfl hl.1 rfl (Nat.le_of_ble_eq_true rfl) dJ5_append_c97b9_7 ?_
  refine lv_iadd F.1 F.2.1 dJ5_append_c97b9_10 ?_
  refine lv_istore_n (lv' := [(3, .int (un + k)), (2, .int un), (0, .ref a0), (1, .int p1)]) F.1 F.2.1 dJ5_append_c97b9_11 rfl hl (by decide) rfl (fun ls hl => ?_)
  refine lv_aload_n F.1 F.2.1 dJ5_append_c97b9_12 rfl (lv_at hl 2 rfl) ?_
  refine lv_iload_n F.1 F.2.1 dJ5_append_c97b9_13 rfl (lv_at hl 0 rfl) ?_
  refine cNVj (As := [.int (un + k)]) (rest := []) (post := []) F hE hX (tJ5_ensureCapacityInternal_d00df l dC dI g a0 a1 um un uq uv (un + k) h1) mbJ5_ensureCapacityInternal_d00df q535 (selJ_ensureCapacityInternal F) q533 ⟨(Nat.le_of_ble_eq_true rfl), (Nat.le_of_ble_eq_true rfl)⟩ ⟨by first | omega | (dsimp only; omega), by first | omega | (dsimp only; omega)⟩ hP hD hS hA [] (by simp [catp_eq]) 0 rfl rfl rfl hl.1 rfl (Nat.le_of_ble_eq_true rfl) dJ5_append_c97b9_14 (fun b H locs hP hD hS => ?_)
  replace hP : va_P (dC, dI) vwCl (wJ4 g a0 (b.1 0) um un z.1 z.2) H := hP
  replace hD : va_D A (wJ4 g a0 (b.1 0) um un z.1 z.2) := hD
  refine lv_aload_n F.1 F.2.1 dJ5_append_c97b9_17 rfl (lv_at hl 2 rfl) ?_
  refine cRVj (As := []) (rest := []) F hE hX hS (tJ5_isLatin1_aae02 l dC dI g a0 (b.1 0) um un z.1 z.2 (r := 1) rfl) mbJ5_isLatin1_aae02 q569 (selJ_isLatin1 F) q568 ⟨(Nat.le_of_ble_eq_true rfl), (Nat.le_of_ble_eq_true rfl)⟩ ⟨by first | omega | (dsimp only; omega), by first | omega | (dsimp only; omega)⟩ hP [0, 1] rfl 0 rfl rfl rfl hl.1 rfl (Nat.le_of_ble_eq_true rfl) dJ5_append_c97b9_18 ?_
  refine lv_if_eq (tgt := 37) F.1 F.2.1 dJ5_append_c97b9_21 (by decide) (fun q9 => absurd q9 (by decide)) (fun _ => ?_)
  refine lv_iload_n F.1 F.2.1 dJ5_append_c97b9_24 rfl (lv_at hl 3 rfl) ?_
  refine lv_iload_n F.1 F.2.1 dJ5_append_c97b9_25 rfl (lv_at hl 0 rfl) ?_
  refine lv_aload_n F.1 F.2.1 dJ5_append_c97b9_26 rfl (lv_at hl 2 rfl) ?_
  refine gF (v := .ref (b.1 0)) F hE hP 0 rfl rfl inJ4 0 (by decide) q297 rfl dJ5_append_c97b9_27 ?_
  refine cMS (As := [.int p1, .int (un + k), .ref (b.1 0)]) (rest := []) (ws' := wJ4 g a0 (b.1 0) um un z.1 w.2) F hE hX (tJ6_getChars_ba4f3 l dC dI g (b.1 0) z.1 z.2 p1 (un + k) h3) mbJ6_getChars_ba4f3 q652 ⟨(Nat.le_of_ble_eq_true rfl), (Nat.le_of_ble_eq_true rfl)⟩ ⟨by first | omega | (dsimp only; omega), by first | omega | (dsimp only; omega)⟩ hP hD hS hA [1] rfl rfl rfl rfl rfl rfl hl.1 rfl (Nat.le_of_ble_eq_true rfl) dJ5_append_c97b9_30 (fun H locs hP hD hS => ?_)
  refine lv_pop F.1 F.2.1 dJ5_append_c97b9_33 rfl ?_
  refine lv_goto (tgt := 48) F.1 F.2.1 dJ5_append_c97b9_34 (by decide) ?_
  refine lv_aload_n F.1 F.2.1 dJ5_append_c97b9_48 rfl (lv_at hl 2 rfl) ?_
  refine lv_iload_n F.1 F.2.1 dJ5_append_c97b9_49 rfl (lv_at hl 0 rfl) ?_
  refine pF (v := .int (un + k)) F hE hP hD hS 0 rfl rfl inJ4 tyJ4 tyJ4_ok nmJ4 3 (by decide) q301 rfl rfl rfl (Nat.le_of_ble_eq_true rfl) dJ5_append_c97b9_50 (fun H locs hP hD hS => ?_)
  replace hP : va_P (dC, dI) vwCl (wJ4 g a0 (b.1 0) um (un + k) z.1 w.2) H := hP
  replace hD : va_D A (wJ4 g a0 (b.1 0) um (un + k) z.1 w.2) := hD
  refine lv_aload_n F.1 F.2.1 dJ5_append_c97b9_53 rfl (lv_at hl 2 rfl) ?_
  exact MN_a ⟨fun _ => b.1 0, fun _ _ => 0, fun _ _ => 0⟩ rfl F hr hlocks (by first | omega | (dsimp only; omega)) (by first | omega | (dsimp only; omega)) hP hD hS dJ5_append_c97b9_54
/-- setLength(0): maybeLatin1, the capacity, the bytes -/
def fset0 (um un : Int32) (uq : Nat) (uv : Nat → Int32) : Option (Int32 × Nat × (Nat → Int32)) :=
  gd (decide (¬ un < 0)) <| (fens uq uv 0).bind fun z => some (if un ≤ 0 then um else 1, z.1, z.2)
theorem fset0_q {um un : Int32} {uq : Nat} {uv : Nat → Int32} {r : Int32 × Nat × (Nat → Int32)} (h : fset0 um un uq uv = some r) : uq ≤ r.2.1 ∧ (uq ≤ 290 → r.2.1 ≤ 290) := by
  unfold fset0 at h
  obtain ⟨-, h⟩ := gd_ok h
  obtain ⟨z, h1, h⟩ := bd_ok h
  cases h
  have h2 := fens_q h1
  exact h2
theorem mbJ5_setLength_d00df : MB yJ5_setLength_d00df cJ5_setLength_d00df 2 none 1 := ⟨q513, q12, by decide +kernel⟩
set_option maxHeartbeats 4000000 in
set_option maxRecDepth 100000 in
theorem tJ5_setLength_d00df (l : Launch) (dC : Nat → ClassId) (dI : Nat → Nat → Nat) (g : Nat → ClassId) (a0 a1 : Nat) (um : Int32) (un : Int32) (uq : Nat) (uv : Nat → Int32) {r : Int32 × Nat × (Nat → Int32)} (h : fset0 um un uq uv = some r) : MN l yJ5_setLength_d00df cJ5_setLength_d00df 2 none 7 165 (2 * (r.2.1 - uq)) (2 * (r.2.1 - uq)) dC dI g [.ref a0, .int 0] (wJ4 g a0 a1 um un uq uv) (fun β => wJ4 g a0 (β.1 0) r.1 0 r.2.1 r.2.2) (fun _ => none) := by
  unfold fset0 at h
  obtain ⟨k3, h⟩ := gd_ok h
  have k3 := of_decide_eq_true k3
  obtain ⟨z, h1, h⟩ := bd_ok h
  cases h
  refine MN_of (by decide +kernel) (Nat.le_of_ble_eq_true rfl) ?_
  intro p e s m below meth c ls F hmn hr hlocks hE hX hA hP hD hS hl
  generalize va_A (wJ4 g a0 a1 um un uq uv) s.heap.size = A at hA hD hS hX ⊢
  replace F : CF p m c cJ5_setLength_d00df 2 s _ RJ5 := F
  replace hl : lv_has ls 2 [(0, .ref a0), (1, .int 0)] := hl
  refine lv_iload_n F.1 F.2.1 dJ5_setLength_d00df_0 rfl (lv_at hl 1 rfl) ?_
  refine lv_if_ge (tgt := 13) F.1 F.2.1 dJ5_setLength_d00df_1 (by decide) (fun _ => ?_) (fun k9 => absurd (by decide) k9)
  refine lv_aload_n F.1 F.2.1 dJ5_setLength_d00df_13 rfl (lv_at hl 0 rfl) ?_
  refine lv_iload_n F.1 F.2.1 dJ5_setLength_d00df_14 rfl (lv_at hl 1 rfl) ?_
  refine cNVj (As := [.int 0]) (rest := []) (post := []) F hE hX (tJ5_ensureCapacityInternal_d00df l dC dI g a0 a1 um un uq uv 0 h1) mbJ5_ensureCapacityInternal_d00df q535 (selJ_ensureCapacityInternal F) q533 ⟨(Nat.le_of_ble_eq_true rfl), (Nat.le_of_ble_eq_true rfl)⟩ ⟨by first | omega | (dsimp only; omega), by first | omega | (dsimp only; omega)⟩ hP hD hS hA [] (by simp [catp_eq]) 0 rfl rfl rfl hl.1 rfl (Nat.le_of_ble_eq_true rfl) dJ5_setLength_d00df_15 (fun b H locs hP hD hS => ?_)
  replace hP : va_P (dC, dI) vwCl (wJ4 g a0 (b.1 0) um un z.1 z.2) H := hP
  replace hD : va_D A (wJ4 g a0 (b.1 0) um un z.1 z.2) := hD
  refine lv_aload_n F.1 F.2.1 dJ5_setLength_d00df_18 rfl (lv_at hl 0 rfl) ?_
  refine gF (v := .int un) F hE hP 0 rfl rfl inJ4 3 (by decide) q301 rfl dJ5_setLength_d00df_19 ?_
  refine lv_iload_n F.1 F.2.1 dJ5_setLength_d00df_22 rfl (lv_at hl 1 rfl) ?_
  refine lv_icmp_ge (tgt := 63) F.1 F.2.1 dJ5_setLength_d00df_23 (by decide) (fun _ => ?_) (fun k9 => absurd (Int32.not_lt.mp k3) k9)
  refine lv_aload_n F.1 F.2.1 dJ5_setLength_d00df_63 rfl (lv_at hl 0 rfl) ?_
  refine gF (v := .int un) F hE hP 0 rfl rfl inJ4 3 (by decide) q301 rfl dJ5_setLength_d00df_64 ?_
  refine lv_iload_n F.1 F.2.1 dJ5_setLength_d00df_67 rfl (lv_at hl 1 rfl) ?_
  refine lv_icmp_le (tgt := 76) F.1 F.2.1 dJ5_setLength_d00df_68 (by decide) (fun k9 => ?_) (fun k9 => ?_)
  · rw [if_pos k9]
    refine lv_aload_n F.1 F.2.1 dJ5_setLength_d00df_76 rfl (lv_at hl 0 rfl) ?_
    refine lv_iload_n F.1 F.2.1 dJ5_setLength_d00df_77 rfl (lv_at hl 1 rfl) ?_
    refine pF (v := .int 0) F hE hP hD hS 0 rfl rfl inJ4 tyJ4 tyJ4_ok nmJ4 3 (by decide) q301 rfl rfl rfl (Nat.le_of_ble_eq_true rfl) dJ5_setLength_d00df_78 (fun H locs hP hD hS => ?_)
    replace hP : va_P (dC, dI) vwCl (wJ4 g a0 (b.1 0) um 0 z.1 z.2) H := hP
    replace hD : va_D A (wJ4 g a0 (b.1 0) um 0 z.1 z.2) := hD
    exact MN_v ⟨fun _ => b.1 0, fun _ _ => 0, fun _ _ => 0⟩ rfl F hr hlocks (by first | omega | (dsimp only; omega)) (by first | omega | (dsimp only; omega)) hP hD hS dJ5_setLength_d00df_81
  · rw [if_neg k9]
    refine lv_aload_n F.1 F.2.1 dJ5_setLength_d00df_71 rfl (lv_at hl 0 rfl) ?_
    refine lv_iconst (v := 1) F.1 F.2.1 dJ5_setLength_d00df_72 (by decide) ?_
    refine pF (v := .int 1) F hE hP hD hS 0 rfl rfl inJ4 tyJ4 tyJ4_ok nmJ4 2 (by decide) q299 rfl rfl rfl (Nat.le_of_ble_eq_true rfl) dJ5_setLength_d00df_73 (fun H locs hP hD hS => ?_)
    replace hP : va_P (dC, dI) vwCl (wJ4 g a0 (b.1 0) 1 un z.1 z.2) H := hP
    replace hD : va_D A (wJ4 g a0 (b.1 0) 1 un z.1 z.2) := hD
    refine lv_aload_n F.1 F.2.1 dJ5_setLength_d00df_76 rfl (lv_at hl 0 rfl) ?_
    refine lv_iload_n F.1 F.2.1 dJ5_setLength_d00df_77 rfl (lv_at hl 1 rfl) ?_
    refine pF (v := .int 0) F hE hP hD hS 0 rfl rfl inJ4 tyJ4 tyJ4_ok nmJ4 3 (by decide) q301 rfl rfl rfl (Nat.le_of_ble_eq_true rfl) dJ5_setLength_d00df_78 (fun H locs hP hD hS => ?_)
    replace hP : va_P (dC, dI) vwCl (wJ4 g a0 (b.1 0) 1 0 z.1 z.2) H := hP
    replace hD : va_D A (wJ4 g a0 (b.1 0) 1 0 z.1 z.2) := hD
    exact MN_v ⟨fun _ => b.1 0, fun _ _ => 0, fun _ _ => 0⟩ rfl F hr hlocks (by first | omega | (dsimp only; omega)) (by first | omega | (dsimp only; omega)) hP hD hS dJ5_setLength_d00df_81
theorem mbJ4_append_cf468 : MV yJ4_append_cf468 cJ4_append_cf468 2 (some (.object RJ4)) 1 := ⟨⟨q857, q13, by decide +kernel⟩, q855, q856⟩
set_option maxHeartbeats 4000000 in
set_option maxRecDepth 100000 in
theorem tJ4_append_cf468 (l : Launch) (dC : Nat → ClassId) (dI : Nat → Nat → Nat) (g : Nat → ClassId) (a0 a1 : Nat) (um : Int32) (un : Int32) (uq : Nat) (uv : Nat → Int32) (p1 : Int32) {r : Int32 × Nat × (Nat → Int32)} (h : fapC un uq uv p1 = some r) : MN l yJ4_append_cf468 cJ4_append_cf468 2 (some (.object RJ4)) 8 190 (2 * (r.2.1 - uq)) (2 * (r.2.1 - uq)) dC dI g [.ref a0, .int p1] (wJ4 g a0 a1 um un uq uv) (fun β => wJ4 g a0 (β.1 0) um r.1 r.2.1 r.2.2) (fun _ => some (.ref a0)) := by
  refine MN_of (by decide +kernel) (Nat.le_of_ble_eq_true rfl) ?_
  intro p e s m below meth c ls F hmn hr hlocks hE hX hA hP hD hS hl
  generalize va_A (wJ4 g a0 a1 um un uq uv) s.heap.size = A at hA hD hS hX ⊢
  replace F : CF p m c cJ4_append_cf468 2 s _ RJ4 := F
  replace hl : lv_has ls 2 [(0, .ref a0), (1, .int p1)] := hl
  refine lv_aload_n F.1 F.2.1 dJ4_append_cf468_0 rfl (lv_at hl 0 rfl) ?_
  refine lv_iload_n F.1 F.2.1 dJ4_append_cf468_1 rfl (lv_at hl 1 rfl) ?_
  refine cNSu (As := [.int p1]) (rest := []) (post := []) F hE hX (tJ5_append_3fe6f l dC dI g a0 a1 um un uq uv p1 h) mbJ5_append_3fe6f (by decide +kernel) q859 q2220 rfl q858 ⟨(Nat.le_of_ble_eq_true rfl), (Nat.le_of_ble_eq_true rfl)⟩ ⟨by first | omega | (dsimp only; omega), by first | omega | (dsimp only; omega)⟩ hP hD hS hA [] (by simp [catp_eq]) 0 rfl rfl hl.1 rfl (Nat.le_of_ble_eq_true rfl) dJ4_append_cf468_2 (fun b H locs hP hD hS => ?_)
  replace hP : va_P (dC, dI) vwCl (wJ4 g a0 (b.1 0) um r.1 r.2.1 r.2.2) H := hP
  replace hD : va_D A (wJ4 g a0 (b.1 0) um r.1 r.2.1 r.2.2) := hD
  refine lv_pop F.1 F.2.1 dJ4_append_cf468_5 rfl ?_
  refine lv_aload_n F.1 F.2.1 dJ4_append_cf468_6 rfl (lv_at hl 0 rfl) ?_
  exact MN_a b rfl F hr hlocks (by first | omega | (dsimp only; omega)) (by first | omega | (dsimp only; omega)) hP hD hS dJ4_append_cf468_7
theorem mbJ4_append_bf812 : MV yJ4_append_bf812 cJ4_append_bf812 2 (some (.object RJ4)) 1 := ⟨⟨q645, q13, by decide +kernel⟩, q643, q644⟩
set_option maxHeartbeats 4000000 in
set_option maxRecDepth 100000 in
theorem tJ4_append_bf812 (l : Launch) (dC : Nat → ClassId) (dI : Nat → Nat → Nat) (g : Nat → ClassId) (a0 a1 : Nat) (um : Int32) (un : Int32) (uq : Nat) (uv : Nat → Int32) (p1 : Int32) {r : Int32 × Nat × (Nat → Int32)} (h : fapI un uq uv p1 = some r) : MN l yJ4_append_bf812 cJ4_append_bf812 2 (some (.object RJ4)) 8 190 (2 * (r.2.1 - uq)) (2 * (r.2.1 - uq)) dC dI g [.ref a0, .int p1] (wJ4 g a0 a1 um un uq uv) (fun β => wJ4 g a0 (β.1 0) um r.1 r.2.1 r.2.2) (fun _ => some (.ref a0)) := by
  refine MN_of (by decide +kernel) (Nat.le_of_ble_eq_true rfl) ?_
  intro p e s m below meth c ls F hmn hr hlocks hE hX hA hP hD hS hl
  generalize va_A (wJ4 g a0 a1 um un uq uv) s.heap.size = A at hA hD hS hX ⊢
  replace F : CF p m c cJ4_append_bf812 2 s _ RJ4 := F
  replace hl : lv_has ls 2 [(0, .ref a0), (1, .int p1)] := hl
  refine lv_aload_n F.1 F.2.1 dJ4_append_bf812_0 rfl (lv_at hl 0 rfl) ?_
  refine lv_iload_n F.1 F.2.1 dJ4_append_bf812_1 rfl (lv_at hl 1 rfl) ?_
  refine cNSu (As := [.int p1]) (rest := []) (post := []) F hE hX (tJ5_append_c97b9 l dC dI g a0 a1 um un uq uv p1 h) mbJ5_append_c97b9 (by decide +kernel) q647 q2218 rfl q646 ⟨(Nat.le_of_ble_eq_true rfl), (Nat.le_of_ble_eq_true rfl)⟩ ⟨by first | omega | (dsimp only; omega), by first | omega | (dsimp only; omega)⟩ hP hD hS hA [] (by simp [catp_eq]) 0 rfl rfl hl.1 rfl (Nat.le_of_ble_eq_true rfl) dJ4_append_bf812_2 (fun b H locs hP hD hS => ?_)
  replace hP : va_P (dC, dI) vwCl (wJ4 g a0 (b.1 0) um r.1 r.2.1 r.2.2) H := hP
  replace hD : va_D A (wJ4 g a0 (b.1 0) um r.1 r.2.1 r.2.2) := hD
  refine lv_pop F.1 F.2.1 dJ4_append_bf812_5 rfl ?_
  refine lv_aload_n F.1 F.2.1 dJ4_append_bf812_6 rfl (lv_at hl 0 rfl) ?_
  exact MN_a b rfl F hr hlocks (by first | omega | (dsimp only; omega)) (by first | omega | (dsimp only; omega)) hP hD hS dJ4_append_bf812_7
theorem mbJ4_setLength_d00df : MV yJ4_setLength_d00df cJ4_setLength_d00df 2 none 1 := ⟨⟨q510, q13, by decide +kernel⟩, q508, q509⟩
set_option maxHeartbeats 4000000 in
set_option maxRecDepth 100000 in
theorem tJ4_setLength_d00df (l : Launch) (dC : Nat → ClassId) (dI : Nat → Nat → Nat) (g : Nat → ClassId) (a0 a1 : Nat) (um : Int32) (un : Int32) (uq : Nat) (uv : Nat → Int32) {r : Int32 × Nat × (Nat → Int32)} (h : fset0 um un uq uv = some r) : MN l yJ4_setLength_d00df cJ4_setLength_d00df 2 none 8 190 (2 * (r.2.1 - uq)) (2 * (r.2.1 - uq)) dC dI g [.ref a0, .int 0] (wJ4 g a0 a1 um un uq uv) (fun β => wJ4 g a0 (β.1 0) r.1 0 r.2.1 r.2.2) (fun _ => none) := by
  refine MN_of (by decide +kernel) (Nat.le_of_ble_eq_true rfl) ?_
  intro p e s m below meth c ls F hmn hr hlocks hE hX hA hP hD hS hl
  generalize va_A (wJ4 g a0 a1 um un uq uv) s.heap.size = A at hA hD hS hX ⊢
  replace F : CF p m c cJ4_setLength_d00df 2 s _ RJ4 := F
  replace hl : lv_has ls 2 [(0, .ref a0), (1, .int 0)] := hl
  refine lv_aload_n F.1 F.2.1 dJ4_setLength_d00df_0 rfl (lv_at hl 0 rfl) ?_
  refine lv_iload_n F.1 F.2.1 dJ4_setLength_d00df_1 rfl (lv_at hl 1 rfl) ?_
  refine cNSu (As := [.int 0]) (rest := []) (post := []) F hE hX (tJ5_setLength_d00df l dC dI g a0 a1 um un uq uv h) mbJ5_setLength_d00df (by decide +kernel) q512 q2210 rfl q511 ⟨(Nat.le_of_ble_eq_true rfl), (Nat.le_of_ble_eq_true rfl)⟩ ⟨by first | omega | (dsimp only; omega), by first | omega | (dsimp only; omega)⟩ hP hD hS hA [] (by simp [catp_eq]) 0 rfl rfl hl.1 rfl (Nat.le_of_ble_eq_true rfl) dJ4_setLength_d00df_2 (fun b H locs hP hD hS => ?_)
  replace hP : va_P (dC, dI) vwCl (wJ4 g a0 (b.1 0) r.1 0 r.2.1 r.2.2) H := hP
  replace hD : va_D A (wJ4 g a0 (b.1 0) r.1 0 r.2.1 r.2.2) := hD
  exact MN_v b rfl F hr hlocks (by first | omega | (dsimp only; omega)) (by first | omega | (dsimp only; omega)) hP hD hS dJ4_setLength_d00df_5
def fJ4_length_8abf5 (un : Int32) : Option (Int32) :=
  (fJ5_length_8abf5 un).bind fun z1 =>
  some (z1)
theorem mbJ4_length_8abf5 : MV yJ4_length_8abf5 cJ4_length_8abf5 1 (some .int) 0 := ⟨⟨q690, q13, by decide +kernel⟩, q689, q2221⟩
set_option maxHeartbeats 4000000 in
set_option maxRecDepth 100000 in
theorem tJ4_length_8abf5 (l : Launch) (dC : Nat → ClassId) (dI : Nat → Nat → Nat) (g : Nat → ClassId) (a0 a1 : Nat) (um : Int32) (un : Int32) (uq : Nat) (uv : Nat → Int32) {r : Int32} (h : fJ4_length_8abf5 un = some r) : RO l yJ4_length_8abf5 cJ4_length_8abf5 1 (some .int) 1 20 dC dI g [.ref a0] (wJ4 g a0 a1 um un uq uv) (some (.int r)) := by
  unfold fJ4_length_8abf5 at h
  obtain ⟨z, h1, h⟩ := bd_ok h
  cases h
  refine RO_of (by decide +kernel) (Nat.le_of_ble_eq_true rfl) ?_
  intro p e s m below meth c ls F hr hlocks hE hX hP hl
  replace F : CF p m c cJ4_length_8abf5 1 s _ RJ4 := F
  replace hl : lv_has ls 1 [(0, .ref a0)] := hl
  refine lv_aload_n F.1 F.2.1 dJ4_length_8abf5_0 rfl (lv_at hl 0 rfl) ?_
  refine cRSu (As := []) (rest := []) F hE hX va_S.rf (tJ5_length_8abf5 l dC dI g a0 a1 um un uq uv h1) mbJ5_length_8abf5 (by decide +kernel) q686 q687 rfl q691 ⟨(Nat.le_of_ble_eq_true rfl), (Nat.le_of_ble_eq_true rfl)⟩ ⟨Nat.zero_le _, Nat.zero_le _⟩ hP [0, 1] rfl 0 rfl rfl hl.1 rfl (Nat.le_of_ble_eq_true rfl) dJ4_length_8abf5_1 ?_
  exact RO_i F hr hlocks dJ4_length_8abf5_4
def fJ4_charAt_5068e (un : Int32) (uq : Nat) (uv : Nat → Int32) (p1 : Int32) : Option (Int32) :=
  (fJ5_charAt_5068e un uq uv p1).bind fun z1 =>
  gd (isC z1) <|
  some (z1)
theorem mbJ4_charAt_5068e : MV yJ4_charAt_5068e cJ4_charAt_5068e 2 (some .char) 1 := ⟨⟨q1476, q13, by decide +kernel⟩, q1474, q1475⟩
set_option maxHeartbeats 4000000 in
set_option maxRecDepth 100000 in
theorem tJ4_charAt_5068e (l : Launch) (dC : Nat → ClassId) (dI : Nat → Nat → Nat) (g : Nat → ClassId) (a0 a1 : Nat) (um : Int32) (un : Int32) (uq : Nat) (uv : Nat → Int32) (p1 : Int32) {r : Int32} (h : fJ4_charAt_5068e un uq uv p1 = some r) : RO l yJ4_charAt_5068e cJ4_charAt_5068e 2 (some .char) 5 109 dC dI g [.ref a0, .int p1] (wJ4 g a0 a1 um un uq uv) (some (.int r)) := by
  unfold fJ4_charAt_5068e at h
  obtain ⟨z, h1, h⟩ := bd_ok h
  obtain ⟨k2, h⟩ := gd_ok h
  cases h
  refine RO_of (by decide +kernel) (Nat.le_of_ble_eq_true rfl) ?_
  intro p e s m below meth c ls F hr hlocks hE hX hP hl
  replace F : CF p m c cJ4_charAt_5068e 2 s _ RJ4 := F
  replace hl : lv_has ls 2 [(0, .ref a0), (1, .int p1)] := hl
  refine lv_aload_n F.1 F.2.1 dJ4_charAt_5068e_0 rfl (lv_at hl 0 rfl) ?_
  refine lv_iload_n F.1 F.2.1 dJ4_charAt_5068e_1 rfl (lv_at hl 1 rfl) ?_
  refine cRSu (As := [.int p1]) (rest := []) F hE hX va_S.rf (tJ5_charAt_5068e l dC dI g a0 a1 um un uq uv p1 h1) mbJ5_charAt_5068e (by decide +kernel) q1478 q2222 rfl q1477 ⟨(Nat.le_of_ble_eq_true rfl), (Nat.le_of_ble_eq_true rfl)⟩ ⟨Nat.zero_le _, Nat.zero_le _⟩ hP [0, 1] rfl 0 rfl rfl hl.1 rfl (Nat.le_of_ble_eq_true rfl) dJ4_charAt_5068e_2 ?_
  exact RO_z F hr hlocks (isC_n k2).1 dJ4_charAt_5068e_5
