/-! calls on a StringBuilder, of AbstractStringBuilder's methods -/
theorem EX.d1 {g : Nat → ClassId} {A : Nat → Prop} {U : State} {H : Heap} (h : EX g A U H) : va_Z "java/lang/Integer" "DigitOnes" "[B" (.ref (g 22)) A U H := h.1.2.2.2.2.2.2.2.2.2.2.2.1
theorem EX.d1T {g : Nat → ClassId} {A : Nat → Prop} {U : State} {H : Heap} (h : EX g A U H) : va_T .byte (g 22) 100 (fun i => .int (dOnes i)) A U H := h.1.2.2.2.2.2.2.2.2.2.2.2.2.1
theorem EX.d2 {g : Nat → ClassId} {A : Nat → Prop} {U : State} {H : Heap} (h : EX g A U H) : va_Z "java/lang/Integer" "DigitTens" "[B" (.ref (g 23)) A U H := h.1.2.2.2.2.2.2.2.2.2.2.2.2.2.1
theorem EX.d2T {g : Nat → ClassId} {A : Nat → Prop} {U : State} {H : Heap} (h : EX g A U H) : va_T .byte (g 23) 100 (fun i => .int (dTens i)) A U H := h.1.2.2.2.2.2.2.2.2.2.2.2.2.2.2.1
abbrev mn32 (x y : Int32) : Int32 := if y < x then y else x
abbrev mx32 (x y : Int32) : Int32 := if x < y then y else x
def cki (i n : Int32) : Bool := decide (¬ i < 0 ∧ i < n)
theorem cki_1 {i n : Int32} (h : cki i n = true) : ¬ i < 0 := (of_decide_eq_true h).1
theorem cki_2 {i n : Int32} (h : cki i n = true) : i < n := (of_decide_eq_true h).2
section
variable {p : Program} {l : Launch} {e : Env} {R : Room} {s : State} {m : MethodId} {args : Array Value} {below : List Frame} {meth : Method} {c : Code} {H : Heap} {locs : List Loc} {cells slots mc ms : Nat} {Q : State → Prop} {pc : Nat} {ls : Array Slot} {st rest : List Value}
variable {cc bytes : ByteArray} {nL maxL index n fr lo b ci i0 : Nat} {own : String} {y : MethodName} {ret : Option FieldType} {dC : Nat → ClassId} {dI : Nat → Nat → Nat} {g : Nat → ClassId} {As : List Value} {ws wc w1 ws' pre post : va_W} {A : Nat → Prop} {fs : List Value} {T : u_T} {N : Nat} {rv : Option Value} {W' : BT → va_W} {rvB : BT → Option Value}
theorem selJ_isLatin1 (F : CF p m c cc nL s args own) : (Cond.selects RJ4 yJ5_isLatin1_aae02 yJ5_isLatin1_aae02).before args s = true := F.2.2.2.2 _ q571
theorem selJ_ensureCapacityInternal (F : CF p m c cc nL s args own) : (Cond.selects RJ4 yJ5_ensureCapacityInternal_d00df yJ5_ensureCapacityInternal_d00df).before args s = true := F.2.2.2.2 _ qx0
theorem selJ_newCapacity (F : CF p m c cc nL s args own) : (Cond.selects RJ4 yJ5_newCapacity_0f7a4 yJ5_newCapacity_0f7a4).before args s = true := F.2.2.2.2 _ qx1
theorem cwJ {rm : Room} (F : CF p m c cc nL s args own) (mb : MB y bytes maxL ret n) (hin : Cond.instanceMethod y ∈ lw_U) (hsel : (Cond.selects RJ4 y y).before args s = true) (hl : Cond.methodLink own index y ∈ lw_U) (hrc : rm.cells = mc) (hrs : rm.slots = ms) (hR : rm.frames + 1 ≤ R.frames ∧ 8 + (maxL + 11) + rm.locals ≤ R.locals) : CallW R s args own RJ4 index y bytes maxL ret (wU y bytes maxL ret) rm mc ms n :=
  ⟨mbB (ws' := lw_U) F mb hl hrc hrs hR, F.2.2.2.2 _ hin, hsel⟩
theorem cRVj (F : CF p m c cc nL s args own) (hE : EK dC dI g s) (hX : EX g A s s.heap) (hS : va_S A s.heap H locs) (M : RO l y bytes maxL ret fr lo dC dI g (.ref b :: As) wc rv) (mb : MB y bytes maxL ret n) (hin : Cond.instanceMethod y ∈ lw_U) (hsel : (Cond.selects RJ4 y y).before args s = true) (hl : Cond.methodLink own index y ∈ lw_U) (hR : fr + 1 ≤ R.frames ∧ 8 + (maxL + 11) + lo ≤ R.locals) (hf : cells ≤ R.cells ∧ slots ≤ R.slots)
    (hP : va_P (dC, dI) vwCl ws H) (is : List Nat) (hs : is.filterMap (fun i => ws[i]?) = wc) (i0 : Nat) (h0 : ws[i0]? = some (b, .inr (ci, fs))) (hc : vwCl[ci]? = some (RJ4, T, N)) (hn : As.length = n) (hls : ls.size = nL) (hst : st = As.reverse ++ .ref b :: rest) (hW : (rest.map fun v => v.category).sum ≤ 8) (hdg : decode cc pc = .ok (.invokevirtual index, 3))
    (kk : W p l e R s m args below meth c H locs cells slots Q (F0 m (pc + 3) ls (rv.toList ++ rest))) : W p l e R s m args below meth c H locs cells slots Q (F0 m pc ls st) := by
  have hPc := hP.sub (ws' := wc) is hs
  unfold RO at M
  exact clRO (a := (Value.ref b :: As).toArray) (va_runV F M (cwJ F mb hin hsel hl rfl rfl hR) ⟨fun a U G mk q => ⟨q.1, q.2.1.calling, q.2.2.1.calling, q.2.2.2⟩, rcv hE hP h0 hc, fun U hU hW => ⟨rfl, hE.warm hW, by show EX g (fun _ => False) U U.heap; rw [hU]; exact ((hX.at hS).narrow (fun _ h => h.elim)).moved hW, by rw [hU]; exact hPc⟩⟩ rfl hn hls hst (lv_room hW) hdg ⟨by rw [Nat.add_zero]; exact hf.1, by rw [Nat.add_zero]; exact hf.2⟩) kk
/-- on a StringBuilder, a method that may make a new array -/
theorem cNVj (F : CF p m c cc nL s args own) (hE : EK dC dI g s) (hX : EX g A s s.heap) (M : MN l y bytes maxL ret fr lo mc ms dC dI g (.ref b :: As) wc W' rvB) (mb : MB y bytes maxL ret n) (hin : Cond.instanceMethod y ∈ lw_U) (hsel : (Cond.selects RJ4 y y).before args s = true) (hl : Cond.methodLink own index y ∈ lw_U) (hR : fr + 1 ≤ R.frames ∧ 8 + (maxL + 11) + lo ≤ R.locals) (hf : cells + mc ≤ R.cells ∧ slots + ms ≤ R.slots)
    (hP : va_P (dC, dI) vwCl ws H) (hD : va_D A ws) (hS : va_S A s.heap H locs) (hA : ∀ q : Nat, s.heap.size ≤ q → A q) (ps : List va_W) (hw : catp ps (wc ++ post) = ws) (j0 : Nat) (h0 : wc[j0]? = some (b, .inr (ci, fs))) (hc : vwCl[ci]? = some (RJ4, T, N)) (hn : As.length = n) (hls : ls.size = nL) (hst : st = As.reverse ++ .ref b :: rest) (hW : (rest.map fun v => v.category).sum ≤ 8) (hdg : decode cc pc = .ok (.invokevirtual index, 3))
    (kk : ∀ (β : BT) (H1 : Heap) (locs1 : List Loc), va_P (dC, dI) vwCl (catp ps (W' β ++ post)) H1 → va_D A (catp ps (W' β ++ post)) → va_S A s.heap H1 locs1 → W p l e R s m args below meth c H1 locs1 (cells + mc) (slots + ms) Q (F0 m (pc + 3) ls ((rvB β).toList ++ rest))) : W p l e R s m args below meth c H locs cells slots Q (F0 m pc ls st) := by
  rw [catp_eq] at hw
  subst hw
  have hPc := apP_l (apP_r hP)
  have hDc := apD_l (apD_r hD)
  have hXc := exN hX hD hS hA
  unfold MN at M
  refine clMN (a := (.ref b :: As).toArray) (va_runV F (M H.size) (cwJ F mb hin hsel hl rfl rfl hR) ⟨fun a U G mk q => ⟨q.1, q.2.1, q.2.2.1.calling, q.2.2.2.1.calling, q.2.2.2.2⟩, rcv hE hP (one_rc h0) hc, fun U hU hW => ⟨rfl, by rw [hU], hE.warm hW, by rw [hU]; exact hXc.moved hW, by rw [hU]; exact hPc, hDc.weaken (fun _ _ _ _ => trivial)⟩⟩ rfl hn hls hst (lv_room hW) hdg hf) hP hD hS hA (fun β H1 locs1 h1 h2 h3 => kk β H1 locs1 ?_ ?_ h3)
  · rw [catp_eq]; exact h1
  · rw [catp_eq]; exact h2
end
