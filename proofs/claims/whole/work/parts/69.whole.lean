/-! the state at the start -/
def xt0 : XT := (0, (-1), (-1), wt0, wt0, 0, 0, (fun _ => wt0), (fun _ => 0), 0, (fun _ => 0), 0, 0, 0, (fun _ => 0), (fun _ => ct0), 0, 0, 16, (fun _ => 0))
def mt0 : MT := (0, 0, 0, 0, 0, 0, 0, (-1), (-1), 0, 0, (upd (upd (upd (fun _ => 0) 5 1) 6 5) 7 98), (fun _ => 0), (fun _ => 0), (fun _ => 0), (fun _ => 0), (fun _ => 0), (fun _ => 0), (fun _ => 0))
theorem nwG {atype : ArrayType} {ty : FieldType} {cG : ClassId} {k0 : Nat} {p : Program} {l : Launch} {e : Env} {R : Room} {s : State} {m : MethodId} {args : Array Value} {below : List Frame} {meth : Method} {c : Code} {H : Heap} {locs : List Loc} {cells slots : Nat} {Q : State → Prop} {pc : Nat} {ls : Array Slot} {rest : List Value} {cc : ByteArray} {nL : Nat} {own : String} {dC : Nat → ClassId} {dI : Nat → Nat → Nat} {g : Nat → ClassId} {A : Nat → Prop} {aE : vp_A} (F : CF p m c cc nL s args own) (hE : EK dC dI g s) (harr : (Cond.arrayClass (newarray.typeOf atype)).before args s = true) (hty : newarray.typeOf atype = ty) (hG : (TYs g)[k0]? = some (cG, ty)) (hRA : ∀ (U : State) (cA cB : ClassId), va_RA U cA ty → va_RA U cB ty → cA = cB) (hdf : ∀ (cA : ClassId), vp_cell cA aE = arrV cA 1 (fun _ => defaultValue ty))
    (ps : List va_W) (hP : va_P (dC, dI) vwCl (catp ps []) H) (hD : va_D A (catp ps [])) (hS : va_S A s.heap H locs) (hA : ∀ q, s.heap.size ≤ q → A q) (hbytes : 1 * componentBytes ty ≤ 536870912) (hcells : cells + 1 ≤ R.cells) (hslots : slots + 1 ≤ R.slots) (hdg : decode cc pc = .ok (.newarray atype, 2))
    (kk : ∀ (q : Nat) (H1 : Heap), va_P (dC, dI) vwCl (catp (ps ++ [[(q, .inl (cG, aE))]]) []) H1 → va_D A (catp (ps ++ [[(q, .inl (cG, aE))]]) []) → va_S A s.heap H1 locs → W p l e R s m args below meth c H1 locs (cells + 1) (slots + 1) Q (F0 m (pc + 2) ls (.ref q :: rest))) : W p l e R s m args below meth c H locs cells slots Q (F0 m pc ls (.int 1 :: rest)) := by
  refine va_newa (a0 := aE) (n := 1) (N' := 1) F.1 F.2.1 harr hty hE.1 hP hD hS hA hdf (by decide) rfl hbytes hcells hslots hdg (fun q cA H1 hK1 h1 h2 h3 => ?_)
  have e : cA = cG := hRA s cA cG (hK1.2 (TYs g).length (cA, ty) (by rw [List.getElem?_append_right (Nat.le_refl _)]; simp)).2 (hE.1.2 k0 (cG, ty) hG).2
  subst e
  exact kk q H1 (by rw [catp_snoc]; exact h1) (by rw [catp_snoc]; exact h2) h3
theorem ra_L {U : State} {cA cB : ClassId} (h1 : va_RA U cA .long) (h2 : va_RA U cB .long) : cA = cB := Option.some.inj (h1.symm.trans h2)
theorem ra_D {U : State} {cA cB : ClassId} (h1 : va_RA U cA .double) (h2 : va_RA U cB .double) : cA = cB := Option.some.inj (h1.symm.trans h2)
/-! THE CLAIM OUT OF ONE WALK OF THE LAW'S BODY. Your part is whole_start (and what it stands on); all else here is the same for every law, but numbers. -/
def R_law : String := "WireCutterLaw"
def lw_P (b : Addr) (xs : List Int32) (args : Array Value) (s : State) : Prop := args = #[.ref b] ∧ s.IntsAt b xs ∧ xs.length ≤ 2048 ∧ (Jvm.Cond.and given_1 narrow_1).before args s = true
/-- what a walk over the start with the record d0 says of its end, said of the start itself -/
theorem lw_closed {s t : State} {o : Outcome} {d0 : Drawn} {L : List Loc} {k n : Nat} (hd0 : s.drawn.sameBut d0 lw_cs) (hv : ∃ v, o = .returned v) (hW : (s.setDrawn d0).WarmedH t.vm) (hs : (s.setDrawn d0).sameButNew ({ t with vm := s.vm } : State) L k n) : State.butDraws s t lw_cs (fun t1 => Framed s o t1 L k n) := by
  have h2 : t.drawn = d0 := congrArg State.drawn hs.1
  refine ⟨⟨hv, hW, State.sameButNew.setDrawn hs s.drawn⟩, ?_, by decide⟩
  rw [h2]
  exact hd0
def lw_Q (_ : Array Value) (s : State) (o : Outcome) (t : State) : Prop := o = .returned (some (.int 1)) ∧ State.butDraws s t lw_cs (fun t1 => Framed s o t1 [] 603072 7211114)
def lw_Z (below : List Frame) (a : Array Value) (s : State) : State → Prop := fun t => ∃ o, t.status = .running ∧ Ended t below o ∧ lw_Q a s o t
/-- the law's own end, with 1 on the stack, nothing written that was there before, its room as the claim has it; d0: the record of draws at this point (at the entry s.drawn: begin with 'refine W.base ?_' and 'have hd0 := Drawn.sameBut.refl s.drawn lw_cs') -/
theorem lw_ret {p : Program} {l : Launch} {e : Env} {s : State} {m : MethodId} {below : List Frame} {meth : Method} {c : Code} {b : Nat} {d0 : Drawn} (hd0 : s.drawn.sameBut d0 lw_cs) (hx : p.tables.exec = Jvm.exec) (hb : c.code = code) (hr : meth.sig.returnType = ret) (hlocks : meth.locks = false) {pc : Nat} {H : Heap} {ls : Array Slot} (hdg : decode code pc = .ok (.ireturn, 1)) : W p l e room_1 (s.setDrawn d0) m #[Value.ref b] below meth c H [] 603072 7211114 (lw_Z below #[Value.ref b] s) (F0 m pc ls [.int 1]) := by
  intro T hT X
  obtain ⟨fs, hret, hrun, hended, hW, hframe⟩ := X.leave (v := some (.int 1)) (hlocks := hlocks) (fun h => by rw [hr] at h; cases h)
  have hmeth' : T.vm.method? m = some meth := X.method'
  refine ⟨T.setFrames fs, ?_, .returned (some (.int 1)), hrun, hended, rfl, lw_closed hd0 ⟨_, rfl⟩ hW hframe⟩
  jvm_step X.here [X.here.top, hx, hb, hdg, hmeth', hr, ret, narrow_b1]
  (try refine ⟨rfl, ?_⟩); (try refine ⟨rfl, ?_⟩)
  first | (intro acts; rw [hret _ acts rfl rfl rfl]) | rw [hret _ _ rfl rfl rfl]
  exact Steps.refl _
/-- what holds at the law's entry: the machine, the code, the tables' words (any of lw_tbl by 'hts w (by decide +kernel)'), the script of L ints xs at the cell b, what the Statement gives of the start (any of its parts by flat_of_before) -/
def lw_At (p : Program) (s : State) (m : MethodId) (meth : Method) (c : Code) (b L : Nat) (xs : Nat → Int32) : Prop :=
  p.tables.exec = Jvm.exec ∧ c.code = code ∧ meth.sig.returnType = ret ∧ c.maxLocals = 9 ∧ s.vm.findClass R_law = some m.cls ∧ (∀ w ∈ lw_tbl, w.before #[Value.ref b] s = true) ∧ va_X b L xs s s.heap ∧ b < s.heap.size ∧ meth.locks = false ∧ (Jvm.Cond.and given_1 narrow_1).before #[Value.ref b] s = true
set_option maxHeartbeats 4000000 in
set_option maxRecDepth 100000 in
theorem whole_of {Rel : Nat → XT → MT → Prop} (h0 : Rel 0 xt0 mt0) (hq : ST_all Rel) {p : Program} {e : Env} {s : State} {m : MethodId} {below : List Frame} {meth : Method} {c : Code} (l : Launch) (hflags : l.flags = flags0) {b L : Nat} {xs : Nat → Int32} (hL : L ≤ 2048) (C0 : lw_At p s m meth c b L xs) : W p l e room_1 s m #[Value.ref b] below meth c s.heap [] 0 0 (lw_Z below #[Value.ref b] s) (entryFrame m ([Value.ref b] : List Value).toArray 9) := by
  obtain ⟨hx, hb, hr, hml, hown, hts, hXs, hbl, hlocks, hgv⟩ := C0
  have hl9 : l.stackTraces = false := by rw [Launch.stackTraces, hflags]; decide +kernel
  obtain ⟨dC, dI, g, hE, hX⟩ := st_env hts hgv
  have hU := st_U hts
  have F : CF p m c code 9 s #[Value.ref b] RL := ⟨hx, hb, hml, hown, hU⟩
  have hA : ∀ q : Nat, s.heap.size ≤ q → (fun q : Nat => s.heap.size ≤ q) q := fun _ h => h
  have hbA : ¬ (fun q : Nat => s.heap.size ≤ q) b := Nat.not_le.mpr hbl
  have hS : va_S (fun q : Nat => s.heap.size ≤ q) s.heap s.heap [] := va_S.rf
  have hP : va_P (dC, dI) vwCl (catp [] []) s.heap := fun k q hk => by simp [catp] at hk
  have hD : va_D (fun q : Nat => s.heap.size ≤ q) (catp [] []) := ⟨fun i j p q hi => by simp [catp] at hi, fun k q hk => by simp [catp] at hk⟩
  have hl := lv_entry ([.ref b]) (n := 9) (Nat.le_of_ble_eq_true rfl)
  rw [lg_entry_eq]
  generalize (lg_sl ([.ref b]) ++ List.replicate (9 - (lg_sl ([.ref b])).length) Slot.unset).toArray = ls at hl ⊢
  have hl : lv_has ls 9 [(0, .ref b)] := hl
  generalize hAA : (fun q : Nat => s.heap.size ≤ q) = AA at hX hA hbA hS hD
  refine nwO (ci := 14) F hE inX12 tyX12 tyX12_ok q37 q38 q1 [] hP hD hS hA rfl [.null, .null, .null, .null, .null, .null, .int 0, .int 0, .int 0] (by decide) (by show _ ≤ 603072; omega) (by show _ ≤ 7211114; omega) dL_law_0 (fun q1 H hP hD hS => ?_)
  refine lv_dup F.1 F.2.1 dL_law_3 rfl ?_
  refine cNI (As := []) (rest := [.ref q1]) (post := catp [] []) F hE hX (tX12_init l dC dI g q1) mbX12_init q40 rfl q39 ⟨Nat.le_of_ble_eq_true rfl, Nat.le_of_ble_eq_true rfl⟩ ⟨by show _ ≤ 603072; omega, by show _ ≤ 7211114; omega⟩ hP hD hS hA [] rfl rfl hl.1 rfl (Nat.le_of_ble_eq_true rfl) dL_law_4 (fun β H locs hP hD hS => ?_)
  let A : Nat → Nat := fun i => match i with | 0 => q1 | j + 1 => β.1 j
  replace hP : va_P (dC, dI) vwCl (catp [wXt g A β.2.1 β.2.2 (β.1 76) xt0] []) H := hP
  replace hD : va_D AA (catp [wXt g A β.2.1 β.2.2 (β.1 76) xt0] []) := hD
  refine lv_astore_n (lv' := [(1, .ref (A 0)), (0, .ref b)]) F.1 F.2.1 dL_law_7 rfl hl (by decide) rfl (fun ls hl => ?_)
  refine nwO (ci := 15) F hE inX13 tyX13 tyX13_ok q1678 q1679 q16 [wXt g A β.2.1 β.2.2 (β.1 76) xt0] hP hD hS hA rfl [.int 0, .null, .null, .null, .null, .int 0, .int 0, .int 0, .null, .null, .int 0, .null, .int 0, .int 0, .int 0, .int 0, .null, .int 0, .int 0] (by decide) (by show _ ≤ 603072; omega) (by show _ ≤ 7211114; omega) dL_law_8 (fun q2 H hP hD hS => ?_)
  refine lv_dup F.1 F.2.1 dL_law_11 rfl ?_
  refine cNI (As := []) (rest := [.ref q2]) (post := catp [] []) F hE hX (tX13_init l dC dI g q2) mbX13_init q1681 rfl q1680 ⟨Nat.le_of_ble_eq_true rfl, Nat.le_of_ble_eq_true rfl⟩ ⟨by show _ ≤ 603072; omega, by show _ ≤ 7211114; omega⟩ hP hD hS hA [wXt g A β.2.1 β.2.2 (β.1 76) xt0] rfl rfl hl.1 rfl (Nat.le_of_ble_eq_true rfl) dL_law_12 (fun γ H locs hP hD hS => ?_)
  let B : Nat → Nat := fun i => match i with | 0 => q2 | j + 1 => γ.1 j
  replace hP : va_P (dC, dI) vwCl (catp [wXt g A β.2.1 β.2.2 (β.1 76) xt0, wMt g B mt0] []) H := hP
  replace hD : va_D AA (catp [wXt g A β.2.1 β.2.2 (β.1 76) xt0, wMt g B mt0] []) := hD
  refine lv_astore_n (lv' := [(2, .ref (B 0)), (1, .ref (A 0)), (0, .ref b)]) F.1 F.2.1 dL_law_15 rfl hl (by decide) rfl (fun ls hl => ?_)
  refine lv_iconst (v := 1) F.1 F.2.1 dL_law_16 (by decide) ?_
  refine nwG (atype := .long) (k0 := 6) (aE := (1, .inr (.inl (fun _ => 0)))) F hE (hts _ (mT (mT10 (List.mem_of_getElem? (i := 48) rfl)))) rfl rfl (fun _ _ _ => ra_L) (fun _ => rfl) [wXt g A β.2.1 β.2.2 (β.1 76) xt0, wMt g B mt0] hP hD hS hA (by decide) (by show _ ≤ 603072; omega) (by show _ ≤ 7211114; omega) dL_law_17 (fun o1 H hP hD hS => ?_)
  replace hP : va_P (dC, dI) vwCl (catp [wXt g A β.2.1 β.2.2 (β.1 76) xt0, wMt g B mt0, [(o1, .inl (g 6, 1, .inr (.inl (fun _ => 0))))]] []) H := hP
  replace hD : va_D AA (catp [wXt g A β.2.1 β.2.2 (β.1 76) xt0, wMt g B mt0, [(o1, .inl (g 6, 1, .inr (.inl (fun _ => 0))))]] []) := hD
  refine lv_astore_n (lv' := [(3, .ref o1), (2, .ref (B 0)), (1, .ref (A 0)), (0, .ref b)]) F.1 F.2.1 dL_law_19 rfl hl (by decide) rfl (fun ls hl => ?_)
  refine lv_iconst (v := 1) F.1 F.2.1 dL_law_20 (by decide) ?_
  refine nwG (atype := .double) (k0 := 7) (aE := (1, .inr (.inr (.inr (.inl (fun _ => 0)))))) F hE (hts _ (mT (mT10 (List.mem_of_getElem? (i := 49) rfl)))) rfl rfl (fun _ _ _ => ra_D) (fun _ => rfl) [wXt g A β.2.1 β.2.2 (β.1 76) xt0, wMt g B mt0, [(o1, .inl (g 6, 1, .inr (.inl (fun _ => 0))))]] hP hD hS hA (by decide) (by show _ ≤ 603072; omega) (by show _ ≤ 7211114; omega) dL_law_21 (fun o2 H hP hD hS => ?_)
  replace hP : va_P (dC, dI) vwCl (catp [wXt g A β.2.1 β.2.2 (β.1 76) xt0, wMt g B mt0, [(o1, .inl (g 6, 1, .inr (.inl (fun _ => 0))))], [(o2, .inl (g 7, 1, .inr (.inr (.inr (.inl (fun _ => 0))))))]] []) H := hP
  replace hD : va_D AA (catp [wXt g A β.2.1 β.2.2 (β.1 76) xt0, wMt g B mt0, [(o1, .inl (g 6, 1, .inr (.inl (fun _ => 0))))], [(o2, .inl (g 7, 1, .inr (.inr (.inr (.inl (fun _ => 0))))))]] []) := hD
  replace hP := swP hP
  replace hD := swD hD
  replace hP : va_P (dC, dI) vwCl (catp [catp [wXt g A β.2.1 β.2.2 (β.1 76) xt0, [(o1, .inl (g 6, 1, .inr (.inl (fun _ => 0))))]] [], wMt g B mt0, [(o2, .inl (g 7, 1, .inr (.inr (.inr (.inl (fun _ => 0))))))], []] []) H := by simpa only [catp_eq, List.flatten_cons, List.flatten_nil, List.append_nil, List.append_assoc, List.nil_append] using hP
  replace hD : va_D AA (catp [catp [wXt g A β.2.1 β.2.2 (β.1 76) xt0, [(o1, .inl (g 6, 1, .inr (.inl (fun _ => 0))))]] [], wMt g B mt0, [(o2, .inl (g 7, 1, .inr (.inr (.inr (.inl (fun _ => 0))))))], []] []) := by simpa only [catp_eq, List.flatten_cons, List.flatten_nil, List.append_nil, List.append_assoc, List.nil_append] using hD
  replace hP := swP hP
  replace hD := swD hD
  replace hP : va_P (dC, dI) vwCl (WL g A β.2.1 β.2.2 (β.1 76) o1 o2 B xt0 (fun _ => 0) (fun _ => 0) mt0) H := by simpa only [catp_eq, List.flatten_cons, List.flatten_nil, List.append_nil, List.append_assoc, List.nil_append] using hP
  replace hD : va_D AA (WL g A β.2.1 β.2.2 (β.1 76) o1 o2 B xt0 (fun _ => 0) (fun _ => 0) mt0) := by simpa only [catp_eq, List.flatten_cons, List.flatten_nil, List.append_nil, List.append_assoc, List.nil_append] using hD
  refine lv_astore (lv' := [(4, .ref o2), (3, .ref o1), (2, .ref (B 0)), (1, .ref (A 0)), (0, .ref b)]) F.1 F.2.1 dL_law_23 hl (by decide) rfl (fun ls hl => ?_)
  refine lv_iconst (v := 0) F.1 F.2.1 dL_law_25 (by decide) ?_
  refine lv_istore (lv' := [(5, .int (nI (4 * 0))), (4, .ref o2), (3, .ref o1), (2, .ref (B 0)), (1, .ref (A 0)), (0, .ref b)]) F.1 F.2.1 dL_law_26 hl (by decide) rfl (fun ls hl => ?_)
  refine lp_loop hl9 F hE hX hA hXs hbl hbA hL hq (fun H locs cells slots ls hS hc hs => ?_) 513 0 (β.1 76) (fun _ => 0) (fun _ => 0) xt0 mt0 H _ _ _ ls rfl (by omega) h0 (by omega) (by omega) hP hD hS (lv_sub hl [5, 4, 3, 2, 1, 0] rfl)
  subst hAA
  refine va_forget (fun q hq => hS.2.2 q hq) ?_
  refine W.widen hc hs ?_
  exact lw_ret (d0 := s.drawn) (Drawn.sameBut.refl s.drawn lw_cs) hx hb hr hlocks dL_law_2672
