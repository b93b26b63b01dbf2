theorem onN {w : Cond} (h : w ∈ lw_N) : w.onTables = true := by
  have h2 := (List.mem_filter.mp h).2
  cases w <;> first | rfl | (exfalso; revert h2; simp [nwOK]; done)
def vI : Int32 → Option Value := fun v => some (.int v)
def vJ : Int64 → Option Value := fun v => some (.long v)
def vN : Unit → Option Value := fun _ => none
def exC {α β : Type} (x : Except String α) (f : String → Option β) (k : α → Option β) : Option β := match x with
  | .error e => f e
  | .ok a => k a
theorem ex_ok {α β : Type} {x : Except String α} {f : String → Option β} {k : α → Option β} {v : α} {r : β} (hv : x = .ok v) (h : exC x f k = some r) : k v = some r := by subst hv; exact h
theorem ex_er {α β : Type} {x : Except String α} {f : String → Option β} {k : α → Option β} {v : String} {r : β} (hv : x = .error v) (h : exC x f k = some r) : f v = some r := by subst hv; exact h
def MXQ {R : Type} (val : R → Option Value) (x : Except String R) (dC : Nat → ClassId) (dI : Nat → Nat → Nat) (ws' : va_W) (A : Nat → Prop) : Array Value → State → Outcome → State → Prop := fun _ st o t => (∃ v, x = .ok v ∧ o = .returned (val v)) ∧ va_P (dC, dI) vwCl ws' t.heap ∧ va_F A st t
def MXX {R : Type} (x : Except String R) (dC : Nat → ClassId) (dI : Nat → Nat → Nat) (ws' : va_W) (A : Nat → Prop) : String → State → State → Prop := fun E st t => x = .error E ∧ va_P (dC, dI) vwCl ws' t.heap ∧ va_F A st t
/-- a method that returns or throws (x), its world ws' then -/
def MX {R : Type} (val : R → Option Value) (l : Launch) (y : MethodName) (bytes : ByteArray) (maxL : Nat) (ret : Option FieldType) (fr lo mc ms : Nat) (dC : Nat → ClassId) (dI : Nat → Nat → Nat) (g : Nat → ClassId) (av : List Value) (ws ws' : va_W) (x : Except String R) : Prop :=
  ∀ sz, vx_Met l y (wU y bytes maxL ret) { frames := fr, cells := mc, slots := ms, locals := lo } (va_Pc av (fun U => U.heap.size = sz ∧ EK dC dI g U ∧ EX g (va_A ws sz) U U.heap ∧ va_P (dC, dI) vwCl ws U.heap ∧ va_D (fun _ => True) ws)) (MXQ val x dC dI ws' (va_A ws sz)) (MXX x dC dI ws' (va_A ws sz)) mc ms (va_A ws sz)
section
variable {Rt : Type} {val : Rt → Option Value} {x : Except String Rt} {l : Launch} {y : MethodName} {bytes : ByteArray} {maxL : Nat} {ret : Option FieldType} {fr lo mc ms : Nat} {dC : Nat → ClassId} {dI : Nat → Nat → Nat} {g : Nat → ClassId} {av : List Value} {ws ws' : va_W}
theorem MX_of (hy : plainName y.cls = true) (hm : (lg_sl av).length ≤ maxL)
    (body : ∀ (p : Program) (e : Env) (s : State) (m : MethodId) (below : List Frame) (meth : Method) (c : Code) (ls : Array Slot), CF p m c bytes maxL s av.toArray y.cls → meth.sig.returnType = ret → meth.locks = false → (∀ z ∈ c.exceptionTable.toList, False) → EK dC dI g s → EX g (va_A ws s.heap.size) s s.heap → (∀ q : Nat, s.heap.size ≤ q → va_A ws s.heap.size q) → va_P (dC, dI) vwCl ws s.heap → va_D (va_A ws s.heap.size) ws → va_S (va_A ws s.heap.size) s.heap s.heap [] → lv_has ls maxL (lv_args 0 av) →
      W p l e { frames := fr, cells := mc, slots := ms, locals := lo } s m av.toArray below meth c s.heap [] 0 0 (vx_MQ below (MXQ val x dC dI ws' (va_A ws s.heap.size)) (MXX x dC dI ws' (va_A ws s.heap.size)) av.toArray s mc ms (va_A ws s.heap.size)) (F0 m 0 ls [])) : MX val l y bytes maxL ret fr lo mc ms dC dI g av ws ws' x := by
  unfold MX
  intro sz
  refine vx_ofW (cc := bytes) (maxL := maxL) (ret := ret) hy rfl ?_
  intro p e s m args below meth c s₁ B hml ht hv
  obtain ⟨rfl, hsz, hE, hX, hP, hD⟩ := hv
  subst hsz
  have hts := atoms_spec (ws := wU y bytes maxL ret) B.pre
  rw [lg_entry_eq]
  exact body p e s m below meth c _ ⟨B.exec, B.bytes, hml, findClass_of_methodNamed B.named, fun w h => hts w (List.mem_cons_of_mem _ h)⟩ B.returns B.notSynchronized ht hE hX (fun q h => Or.inr h) hP hD.self va_S.rf (lv_entry av hm)
end
section
variable {p : Program} {l : Launch} {e : Env} {R : Room} {s : State} {m : MethodId} {args : Array Value} {below : List Frame} {meth : Method} {c : Code} {H : Heap} {locs : List Loc} {cells slots mc ms : Nat} {pc : Nat} {ls : Array Slot} {cc : ByteArray} {nL : Nat} {own : String} {dC : Nat → ClassId} {dI : Nat → Nat → Nat} {g : Nat → ClassId} {ws' : va_W} {A : Nat → Prop}
theorem MX_i {v : Int32} {x : Except String Int32} (hx : x = .ok v) (F : CF p m c cc nL s args own) (hr : meth.sig.returnType = some .int) (hlocks : meth.locks = false) (hc : cells ≤ mc) (hs : slots ≤ ms) (hP : va_P (dC, dI) vwCl ws' H) (hS : va_S A s.heap H locs) (hdg : decode cc pc = .ok (.ireturn, 1)) : W p l e R s m args below meth c H locs cells slots (vx_MQ below (MXQ vI x dC dI ws' A) (MXX x dC dI ws' A) args s mc ms A) (F0 m pc ls [.int v]) :=
  W.widen hc hs (vx_ret (W.iret F.1 F.2.1 hr (fun _ ht _ => ⟨⟨v, hx, rfl⟩, by rw [ht]; exact hP, hS.F ht⟩) hS.2.2 hdg))
theorem MX_z {v : Int32} {ty : FieldType} {x : Except String Int32} (hx : x = .ok v) (F : CF p m c cc nL s args own) (hr : meth.sig.returnType = some ty) (hlocks : meth.locks = false) (hc : cells ≤ mc) (hs : slots ≤ ms) (hn : narrow ty (.int v) = .int v) (hP : va_P (dC, dI) vwCl ws' H) (hS : va_S A s.heap H locs) (hdg : decode cc pc = .ok (.ireturn, 1)) : W p l e R s m args below meth c H locs cells slots (vx_MQ below (MXQ vI x dC dI ws' A) (MXX x dC dI ws' A) args s mc ms A) (F0 m pc ls [.int v]) :=
  W.widen hc hs (vx_ret (W.zret F.1 F.2.1 hr hn (fun _ ht _ => ⟨⟨v, hx, rfl⟩, by rw [ht]; exact hP, hS.F ht⟩) hS.2.2 hdg))
theorem MX_l {v : Int64} {x : Except String Int64} (hx : x = .ok v) (F : CF p m c cc nL s args own) (hr : meth.sig.returnType = some .long) (hlocks : meth.locks = false) (hc : cells ≤ mc) (hs : slots ≤ ms) (hP : va_P (dC, dI) vwCl ws' H) (hS : va_S A s.heap H locs) (hdg : decode cc pc = .ok (.lreturn, 1)) : W p l e R s m args below meth c H locs cells slots (vx_MQ below (MXQ vJ x dC dI ws' A) (MXX x dC dI ws' A) args s mc ms A) (F0 m pc ls [.long v]) :=
  W.widen hc hs (vx_ret (W.lret F.1 F.2.1 hr (fun _ ht _ => ⟨⟨v, hx, rfl⟩, by rw [ht]; exact hP, hS.F ht⟩) hS.2.2 hdg))
theorem MX_v {x : Except String Unit} (hx : x = .ok ()) (F : CF p m c cc nL s args own) (hr : meth.sig.returnType = none) (hlocks : meth.locks = false) (hc : cells ≤ mc) (hs : slots ≤ ms) (hP : va_P (dC, dI) vwCl ws' H) (hS : va_S A s.heap H locs) (hdg : decode cc pc = .ok (.return_, 1)) : W p l e R s m args below meth c H locs cells slots (vx_MQ below (MXQ vN x dC dI ws' A) (MXX x dC dI ws' A) args s mc ms A) (F0 m pc ls []) :=
  W.widen hc hs (vx_ret (W.vret F.1 F.2.1 hr (fun _ ht _ => ⟨⟨(), hx, rfl⟩, by rw [ht]; exact hP, hS.F ht⟩) hS.2.2 hdg))
/-- new X(text), thrown -/
theorem MX_t {Rt : Type} {val : Rt → Option Value} {x : Except String Rt} {cls text : String} {ik is ic : Nat} {rest : List Value} (hx : x = .error cls) (F : CF p m c cc nL s args own) (hE : EK dC dI g s) (hX : EX g A s s.heap) (hl : l.stackTraces = false) (ht : ∀ z ∈ c.exceptionTable.toList, False) (hlocks : meth.locks = false) (hP : va_P (dC, dI) vwCl ws' H) (hS : va_S A s.heap H locs)
    (hcls : Bundle.fit cls = true) (hk : Cond.classLink own ik cls ∈ lw_U) (hini : Cond.initialized cls ∈ lw_U) (hstr : (own, is, text) ∈ lw_S) (hat : ∀ w ∈ vx_atS own ic cls ["java/lang/RuntimeException", "java/lang/Exception"], w ∈ lw_U ∨ w ∈ lw_N) (hgood : ∀ w ∈ Cond.classLink own ik cls :: Cond.initialized cls :: vx_atS own ic cls ["java/lang/RuntimeException", "java/lang/Exception"], vx_ot w = true) (hls : ls.size = nL)
    (d0 : decode cc pc = .ok (.new ik, 3)) (d3 : decode cc (pc + 3) = .ok (.dup, 1)) (d4 : decode cc (pc + 4) = .ok (.ldc is, 2)) (d6 : decode cc (pc + 6) = .ok (.invokespecial ic, 3)) (d9 : decode cc (pc + 9) = .ok (.athrow, 1))
    (hRf : 5 < R.frames) (hRl : (rest.map fun v => v.category).sum + 82 ≤ R.locals) (hRc : cells + 1 ≤ R.cells) (hRs : slots + 6 ≤ R.slots) (hc : cells + 1 ≤ mc) (hs : slots + 6 ≤ ms) :
    W p l e R s m args below meth c H locs cells slots (vx_MQ below (MXQ val x dC dI ws' A) (MXX x dC dI ws' A) args s mc ms A) (F0 m pc ls rest) := by
  obtain ⟨sa, hsa⟩ := hX.2.1 _ hstr
  refine vx_throwS (names := ["java/lang/RuntimeException", "java/lang/Exception"]) (A := A) F.1 F.2.1 hl F.2.2.2.1 hcls (by decide +kernel) (F.2.2.2.2 _ hk) (F.2.2.2.2 _ hini) hsa (fun w h => (hat w h).elim (F.2.2.2.2 w) (fun h2 => va_Nw.use (onN h2) (hE.2 w h2))) hgood hX.1.1 hX.1.2.1 hS (by rw [hls, F.2.2.1]) d0 d3 d4 d6 d9 (fun z hz => (ht z hz).elim) hRf hRl hRc hRs hlocks (fun t _ hz hk => ⟨hx, hP.kept (fun k q h => hk q.1 (hP k q h).lt), Nat.le_trans hS.1 hz, fun q h1 h2 => by rw [hk q (Nat.lt_of_lt_of_le h1 hS.1)]; exact hS.2.1 q h1 h2⟩) hS.2.2 hc hs
/-- new X(text), thrown -/
theorem MX_tW {Rt : Type} {val : Rt → Option Value} {x : Except String Rt} {cls text : String} {ik is ic : Nat} {rest : List Value} (hx : x = .error cls) (F : CF p m c cc nL s args own) (hE : EK dC dI g s) (hX : EX g A s s.heap) (hl : l.stackTraces = false) (ht : ∀ z ∈ c.exceptionTable.toList, False) (hlocks : meth.locks = false) (hP : va_P (dC, dI) vwCl ws' H) (hS : va_S A s.heap H locs)
    (hcls : Bundle.fit cls = true) (hk : Cond.classLink own ik cls ∈ lw_U) (hini : Cond.initialized cls ∈ lw_U) (hstr : (own, is, text) ∈ lw_S) (hat : ∀ w ∈ vx_atS own ic cls ["java/lang/RuntimeException", "java/lang/Exception"], w ∈ lw_U ∨ w ∈ lw_N) (hgood : ∀ w ∈ Cond.classLink own ik cls :: Cond.initialized cls :: vx_atS own ic cls ["java/lang/RuntimeException", "java/lang/Exception"], vx_ot w = true) (hls : ls.size = nL)
    (d0 : decode cc pc = .ok (.new ik, 3)) (d3 : decode cc (pc + 3) = .ok (.dup, 1)) (d4 : decode cc (pc + 4) = .ok (.ldc_w is, 3)) (d6 : decode cc (pc + 7) = .ok (.invokespecial ic, 3)) (d9 : decode cc (pc + 10) = .ok (.athrow, 1))
    (hRf : 5 < R.frames) (hRl : (rest.map fun v => v.category).sum + 82 ≤ R.locals) (hRc : cells + 1 ≤ R.cells) (hRs : slots + 6 ≤ R.slots) (hc : cells + 1 ≤ mc) (hs : slots + 6 ≤ ms) :
    W p l e R s m args below meth c H locs cells slots (vx_MQ below (MXQ val x dC dI ws' A) (MXX x dC dI ws' A) args s mc ms A) (F0 m pc ls rest) := by
  obtain ⟨sa, hsa⟩ := hX.2.1 _ hstr
  refine vx_throwSW (names := ["java/lang/RuntimeException", "java/lang/Exception"]) (A := A) F.1 F.2.1 hl F.2.2.2.1 hcls (by decide +kernel) (F.2.2.2.2 _ hk) (F.2.2.2.2 _ hini) hsa (fun w h => (hat w h).elim (F.2.2.2.2 w) (fun h2 => va_Nw.use (onN h2) (hE.2 w h2))) hgood hX.1.1 hX.1.2.1 hS (by rw [hls, F.2.2.1]) d0 d3 d4 d6 d9 (fun z hz => (ht z hz).elim) hRf hRl hRc hRs hlocks (fun t _ hz hk => ⟨hx, hP.kept (fun k q h => hk q.1 (hP k q h).lt), Nat.le_trans hS.1 hz, fun q h1 h2 => by rw [hk q (Nat.lt_of_lt_of_le h1 hS.1)]; exact hS.2.1 q h1 h2⟩) hS.2.2 hc hs
/-- new X(text), thrown -/
theorem NS_t {Rt : Type} {val : Rt → Option Value} {x : Except String Rt} {text : String} {ik is ic : Nat} {rest : List Value} (hx : x = .error "java/util/NoSuchElementException") (F : CF p m c cc nL s args own) (hE : EK dC dI g s) (hX : EX g A s s.heap) (hl : l.stackTraces = false) (ht : ∀ z ∈ c.exceptionTable.toList, False) (hlocks : meth.locks = false) (hP : va_P (dC, dI) vwCl ws' H) (hS : va_S A s.heap H locs)
    (hk : Cond.classLink own ik "java/util/NoSuchElementException" ∈ lw_U) (hini : Cond.initialized "java/util/NoSuchElementException" ∈ lw_U) (hstr : (own, is, text) ∈ lw_S) (hat : ∀ w ∈ nsW own ic, w ∈ lw_U ∨ w ∈ lw_N) (hgood : ∀ w ∈ Cond.classLink own ik "java/util/NoSuchElementException" :: Cond.initialized "java/util/NoSuchElementException" :: nsW own ic, vx_ot w = true) (hls : ls.size = nL)
    (d0 : decode cc pc = .ok (.new ik, 3)) (d3 : decode cc (pc + 3) = .ok (.dup, 1)) (d4 : decode cc (pc + 4) = .ok (.ldc is, 2)) (d6 : decode cc (pc + 6) = .ok (.invokespecial ic, 3)) (d9 : decode cc (pc + 9) = .ok (.athrow, 1))
    (hRf : 5 < R.frames) (hRl : (rest.map fun v => v.category).sum + 82 ≤ R.locals) (hRc : cells + 1 ≤ R.cells) (hRs : slots + 6 ≤ R.slots) (hc : cells + 1 ≤ mc) (hs : slots + 6 ≤ ms) :
    W p l e R s m args below meth c H locs cells slots (vx_MQ below (MXQ val x dC dI ws' A) (MXX x dC dI ws' A) args s mc ms A) (F0 m pc ls rest) := by
  obtain ⟨sa, hsa⟩ := hX.2.1 _ hstr
  refine ns_throwS (cls := "java/util/NoSuchElementException") (sup := "java/lang/RuntimeException") (ix := 13) (rx := prog_44_method_4_code) (names := ["java/lang/Exception"]) (A := A) F.1 F.2.1 hl F.2.2.2.1 (by decide +kernel) (by decide +kernel) (by decide +kernel) (by decide +kernel) (by decide +kernel) (by decide +kernel) (by decide +kernel) (F.2.2.2.2 _ hk) (F.2.2.2.2 _ hini) hsa (fun w h => (hat w h).elim (F.2.2.2.2 w) (fun h2 => va_Nw.use (onN h2) (hE.2 w h2))) hgood hX.1.1 hX.1.2.1 hS (by rw [hls, F.2.2.1]) d0 d3 d4 d6 d9 (fun z hz => (ht z hz).elim) hRf hRl hRc hRs hlocks (fun t _ hz hk => ⟨hx, hP.kept (fun k q h => hk q.1 (hP k q h).lt), Nat.le_trans hS.1 hz, fun q h1 h2 => by rw [hk q (Nat.lt_of_lt_of_le h1 hS.1)]; exact hS.2.1 q h1 h2⟩) hS.2.2 hc hs
/-- new X(text), thrown -/
theorem NS_tW {Rt : Type} {val : Rt → Option Value} {x : Except String Rt} {text : String} {ik is ic : Nat} {rest : List Value} (hx : x = .error "java/util/NoSuchElementException") (F : CF p m c cc nL s args own) (hE : EK dC dI g s) (hX : EX g A s s.heap) (hl : l.stackTraces = false) (ht : ∀ z ∈ c.exceptionTable.toList, False) (hlocks : meth.locks = false) (hP : va_P (dC, dI) vwCl ws' H) (hS : va_S A s.heap H locs)
    (hk : Cond.classLink own ik "java/util/NoSuchElementException" ∈ lw_U) (hini : Cond.initialized "java/util/NoSuchElementException" ∈ lw_U) (hstr : (own, is, text) ∈ lw_S) (hat : ∀ w ∈ nsW own ic, w ∈ lw_U ∨ w ∈ lw_N) (hgood : ∀ w ∈ Cond.classLink own ik "java/util/NoSuchElementException" :: Cond.initialized "java/util/NoSuchElementException" :: nsW own ic, vx_ot w = true) (hls : ls.size = nL)
    (d0 : decode cc pc = .ok (.new ik, 3)) (d3 : decode cc (pc + 3) = .ok (.dup, 1)) (d4 : decode cc (pc + 4) = .ok (.ldc_w is, 3)) (d6 : decode cc (pc + 7) = .ok (.invokespecial ic, 3)) (d9 : decode cc (pc + 10) = .ok (.athrow, 1))
    (hRf : 5 < R.frames) (hRl : (rest.map fun v => v.category).sum + 82 ≤ R.locals) (hRc : cells + 1 ≤ R.cells) (hRs : slots + 6 ≤ R.slots) (hc : cells + 1 ≤ mc) (hs : slots + 6 ≤ ms) :
    W p l e R s m args below meth c H locs cells slots (vx_MQ below (MXQ val x dC dI ws' A) (MXX x dC dI ws' A) args s mc ms A) (F0 m pc ls rest) := by
  obtain ⟨sa, hsa⟩ := hX.2.1 _ hstr
  refine ns_throwSW (cls := "java/util/NoSuchElementException") (sup := "java/lang/RuntimeException") (ix := 13) (rx := prog_44_method_4_code) (names := ["java/lang/Exception"]) (A := A) F.1 F.2.1 hl F.2.2.2.1 (by decide +kernel) (by decide +kernel) (by decide +kernel) (by decide +kernel) (by decide +kernel) (by decide +kernel) (by decide +kernel) (F.2.2.2.2 _ hk) (F.2.2.2.2 _ hini) hsa (fun w h => (hat w h).elim (F.2.2.2.2 w) (fun h2 => va_Nw.use (onN h2) (hE.2 w h2))) hgood hX.1.1 hX.1.2.1 hS (by rw [hls, F.2.2.1]) d0 d3 d4 d6 d9 (fun z hz => (ht z hz).elim) hRf hRl hRc hRs hlocks (fun t _ hz hk => ⟨hx, hP.kept (fun k q h => hk q.1 (hP k q h).lt), Nat.le_trans hS.1 hz, fun q h1 h2 => by rw [hk q (Nat.lt_of_lt_of_le h1 hS.1)]; exact hS.2.1 q h1 h2⟩) hS.2.2 hc hs
/-- an exception of a callee goes on to the caller -/
theorem MX_o {Rt : Type} {val : Rt → Option Value} {x : Except String Rt} {E : String} {ce : Cell} {q : Addr} {rest : List Value} (hx : x = .error E) (ht : ∀ z ∈ c.exceptionTable.toList, False) (hlocks : meth.locks = false) (hP : va_P (dC, dI) vwCl ws' H) (hS : va_S A s.heap H locs) (hcell : H[q]? = some ce) (hv : ce.vm = .none) (hcl : s.vm.findClass E = some ce.cls) (hc : cells ≤ mc) (hs : slots ≤ ms) :
    vx_W p l e R s m args below meth c H locs cells slots (vx_MQ below (MXQ val x dC dI ws' A) (MXX x dC dI ws' A) args s mc ms A) (F0 m pc ls rest) q :=
  vx_out (fun z hz => (ht z hz).elim) hlocks hcell hv hcl (fun t hth _ => ⟨hx, by rw [hth]; exact hP, hS.F hth⟩) hS.2.2 hc hs
end
/-! calls of methods that throw -/
section
variable {p : Program} {l : Launch} {e : Env} {R : Room} {s : State} {m : MethodId} {args : Array Value} {below : List Frame} {meth : Method} {c : Code} {H : Heap} {locs : List Loc} {cells slots : Nat} {Q : State → Prop} {pc : Nat} {ls : Array Slot} {st rest : List Value}
variable {cc bytes : ByteArray} {nL maxL index n fr lo mc ms b ci i0 : Nat} {own : String} {y : MethodName} {ret : Option FieldType} {dC : Nat → ClassId} {dI : Nat → Nat → Nat} {g : Nat → ClassId} {As : List Value} {ws wc w1 ws' : va_W} {A : Nat → Prop} {fs : List Value} {T : u_T} {N : Nat} {Rt : Type} {val : Rt → Option Value} {x : Except String Rt}
theorem clMX {a : Array Value} (hr : vx_Run p l e R s m args below meth c H locs cells slots mc ms (F0 m pc ls st) rest (MXQ val x dC dI w1 (va_A wc H.size) a) (MXX x dC dI w1 (va_A wc H.size)) (va_A wc H.size)) (hP : va_P (dC, dI) vwCl ws H) (hD : va_D A ws) (hS : va_S A s.heap H locs) (hA : ∀ q : Nat, s.heap.size ≤ q → A q) (is : List Nat) (hC : is.map (fun i => ws[i]?) = wc.map some) (ha : w1.map Prod.fst = wc.map Prod.fst) (hj : setAll ws is w1 = ws')
    (kx : ∀ (E : String) (ce : Cell) (q9 : Addr), x = .error E → ∀ (H1 : Heap) (locs1 : List Loc), va_P (dC, dI) vwCl ws' H1 → va_D A ws' → va_S A s.heap H1 locs1 → H1[q9]? = some ce → ce.vm = .none → s.vm.findClass E = some ce.cls → vx_W p l e R s m args below meth c H1 locs1 (cells + mc) (slots + ms) Q (F0 m pc ls rest) q9)
    (kk : ∀ v, x = .ok v → ∀ (H1 : Heap) (locs1 : List Loc), va_P (dC, dI) vwCl ws' H1 → va_D A ws' → va_S A s.heap H1 locs1 → W p l e R s m args below meth c H1 locs1 (cells + mc) (slots + ms) Q (F0 m (pc + 3) ls ((val v).toList ++ rest))) : W p l e R s m args below meth c H locs cells slots Q (F0 m pc ls st) := by
  intro T hT X
  have hF := va_free (wc := wc) hD hS hA is hC
  rcases hr T hT X with ⟨v, st₀, t, T', L, h0, X', hL, e1, -, ⟨⟨v0, hx, hv⟩, hp1, hz, hk⟩, st⟩ | ⟨q9, st₀, t, T', L, E, ce, h0, X', hL, e1, -, ⟨hx, hp1, hz, hk⟩, h3, h4, h5, st⟩
  · cases hv
    rw [h0] at hz hk
    rw [← e1] at hp1 hz hk
    obtain ⟨hP', hD'⟩ := wj hP hD is hC ha hk hp1 hj
    obtain ⟨t2, a1, b1⟩ := kk v0 hx T'.heap (locs ++ L) hP' hD'
      ⟨Nat.le_trans hS.1 hz, fun q h1 h2 => by rw [hk q (Nat.lt_of_lt_of_le h1 hS.1) (fun z => h2 (hF q z))]; exact hS.2.1 q h1 h2, fun q hq => by
        rcases List.mem_append.mp hq with h | h
        · exact hS.2.2 q h
        · exact hF _ (hL q h)⟩ T' rfl X'
    exact ⟨t2, st t2 a1, b1⟩
  · rw [h0] at hz hk
    rw [← e1] at hp1 hz hk h3
    obtain ⟨hP', hD'⟩ := wj hP hD is hC ha hk hp1 hj
    have := kx E ce q9 hx T'.heap (locs ++ L) hP' hD'
      ⟨Nat.le_trans hS.1 hz, fun q h1 h2 => by rw [hk q (Nat.lt_of_lt_of_le h1 hS.1) (fun z => h2 (hF q z))]; exact hS.2.1 q h1 h2, fun q hq => by
        rcases List.mem_append.mp hq with h | h
        · exact hS.2.2 q h
        · exact hF _ (hL q h)⟩ h3 h4 h5
    obtain ⟨t2, a1, b1⟩ := this T' rfl X'
    exact ⟨t2, st.trans a1, b1⟩
theorem cXV (F : CF p m c cc nL s args own) (hE : EK dC dI g s) (hX : EX g A s s.heap) (M : MX val l y bytes maxL ret fr lo mc ms dC dI g (.ref b :: As) wc w1 x) (mv : MV y bytes maxL ret n) (hl : Cond.methodLink own index y ∈ lw_U) (hR : fr + 1 ≤ R.frames ∧ 8 + (maxL + 11) + lo ≤ R.locals) (hf : cells + mc ≤ R.cells ∧ slots + ms ≤ R.slots)
    (hP : va_P (dC, dI) vwCl ws H) (hD : va_D A ws) (hS : va_S A s.heap H locs) (hA : ∀ q : Nat, s.heap.size ≤ q → A q) (is : List Nat) (hs : is.filterMap (fun i => ws[i]?) = wc) (hC : is.map (fun i => ws[i]?) = wc.map some) (hnd : va_nd is = true) (ha : w1.map Prod.fst = wc.map Prod.fst) (hj : setAll ws is w1 = ws') (i0 : Nat) (h0 : ws[i0]? = some (b, .inr (ci, fs))) (hc : vwCl[ci]? = some (y.cls, T, N)) (hn : As.length = n) (hls : ls.size = nL) (hst : st = As.reverse ++ .ref b :: rest) (hW : (rest.map fun v => v.category).sum ≤ 8) (hdg : decode cc pc = .ok (.invokevirtual index, 3))
    (kx : ∀ (E : String) (ce : Cell) (q9 : Addr), x = .error E → ∀ (H1 : Heap) (locs1 : List Loc), va_P (dC, dI) vwCl ws' H1 → va_D A ws' → va_S A s.heap H1 locs1 → H1[q9]? = some ce → ce.vm = .none → s.vm.findClass E = some ce.cls → vx_W p l e R s m args below meth c H1 locs1 (cells + mc) (slots + ms) Q (F0 m pc ls rest) q9)
    (kk : ∀ v, x = .ok v → ∀ (H1 : Heap) (locs1 : List Loc), va_P (dC, dI) vwCl ws' H1 → va_D A ws' → va_S A s.heap H1 locs1 → W p l e R s m args below meth c H1 locs1 (cells + mc) (slots + ms) Q (F0 m (pc + 3) ls ((val v).toList ++ rest))) : W p l e R s m args below meth c H locs cells slots Q (F0 m pc ls st) := by
  have hPc := hP.sub (ws' := wc) is hs
  have hDc := hD.sub (ws' := wc) is hnd hC
  have hF := va_free (wc := wc) hD hS hA is hC
  have hXc : EX g (va_A wc H.size) s H := (hX.at hS).narrow hF
  unfold MX at M
  exact clMX (vx_runV F (M H.size) ⟨mbB (ws' := lw_U) F mv.1 hl rfl rfl hR, F.2.2.2.2 _ mv.2.1, F.2.2.2.2 _ mv.2.2⟩ ⟨fun a U G mk q => ⟨q.1, q.2.1, q.2.2.1.calling, q.2.2.2.1.calling, q.2.2.2.2⟩, rcv hE hP h0 hc, fun U hU hW => ⟨rfl, by rw [hU], hE.warm hW, by rw [hU]; exact hXc.moved hW, by rw [hU]; exact hPc, hDc.weaken (fun _ _ _ _ => trivial)⟩⟩ rfl hn hls hst (lv_room hW) hdg hf) hP hD hS hA is hC ha hj kx kk
theorem cXS (F : CF p m c cc nL s args own) (hE : EK dC dI g s) (hX : EX g A s s.heap) (M : MX val l y bytes maxL ret fr lo mc ms dC dI g As wc w1 x) (mv : MS y bytes maxL ret n) (hl : Cond.methodLink own index y ∈ lw_U) (hR : fr + 1 ≤ R.frames ∧ 8 + (maxL + 11) + lo ≤ R.locals) (hf : cells + mc ≤ R.cells ∧ slots + ms ≤ R.slots)
    (hP : va_P (dC, dI) vwCl ws H) (hD : va_D A ws) (hS : va_S A s.heap H locs) (hA : ∀ q : Nat, s.heap.size ≤ q → A q) (is : List Nat) (hs : is.filterMap (fun i => ws[i]?) = wc) (hC : is.map (fun i => ws[i]?) = wc.map some) (hnd : va_nd is = true) (ha : w1.map Prod.fst = wc.map Prod.fst) (hj : setAll ws is w1 = ws') (hn : As.length = n) (hls : ls.size = nL) (hst : st = As.reverse ++ rest) (hW : (rest.map fun v => v.category).sum ≤ 8) (hdg : decode cc pc = .ok (.invokestatic index, 3))
    (kx : ∀ (E : String) (ce : Cell) (q9 : Addr), x = .error E → ∀ (H1 : Heap) (locs1 : List Loc), va_P (dC, dI) vwCl ws' H1 → va_D A ws' → va_S A s.heap H1 locs1 → H1[q9]? = some ce → ce.vm = .none → s.vm.findClass E = some ce.cls → vx_W p l e R s m args below meth c H1 locs1 (cells + mc) (slots + ms) Q (F0 m pc ls rest) q9)
    (kk : ∀ v, x = .ok v → ∀ (H1 : Heap) (locs1 : List Loc), va_P (dC, dI) vwCl ws' H1 → va_D A ws' → va_S A s.heap H1 locs1 → W p l e R s m args below meth c H1 locs1 (cells + mc) (slots + ms) Q (F0 m (pc + 3) ls ((val v).toList ++ rest))) : W p l e R s m args below meth c H locs cells slots Q (F0 m pc ls st) := by
  have hPc := hP.sub (ws' := wc) is hs
  have hDc := hD.sub (ws' := wc) is hnd hC
  have hF := va_free (wc := wc) hD hS hA is hC
  have hXc : EX g (va_A wc H.size) s H := (hX.at hS).narrow hF
  unfold MX at M
  exact clMX (vx_runS F (M H.size) ⟨mbB (ws' := lw_U) F mv.1 hl rfl rfl hR, F.2.2.2.2 _ mv.2⟩ ⟨fun a U G mk q => ⟨q.1, q.2.1, q.2.2.1.calling, q.2.2.2.1.calling, q.2.2.2.2⟩, fun U hU hW => ⟨rfl, by rw [hU], hE.warm hW, by rw [hU]; exact hXc.moved hW, by rw [hU]; exact hPc, hDc.weaken (fun _ _ _ _ => trivial)⟩⟩ rfl hn hls hst (lv_room hW) hdg hf) hP hD hS hA is hC ha hj kx kk
end
/-! a nest mate's static method; vx_callSN, vx_runSN out of kit/laws/EXCEPTIONS.to-paste -/
section
variable {p : Program} {l : Launch} {e : Env} {R : Room} {s : State} {m : MethodId} {args : Array Value} {below : List Frame} {meth : Method} {c : Code} {H : Heap} {locs : List Loc} {cells slots : Nat}
variable {T : State}
theorem vx_callSN (X : Stand p l e R s m args below meth c T locs cells slots) (hexec : p.tables.exec = Jvm.exec) {own : String} {index : Nat} {host : String} {y : MethodName} {bytes : ByteArray} {maxL : Nat} {ret : Option FieldType}
    (hown : s.vm.findClass own = some m.cls) (hlink : (Cond.methodLinkNest own index y host).before args s = true) (hstat : (Cond.static y).before args s = true) (hinit : (Cond.initialized y.cls).before args s = true)
    (hcode : (Cond.code y bytes maxL ret).before args s = true) (hy : y.cls ≠ "java/lang/invoke/MethodHandle" ∧ y.cls ≠ "java/lang/invoke/VarHandle")
    {W : Nat} {Pre : Pt → Array Value → Prop} {Post : Pt → Array Value → Option Value → Pt → Prop} {PostX : Pt → Array Value → Addr → Pt → Prop} (hK : vx_Back l R p e below s args y 3 W Pre Post PostX)
    {g : JFrame} (hg : g.method = m) (hsize : g.locals.size = c.maxLocals) {argsL rest : List Value} (hlen : ∀ sig, parseMethodDescriptor y.desc = some sig → argsL.length = sig.parameters.length)
    (hstack : g.stack = argsL.reverse ++ rest) (hW : 2 * g.monitorRoom + (rest.map fun v => v.category).sum ≤ W) (hdg : decode c.code g.pc = .ok (.invokestatic index, 3))
    (hpre : ∀ vm₁, s.WarmedH vm₁ → Pre ⟨T.setVm vm₁, locs, cells, slots⟩ argsL.toArray) :
    (∃ (v : Option Value) (vm₁ : Vm) (B : Pt), s.WarmedH vm₁ ∧ Stand p l e R s m args below meth c B.U B.locs B.cells B.slots ∧ Post ⟨T.setVm vm₁, locs, cells, slots⟩ argsL.toArray v B ∧
      ∀ target, Steps p.tables e below (B.U.setTop { g with pc := g.pc + 3, stack := v.toList ++ rest }) target → Steps p.tables e below (T.setTop g) target) ∨
    (∃ (q : Addr) (vm₁ : Vm) (B : Pt), s.WarmedH vm₁ ∧ Stand p l e R s m args below meth c B.U B.locs B.cells B.slots ∧ PostX ⟨T.setVm vm₁, locs, cells, slots⟩ argsL.toArray q B ∧
      Steps p.tables e below (T.setTop g) ((B.U.setTop { g with stack := rest }).pushFrame (.throwing q))) := by
  obtain ⟨mk, hnamed⟩ := Cond.code_named hcode
  obtain ⟨methM, cM, hmethM, -, -, -, -, -, -, hsigM⟩ := Cond.code_spec hnamed hcode
  have hstatic : methM.isStatic = true := Cond.static_spec hnamed hmethM hstat
  obtain ⟨kP, hkP, -⟩ := className_of_methodNamed hnamed
  have hinitP : kP.init = .initialized := Cond.initialized_spec (findClass_of_methodNamed hnamed) hkP hinit
  obtain ⟨vm₁, X₁, hstep₁⟩ := X.invokestaticNest hexec hown hlink hnamed hmethM hstatic hkP hinitP hy (g := g) hg (argsL := argsL) (rest := rest) (hlen _ hsigM) hstack hdg
  rcases hK m meth c ⟨T.setVm vm₁, locs, cells, slots⟩ { g with stack := rest } (.invokestatic index) mk argsL.toArray X₁ hg hsize hdg hW (X₁.named hnamed) (hpre vm₁ X₁.warmed) with ⟨v, B, X', hpost, hsteps⟩ | ⟨q, B, X', hpost, hsteps⟩
  · exact Or.inl ⟨v, vm₁, B, X₁.warmed, X', hpost, fun target h => hstep₁ _ fun acts => by rw [doInvoke_state]; exact hsteps.trans h⟩
  · exact Or.inr ⟨q, vm₁, B, X₁.warmed, X', hpost, hstep₁ _ fun acts => by rw [doInvoke_state]; exact hsteps⟩
theorem vx_runSN {y : MethodName} {bytes cc : ByteArray} {maxL nL mc ms n index : Nat} {ret : Option FieldType} {ws : List Cond} {rm : Room} {Pc : Array Value → State → Prop} {Qc : Array Value → State → Outcome → State → Prop} {XC : String → State → State → Prop} {free : Addr → Prop} {Ts : List Cond} {own host : String} {As rest : List Value} {g : JFrame}
    (S : CallFix p m c cc nL s args Ts own) (hM : vx_Met l y ws rm Pc Qc XC mc ms free) (cw : va_CN R s args own index y host bytes maxL ret ws rm mc ms n ∧ (Cond.static y).before args s = true ∧ True) (hp : PreS s H Pc As)
    (hg : g.method = m) (hn : As.length = n) (hsize : g.locals.size = nL) (hstack : g.stack = As.reverse ++ rest) (hW : 2 * g.monitorRoom + (rest.map fun v => v.category).sum ≤ 8) (hdg : decode cc g.pc = .ok (.invokestatic index, 3)) (hf : cells + mc ≤ R.cells ∧ slots + ms ≤ R.slots) :
    vx_Run p l e R s m args below meth c H locs cells slots mc ms g rest (Qc As.toArray) XC free := by
  obtain ⟨⟨⟨hrc, hrs, hfr, hlo, hws, hcw⟩, hcode, hini, hy, hlen, hl⟩, hx1, hx2⟩ := cw
  have hK : vx_Back l R p e below s args y 3 8 (PreOf R mc ms Pc) (PostOf Qc mc ms free) (vx_Post XC mc ms free) := vx_back (bytes := bytes) (maxL := maxL) (ret := ret) hM hp.1 hrc hrs hfr hlo hws hcw (fun a' U hW => word_at hW (Or.inl (by first | rfl | simp [Cond.onTables, Cond.keeps, Cond.steady])) hini)
  obtain ⟨hx, hb, hml, ho, -⟩ := S
  have hPc := hp.2
  intro T hT X
  rcases vx_callSN X hx (bytes := bytes) (maxL := maxL) (ret := ret) ho hl hx1 hini hcode hy hK hg (hsize.trans hml.symm) (argsL := As) (rest := rest) (fun sig h => hn.trans (hlen sig h)) hstack hW (by rw [hb]; exact hdg)
    (fun vm₁ hW₁ => ⟨hf.1, hf.2, hPc (T.setVm vm₁) hT hW₁⟩) with ⟨v, vm₁, ⟨U', l2, c2, s2⟩, hW₁, X', ⟨g', mk, t, L, e1, e2, hq, h1, hL, h2, h3⟩, st⟩ | ⟨q, vm₁, ⟨U', l2, c2, s2⟩, hW₁, X', ⟨g', mk, t, L, E, ce, e1, e2, hq, hce, hcv, hcl, h1, hL, h2, h3⟩, st⟩
  · dsimp only [Pt.U, Pt.locs, Pt.cells, Pt.slots] at X' e1 e2 h1 h2 h3 st
    subst h1; subst h2; subst h3
    exact Or.inl ⟨v, (T.setVm vm₁).calling g' mk As.toArray, t, U', L, hT, X', hL, e1, e2, hq, st⟩
  · dsimp only [Pt.U, Pt.locs, Pt.cells, Pt.slots] at X' e1 e2 h1 h2 h3 st hcl
    subst h1; subst h2; subst h3
    exact Or.inr ⟨q, (T.setVm vm₁).calling g' mk As.toArray, t, U', L, E, ce, hT, X', hL, e1, e2, hq, hce, hcv, vx_cls hW₁ hcl, st⟩
end
section
variable {p : Program} {l : Launch} {e : Env} {R : Room} {s : State} {m : MethodId} {args : Array Value} {below : List Frame} {meth : Method} {c : Code} {H : Heap} {locs : List Loc} {cells slots : Nat} {Q : State → Prop} {pc : Nat} {ls : Array Slot} {st rest : List Value}
variable {cc bytes : ByteArray} {nL maxL index n fr lo mc ms b ci i0 : Nat} {own host : String} {y : MethodName} {ret : Option FieldType} {dC : Nat → ClassId} {dI : Nat → Nat → Nat} {g : Nat → ClassId} {As : List Value} {ws wc w1 ws' : va_W} {A : Nat → Prop} {rv : Option Value} {Rt : Type} {val : Rt → Option Value} {x : Except String Rt}
theorem mbN {rm : Room} (F : CF p m c cc nL s args own) (hE : EK dC dI g s) (mv : MB y bytes maxL ret n) (hl : Cond.methodLinkNest own index y host ∈ lw_N) (hrc : rm.cells = mc) (hrs : rm.slots = ms) (hR : rm.frames + 1 ≤ R.frames ∧ 8 + (maxL + 11) + rm.locals ≤ R.locals) : va_CN R s args own index y host bytes maxL ret (wU y bytes maxL ret) rm mc ms n :=
  va_cnB (Ts := lw_U) n F.2.2.2.2 (gU mv.1) rfl hrc hrs (hE.2 _ hl) (F.2.2.2.2 _ mv.2.1) mv.2.2 hR
theorem cRSN (F : CF p m c cc nL s args own) (hE : EK dC dI g s) (hX : EX g A s s.heap) (hS : va_S A s.heap H locs) (M : RO l y bytes maxL ret fr lo dC dI g As wc rv) (mv : MS y bytes maxL ret n) (hl : Cond.methodLinkNest own index y host ∈ lw_N) (hR : fr + 1 ≤ R.frames ∧ 8 + (maxL + 11) + lo ≤ R.locals) (hf : cells ≤ R.cells ∧ slots ≤ R.slots)
    (hP : va_P (dC, dI) vwCl ws H) (is : List Nat) (hs : is.filterMap (fun i => ws[i]?) = wc) (hn : As.length = n) (hls : ls.size = nL) (hst : st = As.reverse ++ rest) (hW : (rest.map fun v => v.category).sum ≤ 8) (hdg : decode cc pc = .ok (.invokestatic index, 3))
    (kk : W p l e R s m args below meth c H locs cells slots Q (F0 m (pc + 3) ls (rv.toList ++ rest))) : W p l e R s m args below meth c H locs cells slots Q (F0 m pc ls st) := by
  have hPc := hP.sub (ws' := wc) is hs
  unfold RO at M
  exact clRO (a := As.toArray) (va_runSN F M ⟨mbN F hE mv.1 hl rfl rfl hR, F.2.2.2.2 _ mv.2, trivial⟩ ⟨fun a U G mk q => ⟨q.1, q.2.1.calling, q.2.2.1.calling, q.2.2.2⟩, fun U hU hW => ⟨rfl, hE.warm hW, by show EX g (fun _ => False) U U.heap; rw [hU]; exact ((hX.at hS).narrow (fun _ h => h.elim)).moved hW, by rw [hU]; exact hPc⟩⟩ rfl hn hls hst (lv_room hW) hdg ⟨by rw [Nat.add_zero]; exact hf.1, by rw [Nat.add_zero]; exact hf.2⟩) kk
theorem cXSN (F : CF p m c cc nL s args own) (hE : EK dC dI g s) (hX : EX g A s s.heap) (M : MX val l y bytes maxL ret fr lo mc ms dC dI g As wc w1 x) (mv : MS y bytes maxL ret n) (hl : Cond.methodLinkNest own index y host ∈ lw_N) (hR : fr + 1 ≤ R.frames ∧ 8 + (maxL + 11) + lo ≤ R.locals) (hf : cells + mc ≤ R.cells ∧ slots + ms ≤ R.slots)
    (hP : va_P (dC, dI) vwCl ws H) (hD : va_D A ws) (hS : va_S A s.heap H locs) (hA : ∀ q : Nat, s.heap.size ≤ q → A q) (is : List Nat) (hs : is.filterMap (fun i => ws[i]?) = wc) (hC : is.map (fun i => ws[i]?) = wc.map some) (hnd : va_nd is = true) (ha : w1.map Prod.fst = wc.map Prod.fst) (hj : setAll ws is w1 = ws') (hn : As.length = n) (hls : ls.size = nL) (hst : st = As.reverse ++ rest) (hW : (rest.map fun v => v.category).sum ≤ 8) (hdg : decode cc pc = .ok (.invokestatic index, 3))
    (kx : ∀ (E : String) (ce : Cell) (q9 : Addr), x = .error E → ∀ (H1 : Heap) (locs1 : List Loc), va_P (dC, dI) vwCl ws' H1 → va_D A ws' → va_S A s.heap H1 locs1 → H1[q9]? = some ce → ce.vm = .none → s.vm.findClass E = some ce.cls → vx_W p l e R s m args below meth c H1 locs1 (cells + mc) (slots + ms) Q (F0 m pc ls rest) q9)
    (kk : ∀ v, x = .ok v → ∀ (H1 : Heap) (locs1 : List Loc), va_P (dC, dI) vwCl ws' H1 → va_D A ws' → va_S A s.heap H1 locs1 → W p l e R s m args below meth c H1 locs1 (cells + mc) (slots + ms) Q (F0 m (pc + 3) ls ((val v).toList ++ rest))) : W p l e R s m args below meth c H locs cells slots Q (F0 m pc ls st) := by
  have hPc := hP.sub (ws' := wc) is hs
  have hDc := hD.sub (ws' := wc) is hnd hC
  have hF := va_free (wc := wc) hD hS hA is hC
  have hXc : EX g (va_A wc H.size) s H := (hX.at hS).narrow hF
  unfold MX at M
  exact clMX (vx_runSN F (M H.size) ⟨mbN F hE mv.1 hl rfl rfl hR, F.2.2.2.2 _ mv.2, trivial⟩ ⟨fun a U G mk q => ⟨q.1, q.2.1, q.2.2.1.calling, q.2.2.2.1.calling, q.2.2.2.2⟩, fun U hU hW => ⟨rfl, by rw [hU], hE.warm hW, by rw [hU]; exact hXc.moved hW, by rw [hU]; exact hPc, hDc.weaken (fun _ _ _ _ => trivial)⟩⟩ rfl hn hls hst (lv_room hW) hdg hf) hP hD hS hA is hC ha hj kx kk
end
