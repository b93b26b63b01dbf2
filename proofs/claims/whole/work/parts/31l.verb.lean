/-! verbs, constant texts, commands: values, rows -/
def vbR (g : Nat → ClassId) (o : Option Nat) : Value := match o with
  | none => .null
  | some k => .ref (g (100 + k))
def cmR (bA : Nat → Nat → Nat) (o : Option Nat) : Value := match o with
  | none => .null
  | some i => .ref (bA i 0)
theorem vbR_v (g : Nat → ClassId) (o : Option Nat) : vbR g o = .null ∨ ∃ a, vbR g o = .ref a := by
  cases o with
  | none => exact Or.inl rfl
  | some k => exact Or.inr ⟨_, rfl⟩
theorem cmR_v (bA : Nat → Nat → Nat) (o : Option Nat) : cmR bA o = .null ∨ ∃ a, cmR bA o = .ref a := by
  cases o with
  | none => exact Or.inl rfl
  | some k => exact Or.inr ⟨_, rfl⟩
def oM {β : Type} (o : Option Nat) (a : Option β) (f : Nat → Option β) : Option β := match o with
  | none => a
  | some k => f k
theorem oM_n {β : Type} {o : Option Nat} {a : Option β} {f : Nat → Option β} {r : β} (ho : o = none) (h : oM o a f = some r) : a = some r := by subst ho; exact h
theorem oM_s {β : Type} {o : Option Nat} {a : Option β} {f : Nat → Option β} {r : β} {k : Nat} (ho : o = some k) (h : oM o a f = some r) : f k = some r := by subst ho; exact h
theorem oM_ok {β : Type} {o : Option Nat} {f : Nat → Option β} {r : β} (h : oM o none f = some r) : ∃ k, o = some k ∧ f k = some r := by
  cases o with
  | none => cases h
  | some k => exact ⟨k, rfl, h⟩
theorem o_cases (o : Option Nat) : o = none ∨ ∃ k, o = some k := by
  cases o with
  | none => exact Or.inl rfl
  | some k => exact Or.inr ⟨k, rfl⟩
def ltN (k n : Nat) : Bool := decide (k < n)
theorem ltN_lt {k n : Nat} (h : ltN k n = true) : k < n := of_decide_eq_true h
theorem wIx_lt {k : Nat} (h : k < 10) : wIx.getD k 0 < 16 := by
  revert h; revert k; decide
theorem pIx_lt {k : Nat} (h : k < 10) : pIx.getD k 0 < 16 := by
  revert h; revert k; decide
theorem EX.vb {g : Nat → ClassId} {A : Nat → Prop} {U : State} {H : Heap} (h : EX g A U H) : va_Z RX12 "VERBS" "[LWireCutter$Verb;" (.ref (g 20)) A U H := h.1.2.2.2.1
theorem EX.vT {g : Nat → ClassId} {A : Nat → Prop} {U : State} {H : Heap} (h : EX g A U H) : va_T (.object RX10) (g 20) 10 (fun i => .ref (g (100 + i))) A U H := h.1.2.2.2.2.1
theorem EX.wd {g : Nat → ClassId} {A : Nat → Prop} {U : State} {H : Heap} (h : EX g A U H) : va_Ef 10 RX10 "word" "Ljava/lang/String;" (fun i => .ref (g (200 + wIx.getD i 0))) (fun i => g (100 + i)) A U H := h.1.2.2.2.2.2.1
theorem EX.pt {g : Nat → ClassId} {A : Nat → Prop} {U : State} {H : Heap} (h : EX g A U H) : va_Ef 10 RX10 "parts" "Ljava/lang/String;" (fun i => .ref (g (200 + pIx.getD i 0))) (fun i => g (100 + i)) A U H := h.1.2.2.2.2.2.2.1
theorem EX.sm {g : Nat → ClassId} {A : Nat → Prop} {U : State} {H : Heap} (h : EX g A U H) : va_Z RX0 "$SwitchMap$WireCutter$Verb" "[I" (.ref (g 21)) A U H := h.1.2.2.2.2.2.2.2.2.1
theorem EX.smT {g : Nat → ClassId} {A : Nat → Prop} {U : State} {H : Heap} (h : EX g A U H) : va_T .int (g 21) 10 (fun i => .int (Int32.ofNat (i + 1))) A U H := h.1.2.2.2.2.2.2.2.2.2.1
theorem EX.en {g : Nat → ClassId} {A : Nat → Prop} {U : State} {H : Heap} (h : EX g A U H) : vEO g A U H := h.1.2.2.1
abbrev mwV : MethodName := ⟨RX10, "ordinal", "()I"⟩
theorem nI_cl10 {k : Nat} (h : k < 10) : (nI k).toNatClampNeg = k := by
  revert h; revert k; decide +kernel
theorem ord_v : ∀ k, k < 10 → (Int32.ofNat k) = ([0, 1, 2, 3, 4, 5, 6, 7, 8, 9] : List Int32).getD k 0 := by decide +kernel
section
variable {p : Program} {l : Launch} {e : Env} {R : Room} {s : State} {m : MethodId} {args : Array Value} {below : List Frame} {meth : Method} {c : Code} {H : Heap} {locs : List Loc} {cells slots mc ms : Nat} {Q : State → Prop} {pc : Nat} {ls : Array Slot} {st rest : List Value}
variable {cc bytes : ByteArray} {nL maxL index n fr lo b a ci k i0 : Nat} {own host : String} {y : MethodName} {ret : Option FieldType} {dC : Nat → ClassId} {dI : Nat → Nat → Nat} {g : Nat → ClassId} {As : List Value} {ws wc w1 ws' post : va_W} {A : Nat → Prop} {rv : Option Value} {fs : List Value} {T : u_T} {N : Nat} {v : Value} {o : Option Nat} {Rt : Type} {val : Rt → Option Value} {x : Except String Rt}
theorem astV {k9 : Fin 4} {i : Nat} {lv lv' : List (Nat × Value)} (F : CF p m c cc nL s args own) (hv : v = .null ∨ ∃ a, v = .ref a) (hdg : decode cc pc = .ok (.astore_n k9, 1)) (hi : (k9 : Nat) = i) (h : lv_has ls nL lv) (hn : i < nL) (hl : (i, v) :: lv.filter (fun q => !(q.1 == i) && !(q.1 + 1 == i && q.2.category == 2)) = lv')
    (kk : ∀ ls' : Array Slot, lv_has ls' nL lv' → W p l e R s m args below meth c H locs cells slots Q (F0 m (pc + 1) ls' rest)) : W p l e R s m args below meth c H locs cells slots Q (F0 m pc ls (v :: rest)) := by
  rcases hv with rfl | ⟨a, rfl⟩
  · exact lv_astore_nN F.1 F.2.1 hdg hi h hn hl kk
  · exact lv_astore_n F.1 F.2.1 hdg hi h hn hl kk
theorem aldV {k9 : Fin 4} {i : Nat} (F : CF p m c cc nL s args own) (hv : v = .null ∨ ∃ a, v = .ref a) (hdg : decode cc pc = .ok (.aload_n k9, 1)) (hi : (k9 : Nat) = i) (hl : ls[i]? = some (.val v))
    (kk : W p l e R s m args below meth c H locs cells slots Q (F0 m (pc + 1) ls (v :: rest))) : W p l e R s m args below meth c H locs cells slots Q (F0 m pc ls rest) := by
  rcases hv with rfl | ⟨a, rfl⟩
  · exact lv_aload_nN F.1 F.2.1 hdg hi hl kk
  · exact lv_aload_n F.1 F.2.1 hdg hi hl kk
theorem ifN_n {off : Int} {tgt : Nat} (F : CF p m c cc nL s args own) (hv : v = .null) (hdg : decode cc pc = .ok (.ifnull off, 3)) (ht : (pc : Int) + off = (tgt : Int)) (kk : W p l e R s m args below meth c H locs cells slots Q (F0 m tgt ls rest)) : W p l e R s m args below meth c H locs cells slots Q (F0 m pc ls (v :: rest)) := by
  subst hv
  exact lv_ifnullN F.1 F.2.1 hdg ht kk
theorem ifN_s {off : Int} (F : CF p m c cc nL s args own) (hv : v = .ref a) (hdg : decode cc pc = .ok (.ifnull off, 3)) (kk : W p l e R s m args below meth c H locs cells slots Q (F0 m (pc + 3) ls rest)) : W p l e R s m args below meth c H locs cells slots Q (F0 m pc ls (v :: rest)) := by
  subst hv
  exact lv_ifnull F.1 F.2.1 hdg kk
theorem ifNN_n {off : Int} (F : CF p m c cc nL s args own) (hv : v = .null) (hdg : decode cc pc = .ok (.ifnonnull off, 3)) (kk : W p l e R s m args below meth c H locs cells slots Q (F0 m (pc + 3) ls rest)) : W p l e R s m args below meth c H locs cells slots Q (F0 m pc ls (v :: rest)) := by
  subst hv
  exact lv_ifnonnullN F.1 F.2.1 hdg kk
theorem ifNN_s {off : Int} {tgt : Nat} (F : CF p m c cc nL s args own) (hv : v = .ref a) (hdg : decode cc pc = .ok (.ifnonnull off, 3)) (ht : (pc : Int) + off = (tgt : Int)) (kk : W p l e R s m args below meth c H locs cells slots Q (F0 m tgt ls rest)) : W p l e R s m args below meth c H locs cells slots Q (F0 m pc ls (v :: rest)) := by
  subst hv
  exact lv_ifnonnull F.1 F.2.1 hdg ht kk
theorem gVB (F : CF p m c cc nL s args own) (hE : EK dC dI g s) (hX : EX g A s s.heap) (hS : va_S A s.heap H locs) (hl : Cond.fieldLinkNest own index RX12 "VERBS" "[LWireCutter$Verb;" host ∈ lw_N) (hdg : decode cc pc = .ok (.getstatic index, 3))
    (kk : W p l e R s m args below meth c H locs cells slots Q (F0 m (pc + 3) ls (.ref (g 20) :: rest))) : W p l e R s m args below meth c H locs cells slots Q (F0 m pc ls rest) :=
  va_getsN F.1 F.2.1 hX.vb hS F.2.2.2.1 (va_Nw.use rfl (hE.2 _ hl)) (fun _ h => h) hdg kk
theorem gSM (F : CF p m c cc nL s args own) (hX : EX g A s s.heap) (hS : va_S A s.heap H locs) (hl : Cond.fieldLink own index RX0 "$SwitchMap$WireCutter$Verb" "[I" ∈ lw_U) (hdg : decode cc pc = .ok (.getstatic index, 3))
    (kk : W p l e R s m args below meth c H locs cells slots Q (F0 m (pc + 3) ls (.ref (g 21) :: rest))) : W p l e R s m args below meth c H locs cells slots Q (F0 m pc ls rest) :=
  va_gets F.1 F.2.1 hX.sm hS F.2.2.2.1 (F.2.2.2.2 _ hl) (fun _ h => h) hdg kk
theorem aVB {i : Int32} (F : CF p m c cc nL s args own) (hX : EX g A s s.heap) (hS : va_S A s.heap H locs) (hin : inR i 10 = true) (hdg : decode cc pc = .ok (.aaload, 1))
    (kk : W p l e R s m args below meth c H locs cells slots Q (F0 m (pc + 1) ls (.ref (g (100 + i.toNatClampNeg)) :: rest))) : W p l e R s m args below meth c H locs cells slots Q (F0 m pc ls (.int i :: .ref (g 20) :: rest)) :=
  vb_tq F.1 F.2.1 hX.vT hS (inR_in hin) rfl hdg kk
theorem aSM {i : Int32} (F : CF p m c cc nL s args own) (hX : EX g A s s.heap) (hS : va_S A s.heap H locs) (hin : inR i 10 = true) (hdg : decode cc pc = .ok (.iaload, 1))
    (kk : W p l e R s m args below meth c H locs cells slots Q (F0 m (pc + 1) ls (.int (Int32.ofNat (i.toNatClampNeg + 1)) :: rest))) : W p l e R s m args below meth c H locs cells slots Q (F0 m pc ls (.int i :: .ref (g 21) :: rest)) :=
  va_ti F.1 F.2.1 hX.smT hS (inR_in hin) rfl hdg kk
theorem lVB (F : CF p m c cc nL s args own) (hX : EX g A s s.heap) (hS : va_S A s.heap H locs) (hdg : decode cc pc = .ok (.arraylength, 1))
    (kk : W p l e R s m args below meth c H locs cells slots Q (F0 m (pc + 1) ls (.int (nI 10) :: rest))) : W p l e R s m args below meth c H locs cells slots Q (F0 m pc ls (.ref (g 20) :: rest)) :=
  va_tlen (v := nI 10) F.1 F.2.1 hX.vT hS rfl hdg kk
theorem RO_a {v : Value} {nm : String} (F : CF p m c cc nL s args own) (hr : meth.sig.returnType = some (.object nm)) (hlocks : meth.locks = false) (hv : v = .null ∨ ∃ a, v = .ref a) (hdg : decode cc pc = .ok (.areturn, 1)) : W p l e R s m args below meth c s.heap [] 0 0 (MQ below (fun _ st o t => o = .returned (some v) ∧ t.heap = st.heap) args s 0 0 (fun _ => False)) (F0 m pc ls [v]) :=
  W.aret F.1 F.2.1 hr (Or.inl ⟨_, rfl⟩) hv (fun _ ht _ => ⟨rfl, ht⟩) (fun _ h => absurd h List.not_mem_nil) hdg
theorem MU_a {v : Value} {nm : String} (F : CF p m c cc nL s args own) (hr : meth.sig.returnType = some (.object nm)) (hlocks : meth.locks = false) (hc : cells ≤ mc) (hs : slots ≤ ms) (hv : v = .null ∨ ∃ a, v = .ref a) (hP : va_P (dC, dI) vwCl ws' H) (hS : va_S A s.heap H locs) (hdg : decode cc pc = .ok (.areturn, 1)) : W p l e R s m args below meth c H locs cells slots (MQ below (fun _ st o t => o = .returned (some v) ∧ va_P (dC, dI) vwCl ws' t.heap ∧ va_F A st t) args s mc ms A) (F0 m pc ls [v]) :=
  W.widen hc hs (W.aret F.1 F.2.1 hr (Or.inl ⟨_, rfl⟩) hv (fun _ ht _ => ⟨rfl, by rw [ht]; exact hP, hS.F ht⟩) hS.2.2 hdg)
/-- a field of one of the commands -/
theorem gFK (F : CF p m c cc nL s args own) (hE : EK dC dI g s) (hP : va_P (dC, dI) vwCl ws H) (ps : List va_W) (hw : catp ps (wc ++ post) = ws) (j0 : Nat) (h0 : wc[j0]? = some (a, .inr (ci, fs))) {C : String} (hc : vwCl[ci]? = some (C, T, N)) (hin : ∀ w ∈ u_ws C T N, w ∈ lw_U) (k : Nat) (hk : k < N) (hl : Cond.fieldLinkNest own index (T k).1 (T k).2.1 (T k).2.2.1 host ∈ lw_N) (hv : fs[k]? = some v) (hdg : decode cc pc = .ok (.getfield index, 3))
    (kk : W p l e R s m args below meth c H locs cells slots Q (F0 m (pc + 3) ls (v :: rest))) : W p l e R s m args below meth c H locs cells slots Q (F0 m pc ls (.ref a :: rest)) := by
  rw [catp_eq] at hw
  subst hw
  exact gFN F hE hP (ps.flatten.length + j0) (one_rc h0) hc hin k hk hl hv hdg kk
end
/-! methods with a table of handlers: they return or throw as MX says -/
abbrev wUH (y : MethodName) (bytes : ByteArray) (maxL : Nat) (ret : Option FieldType) (hh : List (Nat × Nat × Nat × Nat)) : List Cond := Cond.codeWith y bytes maxL ret hh :: lw_U
theorem gUH {y : MethodName} {bytes : ByteArray} {maxL : Nat} {ret : Option FieldType} {hh : List (Nat × Nat × Nat × Nat)} (h : Cond.codeWith y bytes maxL ret hh ∈ lw_U) : GoodIn lw_U (wUH y bytes maxL ret hh) := by
  intro w hw
  have hm : w ∈ lw_U := by
    rcases List.mem_cons.mp hw with e | e
    · rw [e]; exact h
    · exact e
  exact ⟨hm, good_of_word (List.mem_filter.mp hm).2⟩
def MXH {R : Type} (val : R → Option Value) (hh : List (Nat × Nat × Nat × Nat)) (l : Launch) (y : MethodName) (bytes : ByteArray) (maxL : Nat) (ret : Option FieldType) (fr lo mc ms : Nat) (dC : Nat → ClassId) (dI : Nat → Nat → Nat) (g : Nat → ClassId) (av : List Value) (ws ws' : va_W) (x : Except String R) : Prop :=
  ∀ sz, vx_Met l y (wUH y bytes maxL ret hh) { frames := fr, cells := mc, slots := ms, locals := lo } (va_Pc av (fun U => U.heap.size = sz ∧ EK dC dI g U ∧ EX g (va_A ws sz) U U.heap ∧ va_P (dC, dI) vwCl ws U.heap ∧ va_D (fun _ => True) ws)) (MXQ val x dC dI ws' (va_A ws sz)) (MXX x dC dI ws' (va_A ws sz)) mc ms (va_A ws sz)
abbrev MBH (y : MethodName) (bytes : ByteArray) (maxL : Nat) (ret : Option FieldType) (hh : List (Nat × Nat × Nat × Nat)) (n : Nat) : Prop := Cond.codeWith y bytes maxL ret hh ∈ lw_U ∧ Cond.initialized y.cls ∈ lw_U ∧ (y.cls ≠ "java/lang/invoke/MethodHandle" ∧ y.cls ≠ "java/lang/invoke/VarHandle" ∧ (parseMethodDescriptor y.desc).map (fun d => d.parameters.length) = some n)
abbrev MVH (y : MethodName) (bytes : ByteArray) (maxL : Nat) (ret : Option FieldType) (hh : List (Nat × Nat × Nat × Nat)) (n : Nat) : Prop := MBH y bytes maxL ret hh n ∧ Cond.instanceMethod y ∈ lw_U ∧ Cond.selects y.cls y y ∈ lw_U
abbrev MSH (y : MethodName) (bytes : ByteArray) (maxL : Nat) (ret : Option FieldType) (hh : List (Nat × Nat × Nat × Nat)) (n : Nat) : Prop := MBH y bytes maxL ret hh n ∧ Cond.static y ∈ lw_U
section
variable {Rt : Type} {val : Rt → Option Value} {x : Except String Rt} {l : Launch} {y : MethodName} {bytes : ByteArray} {maxL : Nat} {ret : Option FieldType} {hh : List (Nat × Nat × Nat × Nat)} {fr lo mc ms : Nat} {dC : Nat → ClassId} {dI : Nat → Nat → Nat} {g : Nat → ClassId} {av : List Value} {ws ws' : va_W}
theorem MXH_of (hy : plainName y.cls = true) (hm : (lg_sl av).length ≤ maxL)
    (body : ∀ (p : Program) (e : Env) (s : State) (m : MethodId) (below : List Frame) (meth : Method) (c : Code) (ls : Array Slot), CF p m c bytes maxL s av.toArray y.cls → meth.sig.returnType = ret → meth.locks = false → c.exceptionTable.toList = tableOf hh → EK dC dI g s → EX g (va_A ws s.heap.size) s s.heap → (∀ q : Nat, s.heap.size ≤ q → va_A ws s.heap.size q) → va_P (dC, dI) vwCl ws s.heap → va_D (va_A ws s.heap.size) ws → va_S (va_A ws s.heap.size) s.heap s.heap [] → lv_has ls maxL (lv_args 0 av) →
      W p l e { frames := fr, cells := mc, slots := ms, locals := lo } s m av.toArray below meth c s.heap [] 0 0 (vx_MQ below (MXQ val x dC dI ws' (va_A ws s.heap.size)) (MXX x dC dI ws' (va_A ws s.heap.size)) av.toArray s mc ms (va_A ws s.heap.size)) (F0 m 0 ls [])) : MXH val hh l y bytes maxL ret fr lo mc ms dC dI g av ws ws' x := by
  unfold MXH
  intro sz
  refine vx_ofWH (cc := bytes) (maxL := maxL) (ret := ret) (hh := hh) hy rfl ?_
  intro p e s m args below meth c s₁ B hml hv
  obtain ⟨rfl, hsz, hE, hX, hP, hD⟩ := hv
  subst hsz
  have hts := atoms_spec (ws := wUH y bytes maxL ret hh) B.pre
  rw [lg_entry_eq]
  exact body p e s m below meth c _ ⟨B.exec, B.bytes, hml, findClass_of_methodNamed B.named, fun w h => hts w (List.mem_cons_of_mem _ h)⟩ B.returns B.notSynchronized (vx_table (x := y) B (hts _ List.mem_cons_self)) hE hX (fun q h => Or.inr h) hP hD.self va_S.rf (lv_entry av hm)
end
section
variable {p : Program} {l : Launch} {e : Env} {R : Room} {s : State} {m : MethodId} {args : Array Value} {below : List Frame} {meth : Method} {c : Code} {H : Heap} {locs : List Loc} {cells slots : Nat} {Q : State → Prop} {pc : Nat} {ls : Array Slot} {st rest : List Value}
variable {cc bytes : ByteArray} {nL maxL index n fr lo mc ms b ci i0 : Nat} {own : String} {y : MethodName} {ret : Option FieldType} {hh : List (Nat × Nat × Nat × Nat)} {dC : Nat → ClassId} {dI : Nat → Nat → Nat} {g : Nat → ClassId} {As : List Value} {ws wc w1 ws' post : va_W} {A : Nat → Prop} {fs : List Value} {T : u_T} {N : Nat} {Rt : Type} {val : Rt → Option Value} {x : Except String Rt}
theorem cwVH (F : CF p m c cc nL s args own) (mv : MVH y bytes maxL ret hh n) (hl : Cond.methodLink own index y ∈ lw_U) (hR : fr + 1 ≤ R.frames ∧ 8 + (maxL + 11) + lo ≤ R.locals) : vx_CVW R s args own y.cls index y bytes maxL ret hh (wUH y bytes maxL ret hh) { frames := fr, cells := mc, slots := ms, locals := lo } mc ms n := by
  refine vx_cwVW (ws' := lw_U) n F.2.2.2.2 (fun w hw => ?_) rfl rfl rfl ⟨rfl, mv.1.2.2⟩ hR
  unfold wsV at hw
  rcases List.mem_append.mp hw with h | h
  · have hm : w ∈ lw_U := by
      simp only [List.mem_cons, List.not_mem_nil, or_false] at h
      rcases h with rfl | rfl | rfl | rfl
      · exact hl
      · exact mv.2.1
      · exact mv.2.2
      · exact mv.1.2.1
    exact ⟨hm, good_of_word (List.mem_filter.mp hm).2⟩
  · exact gUH mv.1.1 w h
theorem cwSH (F : CF p m c cc nL s args own) (mv : MSH y bytes maxL ret hh n) (hl : Cond.methodLink own index y ∈ lw_U) (hR : fr + 1 ≤ R.frames ∧ 8 + (maxL + 11) + lo ≤ R.locals) : vx_CSW R s args own index y bytes maxL ret hh (wUH y bytes maxL ret hh) { frames := fr, cells := mc, slots := ms, locals := lo } mc ms n := by
  refine vx_cwSW (ws' := lw_U) n F.2.2.2.2 (fun w hw => ?_) rfl rfl rfl mv.1.2.2 hR
  unfold va_wsS at hw
  rcases List.mem_append.mp hw with h | h
  · have hm : w ∈ lw_U := by
      simp only [List.mem_cons, List.not_mem_nil, or_false] at h
      rcases h with rfl | rfl | rfl
      · exact hl
      · exact mv.2
      · exact mv.1.2.1
    exact ⟨hm, good_of_word (List.mem_filter.mp hm).2⟩
  · exact gUH mv.1.1 w h
theorem cXVH (F : CF p m c cc nL s args own) (hE : EK dC dI g s) (hX : EX g A s s.heap) (M : MXH val hh l y bytes maxL ret fr lo mc ms dC dI g (.ref b :: As) wc w1 x) (mv : MVH y bytes maxL ret hh n) (hl : Cond.methodLink own index y ∈ lw_U) (hR : fr + 1 ≤ R.frames ∧ 8 + (maxL + 11) + lo ≤ R.locals) (hf : cells + mc ≤ R.cells ∧ slots + ms ≤ R.slots)
    (hP : va_P (dC, dI) vwCl ws H) (hD : va_D A ws) (hS : va_S A s.heap H locs) (hA : ∀ q : Nat, s.heap.size ≤ q → A q) (is : List Nat) (hs : is.filterMap (fun i => ws[i]?) = wc) (hC : is.map (fun i => ws[i]?) = wc.map some) (hnd : va_nd is = true) (ha : w1.map Prod.fst = wc.map Prod.fst) (hj : setAll ws is w1 = ws') (i0 : Nat) (h0 : ws[i0]? = some (b, .inr (ci, fs))) (hc : vwCl[ci]? = some (y.cls, T, N)) (hn : As.length = n) (hls : ls.size = nL) (hst : st = As.reverse ++ .ref b :: rest) (hW : (rest.map fun v => v.category).sum ≤ 8) (hdg : decode cc pc = .ok (.invokevirtual index, 3))
    (kx : ∀ (E : String) (ce : Cell) (q9 : Addr), x = .error E → ∀ (H1 : Heap) (locs1 : List Loc), va_P (dC, dI) vwCl ws' H1 → va_D A ws' → va_S A s.heap H1 locs1 → H1[q9]? = some ce → ce.vm = .none → s.vm.findClass E = some ce.cls → vx_W p l e R s m args below meth c H1 locs1 (cells + mc) (slots + ms) Q (F0 m pc ls rest) q9)
    (kk : ∀ v, x = .ok v → ∀ (H1 : Heap) (locs1 : List Loc), va_P (dC, dI) vwCl ws' H1 → va_D A ws' → va_S A s.heap H1 locs1 → W p l e R s m args below meth c H1 locs1 (cells + mc) (slots + ms) Q (F0 m (pc + 3) ls ((val v).toList ++ rest))) : W p l e R s m args below meth c H locs cells slots Q (F0 m pc ls st) := by
  have hPc := hP.sub (ws' := wc) is hs
  have hDc := hD.sub (ws' := wc) is hnd hC
  have hF := va_free (wc := wc) hD hS hA is hC
  have hXc : EX g (va_A wc H.size) s H := (hX.at hS).narrow hF
  unfold MXH at M
  exact clMX (vx_runVX F (M H.size) (cwVH F mv hl hR) ⟨fun a U G mk q => ⟨q.1, q.2.1, q.2.2.1.calling, q.2.2.2.1.calling, q.2.2.2.2⟩, rcv hE hP h0 hc, fun U hU hW => ⟨rfl, by rw [hU], hE.warm hW, by rw [hU]; exact hXc.moved hW, by rw [hU]; exact hPc, hDc.weaken (fun _ _ _ _ => trivial)⟩⟩ rfl hn hls hst (lv_room hW) hdg hf) hP hD hS hA is hC ha hj kx kk
theorem cXSH (F : CF p m c cc nL s args own) (hE : EK dC dI g s) (hX : EX g A s s.heap) (M : MXH val hh l y bytes maxL ret fr lo mc ms dC dI g As wc w1 x) (mv : MSH y bytes maxL ret hh n) (hl : Cond.methodLink own index y ∈ lw_U) (hR : fr + 1 ≤ R.frames ∧ 8 + (maxL + 11) + lo ≤ R.locals) (hf : cells + mc ≤ R.cells ∧ slots + ms ≤ R.slots)
    (hP : va_P (dC, dI) vwCl ws H) (hD : va_D A ws) (hS : va_S A s.heap H locs) (hA : ∀ q : Nat, s.heap.size ≤ q → A q) (is : List Nat) (hs : is.filterMap (fun i => ws[i]?) = wc) (hC : is.map (fun i => ws[i]?) = wc.map some) (hnd : va_nd is = true) (ha : w1.map Prod.fst = wc.map Prod.fst) (hj : setAll ws is w1 = ws') (hn : As.length = n) (hls : ls.size = nL) (hst : st = As.reverse ++ rest) (hW : (rest.map fun v => v.category).sum ≤ 8) (hdg : decode cc pc = .ok (.invokestatic index, 3))
    (kx : ∀ (E : String) (ce : Cell) (q9 : Addr), x = .error E → ∀ (H1 : Heap) (locs1 : List Loc), va_P (dC, dI) vwCl ws' H1 → va_D A ws' → va_S A s.heap H1 locs1 → H1[q9]? = some ce → ce.vm = .none → s.vm.findClass E = some ce.cls → vx_W p l e R s m args below meth c H1 locs1 (cells + mc) (slots + ms) Q (F0 m pc ls rest) q9)
    (kk : ∀ v, x = .ok v → ∀ (H1 : Heap) (locs1 : List Loc), va_P (dC, dI) vwCl ws' H1 → va_D A ws' → va_S A s.heap H1 locs1 → W p l e R s m args below meth c H1 locs1 (cells + mc) (slots + ms) Q (F0 m (pc + 3) ls ((val v).toList ++ rest))) : W p l e R s m args below meth c H locs cells slots Q (F0 m pc ls st) := by
  have hPc := hP.sub (ws' := wc) is hs
  have hDc := hD.sub (ws' := wc) is hnd hC
  have hF := va_free (wc := wc) hD hS hA is hC
  have hXc : EX g (va_A wc H.size) s H := (hX.at hS).narrow hF
  unfold MXH at M
  exact clMX (vx_runSX F (M H.size) (cwSH F mv hl hR) ⟨fun a U G mk q => ⟨q.1, q.2.1, q.2.2.1.calling, q.2.2.2.1.calling, q.2.2.2.2⟩, fun U hU hW => ⟨rfl, by rw [hU], hE.warm hW, by rw [hU]; exact hXc.moved hW, by rw [hU]; exact hPc, hDc.weaken (fun _ _ _ _ => trivial)⟩⟩ rfl hn hls hst (lv_room hW) hdg hf) hP hD hS hA is hC ha hj kx kk
theorem cXVH1 (F : CF p m c cc nL s args own) (hE : EK dC dI g s) (hX : EX g A s s.heap) (M : MXH val hh l y bytes maxL ret fr lo mc ms dC dI g (.ref b :: As) wc w1 x) (mv : MVH y bytes maxL ret hh n) (hl : Cond.methodLink own index y ∈ lw_U) (hR : fr + 1 ≤ R.frames ∧ 8 + (maxL + 11) + lo ≤ R.locals) (hf : cells + mc ≤ R.cells ∧ slots + ms ≤ R.slots) (hP : va_P (dC, dI) vwCl ws H) (hD : va_D A ws) (hS : va_S A s.heap H locs) (hA : ∀ q : Nat, s.heap.size ≤ q → A q) (ps : List va_W) (hw : catp ps (wc ++ post) = ws) (ha : w1.map Prod.fst = wc.map Prod.fst) (hw' : catp ps (w1 ++ post) = ws') (j0 : Nat) (h0 : wc[j0]? = some (b, .inr (ci, fs))) (hc : vwCl[ci]? = some (y.cls, T, N)) (hn : As.length = n) (hls : ls.size = nL) (hst : st = As.reverse ++ .ref b :: rest) (hW : (rest.map fun v => v.category).sum ≤ 8) (hdg : decode cc pc = .ok (.invokevirtual index, 3)) (kx : ∀ (E : String) (ce : Cell) (q9 : Addr), x = .error E → ∀ (H1 : Heap) (locs1 : List Loc), va_P (dC, dI) vwCl ws' H1 → va_D A ws' → va_S A s.heap H1 locs1 → H1[q9]? = some ce → ce.vm = .none → s.vm.findClass E = some ce.cls → vx_W p l e R s m args below meth c H1 locs1 (cells + mc) (slots + ms) Q (F0 m pc ls rest) q9)
    (kk : ∀ v, x = .ok v → ∀ (H1 : Heap) (locs1 : List Loc), va_P (dC, dI) vwCl ws' H1 → va_D A ws' → va_S A s.heap H1 locs1 → W p l e R s m args below meth c H1 locs1 (cells + mc) (slots + ms) Q (F0 m (pc + 3) ls ((val v).toList ++ rest))) : W p l e R s m args below meth c H locs cells slots Q (F0 m pc ls st) := by
  rw [catp_eq] at hw
  subst hw
  rw [catp_eq] at hw'
  subst hw'
  have hlen : w1.length = wc.length := by have := congrArg List.length ha; simpa using this
  exact cXVH F hE hX M mv hl hR hf hP hD hS hA (List.range' ps.flatten.length wc.length) (fm_of_map (rgM _ _ _)) (rgM _ _ _) (nd_of List.nodup_range') ha (rgS _ _ _ _ hlen) (ps.flatten.length + j0) (one_rc h0) hc hn hls hst hW hdg kx kk
theorem cXVHA (F : CF p m c cc nL s args own) (hE : EK dC dI g s) (hX : EX g A s s.heap) (M : MXH val hh l y bytes maxL ret fr lo mc ms dC dI g (.ref b :: As) wc w1 x) (mv : MVH y bytes maxL ret hh n) (hl : Cond.methodLink own index y ∈ lw_U) (hR : fr + 1 ≤ R.frames ∧ 8 + (maxL + 11) + lo ≤ R.locals) (hf : cells + mc ≤ R.cells ∧ slots + ms ≤ R.slots) (hP : va_P (dC, dI) vwCl ws H) (hD : va_D A ws) (hS : va_S A s.heap H locs) (hA : ∀ q : Nat, s.heap.size ≤ q → A q) (hw : wc = ws) (ha : w1.map Prod.fst = wc.map Prod.fst) (hw' : w1 = ws') (j0 : Nat) (h0 : wc[j0]? = some (b, .inr (ci, fs))) (hc : vwCl[ci]? = some (y.cls, T, N)) (hn : As.length = n) (hls : ls.size = nL) (hst : st = As.reverse ++ .ref b :: rest) (hW : (rest.map fun v => v.category).sum ≤ 8) (hdg : decode cc pc = .ok (.invokevirtual index, 3)) (kx : ∀ (E : String) (ce : Cell) (q9 : Addr), x = .error E → ∀ (H1 : Heap) (locs1 : List Loc), va_P (dC, dI) vwCl ws' H1 → va_D A ws' → va_S A s.heap H1 locs1 → H1[q9]? = some ce → ce.vm = .none → s.vm.findClass E = some ce.cls → vx_W p l e R s m args below meth c H1 locs1 (cells + mc) (slots + ms) Q (F0 m pc ls rest) q9)
    (kk : ∀ v, x = .ok v → ∀ (H1 : Heap) (locs1 : List Loc), va_P (dC, dI) vwCl ws' H1 → va_D A ws' → va_S A s.heap H1 locs1 → W p l e R s m args below meth c H1 locs1 (cells + mc) (slots + ms) Q (F0 m (pc + 3) ls ((val v).toList ++ rest))) : W p l e R s m args below meth c H locs cells slots Q (F0 m pc ls st) := by
  exact cXVH1 F hE hX M mv hl hR hf hP hD hS hA [] (post := []) (by rw [List.append_nil]; exact hw) ha (by rw [List.append_nil]; exact hw') j0 h0 hc hn hls hst hW hdg kx kk
theorem cXSH1 (F : CF p m c cc nL s args own) (hE : EK dC dI g s) (hX : EX g A s s.heap) (M : MXH val hh l y bytes maxL ret fr lo mc ms dC dI g (As) wc w1 x) (mv : MSH y bytes maxL ret hh n) (hl : Cond.methodLink own index y ∈ lw_U) (hR : fr + 1 ≤ R.frames ∧ 8 + (maxL + 11) + lo ≤ R.locals) (hf : cells + mc ≤ R.cells ∧ slots + ms ≤ R.slots) (hP : va_P (dC, dI) vwCl ws H) (hD : va_D A ws) (hS : va_S A s.heap H locs) (hA : ∀ q : Nat, s.heap.size ≤ q → A q) (ps : List va_W) (hw : catp ps (wc ++ post) = ws) (ha : w1.map Prod.fst = wc.map Prod.fst) (hw' : catp ps (w1 ++ post) = ws') (hn : As.length = n) (hls : ls.size = nL) (hst : st = As.reverse ++ rest) (hW : (rest.map fun v => v.category).sum ≤ 8) (hdg : decode cc pc = .ok (.invokestatic index, 3)) (kx : ∀ (E : String) (ce : Cell) (q9 : Addr), x = .error E → ∀ (H1 : Heap) (locs1 : List Loc), va_P (dC, dI) vwCl ws' H1 → va_D A ws' → va_S A s.heap H1 locs1 → H1[q9]? = some ce → ce.vm = .none → s.vm.findClass E = some ce.cls → vx_W p l e R s m args below meth c H1 locs1 (cells + mc) (slots + ms) Q (F0 m pc ls rest) q9)
    (kk : ∀ v, x = .ok v → ∀ (H1 : Heap) (locs1 : List Loc), va_P (dC, dI) vwCl ws' H1 → va_D A ws' → va_S A s.heap H1 locs1 → W p l e R s m args below meth c H1 locs1 (cells + mc) (slots + ms) Q (F0 m (pc + 3) ls ((val v).toList ++ rest))) : W p l e R s m args below meth c H locs cells slots Q (F0 m pc ls st) := by
  rw [catp_eq] at hw
  subst hw
  rw [catp_eq] at hw'
  subst hw'
  have hlen : w1.length = wc.length := by have := congrArg List.length ha; simpa using this
  exact cXSH F hE hX M mv hl hR hf hP hD hS hA (List.range' ps.flatten.length wc.length) (fm_of_map (rgM _ _ _)) (rgM _ _ _) (nd_of List.nodup_range') ha (rgS _ _ _ _ hlen) hn hls hst hW hdg kx kk
theorem cXSHA (F : CF p m c cc nL s args own) (hE : EK dC dI g s) (hX : EX g A s s.heap) (M : MXH val hh l y bytes maxL ret fr lo mc ms dC dI g (As) wc w1 x) (mv : MSH y bytes maxL ret hh n) (hl : Cond.methodLink own index y ∈ lw_U) (hR : fr + 1 ≤ R.frames ∧ 8 + (maxL + 11) + lo ≤ R.locals) (hf : cells + mc ≤ R.cells ∧ slots + ms ≤ R.slots) (hP : va_P (dC, dI) vwCl ws H) (hD : va_D A ws) (hS : va_S A s.heap H locs) (hA : ∀ q : Nat, s.heap.size ≤ q → A q) (hw : wc = ws) (ha : w1.map Prod.fst = wc.map Prod.fst) (hw' : w1 = ws') (hn : As.length = n) (hls : ls.size = nL) (hst : st = As.reverse ++ rest) (hW : (rest.map fun v => v.category).sum ≤ 8) (hdg : decode cc pc = .ok (.invokestatic index, 3)) (kx : ∀ (E : String) (ce : Cell) (q9 : Addr), x = .error E → ∀ (H1 : Heap) (locs1 : List Loc), va_P (dC, dI) vwCl ws' H1 → va_D A ws' → va_S A s.heap H1 locs1 → H1[q9]? = some ce → ce.vm = .none → s.vm.findClass E = some ce.cls → vx_W p l e R s m args below meth c H1 locs1 (cells + mc) (slots + ms) Q (F0 m pc ls rest) q9)
    (kk : ∀ v, x = .ok v → ∀ (H1 : Heap) (locs1 : List Loc), va_P (dC, dI) vwCl ws' H1 → va_D A ws' → va_S A s.heap H1 locs1 → W p l e R s m args below meth c H1 locs1 (cells + mc) (slots + ms) Q (F0 m (pc + 3) ls ((val v).toList ++ rest))) : W p l e R s m args below meth c H locs cells slots Q (F0 m pc ls st) := by
  exact cXSH1 F hE hX M mv hl hR hf hP hD hS hA [] (post := []) (by rw [List.append_nil]; exact hw) ha (by rw [List.append_nil]; exact hw') hn hls hst hW hdg kx kk
end
