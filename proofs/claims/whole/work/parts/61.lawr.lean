/-! the law's own methods: they return (what they call may throw: it is caught); their world stands at W' β then -/
def MZ (l : Launch) (y : MethodName) (bytes : ByteArray) (maxL : Nat) (hh : List (Nat × Nat × Nat × Nat)) (fr lo mc ms : Nat) (dC : Nat → ClassId) (dI : Nat → Nat → Nat) (g : Nat → ClassId) (av : List Value) (ws : va_W) (W' : BT → va_W) (k : Int32) : Prop :=
  ∀ sz, vx_Met l y (wUH y bytes maxL (some .int) hh) { frames := fr, cells := mc, slots := ms, locals := lo } (va_Pc av (fun U => U.heap.size = sz ∧ EK dC dI g U ∧ EX g (va_A ws sz) U U.heap ∧ va_P (dC, dI) vwCl ws U.heap ∧ va_D (fun _ => True) ws)) (fun _ st o t => ∃ β : BT, o = .returned (some (.int k)) ∧ va_P (dC, dI) vwCl (W' β) t.heap ∧ va_D (va_A ws sz) (W' β) ∧ va_F (va_A ws sz) st t) (fun _ _ _ => False) mc ms (va_A ws sz)
theorem MZ_of {l : Launch} {y : MethodName} {bytes : ByteArray} {maxL : Nat} {hh : List (Nat × Nat × Nat × Nat)} {fr lo mc ms : Nat} {dC : Nat → ClassId} {dI : Nat → Nat → Nat} {g : Nat → ClassId} {av : List Value} {ws : va_W} {W' : BT → va_W} {k : Int32} (hy : plainName y.cls = true) (hm : (lg_sl av).length ≤ maxL)
    (body : ∀ (p : Program) (e : Env) (s : State) (m : MethodId) (below : List Frame) (meth : Method) (c : Code) (ls : Array Slot), CF p m c bytes maxL s av.toArray y.cls → meth.sig.returnType = some .int → meth.locks = false → c.exceptionTable.toList = tableOf hh → EK dC dI g s → EX g (va_A ws s.heap.size) s s.heap → (∀ q : Nat, s.heap.size ≤ q → va_A ws s.heap.size q) → va_P (dC, dI) vwCl ws s.heap → va_D (va_A ws s.heap.size) ws → va_S (va_A ws s.heap.size) s.heap s.heap [] → lv_has ls maxL (lv_args 0 av) →
      W p l e { frames := fr, cells := mc, slots := ms, locals := lo } s m av.toArray below meth c s.heap [] 0 0 (vx_MQ below (fun _ st o t => ∃ β : BT, o = .returned (some (.int k)) ∧ va_P (dC, dI) vwCl (W' β) t.heap ∧ va_D (va_A ws s.heap.size) (W' β) ∧ va_F (va_A ws s.heap.size) st t) (fun _ _ _ => False) av.toArray s mc ms (va_A ws s.heap.size)) (F0 m 0 ls [])) : MZ l y bytes maxL hh fr lo mc ms dC dI g av ws W' k := by
  unfold MZ
  intro sz
  refine vx_ofWH (cc := bytes) (maxL := maxL) (ret := some .int) (hh := hh) hy rfl ?_
  intro p e s m args below meth c s₁ B hml hv
  obtain ⟨rfl, hsz, hE, hX, hP, hD⟩ := hv
  subst hsz
  have hts := atoms_spec (ws := wUH y bytes maxL (some .int) hh) B.pre
  rw [lg_entry_eq]
  exact body p e s m below meth c _ ⟨B.exec, B.bytes, hml, findClass_of_methodNamed B.named, fun w h => hts w (List.mem_cons_of_mem _ h)⟩ B.returns B.notSynchronized (vx_table (x := y) B (hts _ List.mem_cons_self)) hE hX (fun q h => Or.inr h) hP hD.self va_S.rf (lv_entry av hm)
section
variable {p : Program} {l : Launch} {e : Env} {R : Room} {s : State} {m : MethodId} {args : Array Value} {below : List Frame} {meth : Method} {c : Code} {H : Heap} {locs : List Loc} {cells slots mc ms : Nat} {Q : State → Prop} {pc : Nat} {ls : Array Slot} {st rest : List Value}
variable {cc bytes : ByteArray} {nL maxL index n fr lo b ci : Nat} {own : String} {y : MethodName} {ret : Option FieldType} {hh : List (Nat × Nat × Nat × Nat)} {dC : Nat → ClassId} {dI : Nat → Nat → Nat} {g : Nat → ClassId} {As : List Value} {ws wc pre post : va_W} {A : Nat → Prop} {fs : List Value} {T : u_T} {N : Nat} {W' : BT → va_W} {k : Int32} {Rt : Type} {val : Rt → Option Value} {x : Except String Rt}
theorem MZ_i (β : BT) (F : CF p m c cc nL s args own) (hr : meth.sig.returnType = some .int) (hlocks : meth.locks = false) (hc : cells ≤ mc) (hs : slots ≤ ms) (hP : va_P (dC, dI) vwCl (W' β) H) (hD : va_D A (W' β)) (hS : va_S A s.heap H locs) (hdg : decode cc pc = .ok (.ireturn, 1)) :
    W p l e R s m args below meth c H locs cells slots (vx_MQ below (fun _ st o t => ∃ β : BT, o = .returned (some (.int k)) ∧ va_P (dC, dI) vwCl (W' β) t.heap ∧ va_D A (W' β) ∧ va_F A st t) (fun _ _ _ => False) args s mc ms A) (F0 m pc ls [.int k]) :=
  W.widen hc hs (vx_ret (W.iret F.1 F.2.1 hr (fun _ ht _ => ⟨β, rfl, by rw [ht]; exact hP, hD, hS.F ht⟩) hS.2.2 hdg))
/-- a call of such a method -/
theorem cZS (F : CF p m c cc nL s args own) (hE : EK dC dI g s) (hX : EX g A s s.heap) (M : MZ l y bytes maxL hh fr lo mc ms dC dI g As wc W' k) (mv : MSH y bytes maxL (some .int) hh n) (hl : Cond.methodLink own index y ∈ lw_U) (hR : fr + 1 ≤ R.frames ∧ 8 + (maxL + 11) + lo ≤ R.locals) (hf : cells + mc ≤ R.cells ∧ slots + ms ≤ R.slots)
    (hP : va_P (dC, dI) vwCl ws H) (hD : va_D A ws) (hS : va_S A s.heap H locs) (hA : ∀ q : Nat, s.heap.size ≤ q → A q) (ps : List va_W) (hw : catp ps (wc ++ post) = ws) (hn : As.length = n) (hls : ls.size = nL) (hst : st = As.reverse ++ rest) (hW : (rest.map fun v => v.category).sum ≤ 8) (hdg : decode cc pc = .ok (.invokestatic index, 3))
    (kk : ∀ (β : BT) (H1 : Heap) (locs1 : List Loc), va_P (dC, dI) vwCl (catp ps (W' β ++ post)) H1 → va_D A (catp ps (W' β ++ post)) → va_S A s.heap H1 locs1 → W p l e R s m args below meth c H1 locs1 (cells + mc) (slots + ms) Q (F0 m (pc + 3) ls (.int k :: rest))) : W p l e R s m args below meth c H locs cells slots Q (F0 m pc ls st) := by
  rw [catp_eq] at hw
  subst hw
  have hPc := apP_l (apP_r hP)
  have hDc := apD_l (apD_r hD)
  have hXc := exN hX hD hS hA
  unfold MZ at M
  have hr := vx_runSX (H := H) (locs := locs) (below := below) (meth := meth) (cells := cells) (slots := slots) (e := e) (rest := rest) F (M H.size) (cwSH F mv hl hR) ⟨fun a U G mk q => ⟨q.1, q.2.1, q.2.2.1.calling, q.2.2.2.1.calling, q.2.2.2.2⟩, fun U hU hW => ⟨rfl, by rw [hU], hE.warm hW, by rw [hU]; exact hXc.moved hW, by rw [hU]; exact hPc, hDc.weaken (fun _ _ _ _ => trivial)⟩⟩ (g := F0 m pc ls st) rfl hn hls hst (lv_room hW) hdg hf
  intro T hT X
  have hF : ∀ q, va_A wc H.size q → A q := by
    intro q hq
    rcases hq with ⟨k, e, hk⟩ | h
    · exact (apD_l (apD_r hD)).2 k (q, e) hk
    · exact hA q (Nat.le_trans hS.1 h)
  rcases hr T hT X with ⟨v, st₀, t, T', L, h0, X', hL, e1, -, ⟨β, hv, hp1, hd1, hz, hk⟩, st⟩ | ⟨q9, st₀, t, T', L, E, ce, h0, X', hL, e1, -, hf, -⟩
  · cases hv
    rw [h0] at hz hk
    rw [← e1] at hp1 hz hk
    obtain ⟨hP', hD'⟩ := wjN hP hD (fun q hq => hA q (Nat.le_trans hS.1 hq)) hk hp1 hd1
    obtain ⟨t2, a1, b1⟩ := kk β T'.heap (locs ++ L) (by rw [catp_eq]; exact hP') (by rw [catp_eq]; exact hD')
      ⟨Nat.le_trans hS.1 hz, fun q h1 h2 => by rw [hk q (Nat.lt_of_lt_of_le h1 hS.1) (fun z => h2 (hF q z))]; exact hS.2.1 q h1 h2, fun q hq => by
        rcases List.mem_append.mp hq with h | h
        · exact hS.2.2 q h
        · exact hF _ (hL q h)⟩ T' rfl X'
    exact ⟨t2, st t2 a1, b1⟩
  · exact hf.elim
/-- a call on an object, of a method that returns or throws, and may make a new array -/
theorem cYV (F : CF p m c cc nL s args own) (hE : EK dC dI g s) (hX : EX g A s s.heap) (M : MY val l y bytes maxL ret fr lo mc ms dC dI g (.ref b :: As) wc W' x) (mv : MV y bytes maxL ret n) (hl : Cond.methodLink own index y ∈ lw_U) (hR : fr + 1 ≤ R.frames ∧ 8 + (maxL + 11) + lo ≤ R.locals) (hf : cells + mc ≤ R.cells ∧ slots + ms ≤ R.slots)
    (hP : va_P (dC, dI) vwCl ws H) (hD : va_D A ws) (hS : va_S A s.heap H locs) (hA : ∀ q : Nat, s.heap.size ≤ q → A q) (ps : List va_W) (hw : catp ps (wc ++ post) = ws) (j0 : Nat) (h0 : wc[j0]? = some (b, .inr (ci, fs))) (hc : vwCl[ci]? = some (y.cls, T, N)) (hn : As.length = n) (hls : ls.size = nL) (hst : st = As.reverse ++ .ref b :: rest) (hW : (rest.map fun v => v.category).sum ≤ 8) (hdg : decode cc pc = .ok (.invokevirtual index, 3))
    (kx : ∀ (E : String) (ce : Cell) (q9 : Addr), x = .error E → ∀ (β : BT) (H1 : Heap) (locs1 : List Loc), va_P (dC, dI) vwCl (catp ps (W' β ++ post)) H1 → va_D A (catp ps (W' β ++ post)) → va_S A s.heap H1 locs1 → H1[q9]? = some ce → ce.vm = .none → s.vm.findClass E = some ce.cls → vx_W p l e R s m args below meth c H1 locs1 (cells + mc) (slots + ms) Q (F0 m pc ls rest) q9)
    (kk : ∀ v, x = .ok v → ∀ (β : BT) (H1 : Heap) (locs1 : List Loc), va_P (dC, dI) vwCl (catp ps (W' β ++ post)) H1 → va_D A (catp ps (W' β ++ post)) → va_S A s.heap H1 locs1 → W p l e R s m args below meth c H1 locs1 (cells + mc) (slots + ms) Q (F0 m (pc + 3) ls ((val v).toList ++ rest))) : W p l e R s m args below meth c H locs cells slots Q (F0 m pc ls st) := by
  rw [catp_eq] at hw
  subst hw
  have hPc := apP_l (apP_r hP)
  have hDc := apD_l (apD_r hD)
  have hXc := exN hX hD hS hA
  unfold MY at M
  have hr := vx_runV (H := H) (locs := locs) (below := below) (meth := meth) (cells := cells) (slots := slots) (e := e) (rest := rest) F (M H.size) ⟨mbB (ws' := lw_U) F mv.1 hl rfl rfl hR, F.2.2.2.2 _ mv.2.1, F.2.2.2.2 _ mv.2.2⟩ ⟨fun a U G mk q => ⟨q.1, q.2.1, q.2.2.1.calling, q.2.2.2.1.calling, q.2.2.2.2⟩, rcv hE hP (one_rc h0) hc, fun U hU hW => ⟨rfl, by rw [hU], hE.warm hW, by rw [hU]; exact hXc.moved hW, by rw [hU]; exact hPc, hDc.weaken (fun _ _ _ _ => trivial)⟩⟩ (g := F0 m pc ls st) rfl hn hls hst (lv_room hW) hdg hf
  intro T hT X
  have hF : ∀ q, va_A wc H.size q → A q := by
    intro q hq
    rcases hq with ⟨k, e, hk⟩ | h
    · exact (apD_l (apD_r hD)).2 k (q, e) hk
    · exact hA q (Nat.le_trans hS.1 h)
  rcases hr T hT X with ⟨v, st₀, t, T', L, h0, X', hL, e1, -, ⟨β, ⟨v0, hx, hv⟩, hp1, hd1, hz, hk⟩, st⟩ | ⟨q9, st₀, t, T', L, E, ce, h0, X', hL, e1, -, ⟨β, hx, hp1, hd1, hz, hk⟩, h3, h4, h5, st⟩
  · cases hv
    rw [h0] at hz hk
    rw [← e1] at hp1 hz hk
    obtain ⟨hP', hD'⟩ := wjN hP hD (fun q hq => hA q (Nat.le_trans hS.1 hq)) hk hp1 hd1
    obtain ⟨t2, a1, b1⟩ := kk v0 hx β T'.heap (locs ++ L) (by rw [catp_eq]; exact hP') (by rw [catp_eq]; exact hD')
      ⟨Nat.le_trans hS.1 hz, fun q h1 h2 => by rw [hk q (Nat.lt_of_lt_of_le h1 hS.1) (fun z => h2 (hF q z))]; exact hS.2.1 q h1 h2, fun q hq => by
        rcases List.mem_append.mp hq with h | h
        · exact hS.2.2 q h
        · exact hF _ (hL q h)⟩ T' rfl X'
    exact ⟨t2, st t2 a1, b1⟩
  · rw [h0] at hz hk
    rw [← e1] at hp1 hz hk h3
    obtain ⟨hP', hD'⟩ := wjN hP hD (fun q hq => hA q (Nat.le_trans hS.1 hq)) hk hp1 hd1
    have := kx E ce q9 hx β T'.heap (locs ++ L) (by rw [catp_eq]; exact hP') (by rw [catp_eq]; exact hD')
      ⟨Nat.le_trans hS.1 hz, fun q h1 h2 => by rw [hk q (Nat.lt_of_lt_of_le h1 hS.1) (fun z => h2 (hF q z))]; exact hS.2.1 q h1 h2, fun q hq => by
        rcases List.mem_append.mp hq with h | h
        · exact hS.2.2 q h
        · exact hF _ (hL q h)⟩ h3 h4 h5
    obtain ⟨t2, a1, b1⟩ := this T' rfl X'
    exact ⟨t2, st.trans a1, b1⟩
end
/-- which number the law's own method answers: 0, or the place of the exception among those that it catches -/
def kx {α : Type} (Es : List String) : Except String α → Option Int32
  | .ok _ => some 0
  | .error e => match Es with
    | [] => none
    | E :: Es' => if e = E then some 1 else match Es' with
      | [] => none
      | E2 :: _ => if e = E2 then some 2 else none
def oxI : Except String Int32 → (Nat → Int64) → (Nat → Int64)
  | .ok v, f => vp_updL f 0 v.toInt64
  | .error _, f => f
def oxZ : Except String Int32 → (Nat → Int64) → (Nat → Int64)
  | .ok v, f => vp_updL f 0 (if v = 0 then 0 else 1)
  | .error _, f => f
def oxD : Except String UInt64 → (Nat → UInt64) → (Nat → UInt64)
  | .ok v, f => vf_upd f 0 v
  | .error _, f => f
def oxF : Except String UInt32 → (Nat → UInt64) → (Nat → UInt64)
  | .ok v, f => vf_upd f 0 (FP.f2d v)
  | .error _, f => f
theorem catp_fst (ps : List va_W) (post : va_W) : (catp ps post).map Prod.fst = (ps.map (List.map Prod.fst)).flatten ++ post.map Prod.fst := by
  rw [catp_eq, List.map_append, List.map_flatten]
set_option maxRecDepth 100000 in
theorem wH_fst (g : Nat → ClassId) (b : Nat) (bA : Nat → Nat → Nat) (S S' : Nat → WT) : (wH g b bA S).map Prod.fst = (wH g b bA S').map Prod.fst := by
  have e : ∀ i, (wX11t g (bA i) (S i)).map Prod.fst = (wX11t g (bA i) (S' i)).map Prod.fst := fun i => rfl
  unfold wH
  simp only [catp_fst, List.map_cons, List.map_map, Function.comp_def, e]
theorem wK_fst (g : Nat → ClassId) (b : Nat) (bA : Nat → Nat → Nat) (S S' : Nat → CT) : (wK g b bA S).map Prod.fst = (wK g b bA S').map Prod.fst := by
  have e : ∀ i, (wX2t g (bA i) (S i)).map Prod.fst = (wX2t g (bA i) (S' i)).map Prod.fst := fun i => rfl
  unfold wK
  simp only [catp_fst, List.map_cons, List.map_map, Function.comp_def, e]
set_option maxRecDepth 100000 in
set_option maxHeartbeats 4000000 in
theorem wXt_fst (g : Nat → ClassId) (A : Nat → Nat) (A1 A2 : Nat → Nat → Nat) (aq : Nat) (u u' : XT) : (wXt g A A1 A2 aq u).map Prod.fst = (wXt g A A1 A2 aq u').map Prod.fst := by
  have h1 := wH_fst g (A 68) A1 (xt_hS u) (xt_hS u')
  have h2 := wK_fst g (A 75) A2 (xt_pK u) (xt_pK u')
  simp only [wXt, wX12, wX3, wX6, catp_fst, List.map_cons, List.map_nil, List.flatten_cons, List.flatten_nil, h1, h2]
theorem wMt_fst (g : Nat → ClassId) (B : Nat → Nat) (v v' : MT) : (wMt g B v).map Prod.fst = (wMt g B v').map Prod.fst := rfl
theorem lg_cmp_self (x : Int64) : lg_cmp x x = 0 := by unfold lg_cmp; simp
