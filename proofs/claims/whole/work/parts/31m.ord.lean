/-! a method of a class of which the tables don't say that it is initialised (Enum): its body walked at the call -/
theorem backNR {y : MethodName} {bytes : ByteArray} {maxL mc ms : Nat} {ret : Option FieldType} {rm : Room} {Pc : Array Value → State → Prop} {Qc : Array Value → State → Outcome → State → Prop} {free : Addr → Prop} {l : Launch} {R : Room} {p : Program} {e : Env} {below : List Frame} {s : State} {sargs : Array Value}
    (hx : plainFor y = true) (hblind : FrameBlind Pc) (hrc : rm.cells = mc) (hrs : rm.slots = ms) (hframes : rm.frames + 1 ≤ R.frames) (hlocals : 8 + (maxL + 11) + rm.locals ≤ R.locals)
    (hcode : ∀ a' U, s.WarmedH U.vm → (Cond.code y bytes maxL ret).before a' U = true)
    (body : ∀ (s' : State) (m' : MethodId) (a' : Array Value) (below' : List Frame) (meth' : Method) (c' : Code), s.WarmedH s'.vm → p.tables.exec = Jvm.exec → c'.code = bytes → c'.maxLocals = maxL → s'.methodNamed? y = some m' → meth'.sig.returnType = ret → meth'.locks = false → Pc a' s' →
      W p l e rm s' m' a' below' meth' c' s'.heap [] 0 0 (MQ below' Qc a' s' mc ms free) (entryFrame m' a' maxL)) :
    Back l R p e below s sargs y 3 8 (PreOf R mc ms Pc) (PostOf Qc mc ms free) := by
  intro m meth c A g ig mk a X hg hsize hdg hW hn hp
  obtain ⟨U, Ls, c0, s0⟩ := A
  obtain ⟨h4, h5, hPc⟩ := hp
  dsimp only [Pt.U, Pt.locs, Pt.cells, Pt.slots] at h4 h5 hPc X hn ⊢
  have h2 := hcode a U X.warmed
  obtain ⟨methY, cY, hmY, hcY, hbY, hlY, hrY, hkY, -⟩ := Cond.code_spec hn h2
  have h : At U g.method c below := by rw [hg]; exact X.here
  have hroom : (U.calling g mk a).hasRoom e.platform rm = true := X.room_calling (g := g) (m' := mk) (args' := a) (R' := rm) hsize hmY hcY hframes (by rw [hlY]; omega) (by omega) (by omega)
  obtain ⟨mid, hmid⟩ := h.above
  have hfr : (U.setTop g).frames = (.java g :: mid) ++ below := by rw [State.frames_setTop' g h.top, hmid]; rfl
  have hfr0 : (U.setTop g).frames = .java g :: (mid ++ below) := hfr
  have hf' : (U.calling g mk a).frames = .invoking mk a :: (U.setTop g).frames := by
    rw [State.frames_setTop' g h.top]; exact State.frames_calling h.top g mk a
  have hcur := State.cur_lt_of_frames hf'
  have hrun : (U.calling g mk a).status = .running := h.running
  have hable : (U.calling g mk a).curStatus? = some .runnable := by simpa [State.calling] using h.runnable
  have halone : (U.calling g mk a).alone = true := by simpa [State.calling] using h.alone
  have hcd : (U.calling g mk a).code? g.method = some c := by
    have := h.code
    rw [State.code?_eq] at this ⊢
    simpa [State.calling, State.pushFrame, State.setFrames] using this
  have hhears : (U.calling g mk a).hears mk (U.setTop g).frames = true := by
    rw [State.frames_setTop' g h.top]
    simp [State.hears, hcd, hdg, Except.toOption]
  have hW0 : U.WarmedH (U.calling g mk a).vm := State.WarmedH.refl U
  have hn' : (U.calling g mk a).methodNamed? y = some mk := hn
  have hm' : (U.calling g mk a).vm.method? mk = some methY := hmY
  generalize hs' : U.calling g mk a = s' at hroom hf' hcur hrun hable halone hcd hhears hW0 hn' hm'
  generalize hb' : (U.setTop g).frames = below' at hf' hhears hfr
  have hf1 : (s'.setFrames (.java (entryFrame mk a maxL) :: below')).frames = .java (entryFrame mk a maxL) :: below' := State.frames_setFrames _ hcur
  have ht1 := State.topJava?_of_frames hf1
  have hplain : (s'.setFrames (.java (entryFrame mk a maxL) :: below')).plainMethod mk := State.plainMethod.of_named (s := s') hx hn' hm'
  have hAt : At (s'.setFrames (.java (entryFrame mk a maxL) :: below')) mk cY below' :=
    ⟨by rw [ht1]; rfl, ⟨[], by rw [hf1]; rfl⟩, hrun, by simpa using hable, by simpa using halone, by rw [State.code?_eq]; simp [State.setFrames, hm', hcY], hplain⟩
  have XS : Stand p l e rm s' mk a below' methY cY (s'.setFrames (.java (entryFrame mk a maxL) :: below')) [] 0 0 := by
    obtain ⟨t, ht, -⟩ := State.frames_cons hf'
    refine ⟨X.admits, X.cas, X.clock, hf', hroom, hhears, hm', hcY, hAt, by rw [hf1]; rfl, State.WarmedH.refl s', by rw [State.stackLimits_setFrames], by rw [State.stackBytes_setFrames], ?_⟩
    exact (State.sameButNew.refl s' ht).setFrames (.java (entryFrame mk a maxL) :: below') hcur
  have hPc' : Pc a s' := by rw [← hs']; exact hblind _ _ _ _ hPc
  obtain ⟨s₂, hs, o, hr, he, hq⟩ := body s' mk a below' methY cY (by rw [← hs']; exact State.WarmedH.trans X.warmed (State.WarmedH.refl U)) (by cases p <;> rfl) hbY hlY hn' hrY hkY hPc' (s'.setFrames (.java (entryFrame mk a maxL) :: below')) rfl XS
  have hstep : (stepThread p.tables e s').1 = (s'.setFrames (.java (entryFrame mk a maxL) :: below')).setTop (entryFrame mk a maxL) := by
    have hfull : e.platform.stackFull (s'.setFrames below').me (s'.setFrames below').frames cY.maxLocals = false := by
      obtain ⟨-, h1, -, h2⟩ := State.hasRoom_stack hroom
      rw [hf', List.length_cons] at h1
      rw [State.localsInUse_invoking hf' hm' hcY] at h2
      have hw := stackUse_le_stackWeight below'
      rw [State.frames_setFrames _ hcur]
      exact Platform.stackFull_eq_false (by rw [State.stackLimits_setFrames]; omega) (by rw [State.stackLimits_setFrames]; omega)
    rw [stepThread_invoking hf', (doInvoke_java (s := s'.setFrames below') (e := e) (meth := methY) (code := cY) hm' hcY hkY hfull).1, State.setTop_self ht1]
    simp only [State.pushFrame, State.frames_setFrames _ hcur, State.setFrames_setFrames, hlY, entryFrame]
  obtain ⟨hq, L, hfe, hL⟩ := hq
  obtain ⟨⟨v, rfl⟩, hW₂, e2, q2, q3, q4, q5, q6⟩ := id hfe
  have hsteps : Steps p.tables e below (doInvoke e (U.setTop g) [] mk a).1 s₂ := by
    have hst : (stepThread p.tables e s').1 = (doInvoke e (U.setTop g) [] mk a).1 := by
      subst hs'
      obtain ⟨t, ht, -⟩ := State.frames_cons hfr0
      have e1 : U.calling g mk a = (U.setTop g).pushFrame (.invoking mk a) := rfl
      rw [stepThread_invoking hf', doInvoke_state e (U.setTop g) [], e1, State.pushFrame, State.setFrames_setFrames, ← hb', State.setFrames_self ht]
    rw [← hst, hstep]
    obtain ⟨n, hn9, hw9⟩ := hs
    have key : ∀ S : State, Within S below' → Within S below := fun S h => by rw [hfr] at h; exact h.weaken
    exact ⟨n, hn9, fun k hk => key _ (hw9 k hk)⟩
  subst hs'
  subst hb'
  have hend := he
  rw [State.frames_setTop' g h.top] at hend
  have e3 : s₂ = ({ (U.calling g mk a).setFrames s₂.frames with heap := s₂.heap, slotsUsed := s₂.slotsUsed } : State).setVm s₂.vm := by
    have : s₂ = ({ s₂ with vm := (U.calling g mk a).vm } : State).setVm s₂.vm := rfl
    rw [e2] at this
    exact this
  obtain ⟨c₂, i₂, len₂, hc₂, hd₂, hf₂⟩ := hend
  have hW' : U.WarmedH s₂.vm := hW₂
  have hcc : c₂ = c := by
    have h1 : s₂.code? g.method = U.code? g.method := by
      rw [State.code?_eq, State.code?_eq, hW'.alike.method?]
    exact Option.some.inj (hc₂.symm.trans (h1.trans h.code))
  subst hcc
  have hlen : len₂ = 3 := by rw [hdg] at hd₂; cases hd₂; rfl
  subst hlen
  obtain ⟨g₀, hg0⟩ := Option.isSome_iff_exists.mp h.top
  obtain ⟨r, hr9⟩ := State.topJava?_eq_some.mp hg0
  have hs₂ : s₂ = (({ U with heap := s₂.heap, slotsUsed := s₂.slotsUsed } : State).setVm s₂.vm).setTop { g with pc := g.pc + 3, stack := v.toList ++ g.stack } := by
    have hr' : (({ U with heap := s₂.heap, slotsUsed := s₂.slotsUsed } : State).setVm s₂.vm).frames = .java g₀ :: r := hr9
    refine e3.trans ?_
    rw [hf₂, State.calling_eq h.top, State.setFrames_setFrames, State.setTop_of_frames _ hr', hr9]
    rfl
  have hsame : U.sameButNew ({ U with heap := s₂.heap, slotsUsed := s₂.slotsUsed } : State) L mc ms := by
    refine ⟨?_, q2, q3, q4, q5, q6⟩
    obtain ⟨t, ht, -⟩ := State.frames_cons hr9
    show ({ U with heap := s₂.heap, slotsUsed := s₂.slotsUsed } : State) = { U.setFrames U.frames with heap := s₂.heap, slotsUsed := s₂.slotsUsed }
    rw [State.setFrames_self ht]
  subst hg
  refine ⟨v, ⟨(({ U with heap := s₂.heap, slotsUsed := s₂.slotsUsed } : State).setVm s₂.vm), Ls ++ L, c0 + mc, s0 + ms⟩,
    ⟨X.admits, X.cas, X.clock, X.frames, X.room, X.hears, X.method, X.code, (X.here.setHeapUsed s₂.heap s₂.slotsUsed).setVm hW'.alike, X.tail, State.WarmedH.trans X.warmed hW', X.limits, X.bytes, X.same.trans (hsame.setVm s.vm)⟩,
    ⟨g, mk, s₂, L, rfl, rfl, hq, rfl, hL, rfl, rfl⟩, ?_⟩
  show Steps p.tables e below _ ((({ U with heap := s₂.heap, slotsUsed := s₂.slotsUsed } : State).setVm s₂.vm).setTop { g with pc := g.pc + 3, stack := v.toList ++ g.stack })
  rw [← hs₂]
  exact hsteps
/-- a verb's number -/
theorem cVO {p : Program} {l : Launch} {e : Env} {R : Room} {s : State} {m : MethodId} {args : Array Value} {below : List Frame} {meth : Method} {c : Code} {H : Heap} {locs : List Loc} {cells slots : Nat} {Q : State → Prop} {pc : Nat} {ls : Array Slot} {rest : List Value} {cc : ByteArray} {nL index k : Nat} {own : String} {dC : Nat → ClassId} {dI : Nat → Nat → Nat} {g : Nat → ClassId} {A : Nat → Prop} {v : Value}
    (F : CF p m c cc nL s args own) (_hE : EK dC dI g s) (hX : EX g A s s.heap) (hS : va_S A s.heap H locs) (hk : k < 10) (hl : Cond.methodLink own index mwV ∈ lw_U) (hR : 1 ≤ R.frames ∧ 20 ≤ R.locals) (hf : cells ≤ R.cells ∧ slots ≤ R.slots)
    (hv : v = .ref (g (100 + k))) (hls : ls.size = nL) (hW : (rest.map fun v => v.category).sum ≤ 8) (hdg : decode cc pc = .ok (.invokevirtual index, 3))
    (kk : W p l e R s m args below meth c H locs cells slots Q (F0 m (pc + 3) ls (.int (nI k) :: rest))) : W p l e R s m args below meth c H locs cells slots Q (F0 m pc ls (v :: rest)) := by
  subst hv
  have hcd : Cond.code yJx29ce0_ordinal_8abf5 cJx29ce0_ordinal_8abf5 1 (some .int) ∈ lw_U := q1612
  have hK : Back l R p e below s args yJx29ce0_ordinal_8abf5 3 8 (PreOf R 0 0 (fun a U => a = #[.ref (g (100 + k))] ∧ EXr g U)) (PostOf (fun _ st o t => o = .returned (some (.int (nI k))) ∧ t.heap = st.heap) 0 0 (fun _ => False)) := by
    refine backNR (y := yJx29ce0_ordinal_8abf5) (bytes := cJx29ce0_ordinal_8abf5) (maxL := 1) (ret := some .int) (rm := { frames := 0, cells := 0, slots := 0, locals := 0 }) (by decide +kernel) (fun a U g mk q => ⟨q.1, q.2.calling⟩) rfl rfl hR.1 (by simpa using hR.2) (fun a' U hW => pay_in F.2.2.2.2 (gU hcd) _ List.mem_cons_self a' U hW) ?_
    intro s' m' a' below' meth' c' hWs hex hby hml hnm hrt hlk hPc
    obtain ⟨rfl, hX'⟩ := hPc
    have F' : CF p m' c' cJx29ce0_ordinal_8abf5 1 s' #[.ref (g (100 + k))] "java/lang/Enum" := ⟨hex, hby, hml, findClass_of_methodNamed hnm, fun w hw => pay_in F.2.2.2.2 (fun z hz => ⟨hz, good_of_word (List.mem_filter.mp hz).2⟩) w hw _ _ hWs⟩
    rw [lg_entry_eq]
    have hl' := lv_entry [Value.ref (g (100 + k))] (n := 1) (Nat.le_of_ble_eq_true rfl)
    refine lv_aload_n F'.1 F'.2.1 dJx29ce0_ordinal_8abf5_0 rfl (lv_at hl' 0 rfl) ?_
    refine va_getX F'.1 F'.2.1 hX'.en.2 (i := k) hk va_S.rf F'.2.2.2.1 (F'.2.2.2.2 _ q2251) (fun _ h => h) dJx29ce0_ordinal_8abf5_1 ?_
    have e : nI k = ([0, 1, 2, 3, 4, 5, 6, 7, 8, 9] : List Int32).getD k 0 := ord_v k hk
    rw [e]
    exact RO_i F' hrt hlk dJx29ce0_ordinal_8abf5_4
  obtain ⟨cellB, hcB, hoB, hclB, -⟩ := (hX.en.1 k hk).kept hS.2.1
  intro T hT X
  have hdl : va_Decl s ⟨"java/lang/Enum", "ordinal", "()I"⟩ := va_Decl.of (F.2.2.2.2 _ q1611) (F.2.2.2.2 _ hcd)
  obtain ⟨v, vm₁, ⟨U', l2, c2, s2⟩, hW₁, X', ⟨g', mk, t, L, e1, e2, hq, h1, hL, h2, h3⟩, st⟩ := va_callVU X F.1 (C := RX10) (owner := "java/lang/Enum") (x := mwV) (bytes := cJx29ce0_ordinal_8abf5) (maxL := 1) (ret := some .int) F.2.2.2.1 (F.2.2.2.2 _ hl) (F.2.2.2.2 _ q1608) hdl (by decide +kernel) (F.2.2.2.2 _ q1610) (F.2.2.2.2 _ q1611) (F.2.2.2.2 _ hcd) hK (by rw [hT]; exact hcB) hoB hclB (g := F0 m pc ls (.ref (g (100 + k)) :: rest)) rfl (hls.trans F.2.2.1.symm) (argsL := []) (rest := rest) (fun sig h => by
      have h' : parseMethodDescriptor "()I" = some sig := h
      rw [show parseMethodDescriptor "()I" = some ⟨[], some .int⟩ from by decide +kernel] at h'
      rw [← Option.some.inj h']; rfl) rfl (lv_room hW) (by rw [F.2.1]; exact hdg)
    (fun vm₁ hW₁ => ⟨by simpa using hf.1, by simpa using hf.2, rfl, by
      have h9 := ((hX.at hS).narrow (B := fun _ => False) (fun _ h => h.elim)).moved (U := T.setVm vm₁) hW₁
      show EX g (fun _ => False) (T.setVm vm₁) T.heap
      rw [hT]; exact h9⟩)
  dsimp only [Pt.U, Pt.locs, Pt.cells, Pt.slots] at X' e1 e2 h1 h2 h3 st
  obtain ⟨hv, hh⟩ := hq
  cases hv
  subst h1; subst h2; subst h3
  have hLe : L = [] := by
    cases L with
    | nil => rfl
    | cons z zs => exact (hL z List.mem_cons_self).elim
  subst hLe
  rw [List.append_nil] at X'
  obtain ⟨t2, a1, b1⟩ := kk U' (by rw [e1, hh]; exact hT) X'
  exact ⟨t2, st t2 a1, b1⟩
