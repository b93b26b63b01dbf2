/-! methods that make objects, arrays: their world stands then at addresses of their choice (β) -/
abbrev BT : Type := (Nat → Nat) × (Nat → Nat → Nat) × (Nat → Nat → Nat)
def MN (l : Launch) (y : MethodName) (bytes : ByteArray) (maxL : Nat) (ret : Option FieldType) (fr lo mc ms : Nat) (dC : Nat → ClassId) (dI : Nat → Nat → Nat) (g : Nat → ClassId) (av : List Value) (ws : va_W) (W' : BT → va_W) (rv : BT → Option Value) : Prop :=
  ∀ sz, Met l y (wU y bytes maxL ret) { frames := fr, cells := mc, slots := ms, locals := lo } (va_Pc av (fun U => U.heap.size = sz ∧ EK dC dI g U ∧ EX g (va_A ws sz) U U.heap ∧ va_P (dC, dI) vwCl ws U.heap ∧ va_D (fun _ => True) ws)) (fun _ st o t => ∃ β : BT, o = .returned (rv β) ∧ va_P (dC, dI) vwCl (W' β) t.heap ∧ va_D (va_A ws sz) (W' β) ∧ va_F (va_A ws sz) st t) mc ms (va_A ws sz)
theorem catp_snoc (ps : List va_W) (x : va_W) : catp (ps ++ [x]) [] = catp ps [] ++ x := by
  rw [catp_eq, catp_eq, List.flatten_append]
  simp
theorem apP_l {D : va_G} {cl : List vw_C} {a b : va_W} {H : Heap} (h : va_P D cl (a ++ b) H) : va_P D cl a H := fun k q hk => h k q (by rw [List.getElem?_append_left (List.getElem?_eq_some_iff.mp hk).1]; exact hk)
theorem apP_r {D : va_G} {cl : List vw_C} {a b : va_W} {H : Heap} (h : va_P D cl (a ++ b) H) : va_P D cl b H := fun k q hk => h (a.length + k) q (by rw [List.getElem?_append_right (by omega), Nat.add_sub_cancel_left]; exact hk)
theorem apD_l {A : Nat → Prop} {a b : va_W} (h : va_D A (a ++ b)) : va_D A a :=
  have e : ∀ (k : Nat) (q : Nat × va_E), a[k]? = some q → (a ++ b)[k]? = some q := fun k q hk => by rw [List.getElem?_append_left (List.getElem?_eq_some_iff.mp hk).1]; exact hk
  ⟨fun i j p q hi hj hpq => h.1 i j p q (e i p hi) (e j q hj) hpq, fun k q hk => h.2 k q (e k q hk)⟩
theorem apD_r {A : Nat → Prop} {a b : va_W} (h : va_D A (a ++ b)) : va_D A b :=
  have e : ∀ (k : Nat) (q : Nat × va_E), b[k]? = some q → (a ++ b)[a.length + k]? = some q := fun k q hk => by rw [List.getElem?_append_right (by omega), Nat.add_sub_cancel_left]; exact hk
  ⟨fun i j p q hi hj hpq => by have := h.1 _ _ p q (e i p hi) (e j q hj) hpq; omega, fun k q hk => h.2 _ q (e k q hk)⟩
theorem apD_x {A : Nat → Prop} {a b : va_W} (h : va_D A (a ++ b)) (i j : Nat) (p q : Nat × va_E) (hi : a[i]? = some p) (hj : b[j]? = some q) : p.1 ≠ q.1 := by
  intro e
  have hl := (List.getElem?_eq_some_iff.mp hi).1
  have h1 : (a ++ b)[i]? = some p := by rw [List.getElem?_append_left hl]; exact hi
  have h2 : (a ++ b)[a.length + j]? = some q := by rw [List.getElem?_append_right (by omega), Nat.add_sub_cancel_left]; exact hj
  have := h.1 _ _ p q h1 h2 e
  omega
theorem wjN {A0 : Nat → Prop} {D : va_G} {cl : List vw_C} {pre wc post w1 : va_W} {H H1 : Heap} (hP : va_P D cl (pre ++ (wc ++ post)) H) (hD : va_D A0 (pre ++ (wc ++ post))) (hA : ∀ q, H.size ≤ q → A0 q)
    (hk : ∀ q : Nat, q < H.size → ¬ va_A wc H.size q → H1[q]? = H[q]?) (hP1 : va_P D cl w1 H1) (hD1 : va_D (va_A wc H.size) w1) : va_P D cl (pre ++ (w1 ++ post)) H1 ∧ va_D A0 (pre ++ (w1 ++ post)) := by
  have p1 := apP_l hP
  have p2 := apP_r hP
  have p3 := apP_r p2
  have d2 := apD_r hD
  have x1 : ∀ (i : Nat) (p : Nat × va_E), pre[i]? = some p → ¬ va_A wc H.size p.1 := by
    intro i p hi hv
    rcases hv with ⟨k, e, hke⟩ | h
    · exact apD_x hD i k p (p.1, e) hi (by rw [List.getElem?_append_left (List.getElem?_eq_some_iff.mp hke).1]; exact hke) rfl
    · exact absurd (p1 i p hi).lt (Nat.not_lt.mpr h)
  have x3 : ∀ (i : Nat) (p : Nat × va_E), post[i]? = some p → ¬ va_A wc H.size p.1 := by
    intro i p hi hv
    rcases hv with ⟨k, e, hke⟩ | h
    · exact apD_x d2 k i (p.1, e) p hke hi rfl
    · exact absurd (p3 i p hi).lt (Nat.not_lt.mpr h)
  refine ⟨(p1.kept fun k q hq => hk q.1 (p1 k q hq).lt (x1 k q hq)).app (hP1.app (p3.kept fun k q hq => hk q.1 (p3 k q hq).lt (x3 k q hq))), ?_⟩
  have y1 : va_D A0 w1 := hD1.weaken (fun k q _ hv => by
    rcases hv with ⟨k9, e, hke⟩ | h
    · exact (apD_l d2).2 k9 (q.1, e) hke
    · exact hA _ h)
  refine (apD_l hD).app (y1.app (apD_r d2) (fun i j p q hi hj e => x3 j q hj (by rw [← e]; exact hD1.2 i p hi))) (fun i j p q hi hj e => ?_)
  by_cases hl : j < w1.length
  · rw [List.getElem?_append_left hl] at hj
    exact x1 i p hi (by rw [e]; exact hD1.2 j q hj)
  · rw [List.getElem?_append_right (by omega)] at hj
    exact apD_x hD i (wc.length + (j - w1.length)) p q hi (by rw [List.getElem?_append_right (by omega), Nat.add_sub_cancel_left]; exact hj) e
section
variable {l : Launch} {y : MethodName} {bytes : ByteArray} {maxL : Nat} {ret : Option FieldType} {fr lo mc ms : Nat} {dC : Nat → ClassId} {dI : Nat → Nat → Nat} {g : Nat → ClassId} {av : List Value} {ws : va_W} {W' : BT → va_W} {rv : BT → Option Value}
theorem MN_of (hy : plainName y.cls = true) (hm : (lg_sl av).length ≤ maxL)
    (body : ∀ (p : Program) (e : Env) (s : State) (m : MethodId) (below : List Frame) (meth : Method) (c : Code) (ls : Array Slot), CF p m c bytes maxL s av.toArray y.cls → meth.name = y.name → meth.sig.returnType = ret → meth.locks = false → EK dC dI g s → EX g (va_A ws s.heap.size) s s.heap → (∀ q : Nat, s.heap.size ≤ q → va_A ws s.heap.size q) → va_P (dC, dI) vwCl ws s.heap → va_D (va_A ws s.heap.size) ws → va_S (va_A ws s.heap.size) s.heap s.heap [] → lv_has ls maxL (lv_args 0 av) →
      W p l e { frames := fr, cells := mc, slots := ms, locals := lo } s m av.toArray below meth c s.heap [] 0 0 (MQ below (fun _ st o t => ∃ β : BT, o = .returned (rv β) ∧ va_P (dC, dI) vwCl (W' β) t.heap ∧ va_D (va_A ws s.heap.size) (W' β) ∧ va_F (va_A ws s.heap.size) st t) av.toArray s mc ms (va_A ws s.heap.size)) (F0 m 0 ls [])) : MN l y bytes maxL ret fr lo mc ms dC dI g av ws W' rv := by
  unfold MN
  intro sz
  refine Met.ofW (cc := bytes) (maxL := maxL) (ret := ret) hy rfl ?_
  intro p e s m args below meth c s₁ B hml hv
  obtain ⟨rfl, hsz, hE, hX, hP, hD⟩ := hv
  subst hsz
  have hts := atoms_spec (ws := wU y bytes maxL ret) B.pre
  rw [lg_entry_eq]
  exact body p e s m below meth c _ ⟨B.exec, B.bytes, hml, findClass_of_methodNamed B.named, fun w h => hts w (List.mem_cons_of_mem _ h)⟩ (name_of_methodNamed B.named B.method).1 B.returns B.notSynchronized hE hX (fun q h => Or.inr h) hP hD.self va_S.rf (lv_entry av hm)
end
section
variable {p : Program} {l : Launch} {e : Env} {R : Room} {s : State} {m : MethodId} {args : Array Value} {below : List Frame} {meth : Method} {c : Code} {H : Heap} {locs : List Loc} {cells slots mc ms : Nat} {Q : State → Prop} {pc : Nat} {ls : Array Slot} {st rest : List Value}
variable {cc bytes : ByteArray} {nL maxL index n fr lo b ci i0 : Nat} {own C : String} {y : MethodName} {ret : Option FieldType} {dC : Nat → ClassId} {dI : Nat → Nat → Nat} {g : Nat → ClassId} {As : List Value} {ws wc pre post : va_W} {A : Nat → Prop} {fs : List Value} {T : u_T} {N : Nat} {W' : BT → va_W} {rv : BT → Option Value}
theorem MN_v (β : BT) (hrv : rv β = none) (F : CF p m c cc nL s args own) (hr : meth.sig.returnType = none) (hlocks : meth.locks = false) (hc : cells ≤ mc) (hs : slots ≤ ms) (hP : va_P (dC, dI) vwCl (W' β) H) (hD : va_D A (W' β)) (hS : va_S A s.heap H locs) (hdg : decode cc pc = .ok (.return_, 1)) :
    W p l e R s m args below meth c H locs cells slots (MQ below (fun _ st o t => ∃ β : BT, o = .returned (rv β) ∧ va_P (dC, dI) vwCl (W' β) t.heap ∧ va_D A (W' β) ∧ va_F A st t) args s mc ms A) (F0 m pc ls []) :=
  W.widen hc hs (W.vret F.1 F.2.1 hr (fun _ ht _ => ⟨β, by rw [hrv], by rw [ht]; exact hP, hD, hS.F ht⟩) hS.2.2 hdg)
theorem MN_a {a : Nat} {nm : String} (β : BT) (hrv : rv β = some (.ref a)) (F : CF p m c cc nL s args own) (hr : meth.sig.returnType = some (.object nm)) (hlocks : meth.locks = false) (hc : cells ≤ mc) (hs : slots ≤ ms) (hP : va_P (dC, dI) vwCl (W' β) H) (hD : va_D A (W' β)) (hS : va_S A s.heap H locs) (hdg : decode cc pc = .ok (.areturn, 1)) :
    W p l e R s m args below meth c H locs cells slots (MQ below (fun _ st o t => ∃ β : BT, o = .returned (rv β) ∧ va_P (dC, dI) vwCl (W' β) t.heap ∧ va_D A (W' β) ∧ va_F A st t) args s mc ms A) (F0 m pc ls [.ref a]) :=
  W.widen hc hs (W.aret F.1 F.2.1 hr (Or.inl ⟨_, rfl⟩) (Or.inr ⟨_, rfl⟩) (fun _ ht _ => ⟨β, by rw [hrv], by rw [ht]; exact hP, hD, hS.F ht⟩) hS.2.2 hdg)
theorem clMN {a : Array Value} (hr : va_Run p l e R s m args below meth c H locs cells slots mc ms (F0 m pc ls st) rest ((fun _ st o t => ∃ β : BT, o = .returned (rv β) ∧ va_P (dC, dI) vwCl (W' β) t.heap ∧ va_D (va_A wc H.size) (W' β) ∧ va_F (va_A wc H.size) st t) a) (va_A wc H.size)) (hP : va_P (dC, dI) vwCl (pre ++ (wc ++ post)) H) (hD : va_D A (pre ++ (wc ++ post))) (hS : va_S A s.heap H locs) (hA : ∀ q : Nat, s.heap.size ≤ q → A q)
    (kk : ∀ (β : BT) (H1 : Heap) (locs1 : List Loc), va_P (dC, dI) vwCl (pre ++ (W' β ++ post)) H1 → va_D A (pre ++ (W' β ++ post)) → va_S A s.heap H1 locs1 → W p l e R s m args below meth c H1 locs1 (cells + mc) (slots + ms) Q (F0 m (pc + 3) ls ((rv β).toList ++ rest))) : W p l e R s m args below meth c H locs cells slots Q (F0 m pc ls st) := by
  intro T hT X
  have hF : ∀ q, va_A wc H.size q → A q := by
    intro q hq
    rcases hq with ⟨k, e, hk⟩ | h
    · exact (apD_l (apD_r hD)).2 k (q, e) hk
    · exact hA q (Nat.le_trans hS.1 h)
  obtain ⟨v, st₀, t, T', L, h0, X', hL, e1, -, ⟨β, hv, hp1, hd1, hz, hk⟩, st⟩ := hr T hT X
  cases hv
  rw [h0] at hz hk
  rw [← e1] at hp1 hz hk
  obtain ⟨hP', hD'⟩ := wjN hP hD (fun q hq => hA q (Nat.le_trans hS.1 hq)) hk hp1 hd1
  obtain ⟨t2, a1, b1⟩ := kk β T'.heap (locs ++ L) hP' hD'
    ⟨Nat.le_trans hS.1 hz, fun q h1 h2 => by rw [hk q (Nat.lt_of_lt_of_le h1 hS.1) (fun z => h2 (hF q z))]; exact hS.2.1 q h1 h2, fun q hq => by
      rcases List.mem_append.mp hq with h | h
      · exact hS.2.2 q h
      · exact hF _ (hL q h)⟩ T' rfl X'
  exact ⟨t2, st t2 a1, b1⟩
theorem exN (hX : EX g A s s.heap) (hD : va_D A (pre ++ (wc ++ post))) (hS : va_S A s.heap H locs) (hA : ∀ q : Nat, s.heap.size ≤ q → A q) : EX g (va_A wc H.size) s H :=
  (hX.at hS).narrow (fun q hq => by
    rcases hq with ⟨k, e, hk⟩ | h
    · exact (apD_l (apD_r hD)).2 k (q, e) hk
    · exact hA q (Nat.le_trans hS.1 h))
/-- a constructor's call -/
theorem cNI (F : CF p m c cc nL s args own) (hE : EK dC dI g s) (hX : EX g A s s.heap) (M : MN l y bytes maxL none fr lo mc ms dC dI g (.ref b :: As) wc W' rv) (mb : MB y bytes maxL none n) (hin : Cond.instanceMethod y ∈ lw_U) (hnm : y.name = "<init>") (hl : Cond.methodLink own index y ∈ lw_U) (hR : fr + 1 ≤ R.frames ∧ 8 + (maxL + 11) + lo ≤ R.locals) (hf : cells + mc ≤ R.cells ∧ slots + ms ≤ R.slots)
    (hP : va_P (dC, dI) vwCl ws H) (hD : va_D A ws) (hS : va_S A s.heap H locs) (hA : ∀ q : Nat, s.heap.size ≤ q → A q) (ps : List va_W) (hw : catp ps (wc ++ post) = ws) (hn : As.length = n) (hls : ls.size = nL) (hst : st = As.reverse ++ .ref b :: rest) (hW : (rest.map fun v => v.category).sum ≤ 8) (hdg : decode cc pc = .ok (.invokespecial index, 3))
    (kk : ∀ (β : BT) (H1 : Heap) (locs1 : List Loc), va_P (dC, dI) vwCl (catp ps (W' β ++ post)) H1 → va_D A (catp ps (W' β ++ post)) → va_S A s.heap H1 locs1 → W p l e R s m args below meth c H1 locs1 (cells + mc) (slots + ms) Q (F0 m (pc + 3) ls ((rv β).toList ++ rest))) : W p l e R s m args below meth c H locs cells slots Q (F0 m pc ls st) := by
  rw [catp_eq] at hw
  subst hw
  have hPc := apP_l (apP_r hP)
  have hDc := apD_l (apD_r hD)
  have hXc := exN hX hD hS hA
  unfold MN at M
  refine clMN (a := (.ref b :: As).toArray) (va_runI F (M H.size) ⟨mbB (ws' := lw_U) F mb hl rfl rfl hR, hnm, F.2.2.2.2 _ hin⟩ ⟨fun a U G mk q => ⟨q.1, q.2.1, q.2.2.1.calling, q.2.2.2.1.calling, q.2.2.2.2⟩, fun U hU hW => ⟨rfl, by rw [hU], hE.warm hW, by rw [hU]; exact hXc.moved hW, by rw [hU]; exact hPc, hDc.weaken (fun _ _ _ _ => trivial)⟩⟩ rfl hn hls hst (lv_room hW) hdg hf) hP hD hS hA (fun β H1 locs1 h1 h2 h3 => kk β H1 locs1 ?_ ?_ h3)
  · rw [catp_eq]; exact h1
  · rw [catp_eq]; exact h2
/-- a constructor's call, a nest mate's private one -/
theorem cNIN (F : CF p m c cc nL s args own) (hE : EK dC dI g s) (hX : EX g A s s.heap) (M : MN l y bytes maxL none fr lo mc ms dC dI g (.ref b :: As) wc W' rv) (mb : MB y bytes maxL none n) (hin : Cond.instanceMethod y ∈ lw_U) (hnm : y.name = "<init>") {host : String} (hl : Cond.methodLinkNest own index y host ∈ lw_N) (hR : fr + 1 ≤ R.frames ∧ 8 + (maxL + 11) + lo ≤ R.locals) (hf : cells + mc ≤ R.cells ∧ slots + ms ≤ R.slots)
    (hP : va_P (dC, dI) vwCl ws H) (hD : va_D A ws) (hS : va_S A s.heap H locs) (hA : ∀ q : Nat, s.heap.size ≤ q → A q) (ps : List va_W) (hw : catp ps (wc ++ post) = ws) (hn : As.length = n) (hls : ls.size = nL) (hst : st = As.reverse ++ .ref b :: rest) (hW : (rest.map fun v => v.category).sum ≤ 8) (hdg : decode cc pc = .ok (.invokespecial index, 3))
    (kk : ∀ (β : BT) (H1 : Heap) (locs1 : List Loc), va_P (dC, dI) vwCl (catp ps (W' β ++ post)) H1 → va_D A (catp ps (W' β ++ post)) → va_S A s.heap H1 locs1 → W p l e R s m args below meth c H1 locs1 (cells + mc) (slots + ms) Q (F0 m (pc + 3) ls ((rv β).toList ++ rest))) : W p l e R s m args below meth c H locs cells slots Q (F0 m pc ls st) := by
  rw [catp_eq] at hw
  subst hw
  have hPc := apP_l (apP_r hP)
  have hDc := apD_l (apD_r hD)
  have hXc := exN hX hD hS hA
  unfold MN at M
  refine clMN (a := (.ref b :: As).toArray) (va_runIN F (M H.size) ⟨mbN F hE mb hl rfl rfl hR, hnm, F.2.2.2.2 _ hin⟩ ⟨fun a U G mk q => ⟨q.1, q.2.1, q.2.2.1.calling, q.2.2.2.1.calling, q.2.2.2.2⟩, fun U hU hW => ⟨rfl, by rw [hU], hE.warm hW, by rw [hU]; exact hXc.moved hW, by rw [hU]; exact hPc, hDc.weaken (fun _ _ _ _ => trivial)⟩⟩ rfl hn hls hst (lv_room hW) hdg hf) hP hD hS hA (fun β H1 locs1 h1 h2 h3 => kk β H1 locs1 ?_ ?_ h3)
  · rw [catp_eq]; exact h1
  · rw [catp_eq]; exact h2
theorem cNS (F : CF p m c cc nL s args own) (hE : EK dC dI g s) (hX : EX g A s s.heap) (M : MN l y bytes maxL ret fr lo mc ms dC dI g As wc W' rv) (mv : MS y bytes maxL ret n) (hl : Cond.methodLink own index y ∈ lw_U) (hR : fr + 1 ≤ R.frames ∧ 8 + (maxL + 11) + lo ≤ R.locals) (hf : cells + mc ≤ R.cells ∧ slots + ms ≤ R.slots)
    (hP : va_P (dC, dI) vwCl ws H) (hD : va_D A ws) (hS : va_S A s.heap H locs) (hA : ∀ q : Nat, s.heap.size ≤ q → A q) (ps : List va_W) (hw : catp ps (wc ++ post) = ws) (hn : As.length = n) (hls : ls.size = nL) (hst : st = As.reverse ++ rest) (hW : (rest.map fun v => v.category).sum ≤ 8) (hdg : decode cc pc = .ok (.invokestatic index, 3))
    (kk : ∀ (β : BT) (H1 : Heap) (locs1 : List Loc), va_P (dC, dI) vwCl (catp ps (W' β ++ post)) H1 → va_D A (catp ps (W' β ++ post)) → va_S A s.heap H1 locs1 → W p l e R s m args below meth c H1 locs1 (cells + mc) (slots + ms) Q (F0 m (pc + 3) ls ((rv β).toList ++ rest))) : W p l e R s m args below meth c H locs cells slots Q (F0 m pc ls st) := by
  rw [catp_eq] at hw
  subst hw
  have hPc := apP_l (apP_r hP)
  have hDc := apD_l (apD_r hD)
  have hXc := exN hX hD hS hA
  unfold MN at M
  refine clMN (a := As.toArray) (va_runS F (M H.size) ⟨mbB (ws' := lw_U) F mv.1 hl rfl rfl hR, F.2.2.2.2 _ mv.2⟩ ⟨fun a U G mk q => ⟨q.1, q.2.1, q.2.2.1.calling, q.2.2.2.1.calling, q.2.2.2.2⟩, fun U hU hW => ⟨rfl, by rw [hU], hE.warm hW, by rw [hU]; exact hXc.moved hW, by rw [hU]; exact hPc, hDc.weaken (fun _ _ _ _ => trivial)⟩⟩ rfl hn hls hst (lv_room hW) hdg hf) hP hD hS hA (fun β H1 locs1 h1 h2 h3 => kk β H1 locs1 ?_ ?_ h3)
  · rw [catp_eq]; exact h1
  · rw [catp_eq]; exact h2
theorem oIn (F : CF p m c cc nL s args own) (hl : Cond.methodLink own index Lib.objectInit ∈ lw_U) (hls : ls.size = nL) (hR : 1 ≤ R.frames ∧ 20 ≤ R.locals) (hW : (rest.map fun v => v.category).sum ≤ 8) (hdg : decode cc pc = .ok (.invokespecial index, 3)) {a : Nat}
    (kk : W p l e R s m args below meth c H locs cells slots Q (F0 m (pc + 3) ls rest)) : W p l e R s m args below meth c H locs cells slots Q (F0 m pc ls (.ref a :: rest)) :=
  W.objInit F.1 F.2.1 F.2.2.2.1 (F.2.2.2.2 _ hl) (F.2.2.2.2 _ q43) (F.2.2.2.2 _ q44) rfl (hls.trans F.2.2.1.symm) rfl hdg hR.1 (by have : 2 * (F0 m pc ls (.ref a :: rest)).monitorRoom = 0 := rfl; omega) kk
/-- a final field, in a constructor -/
theorem pFF {a : Nat} {v : Value} (F : CF p m c cc nL s args own) (hE : EK dC dI g s) (hP : va_P (dC, dI) vwCl ws H) (hD : va_D A ws) (hS : va_S A s.heap H locs) (q0 : Nat) (he : ws[q0]? = some (a, .inr (ci, fs))) (hc : vwCl[ci]? = some (C, T, N)) (hin : ∀ w ∈ u_ws C T N, w ∈ lw_U) (ty0 : Nat → FieldType) (hty : ∀ k, k < N → parseFieldDescriptor (T k).2.2.1 = some (ty0 k)) (hnm : ∀ a, a < N → ∀ b, b < N → a ≠ b → (T a).2.1 ≠ (T b).2.1) (k : Nat) (hk : k < N) (hl : Cond.fieldLink own index (T k).1 (T k).2.1 (T k).2.2.1 ∈ lw_U) (hfin : (T k).2.2.2 = true) (hmn : meth.name = "<init>") (hdecl : (T k).1 = own) (hn : narrow (ty0 k) v = v) (hfit : fits (ty0 k) v = true) (hlen : k < fs.length) (hdg : decode cc pc = .ok (.putfield index, 3))
    (kk : ∀ (H1 : Heap) (locs1 : List Loc), va_P (dC, dI) vwCl (ws.set q0 (a, .inr (ci, fs.set k v))) H1 → va_D A (ws.set q0 (a, .inr (ci, fs.set k v))) → va_S A s.heap H1 locs1 → W p l e R s m args below meth c H1 locs1 cells slots Q (F0 m (pc + 3) ls rest)) : W p l e R s m args below meth c H locs cells slots Q (F0 m pc ls (v :: .ref a :: rest)) :=
  va_putF (D := (dC, dI)) F.1 F.2.1 F.2.2.2.2 hin ty0 hty hnm F.2.2.2.1 hE.1 hP hD hS q0 he hc k hk (F.2.2.2.2 _ hl) (fun _ h => h) hfin hmn hdecl (hty k hk) hn hfit hlen hdg kk
/-- new C -/
theorem nwO (F : CF p m c cc nL s args own) (hE : EK dC dI g s) (hin : ∀ w ∈ u_ws C T N, w ∈ lw_U) (ty : Nat → FieldType) (hty : ∀ k, k < N → parseFieldDescriptor (T k).2.2.1 = some (ty k)) (hcl : Cond.classLink own index C ∈ lw_U) (hinst : Cond.instantiable C N ∈ lw_U) (hini : Cond.initialized C ∈ lw_U)
    (ps : List va_W) (hP : va_P (dC, dI) vwCl (catp ps []) H) (hD : va_D A (catp ps [])) (hS : va_S A s.heap H locs) (hA : ∀ q, s.heap.size ≤ q → A q) (hc : vwCl[ci]? = some (C, T, N)) (fs : List Value) (hfs : ∀ j, j < N → defaultValue (ty j) = vp_V fs j) (hcells : cells + 1 ≤ R.cells) (hslots : slots + N ≤ R.slots) (hdg : decode cc pc = .ok (.new index, 3))
    (kk : ∀ (q : Nat) (H1 : Heap), va_P (dC, dI) vwCl (catp (ps ++ [[(q, .inr (ci, fs))]]) []) H1 → va_D A (catp (ps ++ [[(q, .inr (ci, fs))]]) []) → va_S A s.heap H1 locs → W p l e R s m args below meth c H1 locs (cells + 1) (slots + N) Q (F0 m (pc + 3) ls (.ref q :: rest))) : W p l e R s m args below meth c H locs cells slots Q (F0 m pc ls rest) :=
  va_new F.1 F.2.1 F.2.2.2.2 hin ty hty F.2.2.2.1 (F.2.2.2.2 _ hcl) (F.2.2.2.2 _ hinst) (F.2.2.2.2 _ hini) hE.1 hP hD hS hA hc hfs hcells hslots hdg (fun q H1 h1 h2 h3 => kk q H1 (by rw [catp_snoc]; exact h1) (by rw [catp_snoc]; exact h2) h3)
/-- new int[n], new char[n], new byte[n] -/
theorem nwA {atype : ArrayType} {ty : FieldType} {cG : ClassId} {k0 : Nat} (F : CF p m c cc nL s args own) (hE : EK dC dI g s) (harr : Cond.arrayClass (newarray.typeOf atype) ∈ lw_U) (hty : newarray.typeOf atype = ty) (hG : (TYs g)[k0]? = some (cG, ty)) (hRA : ∀ (U : State) (cA cB : ClassId), va_RA U cA ty → va_RA U cB ty → cA = cB) (hdf : ∀ (cA : ClassId) (N' : Nat), vp_cell cA (N', .inl (fun _ => (0 : Int32))) = arrV cA N' (fun _ => defaultValue ty))
    (ps : List va_W) (hP : va_P (dC, dI) vwCl (catp ps []) H) (hD : va_D A (catp ps [])) (hS : va_S A s.heap H locs) (hA : ∀ q, s.heap.size ≤ q → A q) {n : Int32} {N' : Nat} (hn : ¬ n < 0) (hN : n.toNatClampNeg = N') (hbytes : N' * componentBytes ty ≤ 536870912) (hcells : cells + 1 ≤ R.cells) (hslots : slots + N' ≤ R.slots) (hdg : decode cc pc = .ok (.newarray atype, 2))
    (kk : ∀ (q : Nat) (H1 : Heap), va_P (dC, dI) vwCl (catp (ps ++ [[(q, .inl (cG, N', .inl (fun _ => 0)))]]) []) H1 → va_D A (catp (ps ++ [[(q, .inl (cG, N', .inl (fun _ => 0)))]]) []) → va_S A s.heap H1 locs → W p l e R s m args below meth c H1 locs (cells + 1) (slots + N') Q (F0 m (pc + 2) ls (.ref q :: rest))) : W p l e R s m args below meth c H locs cells slots Q (F0 m pc ls (.int n :: rest)) := by
  refine va_newa (a0 := (N', .inl (fun _ => 0))) F.1 F.2.1 (F.2.2.2.2 _ harr) hty hE.1 hP hD hS hA (fun cA => hdf cA N') hn hN hbytes hcells hslots hdg (fun q cA H1 hK1 h1 h2 h3 => ?_)
  have e : cA = cG := hRA s cA cG (hK1.2 (TYs g).length (cA, ty) (by rw [List.getElem?_append_right (Nat.le_refl _)]; simp)).2 (hE.1.2 k0 (cG, ty) hG).2
  subst e
  exact kk q H1 (by rw [catp_snoc]; exact h1) (by rw [catp_snoc]; exact h2) h3
theorem nwQ {cG : ClassId} {k0 : Nat} (F : CF p m c cc nL s args own) (hE : EK dC dI g s) (hcl : Cond.classLink own index C ∈ lw_U) (hover : va_AO C s) (hG : (TYs g)[k0]? = some (cG, .object C))
    (ps : List va_W) (hP : va_P (dC, dI) vwCl (catp ps []) H) (hD : va_D A (catp ps [])) (hS : va_S A s.heap H locs) (hA : ∀ q, s.heap.size ≤ q → A q) {n : Int32} {N' : Nat} (hn : ¬ n < 0) (hN : n.toNatClampNeg = N') (hbytes : N' * 4 ≤ 536870912) (hcells : cells + 1 ≤ R.cells) (hslots : slots + N' ≤ R.slots) (hdg : decode cc pc = .ok (.anewarray index, 3))
    (kk : ∀ (q : Nat) (H1 : Heap), va_P (dC, dI) vwCl (catp (ps ++ [[(q, .inl (cG, N', .inr (.inr (.inr (.inr (fun _ => none))))))]]) []) H1 → va_D A (catp (ps ++ [[(q, .inl (cG, N', .inr (.inr (.inr (.inr (fun _ => none))))))]]) []) → va_S A s.heap H1 locs → W p l e R s m args below meth c H1 locs (cells + 1) (slots + N') Q (F0 m (pc + 3) ls (.ref q :: rest))) : W p l e R s m args below meth c H locs cells slots Q (F0 m pc ls (.int n :: rest)) := by
  refine va_newq F.1 F.2.1 F.2.2.2.1 (F.2.2.2.2 _ hcl) hover hE.1 hP hD hS hA hn hN hbytes hcells hslots hdg (fun q cA H1 hK1 h1 h2 h3 => ?_)
  have e : cA = cG := by
    obtain ⟨_, _, _, _, _, h4⟩ := (hK1.2 (TYs g).length (cA, .object C) (by rw [List.getElem?_append_right (Nat.le_refl _)]; simp)).2
    obtain ⟨_, _, _, _, _, h5⟩ := (hE.1.2 k0 (cG, .object C) hG).2
    exact Option.some.inj (h4.symm.trans h5)
  subst e
  exact kk q H1 (by rw [catp_snoc]; exact h1) (by rw [catp_snoc]; exact h2) h3
end
theorem ra_I {U : State} {cA cB : ClassId} (h1 : va_RA U cA .int) (h2 : va_RA U cB .int) : cA = cB := Option.some.inj (h1.symm.trans h2)
theorem ra_C {U : State} {cA cB : ClassId} (h1 : va_RA U cA .char) (h2 : va_RA U cB .char) : cA = cB := Option.some.inj (h1.symm.trans h2)
theorem ra_B {U : State} {cA cB : ClassId} (h1 : va_RA U cA .byte) (h2 : va_RA U cB .byte) : cA = cB := Option.some.inj (h1.symm.trans h2)
/-- an array of references: what stands behind its end doesn't count -/
theorem P_arr {D : va_G} {cl : List vw_C} {b n : Nat} {cA : ClassId} {f f' : Nat → Option Nat} {H : Heap} (hf : ∀ i, i < n → f i = f' i) (pre rest : va_W) (h : va_P D cl (pre ++ (b, .inl (cA, n, .inr (.inr (.inr (.inr f))))) :: rest) H) : va_P D cl (pre ++ (b, .inl (cA, n, .inr (.inr (.inr (.inr f'))))) :: rest) H := by
  have h2 := apP_r h
  have h3 : va_at D cl (b, .inl (cA, n, .inr (.inr (.inr (.inr f'))))) H := by
    have h4 := h2 0 _ rfl
    have e : vp_cell cA (n, .inr (.inr (.inr (.inr f)))) = vp_cell cA (n, .inr (.inr (.inr (.inr f')))) := by
      show arrV cA n (fun j => va_rf (f j)) = arrV cA n (fun j => va_rf (f' j))
      unfold arrV
      have : (Array.ofFn (n := n) fun j => va_rf (f j.val)) = Array.ofFn (n := n) fun j => va_rf (f' j.val) := by
        congr 1
        funext j
        rw [hf j.val j.isLt]
      rw [this]
    show H[b]? = some (vp_cell cA (n, .inr (.inr (.inr (.inr f')))))
    rw [← e]
    exact h4
  refine (apP_l h).app (fun k q hq => ?_)
  cases k with
  | zero => cases hq; exact h3
  | succ k => exact h2 (k + 1) q hq
theorem D_arr {A : Nat → Prop} {b : Nat} {e e' : va_E} (pre rest : va_W) (h : va_D A (pre ++ (b, e) :: rest)) : va_D A (pre ++ (b, e') :: rest) := by
  have h1 := h.set (p := pre.length) (a := b) (e0 := e) (e := e') (by rw [List.getElem?_append_right (Nat.le_refl _), Nat.sub_self]; rfl)
  rw [List.set_append_right _ _ (Nat.le_refl _), Nat.sub_self] at h1
  exact h1
