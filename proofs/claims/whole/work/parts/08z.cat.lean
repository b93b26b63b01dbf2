/-! worlds cut into lists, put one behind another: a callee's is a piece of them, or two pieces -/
def catp : List va_W → va_W → va_W
  | [], r => r
  | c :: cs, r => c ++ catp cs r
theorem catp_eq (ps : List va_W) (r : va_W) : catp ps r = ps.flatten ++ r := by
  induction ps with
  | nil => rfl
  | cons c cs ih => rw [catp, ih, List.flatten_cons, List.append_assoc]
theorem rgM (pre wc post : va_W) : (List.range' pre.length wc.length).map (fun i => (pre ++ (wc ++ post))[i]?) = wc.map some := by
  apply List.ext_getElem?
  intro k
  rw [List.getElem?_map, List.getElem?_map]
  by_cases hk : k < wc.length
  · rw [List.getElem?_range' hk, List.getElem?_eq_getElem hk]
    simp only [Option.map_some, Nat.one_mul]
    have e : pre.length + k - pre.length = k := by omega
    rw [List.getElem?_append_right (by omega), List.getElem?_append_left (by omega), e, List.getElem?_eq_getElem hk]
  · rw [List.getElem?_eq_none (by rw [List.length_range']; omega), List.getElem?_eq_none (by omega)]
    rfl
theorem fm_of_map {ws wc : va_W} {is : List Nat} (h : is.map (fun i => ws[i]?) = wc.map some) : is.filterMap (fun i => ws[i]?) = wc := by
  have h1 : is.filterMap (fun i => ws[i]?) = (is.map (fun i => ws[i]?)).filterMap id := by rw [List.filterMap_map]; rfl
  rw [h1, h, List.filterMap_map]
  show wc.filterMap (fun x => some x) = wc
  exact List.filterMap_some
theorem setAll_app : ∀ (is js : List Nat) (ws w1 w2 : va_W), is.length = w1.length → setAll ws (is ++ js) (w1 ++ w2) = setAll (setAll ws is w1) js w2
  | [], js, ws, w1, w2, h => by
    cases w1 with
    | nil => simp only [List.nil_append, setAll]
    | cons x xs => cases h
  | i :: is, js, ws, [], w2, h => by cases h
  | i :: is, js, ws, x :: xs, w2, h => by
    simp only [List.cons_append, setAll]
    exact setAll_app is js (ws.set i x) xs w2 (by simpa using h)
theorem rgS : ∀ (wc pre post w1 : va_W), w1.length = wc.length → setAll (pre ++ (wc ++ post)) (List.range' pre.length wc.length) w1 = pre ++ (w1 ++ post)
  | [], pre, post, w1, h => by
    cases w1 with
    | nil => simp only [List.length_nil, List.range'_zero, setAll]
    | cons x xs => cases h
  | c :: wc, pre, post, [], h => by cases h
  | c :: wc, pre, post, x :: w1, h => by
    have e : (pre ++ (c :: wc ++ post)).set pre.length x = (pre ++ [x]) ++ (wc ++ post) := by
      rw [List.set_append_right _ _ (Nat.le_refl _), Nat.sub_self]
      simp
    rw [List.length_cons, List.range'_succ, setAll, e]
    have := rgS wc (pre ++ [x]) post w1 (by simpa using h)
    rw [List.length_append, List.length_singleton] at this
    rw [this]
    simp
theorem nd_of {is : List Nat} (h : is.Nodup) : va_nd is = true := by
  induction is with
  | nil => rfl
  | cons a l ih =>
    have h1 := List.nodup_cons.mp h
    simp only [va_nd, ih h1.2, Bool.and_true]
    simpa using h1.1
/-! calls of pieces -/
theorem one_rc {pre wc post : va_W} {j : Nat} {v : Nat × va_E} (h : wc[j]? = some v) : (pre ++ (wc ++ post))[pre.length + j]? = some v := by
  have hj := (List.getElem?_eq_some_iff.mp h).1
  rw [List.getElem?_append_right (by omega), List.getElem?_append_left (by omega), show pre.length + j - pre.length = j by omega]
  exact h
/-! two pieces: where they lie -/
def two2_is (a q c1 c2 : va_W) : List Nat := List.range' a.length c1.length ++ List.range' (a.length + c1.length + q.length) c2.length
def twoT_is (a q c1 c2 : va_W) : List Nat := List.range' (a.length + c2.length + q.length) c1.length ++ List.range' a.length c2.length
theorem two_M2 (a c1 q c2 post : va_W) : (List.range' (a.length + c1.length + q.length) c2.length).map (fun i => (a ++ (c1 ++ (q ++ (c2 ++ post))))[i]?) = c2.map some := by
  have h := rgM (a ++ (c1 ++ q)) c2 post
  simp only [List.length_append, List.append_assoc, ← Nat.add_assoc] at h
  exact h
theorem two2_M (a c1 q c2 post : va_W) : (two2_is a q c1 c2).map (fun i => (a ++ (c1 ++ (q ++ (c2 ++ post))))[i]?) = (c1 ++ c2).map some := by
  rw [two2_is, List.map_append, List.map_append, rgM, two_M2]
theorem twoT_M (a c1 q c2 post : va_W) : (twoT_is a q c1 c2).map (fun i => (a ++ (c2 ++ (q ++ (c1 ++ post))))[i]?) = (c1 ++ c2).map some := by
  rw [twoT_is, List.map_append, List.map_append, rgM, two_M2]
theorem two_ndX {a n b m : Nat} (h : a + n ≤ b ∨ b + m ≤ a) : (List.range' a n ++ List.range' b m).Nodup := by
  refine List.nodup_append.mpr ⟨List.nodup_range', List.nodup_range', fun x hx z hz e => ?_⟩
  subst e
  have h1 := List.mem_range'_1.mp hx
  have h2 := List.mem_range'_1.mp hz
  omega
theorem two2_nd (a q c1 c2 : va_W) : va_nd (two2_is a q c1 c2) = true := nd_of (two_ndX (Or.inl (by omega)))
theorem twoT_nd (a q c1 c2 : va_W) : va_nd (twoT_is a q c1 c2) = true := nd_of (two_ndX (Or.inr (by omega)))
theorem two_S2 {a c1 q c2 post d2 : va_W} (h2 : d2.length = c2.length) : setAll (a ++ (c1 ++ (q ++ (c2 ++ post)))) (List.range' (a.length + c1.length + q.length) c2.length) d2 = a ++ (c1 ++ (q ++ (d2 ++ post))) := by
  have h := rgS c2 (a ++ (c1 ++ q)) post d2 h2
  simp only [List.length_append, List.append_assoc, ← Nat.add_assoc] at h
  exact h
theorem two2_S {a c1 q c2 post d1 d2 : va_W} (h1 : d1.length = c1.length) (h2 : d2.length = c2.length) : setAll (a ++ (c1 ++ (q ++ (c2 ++ post)))) (two2_is a q c1 c2) (d1 ++ d2) = a ++ (d1 ++ (q ++ (d2 ++ post))) := by
  rw [two2_is, setAll_app _ _ _ _ _ (by rw [List.length_range', h1]), rgS _ _ _ _ h1]
  have h := two_S2 (a := a) (c1 := d1) (q := q) (c2 := c2) (post := post) h2
  rw [h1] at h
  exact h
theorem twoT_S {a c1 q c2 post d1 d2 : va_W} (h1 : d1.length = c1.length) (h2 : d2.length = c2.length) : setAll (a ++ (c2 ++ (q ++ (c1 ++ post)))) (twoT_is a q c1 c2) (d1 ++ d2) = a ++ (d2 ++ (q ++ (d1 ++ post))) := by
  rw [twoT_is, setAll_app _ _ _ _ _ (by rw [List.length_range', h1]), two_S2 h1, rgS _ _ _ _ h2]
def two2_at (a _q _c2 : va_W) (j : Nat) : Nat := a.length + j
def twoT_at (a q c2 : va_W) (j : Nat) : Nat := a.length + c2.length + q.length + j
theorem two2_rc {a c1 q c2 post : va_W} {j : Nat} {v : Nat × va_E} (h : c1[j]? = some v) : (a ++ (c1 ++ (q ++ (c2 ++ post))))[two2_at a q c2 j]? = some v := one_rc h
theorem twoT_rc {a c1 q c2 post : va_W} {j : Nat} {v : Nat × va_E} (h : c1[j]? = some v) : (a ++ (c2 ++ (q ++ (c1 ++ post))))[twoT_at a q c2 j]? = some v := by
  have h1 := one_rc (pre := a ++ (c2 ++ q)) (post := post) h
  simp only [List.length_append, List.append_assoc, ← Nat.add_assoc] at h1
  exact h1
section
variable {p : Program} {l : Launch} {e : Env} {R : Room} {s : State} {m : MethodId} {args : Array Value} {below : List Frame} {meth : Method} {c : Code} {H : Heap} {locs : List Loc} {cells slots : Nat} {Q : State → Prop} {pc : Nat} {ls : Array Slot} {st rest : List Value}
variable {cc bytes : ByteArray} {nL maxL index n fr lo mc ms b ci : Nat} {own host : String} {y : MethodName} {ret : Option FieldType} {dC : Nat → ClassId} {dI : Nat → Nat → Nat} {g : Nat → ClassId} {As : List Value} {ws wc wc1 wc2 w1 d1 d2 ws' post : va_W} {A : Nat → Prop} {fs : List Value} {T : u_T} {N : Nat} {rv : Option Value} {Rt : Type} {val : Rt → Option Value} {x : Except String Rt}
theorem cRV1 (F : CF p m c cc nL s args own) (hE : EK dC dI g s) (hX : EX g A s s.heap) (hS : va_S A s.heap H locs) (M : RO l y bytes maxL ret fr lo dC dI g (.ref b :: As) wc rv) (mv : MV y bytes maxL ret n) (hl : Cond.methodLink own index y ∈ lw_U) (hR : fr + 1 ≤ R.frames ∧ 8 + (maxL + 11) + lo ≤ R.locals) (hf : cells ≤ R.cells ∧ slots ≤ R.slots) (hP : va_P (dC, dI) vwCl ws H) (ps : List va_W) (hw : catp ps (wc ++ post) = ws) (j0 : Nat) (h0 : wc[j0]? = some (b, .inr (ci, fs))) (hc : vwCl[ci]? = some (y.cls, T, N)) (hn : As.length = n) (hls : ls.size = nL) (hst : st = As.reverse ++ .ref b :: rest) (hW : (rest.map fun v => v.category).sum ≤ 8) (hdg : decode cc pc = .ok (.invokevirtual index, 3)) (kk : W p l e R s m args below meth c H locs cells slots Q (F0 m (pc + 3) ls (rv.toList ++ rest))) : W p l e R s m args below meth c H locs cells slots Q (F0 m pc ls st) := by
  rw [catp_eq] at hw
  subst hw
  exact cRV F hE hX hS M mv hl hR hf hP (List.range' ps.flatten.length wc.length) (fm_of_map (rgM _ _ _)) (ps.flatten.length + j0) (one_rc h0) hc hn hls hst hW hdg kk
theorem cRV2 (F : CF p m c cc nL s args own) (hE : EK dC dI g s) (hX : EX g A s s.heap) (hS : va_S A s.heap H locs) (M : RO l y bytes maxL ret fr lo dC dI g (.ref b :: As) (wc1 ++ wc2) rv) (mv : MV y bytes maxL ret n) (hl : Cond.methodLink own index y ∈ lw_U) (hR : fr + 1 ≤ R.frames ∧ 8 + (maxL + 11) + lo ≤ R.locals) (hf : cells ≤ R.cells ∧ slots ≤ R.slots) (hP : va_P (dC, dI) vwCl ws H) (ps qs : List va_W) (hw : catp ps (wc1 ++ catp qs (wc2 ++ post)) = ws) (j0 : Nat) (h0 : wc1[j0]? = some (b, .inr (ci, fs))) (hc : vwCl[ci]? = some (y.cls, T, N)) (hn : As.length = n) (hls : ls.size = nL) (hst : st = As.reverse ++ .ref b :: rest) (hW : (rest.map fun v => v.category).sum ≤ 8) (hdg : decode cc pc = .ok (.invokevirtual index, 3)) (kk : W p l e R s m args below meth c H locs cells slots Q (F0 m (pc + 3) ls (rv.toList ++ rest))) : W p l e R s m args below meth c H locs cells slots Q (F0 m pc ls st) := by
  rw [catp_eq, catp_eq] at hw
  subst hw
  exact cRV F hE hX hS M mv hl hR hf hP (two2_is ps.flatten qs.flatten wc1 wc2) (fm_of_map (two2_M ps.flatten wc1 qs.flatten wc2 post)) (two2_at ps.flatten qs.flatten wc2 j0) (two2_rc h0) hc hn hls hst hW hdg kk
theorem cRVT (F : CF p m c cc nL s args own) (hE : EK dC dI g s) (hX : EX g A s s.heap) (hS : va_S A s.heap H locs) (M : RO l y bytes maxL ret fr lo dC dI g (.ref b :: As) (wc1 ++ wc2) rv) (mv : MV y bytes maxL ret n) (hl : Cond.methodLink own index y ∈ lw_U) (hR : fr + 1 ≤ R.frames ∧ 8 + (maxL + 11) + lo ≤ R.locals) (hf : cells ≤ R.cells ∧ slots ≤ R.slots) (hP : va_P (dC, dI) vwCl ws H) (ps qs : List va_W) (hw : catp ps (wc2 ++ catp qs (wc1 ++ post)) = ws) (j0 : Nat) (h0 : wc1[j0]? = some (b, .inr (ci, fs))) (hc : vwCl[ci]? = some (y.cls, T, N)) (hn : As.length = n) (hls : ls.size = nL) (hst : st = As.reverse ++ .ref b :: rest) (hW : (rest.map fun v => v.category).sum ≤ 8) (hdg : decode cc pc = .ok (.invokevirtual index, 3)) (kk : W p l e R s m args below meth c H locs cells slots Q (F0 m (pc + 3) ls (rv.toList ++ rest))) : W p l e R s m args below meth c H locs cells slots Q (F0 m pc ls st) := by
  rw [catp_eq, catp_eq] at hw
  subst hw
  exact cRV F hE hX hS M mv hl hR hf hP (twoT_is ps.flatten qs.flatten wc1 wc2) (fm_of_map (twoT_M ps.flatten wc1 qs.flatten wc2 post)) (twoT_at ps.flatten qs.flatten wc2 j0) (twoT_rc h0) hc hn hls hst hW hdg kk
theorem cRS0 (F : CF p m c cc nL s args own) (hE : EK dC dI g s) (hX : EX g A s s.heap) (hS : va_S A s.heap H locs) (M : RO l y bytes maxL ret fr lo dC dI g (As) [] rv) (mv : MS y bytes maxL ret n) (hl : Cond.methodLink own index y ∈ lw_U) (hR : fr + 1 ≤ R.frames ∧ 8 + (maxL + 11) + lo ≤ R.locals) (hf : cells ≤ R.cells ∧ slots ≤ R.slots) (hP : va_P (dC, dI) vwCl ws H) (hn : As.length = n) (hls : ls.size = nL) (hst : st = As.reverse ++ rest) (hW : (rest.map fun v => v.category).sum ≤ 8) (hdg : decode cc pc = .ok (.invokestatic index, 3)) (kk : W p l e R s m args below meth c H locs cells slots Q (F0 m (pc + 3) ls (rv.toList ++ rest))) : W p l e R s m args below meth c H locs cells slots Q (F0 m pc ls st) := by
  exact cRS F hE hX hS M mv hl hR hf hP [] rfl hn hls hst hW hdg kk
theorem cRS1 (F : CF p m c cc nL s args own) (hE : EK dC dI g s) (hX : EX g A s s.heap) (hS : va_S A s.heap H locs) (M : RO l y bytes maxL ret fr lo dC dI g (As) wc rv) (mv : MS y bytes maxL ret n) (hl : Cond.methodLink own index y ∈ lw_U) (hR : fr + 1 ≤ R.frames ∧ 8 + (maxL + 11) + lo ≤ R.locals) (hf : cells ≤ R.cells ∧ slots ≤ R.slots) (hP : va_P (dC, dI) vwCl ws H) (ps : List va_W) (hw : catp ps (wc ++ post) = ws) (hn : As.length = n) (hls : ls.size = nL) (hst : st = As.reverse ++ rest) (hW : (rest.map fun v => v.category).sum ≤ 8) (hdg : decode cc pc = .ok (.invokestatic index, 3)) (kk : W p l e R s m args below meth c H locs cells slots Q (F0 m (pc + 3) ls (rv.toList ++ rest))) : W p l e R s m args below meth c H locs cells slots Q (F0 m pc ls st) := by
  rw [catp_eq] at hw
  subst hw
  exact cRS F hE hX hS M mv hl hR hf hP (List.range' ps.flatten.length wc.length) (fm_of_map (rgM _ _ _)) hn hls hst hW hdg kk
theorem cRSN0 (F : CF p m c cc nL s args own) (hE : EK dC dI g s) (hX : EX g A s s.heap) (hS : va_S A s.heap H locs) (M : RO l y bytes maxL ret fr lo dC dI g (As) [] rv) (mv : MS y bytes maxL ret n) (hl : Cond.methodLinkNest own index y host ∈ lw_N) (hR : fr + 1 ≤ R.frames ∧ 8 + (maxL + 11) + lo ≤ R.locals) (hf : cells ≤ R.cells ∧ slots ≤ R.slots) (hP : va_P (dC, dI) vwCl ws H) (hn : As.length = n) (hls : ls.size = nL) (hst : st = As.reverse ++ rest) (hW : (rest.map fun v => v.category).sum ≤ 8) (hdg : decode cc pc = .ok (.invokestatic index, 3)) (kk : W p l e R s m args below meth c H locs cells slots Q (F0 m (pc + 3) ls (rv.toList ++ rest))) : W p l e R s m args below meth c H locs cells slots Q (F0 m pc ls st) := by
  exact cRSN F hE hX hS M mv hl hR hf hP [] rfl hn hls hst hW hdg kk
theorem cRSN1 (F : CF p m c cc nL s args own) (hE : EK dC dI g s) (hX : EX g A s s.heap) (hS : va_S A s.heap H locs) (M : RO l y bytes maxL ret fr lo dC dI g (As) wc rv) (mv : MS y bytes maxL ret n) (hl : Cond.methodLinkNest own index y host ∈ lw_N) (hR : fr + 1 ≤ R.frames ∧ 8 + (maxL + 11) + lo ≤ R.locals) (hf : cells ≤ R.cells ∧ slots ≤ R.slots) (hP : va_P (dC, dI) vwCl ws H) (ps : List va_W) (hw : catp ps (wc ++ post) = ws) (hn : As.length = n) (hls : ls.size = nL) (hst : st = As.reverse ++ rest) (hW : (rest.map fun v => v.category).sum ≤ 8) (hdg : decode cc pc = .ok (.invokestatic index, 3)) (kk : W p l e R s m args below meth c H locs cells slots Q (F0 m (pc + 3) ls (rv.toList ++ rest))) : W p l e R s m args below meth c H locs cells slots Q (F0 m pc ls st) := by
  rw [catp_eq] at hw
  subst hw
  exact cRSN F hE hX hS M mv hl hR hf hP (List.range' ps.flatten.length wc.length) (fm_of_map (rgM _ _ _)) hn hls hst hW hdg kk
theorem cMV1 (F : CF p m c cc nL s args own) (hE : EK dC dI g s) (hX : EX g A s s.heap) (M : MU l y bytes maxL ret fr lo mc ms dC dI g (.ref b :: As) wc w1 rv) (mv : MV y bytes maxL ret n) (hl : Cond.methodLink own index y ∈ lw_U) (hR : fr + 1 ≤ R.frames ∧ 8 + (maxL + 11) + lo ≤ R.locals) (hf : cells + mc ≤ R.cells ∧ slots + ms ≤ R.slots) (hP : va_P (dC, dI) vwCl ws H) (hD : va_D A ws) (hS : va_S A s.heap H locs) (hA : ∀ q : Nat, s.heap.size ≤ q → A q) (ps : List va_W) (hw : catp ps (wc ++ post) = ws) (ha : w1.map Prod.fst = wc.map Prod.fst) (hw' : catp ps (w1 ++ post) = ws') (j0 : Nat) (h0 : wc[j0]? = some (b, .inr (ci, fs))) (hc : vwCl[ci]? = some (y.cls, T, N)) (hn : As.length = n) (hls : ls.size = nL) (hst : st = As.reverse ++ .ref b :: rest) (hW : (rest.map fun v => v.category).sum ≤ 8) (hdg : decode cc pc = .ok (.invokevirtual index, 3)) (kk : ∀ (H1 : Heap) (locs1 : List Loc), va_P (dC, dI) vwCl ws' H1 → va_D A ws' → va_S A s.heap H1 locs1 → W p l e R s m args below meth c H1 locs1 (cells + mc) (slots + ms) Q (F0 m (pc + 3) ls (rv.toList ++ rest))) : W p l e R s m args below meth c H locs cells slots Q (F0 m pc ls st) := by
  rw [catp_eq] at hw
  subst hw
  rw [catp_eq] at hw'
  subst hw'
  have hlen : w1.length = wc.length := by have := congrArg List.length ha; simpa using this
  exact cMV F hE hX M mv hl hR hf hP hD hS hA (List.range' ps.flatten.length wc.length) (fm_of_map (rgM _ _ _)) (rgM _ _ _) (nd_of List.nodup_range') ha (rgS _ _ _ _ hlen) (ps.flatten.length + j0) (one_rc h0) hc hn hls hst hW hdg kk
theorem cMV2 (F : CF p m c cc nL s args own) (hE : EK dC dI g s) (hX : EX g A s s.heap) (M : MU l y bytes maxL ret fr lo mc ms dC dI g (.ref b :: As) (wc1 ++ wc2) (d1 ++ d2) rv) (mv : MV y bytes maxL ret n) (hl : Cond.methodLink own index y ∈ lw_U) (hR : fr + 1 ≤ R.frames ∧ 8 + (maxL + 11) + lo ≤ R.locals) (hf : cells + mc ≤ R.cells ∧ slots + ms ≤ R.slots) (hP : va_P (dC, dI) vwCl ws H) (hD : va_D A ws) (hS : va_S A s.heap H locs) (hA : ∀ q : Nat, s.heap.size ≤ q → A q) (ps qs : List va_W) (hw : catp ps (wc1 ++ catp qs (wc2 ++ post)) = ws) (ha1 : d1.map Prod.fst = wc1.map Prod.fst) (ha2 : d2.map Prod.fst = wc2.map Prod.fst) (hw' : catp ps (d1 ++ catp qs (d2 ++ post)) = ws') (j0 : Nat) (h0 : wc1[j0]? = some (b, .inr (ci, fs))) (hc : vwCl[ci]? = some (y.cls, T, N)) (hn : As.length = n) (hls : ls.size = nL) (hst : st = As.reverse ++ .ref b :: rest) (hW : (rest.map fun v => v.category).sum ≤ 8) (hdg : decode cc pc = .ok (.invokevirtual index, 3)) (kk : ∀ (H1 : Heap) (locs1 : List Loc), va_P (dC, dI) vwCl ws' H1 → va_D A ws' → va_S A s.heap H1 locs1 → W p l e R s m args below meth c H1 locs1 (cells + mc) (slots + ms) Q (F0 m (pc + 3) ls (rv.toList ++ rest))) : W p l e R s m args below meth c H locs cells slots Q (F0 m pc ls st) := by
  rw [catp_eq, catp_eq] at hw
  subst hw
  rw [catp_eq, catp_eq] at hw'
  subst hw'
  have hl1 : d1.length = wc1.length := by have := congrArg List.length ha1; simpa using this
  have hl2 : d2.length = wc2.length := by have := congrArg List.length ha2; simpa using this
  have ha : (d1 ++ d2).map Prod.fst = (wc1 ++ wc2).map Prod.fst := by rw [List.map_append, List.map_append, ha1, ha2]
  exact cMV F hE hX M mv hl hR hf hP hD hS hA (two2_is ps.flatten qs.flatten wc1 wc2) (fm_of_map (two2_M ps.flatten wc1 qs.flatten wc2 post)) (two2_M ps.flatten wc1 qs.flatten wc2 post) (two2_nd _ _ _ _) ha (two2_S hl1 hl2) (two2_at ps.flatten qs.flatten wc2 j0) (two2_rc h0) hc hn hls hst hW hdg kk
theorem cMVT (F : CF p m c cc nL s args own) (hE : EK dC dI g s) (hX : EX g A s s.heap) (M : MU l y bytes maxL ret fr lo mc ms dC dI g (.ref b :: As) (wc1 ++ wc2) (d1 ++ d2) rv) (mv : MV y bytes maxL ret n) (hl : Cond.methodLink own index y ∈ lw_U) (hR : fr + 1 ≤ R.frames ∧ 8 + (maxL + 11) + lo ≤ R.locals) (hf : cells + mc ≤ R.cells ∧ slots + ms ≤ R.slots) (hP : va_P (dC, dI) vwCl ws H) (hD : va_D A ws) (hS : va_S A s.heap H locs) (hA : ∀ q : Nat, s.heap.size ≤ q → A q) (ps qs : List va_W) (hw : catp ps (wc2 ++ catp qs (wc1 ++ post)) = ws) (ha1 : d1.map Prod.fst = wc1.map Prod.fst) (ha2 : d2.map Prod.fst = wc2.map Prod.fst) (hw' : catp ps (d2 ++ catp qs (d1 ++ post)) = ws') (j0 : Nat) (h0 : wc1[j0]? = some (b, .inr (ci, fs))) (hc : vwCl[ci]? = some (y.cls, T, N)) (hn : As.length = n) (hls : ls.size = nL) (hst : st = As.reverse ++ .ref b :: rest) (hW : (rest.map fun v => v.category).sum ≤ 8) (hdg : decode cc pc = .ok (.invokevirtual index, 3)) (kk : ∀ (H1 : Heap) (locs1 : List Loc), va_P (dC, dI) vwCl ws' H1 → va_D A ws' → va_S A s.heap H1 locs1 → W p l e R s m args below meth c H1 locs1 (cells + mc) (slots + ms) Q (F0 m (pc + 3) ls (rv.toList ++ rest))) : W p l e R s m args below meth c H locs cells slots Q (F0 m pc ls st) := by
  rw [catp_eq, catp_eq] at hw
  subst hw
  rw [catp_eq, catp_eq] at hw'
  subst hw'
  have hl1 : d1.length = wc1.length := by have := congrArg List.length ha1; simpa using this
  have hl2 : d2.length = wc2.length := by have := congrArg List.length ha2; simpa using this
  have ha : (d1 ++ d2).map Prod.fst = (wc1 ++ wc2).map Prod.fst := by rw [List.map_append, List.map_append, ha1, ha2]
  exact cMV F hE hX M mv hl hR hf hP hD hS hA (twoT_is ps.flatten qs.flatten wc1 wc2) (fm_of_map (twoT_M ps.flatten wc1 qs.flatten wc2 post)) (twoT_M ps.flatten wc1 qs.flatten wc2 post) (twoT_nd _ _ _ _) ha (twoT_S hl1 hl2) (twoT_at ps.flatten qs.flatten wc2 j0) (twoT_rc h0) hc hn hls hst hW hdg kk
theorem cMS0 (F : CF p m c cc nL s args own) (hE : EK dC dI g s) (hX : EX g A s s.heap) (M : MU l y bytes maxL ret fr lo mc ms dC dI g (As) [] [] rv) (mv : MS y bytes maxL ret n) (hl : Cond.methodLink own index y ∈ lw_U) (hR : fr + 1 ≤ R.frames ∧ 8 + (maxL + 11) + lo ≤ R.locals) (hf : cells + mc ≤ R.cells ∧ slots + ms ≤ R.slots) (hP : va_P (dC, dI) vwCl ws H) (hD : va_D A ws) (hS : va_S A s.heap H locs) (hA : ∀ q : Nat, s.heap.size ≤ q → A q) (hn : As.length = n) (hls : ls.size = nL) (hst : st = As.reverse ++ rest) (hW : (rest.map fun v => v.category).sum ≤ 8) (hdg : decode cc pc = .ok (.invokestatic index, 3)) (kk : ∀ (H1 : Heap) (locs1 : List Loc), va_P (dC, dI) vwCl ws H1 → va_D A ws → va_S A s.heap H1 locs1 → W p l e R s m args below meth c H1 locs1 (cells + mc) (slots + ms) Q (F0 m (pc + 3) ls (rv.toList ++ rest))) : W p l e R s m args below meth c H locs cells slots Q (F0 m pc ls st) := by
  exact cMS F hE hX M mv hl hR hf hP hD hS hA [] rfl rfl rfl rfl rfl hn hls hst hW hdg kk
theorem cMS1 (F : CF p m c cc nL s args own) (hE : EK dC dI g s) (hX : EX g A s s.heap) (M : MU l y bytes maxL ret fr lo mc ms dC dI g (As) wc w1 rv) (mv : MS y bytes maxL ret n) (hl : Cond.methodLink own index y ∈ lw_U) (hR : fr + 1 ≤ R.frames ∧ 8 + (maxL + 11) + lo ≤ R.locals) (hf : cells + mc ≤ R.cells ∧ slots + ms ≤ R.slots) (hP : va_P (dC, dI) vwCl ws H) (hD : va_D A ws) (hS : va_S A s.heap H locs) (hA : ∀ q : Nat, s.heap.size ≤ q → A q) (ps : List va_W) (hw : catp ps (wc ++ post) = ws) (ha : w1.map Prod.fst = wc.map Prod.fst) (hw' : catp ps (w1 ++ post) = ws') (hn : As.length = n) (hls : ls.size = nL) (hst : st = As.reverse ++ rest) (hW : (rest.map fun v => v.category).sum ≤ 8) (hdg : decode cc pc = .ok (.invokestatic index, 3)) (kk : ∀ (H1 : Heap) (locs1 : List Loc), va_P (dC, dI) vwCl ws' H1 → va_D A ws' → va_S A s.heap H1 locs1 → W p l e R s m args below meth c H1 locs1 (cells + mc) (slots + ms) Q (F0 m (pc + 3) ls (rv.toList ++ rest))) : W p l e R s m args below meth c H locs cells slots Q (F0 m pc ls st) := by
  rw [catp_eq] at hw
  subst hw
  rw [catp_eq] at hw'
  subst hw'
  have hlen : w1.length = wc.length := by have := congrArg List.length ha; simpa using this
  exact cMS F hE hX M mv hl hR hf hP hD hS hA (List.range' ps.flatten.length wc.length) (fm_of_map (rgM _ _ _)) (rgM _ _ _) (nd_of List.nodup_range') ha (rgS _ _ _ _ hlen) hn hls hst hW hdg kk
theorem cXV1 (F : CF p m c cc nL s args own) (hE : EK dC dI g s) (hX : EX g A s s.heap) (M : MX val l y bytes maxL ret fr lo mc ms dC dI g (.ref b :: As) wc w1 x) (mv : MV y bytes maxL ret n) (hl : Cond.methodLink own index y ∈ lw_U) (hR : fr + 1 ≤ R.frames ∧ 8 + (maxL + 11) + lo ≤ R.locals) (hf : cells + mc ≤ R.cells ∧ slots + ms ≤ R.slots) (hP : va_P (dC, dI) vwCl ws H) (hD : va_D A ws) (hS : va_S A s.heap H locs) (hA : ∀ q : Nat, s.heap.size ≤ q → A q) (ps : List va_W) (hw : catp ps (wc ++ post) = ws) (ha : w1.map Prod.fst = wc.map Prod.fst) (hw' : catp ps (w1 ++ post) = ws') (j0 : Nat) (h0 : wc[j0]? = some (b, .inr (ci, fs))) (hc : vwCl[ci]? = some (y.cls, T, N)) (hn : As.length = n) (hls : ls.size = nL) (hst : st = As.reverse ++ .ref b :: rest) (hW : (rest.map fun v => v.category).sum ≤ 8) (hdg : decode cc pc = .ok (.invokevirtual index, 3)) (kx : ∀ (E : String) (ce : Cell) (q9 : Addr), x = .error E → ∀ (H1 : Heap) (locs1 : List Loc), va_P (dC, dI) vwCl ws' H1 → va_D A ws' → va_S A s.heap H1 locs1 → H1[q9]? = some ce → ce.vm = .none → s.vm.findClass E = some ce.cls → vx_W p l e R s m args below meth c H1 locs1 (cells + mc) (slots + ms) Q (F0 m pc ls rest) q9)
    (kk : ∀ v, x = .ok v → ∀ (H1 : Heap) (locs1 : List Loc), va_P (dC, dI) vwCl ws' H1 → va_D A ws' → va_S A s.heap H1 locs1 → W p l e R s m args below meth c H1 locs1 (cells + mc) (slots + ms) Q (F0 m (pc + 3) ls ((val v).toList ++ rest))) : W p l e R s m args below meth c H locs cells slots Q (F0 m pc ls st) := by
  rw [catp_eq] at hw
  subst hw
  rw [catp_eq] at hw'
  subst hw'
  have hlen : w1.length = wc.length := by have := congrArg List.length ha; simpa using this
  exact cXV F hE hX M mv hl hR hf hP hD hS hA (List.range' ps.flatten.length wc.length) (fm_of_map (rgM _ _ _)) (rgM _ _ _) (nd_of List.nodup_range') ha (rgS _ _ _ _ hlen) (ps.flatten.length + j0) (one_rc h0) hc hn hls hst hW hdg kx kk
theorem cXV2 (F : CF p m c cc nL s args own) (hE : EK dC dI g s) (hX : EX g A s s.heap) (M : MX val l y bytes maxL ret fr lo mc ms dC dI g (.ref b :: As) (wc1 ++ wc2) (d1 ++ d2) x) (mv : MV y bytes maxL ret n) (hl : Cond.methodLink own index y ∈ lw_U) (hR : fr + 1 ≤ R.frames ∧ 8 + (maxL + 11) + lo ≤ R.locals) (hf : cells + mc ≤ R.cells ∧ slots + ms ≤ R.slots) (hP : va_P (dC, dI) vwCl ws H) (hD : va_D A ws) (hS : va_S A s.heap H locs) (hA : ∀ q : Nat, s.heap.size ≤ q → A q) (ps qs : List va_W) (hw : catp ps (wc1 ++ catp qs (wc2 ++ post)) = ws) (ha1 : d1.map Prod.fst = wc1.map Prod.fst) (ha2 : d2.map Prod.fst = wc2.map Prod.fst) (hw' : catp ps (d1 ++ catp qs (d2 ++ post)) = ws') (j0 : Nat) (h0 : wc1[j0]? = some (b, .inr (ci, fs))) (hc : vwCl[ci]? = some (y.cls, T, N)) (hn : As.length = n) (hls : ls.size = nL) (hst : st = As.reverse ++ .ref b :: rest) (hW : (rest.map fun v => v.category).sum ≤ 8) (hdg : decode cc pc = .ok (.invokevirtual index, 3)) (kx : ∀ (E : String) (ce : Cell) (q9 : Addr), x = .error E → ∀ (H1 : Heap) (locs1 : List Loc), va_P (dC, dI) vwCl ws' H1 → va_D A ws' → va_S A s.heap H1 locs1 → H1[q9]? = some ce → ce.vm = .none → s.vm.findClass E = some ce.cls → vx_W p l e R s m args below meth c H1 locs1 (cells + mc) (slots + ms) Q (F0 m pc ls rest) q9)
    (kk : ∀ v, x = .ok v → ∀ (H1 : Heap) (locs1 : List Loc), va_P (dC, dI) vwCl ws' H1 → va_D A ws' → va_S A s.heap H1 locs1 → W p l e R s m args below meth c H1 locs1 (cells + mc) (slots + ms) Q (F0 m (pc + 3) ls ((val v).toList ++ rest))) : W p l e R s m args below meth c H locs cells slots Q (F0 m pc ls st) := by
  rw [catp_eq, catp_eq] at hw
  subst hw
  rw [catp_eq, catp_eq] at hw'
  subst hw'
  have hl1 : d1.length = wc1.length := by have := congrArg List.length ha1; simpa using this
  have hl2 : d2.length = wc2.length := by have := congrArg List.length ha2; simpa using this
  have ha : (d1 ++ d2).map Prod.fst = (wc1 ++ wc2).map Prod.fst := by rw [List.map_append, List.map_append, ha1, ha2]
  exact cXV F hE hX M mv hl hR hf hP hD hS hA (two2_is ps.flatten qs.flatten wc1 wc2) (fm_of_map (two2_M ps.flatten wc1 qs.flatten wc2 post)) (two2_M ps.flatten wc1 qs.flatten wc2 post) (two2_nd _ _ _ _) ha (two2_S hl1 hl2) (two2_at ps.flatten qs.flatten wc2 j0) (two2_rc h0) hc hn hls hst hW hdg kx kk
theorem cXVT (F : CF p m c cc nL s args own) (hE : EK dC dI g s) (hX : EX g A s s.heap) (M : MX val l y bytes maxL ret fr lo mc ms dC dI g (.ref b :: As) (wc1 ++ wc2) (d1 ++ d2) x) (mv : MV y bytes maxL ret n) (hl : Cond.methodLink own index y ∈ lw_U) (hR : fr + 1 ≤ R.frames ∧ 8 + (maxL + 11) + lo ≤ R.locals) (hf : cells + mc ≤ R.cells ∧ slots + ms ≤ R.slots) (hP : va_P (dC, dI) vwCl ws H) (hD : va_D A ws) (hS : va_S A s.heap H locs) (hA : ∀ q : Nat, s.heap.size ≤ q → A q) (ps qs : List va_W) (hw : catp ps (wc2 ++ catp qs (wc1 ++ post)) = ws) (ha1 : d1.map Prod.fst = wc1.map Prod.fst) (ha2 : d2.map Prod.fst = wc2.map Prod.fst) (hw' : catp ps (d2 ++ catp qs (d1 ++ post)) = ws') (j0 : Nat) (h0 : wc1[j0]? = some (b, .inr (ci, fs))) (hc : vwCl[ci]? = some (y.cls, T, N)) (hn : As.length = n) (hls : ls.size = nL) (hst : st = As.reverse ++ .ref b :: rest) (hW : (rest.map fun v => v.category).sum ≤ 8) (hdg : decode cc pc = .ok (.invokevirtual index, 3)) (kx : ∀ (E : String) (ce : Cell) (q9 : Addr), x = .error E → ∀ (H1 : Heap) (locs1 : List Loc), va_P (dC, dI) vwCl ws' H1 → va_D A ws' → va_S A s.heap H1 locs1 → H1[q9]? = some ce → ce.vm = .none → s.vm.findClass E = some ce.cls → vx_W p l e R s m args below meth c H1 locs1 (cells + mc) (slots + ms) Q (F0 m pc ls rest) q9)
    (kk : ∀ v, x = .ok v → ∀ (H1 : Heap) (locs1 : List Loc), va_P (dC, dI) vwCl ws' H1 → va_D A ws' → va_S A s.heap H1 locs1 → W p l e R s m args below meth c H1 locs1 (cells + mc) (slots + ms) Q (F0 m (pc + 3) ls ((val v).toList ++ rest))) : W p l e R s m args below meth c H locs cells slots Q (F0 m pc ls st) := by
  rw [catp_eq, catp_eq] at hw
  subst hw
  rw [catp_eq, catp_eq] at hw'
  subst hw'
  have hl1 : d1.length = wc1.length := by have := congrArg List.length ha1; simpa using this
  have hl2 : d2.length = wc2.length := by have := congrArg List.length ha2; simpa using this
  have ha : (d1 ++ d2).map Prod.fst = (wc1 ++ wc2).map Prod.fst := by rw [List.map_append, List.map_append, ha1, ha2]
  exact cXV F hE hX M mv hl hR hf hP hD hS hA (twoT_is ps.flatten qs.flatten wc1 wc2) (fm_of_map (twoT_M ps.flatten wc1 qs.flatten wc2 post)) (twoT_M ps.flatten wc1 qs.flatten wc2 post) (twoT_nd _ _ _ _) ha (twoT_S hl1 hl2) (twoT_at ps.flatten qs.flatten wc2 j0) (twoT_rc h0) hc hn hls hst hW hdg kx kk
theorem cXS0 (F : CF p m c cc nL s args own) (hE : EK dC dI g s) (hX : EX g A s s.heap) (M : MX val l y bytes maxL ret fr lo mc ms dC dI g (As) [] [] x) (mv : MS y bytes maxL ret n) (hl : Cond.methodLink own index y ∈ lw_U) (hR : fr + 1 ≤ R.frames ∧ 8 + (maxL + 11) + lo ≤ R.locals) (hf : cells + mc ≤ R.cells ∧ slots + ms ≤ R.slots) (hP : va_P (dC, dI) vwCl ws H) (hD : va_D A ws) (hS : va_S A s.heap H locs) (hA : ∀ q : Nat, s.heap.size ≤ q → A q) (hn : As.length = n) (hls : ls.size = nL) (hst : st = As.reverse ++ rest) (hW : (rest.map fun v => v.category).sum ≤ 8) (hdg : decode cc pc = .ok (.invokestatic index, 3)) (kx : ∀ (E : String) (ce : Cell) (q9 : Addr), x = .error E → ∀ (H1 : Heap) (locs1 : List Loc), va_P (dC, dI) vwCl ws H1 → va_D A ws → va_S A s.heap H1 locs1 → H1[q9]? = some ce → ce.vm = .none → s.vm.findClass E = some ce.cls → vx_W p l e R s m args below meth c H1 locs1 (cells + mc) (slots + ms) Q (F0 m pc ls rest) q9)
    (kk : ∀ v, x = .ok v → ∀ (H1 : Heap) (locs1 : List Loc), va_P (dC, dI) vwCl ws H1 → va_D A ws → va_S A s.heap H1 locs1 → W p l e R s m args below meth c H1 locs1 (cells + mc) (slots + ms) Q (F0 m (pc + 3) ls ((val v).toList ++ rest))) : W p l e R s m args below meth c H locs cells slots Q (F0 m pc ls st) := by
  exact cXS F hE hX M mv hl hR hf hP hD hS hA [] rfl rfl rfl rfl rfl hn hls hst hW hdg kx kk
theorem cXS1 (F : CF p m c cc nL s args own) (hE : EK dC dI g s) (hX : EX g A s s.heap) (M : MX val l y bytes maxL ret fr lo mc ms dC dI g (As) wc w1 x) (mv : MS y bytes maxL ret n) (hl : Cond.methodLink own index y ∈ lw_U) (hR : fr + 1 ≤ R.frames ∧ 8 + (maxL + 11) + lo ≤ R.locals) (hf : cells + mc ≤ R.cells ∧ slots + ms ≤ R.slots) (hP : va_P (dC, dI) vwCl ws H) (hD : va_D A ws) (hS : va_S A s.heap H locs) (hA : ∀ q : Nat, s.heap.size ≤ q → A q) (ps : List va_W) (hw : catp ps (wc ++ post) = ws) (ha : w1.map Prod.fst = wc.map Prod.fst) (hw' : catp ps (w1 ++ post) = ws') (hn : As.length = n) (hls : ls.size = nL) (hst : st = As.reverse ++ rest) (hW : (rest.map fun v => v.category).sum ≤ 8) (hdg : decode cc pc = .ok (.invokestatic index, 3)) (kx : ∀ (E : String) (ce : Cell) (q9 : Addr), x = .error E → ∀ (H1 : Heap) (locs1 : List Loc), va_P (dC, dI) vwCl ws' H1 → va_D A ws' → va_S A s.heap H1 locs1 → H1[q9]? = some ce → ce.vm = .none → s.vm.findClass E = some ce.cls → vx_W p l e R s m args below meth c H1 locs1 (cells + mc) (slots + ms) Q (F0 m pc ls rest) q9)
    (kk : ∀ v, x = .ok v → ∀ (H1 : Heap) (locs1 : List Loc), va_P (dC, dI) vwCl ws' H1 → va_D A ws' → va_S A s.heap H1 locs1 → W p l e R s m args below meth c H1 locs1 (cells + mc) (slots + ms) Q (F0 m (pc + 3) ls ((val v).toList ++ rest))) : W p l e R s m args below meth c H locs cells slots Q (F0 m pc ls st) := by
  rw [catp_eq] at hw
  subst hw
  rw [catp_eq] at hw'
  subst hw'
  have hlen : w1.length = wc.length := by have := congrArg List.length ha; simpa using this
  exact cXS F hE hX M mv hl hR hf hP hD hS hA (List.range' ps.flatten.length wc.length) (fm_of_map (rgM _ _ _)) (rgM _ _ _) (nd_of List.nodup_range') ha (rgS _ _ _ _ hlen) hn hls hst hW hdg kx kk
theorem cXSN0 (F : CF p m c cc nL s args own) (hE : EK dC dI g s) (hX : EX g A s s.heap) (M : MX val l y bytes maxL ret fr lo mc ms dC dI g (As) [] [] x) (mv : MS y bytes maxL ret n) (hl : Cond.methodLinkNest own index y host ∈ lw_N) (hR : fr + 1 ≤ R.frames ∧ 8 + (maxL + 11) + lo ≤ R.locals) (hf : cells + mc ≤ R.cells ∧ slots + ms ≤ R.slots) (hP : va_P (dC, dI) vwCl ws H) (hD : va_D A ws) (hS : va_S A s.heap H locs) (hA : ∀ q : Nat, s.heap.size ≤ q → A q) (hn : As.length = n) (hls : ls.size = nL) (hst : st = As.reverse ++ rest) (hW : (rest.map fun v => v.category).sum ≤ 8) (hdg : decode cc pc = .ok (.invokestatic index, 3)) (kx : ∀ (E : String) (ce : Cell) (q9 : Addr), x = .error E → ∀ (H1 : Heap) (locs1 : List Loc), va_P (dC, dI) vwCl ws H1 → va_D A ws → va_S A s.heap H1 locs1 → H1[q9]? = some ce → ce.vm = .none → s.vm.findClass E = some ce.cls → vx_W p l e R s m args below meth c H1 locs1 (cells + mc) (slots + ms) Q (F0 m pc ls rest) q9)
    (kk : ∀ v, x = .ok v → ∀ (H1 : Heap) (locs1 : List Loc), va_P (dC, dI) vwCl ws H1 → va_D A ws → va_S A s.heap H1 locs1 → W p l e R s m args below meth c H1 locs1 (cells + mc) (slots + ms) Q (F0 m (pc + 3) ls ((val v).toList ++ rest))) : W p l e R s m args below meth c H locs cells slots Q (F0 m pc ls st) := by
  exact cXSN F hE hX M mv hl hR hf hP hD hS hA [] rfl rfl rfl rfl rfl hn hls hst hW hdg kx kk
theorem cXSN1 (F : CF p m c cc nL s args own) (hE : EK dC dI g s) (hX : EX g A s s.heap) (M : MX val l y bytes maxL ret fr lo mc ms dC dI g (As) wc w1 x) (mv : MS y bytes maxL ret n) (hl : Cond.methodLinkNest own index y host ∈ lw_N) (hR : fr + 1 ≤ R.frames ∧ 8 + (maxL + 11) + lo ≤ R.locals) (hf : cells + mc ≤ R.cells ∧ slots + ms ≤ R.slots) (hP : va_P (dC, dI) vwCl ws H) (hD : va_D A ws) (hS : va_S A s.heap H locs) (hA : ∀ q : Nat, s.heap.size ≤ q → A q) (ps : List va_W) (hw : catp ps (wc ++ post) = ws) (ha : w1.map Prod.fst = wc.map Prod.fst) (hw' : catp ps (w1 ++ post) = ws') (hn : As.length = n) (hls : ls.size = nL) (hst : st = As.reverse ++ rest) (hW : (rest.map fun v => v.category).sum ≤ 8) (hdg : decode cc pc = .ok (.invokestatic index, 3)) (kx : ∀ (E : String) (ce : Cell) (q9 : Addr), x = .error E → ∀ (H1 : Heap) (locs1 : List Loc), va_P (dC, dI) vwCl ws' H1 → va_D A ws' → va_S A s.heap H1 locs1 → H1[q9]? = some ce → ce.vm = .none → s.vm.findClass E = some ce.cls → vx_W p l e R s m args below meth c H1 locs1 (cells + mc) (slots + ms) Q (F0 m pc ls rest) q9)
    (kk : ∀ v, x = .ok v → ∀ (H1 : Heap) (locs1 : List Loc), va_P (dC, dI) vwCl ws' H1 → va_D A ws' → va_S A s.heap H1 locs1 → W p l e R s m args below meth c H1 locs1 (cells + mc) (slots + ms) Q (F0 m (pc + 3) ls ((val v).toList ++ rest))) : W p l e R s m args below meth c H locs cells slots Q (F0 m pc ls st) := by
  rw [catp_eq] at hw
  subst hw
  rw [catp_eq] at hw'
  subst hw'
  have hlen : w1.length = wc.length := by have := congrArg List.length ha; simpa using this
  exact cXSN F hE hX M mv hl hR hf hP hD hS hA (List.range' ps.flatten.length wc.length) (fm_of_map (rgM _ _ _)) (rgM _ _ _) (nd_of List.nodup_range') ha (rgS _ _ _ _ hlen) hn hls hst hW hdg kx kk
theorem cRVA (F : CF p m c cc nL s args own) (hE : EK dC dI g s) (hX : EX g A s s.heap) (hS : va_S A s.heap H locs) (M : RO l y bytes maxL ret fr lo dC dI g (.ref b :: As) wc rv) (mv : MV y bytes maxL ret n) (hl : Cond.methodLink own index y ∈ lw_U) (hR : fr + 1 ≤ R.frames ∧ 8 + (maxL + 11) + lo ≤ R.locals) (hf : cells ≤ R.cells ∧ slots ≤ R.slots) (hP : va_P (dC, dI) vwCl ws H) (hw : wc = ws) (j0 : Nat) (h0 : wc[j0]? = some (b, .inr (ci, fs))) (hc : vwCl[ci]? = some (y.cls, T, N)) (hn : As.length = n) (hls : ls.size = nL) (hst : st = As.reverse ++ .ref b :: rest) (hW : (rest.map fun v => v.category).sum ≤ 8) (hdg : decode cc pc = .ok (.invokevirtual index, 3)) (kk : W p l e R s m args below meth c H locs cells slots Q (F0 m (pc + 3) ls (rv.toList ++ rest))) : W p l e R s m args below meth c H locs cells slots Q (F0 m pc ls st) := by
  exact cRV1 F hE hX hS M mv hl hR hf hP [] (post := []) (by rw [List.append_nil]; exact hw) j0 h0 hc hn hls hst hW hdg kk
theorem cRSA (F : CF p m c cc nL s args own) (hE : EK dC dI g s) (hX : EX g A s s.heap) (hS : va_S A s.heap H locs) (M : RO l y bytes maxL ret fr lo dC dI g (As) wc rv) (mv : MS y bytes maxL ret n) (hl : Cond.methodLink own index y ∈ lw_U) (hR : fr + 1 ≤ R.frames ∧ 8 + (maxL + 11) + lo ≤ R.locals) (hf : cells ≤ R.cells ∧ slots ≤ R.slots) (hP : va_P (dC, dI) vwCl ws H) (hw : wc = ws) (hn : As.length = n) (hls : ls.size = nL) (hst : st = As.reverse ++ rest) (hW : (rest.map fun v => v.category).sum ≤ 8) (hdg : decode cc pc = .ok (.invokestatic index, 3)) (kk : W p l e R s m args below meth c H locs cells slots Q (F0 m (pc + 3) ls (rv.toList ++ rest))) : W p l e R s m args below meth c H locs cells slots Q (F0 m pc ls st) := by
  exact cRS1 F hE hX hS M mv hl hR hf hP [] (post := []) (by rw [List.append_nil]; exact hw) hn hls hst hW hdg kk
theorem cMVA (F : CF p m c cc nL s args own) (hE : EK dC dI g s) (hX : EX g A s s.heap) (M : MU l y bytes maxL ret fr lo mc ms dC dI g (.ref b :: As) wc w1 rv) (mv : MV y bytes maxL ret n) (hl : Cond.methodLink own index y ∈ lw_U) (hR : fr + 1 ≤ R.frames ∧ 8 + (maxL + 11) + lo ≤ R.locals) (hf : cells + mc ≤ R.cells ∧ slots + ms ≤ R.slots) (hP : va_P (dC, dI) vwCl ws H) (hD : va_D A ws) (hS : va_S A s.heap H locs) (hA : ∀ q : Nat, s.heap.size ≤ q → A q) (hw : wc = ws) (ha : w1.map Prod.fst = wc.map Prod.fst) (hw' : w1 = ws') (j0 : Nat) (h0 : wc[j0]? = some (b, .inr (ci, fs))) (hc : vwCl[ci]? = some (y.cls, T, N)) (hn : As.length = n) (hls : ls.size = nL) (hst : st = As.reverse ++ .ref b :: rest) (hW : (rest.map fun v => v.category).sum ≤ 8) (hdg : decode cc pc = .ok (.invokevirtual index, 3)) (kk : ∀ (H1 : Heap) (locs1 : List Loc), va_P (dC, dI) vwCl ws' H1 → va_D A ws' → va_S A s.heap H1 locs1 → W p l e R s m args below meth c H1 locs1 (cells + mc) (slots + ms) Q (F0 m (pc + 3) ls (rv.toList ++ rest))) : W p l e R s m args below meth c H locs cells slots Q (F0 m pc ls st) := by
  exact cMV1 F hE hX M mv hl hR hf hP hD hS hA [] (post := []) (by rw [List.append_nil]; exact hw) ha (by rw [List.append_nil]; exact hw') j0 h0 hc hn hls hst hW hdg kk
theorem cMSA (F : CF p m c cc nL s args own) (hE : EK dC dI g s) (hX : EX g A s s.heap) (M : MU l y bytes maxL ret fr lo mc ms dC dI g (As) wc w1 rv) (mv : MS y bytes maxL ret n) (hl : Cond.methodLink own index y ∈ lw_U) (hR : fr + 1 ≤ R.frames ∧ 8 + (maxL + 11) + lo ≤ R.locals) (hf : cells + mc ≤ R.cells ∧ slots + ms ≤ R.slots) (hP : va_P (dC, dI) vwCl ws H) (hD : va_D A ws) (hS : va_S A s.heap H locs) (hA : ∀ q : Nat, s.heap.size ≤ q → A q) (hw : wc = ws) (ha : w1.map Prod.fst = wc.map Prod.fst) (hw' : w1 = ws') (hn : As.length = n) (hls : ls.size = nL) (hst : st = As.reverse ++ rest) (hW : (rest.map fun v => v.category).sum ≤ 8) (hdg : decode cc pc = .ok (.invokestatic index, 3)) (kk : ∀ (H1 : Heap) (locs1 : List Loc), va_P (dC, dI) vwCl ws' H1 → va_D A ws' → va_S A s.heap H1 locs1 → W p l e R s m args below meth c H1 locs1 (cells + mc) (slots + ms) Q (F0 m (pc + 3) ls (rv.toList ++ rest))) : W p l e R s m args below meth c H locs cells slots Q (F0 m pc ls st) := by
  exact cMS1 F hE hX M mv hl hR hf hP hD hS hA [] (post := []) (by rw [List.append_nil]; exact hw) ha (by rw [List.append_nil]; exact hw') hn hls hst hW hdg kk
theorem cXVA (F : CF p m c cc nL s args own) (hE : EK dC dI g s) (hX : EX g A s s.heap) (M : MX val l y bytes maxL ret fr lo mc ms dC dI g (.ref b :: As) wc w1 x) (mv : MV y bytes maxL ret n) (hl : Cond.methodLink own index y ∈ lw_U) (hR : fr + 1 ≤ R.frames ∧ 8 + (maxL + 11) + lo ≤ R.locals) (hf : cells + mc ≤ R.cells ∧ slots + ms ≤ R.slots) (hP : va_P (dC, dI) vwCl ws H) (hD : va_D A ws) (hS : va_S A s.heap H locs) (hA : ∀ q : Nat, s.heap.size ≤ q → A q) (hw : wc = ws) (ha : w1.map Prod.fst = wc.map Prod.fst) (hw' : w1 = ws') (j0 : Nat) (h0 : wc[j0]? = some (b, .inr (ci, fs))) (hc : vwCl[ci]? = some (y.cls, T, N)) (hn : As.length = n) (hls : ls.size = nL) (hst : st = As.reverse ++ .ref b :: rest) (hW : (rest.map fun v => v.category).sum ≤ 8) (hdg : decode cc pc = .ok (.invokevirtual index, 3)) (kx : ∀ (E : String) (ce : Cell) (q9 : Addr), x = .error E → ∀ (H1 : Heap) (locs1 : List Loc), va_P (dC, dI) vwCl ws' H1 → va_D A ws' → va_S A s.heap H1 locs1 → H1[q9]? = some ce → ce.vm = .none → s.vm.findClass E = some ce.cls → vx_W p l e R s m args below meth c H1 locs1 (cells + mc) (slots + ms) Q (F0 m pc ls rest) q9)
    (kk : ∀ v, x = .ok v → ∀ (H1 : Heap) (locs1 : List Loc), va_P (dC, dI) vwCl ws' H1 → va_D A ws' → va_S A s.heap H1 locs1 → W p l e R s m args below meth c H1 locs1 (cells + mc) (slots + ms) Q (F0 m (pc + 3) ls ((val v).toList ++ rest))) : W p l e R s m args below meth c H locs cells slots Q (F0 m pc ls st) := by
  exact cXV1 F hE hX M mv hl hR hf hP hD hS hA [] (post := []) (by rw [List.append_nil]; exact hw) ha (by rw [List.append_nil]; exact hw') j0 h0 hc hn hls hst hW hdg kx kk
theorem cXSA (F : CF p m c cc nL s args own) (hE : EK dC dI g s) (hX : EX g A s s.heap) (M : MX val l y bytes maxL ret fr lo mc ms dC dI g (As) wc w1 x) (mv : MS y bytes maxL ret n) (hl : Cond.methodLink own index y ∈ lw_U) (hR : fr + 1 ≤ R.frames ∧ 8 + (maxL + 11) + lo ≤ R.locals) (hf : cells + mc ≤ R.cells ∧ slots + ms ≤ R.slots) (hP : va_P (dC, dI) vwCl ws H) (hD : va_D A ws) (hS : va_S A s.heap H locs) (hA : ∀ q : Nat, s.heap.size ≤ q → A q) (hw : wc = ws) (ha : w1.map Prod.fst = wc.map Prod.fst) (hw' : w1 = ws') (hn : As.length = n) (hls : ls.size = nL) (hst : st = As.reverse ++ rest) (hW : (rest.map fun v => v.category).sum ≤ 8) (hdg : decode cc pc = .ok (.invokestatic index, 3)) (kx : ∀ (E : String) (ce : Cell) (q9 : Addr), x = .error E → ∀ (H1 : Heap) (locs1 : List Loc), va_P (dC, dI) vwCl ws' H1 → va_D A ws' → va_S A s.heap H1 locs1 → H1[q9]? = some ce → ce.vm = .none → s.vm.findClass E = some ce.cls → vx_W p l e R s m args below meth c H1 locs1 (cells + mc) (slots + ms) Q (F0 m pc ls rest) q9)
    (kk : ∀ v, x = .ok v → ∀ (H1 : Heap) (locs1 : List Loc), va_P (dC, dI) vwCl ws' H1 → va_D A ws' → va_S A s.heap H1 locs1 → W p l e R s m args below meth c H1 locs1 (cells + mc) (slots + ms) Q (F0 m (pc + 3) ls ((val v).toList ++ rest))) : W p l e R s m args below meth c H locs cells slots Q (F0 m pc ls st) := by
  exact cXS1 F hE hX M mv hl hR hf hP hD hS hA [] (post := []) (by rw [List.append_nil]; exact hw) ha (by rw [List.append_nil]; exact hw') hn hls hst hW hdg kx kk
end
