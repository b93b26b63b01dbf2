/-! the law's main loop -/
abbrev WL (g : Nat → ClassId) (A : Nat → Nat) (A1 A2 : Nat → Nat → Nat) (aq o o2 : Nat) (B : Nat → Nat) (u : XT) (f : Nat → Int64) (dd : Nat → UInt64) (v : MT) : va_W := catp [wXt g A A1 A2 aq u, [(o, .inl (g 6, 1, .inr (.inl f)))], [(o2, .inl (g 7, 1, .inr (.inr (.inr (.inl dd)))))], wMt g B v] []
abbrev c16 (x : Int32) : Int32 := (x.toUInt32 % 65536).toInt32
theorem swP {D : va_G} {cl : List vw_C} {a b c d : va_W} {H : Heap} (h : va_P D cl (catp [a, b, c, d] []) H) : va_P D cl (catp [a, c, b, d] []) H := by
  have h : va_P D cl (a ++ (b ++ (c ++ (d ++ [])))) H := h
  exact (apP_l h).app ((apP_l (apP_r (apP_r h))).app ((apP_l (apP_r h)).app (apP_r (apP_r (apP_r h)))))
theorem swD {A : Nat → Prop} {a b c d : va_W} (h : va_D A (catp [a, b, c, d] [])) : va_D A (catp [a, c, b, d] []) := by
  have h : va_D A (a ++ (b ++ (c ++ (d ++ [])))) := h
  have h1 := apD_r h
  have h2 := apD_r h1
  have gt : ∀ {x y : va_W} {j : Nat} {q : Nat × va_E}, (x ++ y)[j]? = some q → (∃ k : Nat, x[k]? = some q) ∨ ∃ k : Nat, y[k]? = some q := by
    intro x y j q hj
    by_cases hl : j < x.length
    · exact Or.inl ⟨j, by rwa [List.getElem?_append_left hl] at hj⟩
    · exact Or.inr ⟨j - x.length, by rwa [List.getElem?_append_right (by omega)] at hj⟩
  have st : ∀ {x y : va_W} {q : Nat × va_E}, ((∃ k : Nat, x[k]? = some q) ∨ ∃ k : Nat, y[k]? = some q) → ∃ k : Nat, (x ++ y)[k]? = some q := by
    intro x y q hq
    rcases hq with ⟨k, hk⟩ | ⟨k, hk⟩
    · exact ⟨k, by rw [List.getElem?_append_left (List.getElem?_eq_some_iff.mp hk).1]; exact hk⟩
    · exact ⟨x.length + k, by rw [List.getElem?_append_right (by omega), Nat.add_sub_cancel_left]; exact hk⟩
  refine (apD_l h).app ((apD_l h2).app ((apD_l h1).app (apD_r h2) (fun i j p q hi hj e => ?_)) (fun i j p q hi hj e => ?_)) (fun i j p q hi hj e => ?_)
  · obtain ⟨k, hk⟩ := st (x := c) (Or.inr ⟨j, hj⟩)
    exact apD_x h1 i k p q hi hk e
  · rcases gt hj with ⟨k, hk⟩ | ⟨k, hk⟩
    · obtain ⟨k2, hk2⟩ := st (y := d ++ []) (Or.inl ⟨i, hi⟩)
      exact apD_x h1 k k2 q p hk hk2 e.symm
    · exact apD_x h2 i k p q hi hk e
  · rcases gt hj with ⟨k, hk⟩ | ⟨k, hk⟩
    · obtain ⟨k2, hk2⟩ := st (x := b) (Or.inr (st (y := d ++ []) (Or.inl ⟨k, hk⟩)))
      exact apD_x h i k2 p q hi hk2 e
    · rcases gt hk with ⟨k3, hk3⟩ | ⟨k3, hk3⟩
      · obtain ⟨k2, hk2⟩ := st (y := c ++ (d ++ [])) (Or.inl ⟨k3, hk3⟩)
        exact apD_x h i k2 p q hi hk2 e
      · obtain ⟨k2, hk2⟩ := st (x := b) (Or.inr (st (x := c) (Or.inr ⟨k3, hk3⟩)))
        exact apD_x h i k2 p q hi hk2 e
/-- a call on an object, of a method that may make a new array -/
theorem cNVx {p : Program} {l : Launch} {e : Env} {R : Room} {s : State} {m : MethodId} {args : Array Value} {below : List Frame} {meth : Method} {c : Code} {H : Heap} {locs : List Loc} {cells slots mc ms : Nat} {Q : State → Prop} {pc : Nat} {ls : Array Slot} {st rest : List Value} {cc bytes : ByteArray} {nL maxL index n fr lo b ci : Nat} {own : String} {y : MethodName} {ret : Option FieldType} {dC : Nat → ClassId} {dI : Nat → Nat → Nat} {g : Nat → ClassId} {As : List Value} {ws wc post : va_W} {A : Nat → Prop} {fs : List Value} {T : u_T} {N : Nat} {W' : BT → va_W} {rvB : BT → Option Value} (F : CF p m c cc nL s args own) (hE : EK dC dI g s) (hX : EX g A s s.heap) (M : MN l y bytes maxL ret fr lo mc ms dC dI g (.ref b :: As) wc W' rvB) (mv : MV y bytes maxL ret n) (hl : Cond.methodLink own index y ∈ lw_U) (hR : fr + 1 ≤ R.frames ∧ 8 + (maxL + 11) + lo ≤ R.locals) (hf : cells + mc ≤ R.cells ∧ slots + ms ≤ R.slots)
    (hP : va_P (dC, dI) vwCl ws H) (hD : va_D A ws) (hS : va_S A s.heap H locs) (hA : ∀ q : Nat, s.heap.size ≤ q → A q) (ps : List va_W) (hw : catp ps (wc ++ post) = ws) (j0 : Nat) (h0 : wc[j0]? = some (b, .inr (ci, fs))) (hc : vwCl[ci]? = some (y.cls, T, N)) (hn : As.length = n) (hls : ls.size = nL) (hst : st = As.reverse ++ .ref b :: rest) (hW : (rest.map fun v => v.category).sum ≤ 8) (hdg : decode cc pc = .ok (.invokevirtual index, 3))
    (kk : ∀ (β : BT) (H1 : Heap) (locs1 : List Loc), va_P (dC, dI) vwCl (catp ps (W' β ++ post)) H1 → va_D A (catp ps (W' β ++ post)) → va_S A s.heap H1 locs1 → W p l e R s m args below meth c H1 locs1 (cells + mc) (slots + ms) Q (F0 m (pc + 3) ls ((rvB β).toList ++ rest))) : W p l e R s m args below meth c H locs cells slots Q (F0 m pc ls st) := by
  rw [catp_eq] at hw
  subst hw
  have hPc := apP_l (apP_r hP)
  have hDc := apD_l (apD_r hD)
  have hXc := exN hX hD hS hA
  unfold MN at M
  refine clMN (a := (.ref b :: As).toArray) (va_runV F (M H.size) ⟨mbB (ws' := lw_U) F mv.1 hl rfl rfl hR, F.2.2.2.2 _ mv.2.1, F.2.2.2.2 _ mv.2.2⟩ ⟨fun a U G mk q => ⟨q.1, q.2.1, q.2.2.1.calling, q.2.2.2.1.calling, q.2.2.2.2⟩, rcv hE hP (one_rc h0) hc, fun U hU hW => ⟨rfl, by rw [hU], hE.warm hW, by rw [hU]; exact hXc.moved hW, by rw [hU]; exact hPc, hDc.weaken (fun _ _ _ _ => trivial)⟩⟩ rfl hn hls hst (lv_room hW) hdg hf) hP hD hS hA (fun β H1 locs1 h1 h2 h3 => kk β H1 locs1 ?_ ?_ h3)
  · rw [catp_eq]; exact h1
  · rw [catp_eq]; exact h2
