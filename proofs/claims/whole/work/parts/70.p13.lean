/-! pure layer: fill and fillDue -/
theorem WR_m {b : Nat} {w : WT} {x : Nat → Int32} (h : WR b w x) : ∃ m, wt_oNn w = nI m ∧ m ≤ 12 ∧ x 2 = nI m ∧ (∀ j, j < m → wt_oNf w j = x (73 + 4 * j) ∧ wt_oDf w j = x (76 + 4 * j)) ∧ (∀ i j, i < j → j < m → wt_oDf w i ≤ wt_oDf w j) ∧ wt_oDn w = nI m := by
  obtain ⟨n, s, m, o, c, k, l, r, ac, N, M, L, K, cM, cL, T, oN, oM, oL, oD, W, D, A, rfl, h1, h2, h3, h4, h5, h6, h7, h8, h9, h10⟩ := h
  refine ⟨m, rfl, h2.1, h2.2.1, fun j hj => ⟨(h2.2.2.2.1 j hj).1.symm, (h2.2.2.2.1 j hj).2.2.2.symm⟩, fun i j hi hj => ?_, rfl⟩
  rcases h2.2.2.2.2.2 i j hi hj with q | q
  · exact Int32.le_of_lt q
  · show oD i ≤ oD j
    rw [q.1]; exact Int32.le_refl _
theorem un_fo (w : WT) (p : Int32) : hX11_fillOrder w p = (fX11_openOrder (wt_oNn w) (wt_oNf w) p).bind fun z1 => exC z1 (fun e => some (.error e, w)) fun v3 => (hX11_isFillable w v3).bind fun z6 => if z6 = 0 then some (.error "java/lang/UnsupportedOperationException", w) else (hX11_fillAt w v3).bind fun z => some (.ok z.1, z.2) := by
  unfold hX11_fillOrder fX11_fillOrder
  cases fX11_openOrder (wt_oNn w) (wt_oNf w) p with
  | none => rfl
  | some z1 =>
    rw [ob, ob]
    cases z1 with
    | error e => rfl
    | ok v3 =>
      rw [exO, exO]
      show ((hX11_isFillable w v3).bind _).bind _ = _
      cases hX11_isFillable w v3 with
      | none => rfl
      | some z6 =>
        rw [ob, ob]
        by_cases h : z6 = 0
        · rw [if_pos h, if_pos h]; rfl
        · rw [if_neg h, if_neg h]
          unfold hX11_fillAt
          generalize fX11_fillAt _ _ _ _ _ _ _ _ _ _ _ _ _ _ _ _ _ _ _ _ _ _ _ _ _ _ _ _ _ _ _ = z
          cases z <;> rfl
theorem pl_W {b : Nat} {w : WT} {x : Nat → Int32} (h : WR b w x) (p : Int32) : ∃ m, wt_oNn w = nI m ∧ m ≤ 12 ∧ fX13_orderPlace x p = some (oI (fnd (fun j => wt_oNf w j = p) m 0)) ∧ fX11_openOrder (wt_oNn w) (wt_oNf w) p = some (match fnd (fun j => wt_oNf w j = p) m 0 with | none => .error "java/util/NoSuchElementException" | some i => .ok (nI i)) := by
  obtain ⟨n, s, m, o, c, k, l, r, ac, N, M, L, K, cM, cL, T, oN, oM, oL, oD, W, D, A, rfl, h1, h2, h3, h4, h5, h6, h7, h8, h9, h10⟩ := h
  exact ⟨m, rfl, h2.1, pl_O h2 p, ex_O h2.1⟩
theorem S_fil {b : Nat} {w : WT} {x : Nat → Int32} (h : WR b w x) (p : Int32) :
    SIM b w ["java/util/NoSuchElementException", "java/lang/UnsupportedOperationException"] (hX11_fillOrder w p) (fX13_notFill x p) ((fX13_orderPlace x p).bind fun z => fX13_fillsAt x z) := by
  obtain ⟨m, hm, hm2, e1, e2⟩ := pl_W h p
  rw [un_fo]
  unfold fX13_notFill
  rw [e1, e2, ob, ob, ob]
  cases e : fnd (fun j => wt_oNf w j = p) m 0 with
  | none => exact Or.inl ⟨_, 1, rfl, rfl, by decide, kxN⟩
  | some i =>
    obtain ⟨_, hi, _, _⟩ := fnd_some _ _ _ e
    rw [Nat.zero_add] at hi
    rw [oI_s]
    dsimp only
    rw [exO, if_pos (nI_pos' (by omega))]
    rcases S_fa h hm hm2 hi with ⟨k1, k2⟩ | ⟨k1, k2, v, w', x', k3, k4, k5, _⟩
    · rw [k1, k2, ob, ob, if_pos rfl, if_pos rfl]
      refine Or.inl ⟨_, 2, rfl, rfl, by decide, ?_⟩
      decide
    · rw [k1, k2, ob, ob, if_neg (by decide), if_neg (by decide), k3, ob, k4]
      exact Or.inr ⟨v, w', x', rfl, rfl, rfl, k5⟩
theorem un_fu0 (w : WT) (p : Int32) : hX11_fillUntil w p = (fX11_requireDay p).bind fun z1 => exC z1 (fun e => some (.error e, w)) fun _ => hfu p (wt_oNn w) FU 0 0 w := by
  unfold hX11_fillUntil fX11_fillUntil
  cases fX11_requireDay p with
  | none => rfl
  | some z1 =>
    rw [ob, ob]
    cases z1 <;> rfl
theorem un_fu (d m0 : Int32) (k : Nat) (x3 x4 : Int32) (w : WT) : hfu d m0 (k + 1) x3 x4 w = if m0 ≤ x4 then some (.ok (m0 - wt_oNn w), w) else (fX5_dueAt (wt_oDn w) (wt_oDf w) x3).bind fun z11 => if d < z11 then hfu d m0 k (x3 + 1) (x4 + 1) w else (hX11_isFillable w x3).bind fun z14 => if z14 = 0 then hfu d m0 k (x3 + 1) (x4 + 1) w else (hX11_fillAt w x3).bind fun z => hfu d m0 k x3 (x4 + 1) z.2 := by
  unfold hfu
  rw [fX11_fillUntil_L17]
  by_cases h : m0 ≤ x4
  · rw [if_pos h, if_pos h]; rfl
  · rw [if_neg h, if_neg h]
    cases fX5_dueAt (wt_oDn w) (wt_oDf w) x3 with
    | none => rfl
    | some z11 =>
      rw [ob, ob]
      by_cases h2 : d < z11
      · rw [if_pos h2, if_pos h2]
      · rw [if_neg h2, if_neg h2]
        show ((hX11_isFillable w x3).bind _).bind _ = _
        cases hX11_isFillable w x3 with
        | none => rfl
        | some z6 =>
          rw [ob, ob]
          by_cases h : z6 = 0
          · rw [if_pos h, if_pos h]
          · rw [if_neg h, if_neg h]
            unfold hX11_fillAt
            generalize fX11_fillAt _ _ _ _ _ _ _ _ _ _ _ _ _ _ _ _ _ _ _ _ _ _ _ _ _ _ _ _ _ _ _ = z
            cases z <;> rfl
theorem fu_skip {b m : Nat} {w : WT} {x : Nat → Int32} {p : Int32} {m0 : Nat} (h : WR b w x) (hm : wt_oNn w = nI m) (hm2 : m ≤ 12) (hm0 : m0 ≤ 12) (hmm : m ≤ m0) : ∀ (d k i : Nat), d < k → i + d = m → (∀ j, i ≤ j → j < m → p < wt_oDf w j) →
    hfu p (nI m0) k (nI i) (nI (m0 - d)) w = some (.ok (nI (m0 - m)), w) := by
  intro d
  induction d with
  | zero =>
    intro k i hk hi hd
    obtain ⟨k, rfl⟩ : ∃ q, k = q + 1 := ⟨k - 1, by omega⟩
    rw [un_fu, if_pos (nI_le (by omega) (by omega)), hm, pk_sub hmm]
  | succ d ih =>
    intro k i hk hi hd
    obtain ⟨k, rfl⟩ : ∃ q, k = q + 1 := ⟨k - 1, by omega⟩
    obtain ⟨m', q1, q2, q3, q4, q5, q6⟩ := WR_m h
    have hmm' : m = m' := (nI_eq (by omega) (by omega)).mp (hm.symm.trans q1)
    subst hmm'
    rw [un_fu, if_neg (nI_ge (by omega) (by omega)), fX5_dueAt, q6, row_get (by omega) hm2 (by omega), ob, ob, if_pos (hd i (Nat.le_refl _) (by omega)), nI_1, nI_1, show m0 - (d + 1) + 1 = m0 - d by omega]
    exact ih k (i + 1) (by omega) (by omega) (fun j j1 j2 => hd j (by omega) j2)
theorem fu_L {b : Nat} {p : Int32} {m0 : Nat} (hm0 : m0 ≤ 12) : ∀ (d k1 k2 i m : Nat) (w : WT) (x : Nat → Int32), d < k1 → d < k2 → WR b w x → wt_oNn w = nI m → m ≤ m0 → i + d = m →
    ∃ v w' x', hfu p (nI m0) k1 (nI i) (nI (m0 - d)) w = some (.ok v, w') ∧ fX13_fillsDue_L4 p k2 (nI (m0 - m)) (nI i) x = some (v, x') ∧ WR b w' x' := by
  intro d
  induction d with
  | zero =>
    intro k1 k2 i m w x hk1 hk2 h hm hmm hi
    obtain ⟨k2, rfl⟩ : ∃ q, k2 = q + 1 := ⟨k2 - 1, by omega⟩
    obtain ⟨m', q1, q2, q3, q4, q5, q6⟩ := WR_m h
    have hmm' : m = m' := (nI_eq (by omega) (by omega)).mp (hm.symm.trans q1)
    subst hmm'
    refine ⟨nI (m0 - m), w, x, fu_skip h hm q2 hm0 hmm 0 k1 i hk1 hi (fun j j1 j2 => by omega), ?_, h⟩
    rw [fX13_fillsDue_L4, q3, if_pos (nI_le (by omega) (by omega))]
  | succ d ih =>
    intro k1 k2 i m w x hk1 hk2 h hm hmm hi
    obtain ⟨k2, rfl⟩ : ∃ q, k2 = q + 1 := ⟨k2 - 1, by omega⟩
    obtain ⟨m', q1, q2, q3, q4, q5, q6⟩ := WR_m h
    have hmm' : m = m' := (nI_eq (by omega) (by omega)).mp (hm.symm.trans q1)
    subst hmm'
    have hdi := (q4 i (by omega)).2
    rw [fX13_fillsDue_L4, q3, if_neg (nI_ge (by omega) (by omega)), m_or3 (by omega), ob, ← hdi]
    by_cases g : p < wt_oDf w i
    · rw [if_pos g]
      refine ⟨nI (m0 - m), w, x, fu_skip h hm q2 hm0 hmm (d + 1) k1 i hk1 hi (fun j j1 j2 => ?_), rfl, h⟩
      by_cases e : j = i
      · subst e; exact g
      · exact Int32.lt_of_lt_of_le g (q5 i j (by omega) j2)
    · rw [if_neg g]
      obtain ⟨k1, rfl⟩ : ∃ q, k1 = q + 1 := ⟨k1 - 1, by omega⟩
      rw [un_fu, if_neg (nI_ge (by omega) (by omega)), fX5_dueAt, q6, row_get (by omega) q2 (by omega), ob, ob, if_neg g]
      rcases S_fa h hm q2 (show i < m by omega) with ⟨r1, r2⟩ | ⟨r1, r2, v, w', x', r3, r4, r5, r6⟩
      · rw [r1, r2, ob, ob, if_pos rfl, if_pos rfl, nI_1, nI_1, show m0 - (d + 1) + 1 = m0 - d by omega]
        exact ih k1 k2 (i + 1) m w x (by omega) (by omega) h hm hmm (by omega)
      · rw [r1, r2, ob, ob, if_neg (by decide), if_neg (by decide), r3, r4, ob, ob, nI_1, nI_1, show m0 - (d + 1) + 1 = m0 - d by omega, show m0 - m + 1 = m0 - (m - 1) by omega]
        exact ih k1 k2 i (m - 1) w' x' (by omega) (by omega) r5 r6 (by omega) (by omega)
theorem S_due {b : Nat} {w : WT} {x : Nat → Int32} (h : WR b w x) (p : Int32) :
    SIM b w ["java/lang/IllegalArgumentException"] (hX11_fillUntil w p) (fX13_notDue p) (fX13_fillsDue x p) := by
  obtain ⟨m, q1, q2, q3, q4, q5, q6⟩ := WR_m h
  rw [un_fu0]
  unfold fX11_requireDay fX13_notDue
  rw [btw, ob]
  by_cases g1 : p < 1
  · rw [if_pos g1, if_pos g1]
    exact Or.inl ⟨_, 1, rfl, rfl, by decide, kxI⟩
  · rw [if_neg g1, if_neg g1]
    by_cases g2 : 99 < p
    · rw [if_neg (Int32.not_le.mpr g2), if_pos g2]
      exact Or.inl ⟨_, 1, rfl, rfl, by decide, kxI⟩
    · rw [if_pos (Int32.not_lt.mp g2), if_neg g2, ob, exO, q1]
      obtain ⟨v, w', x', r1, r2, r3⟩ := fu_L (p := p) q2 m FU FU 0 m w x (FU_lt (by omega)) (FU_lt (by omega)) h q1 (Nat.le_refl _) (by omega)
      rw [Nat.sub_self] at r1 r2
      exact Or.inr ⟨v, w', x', r1, rfl, r2, r3⟩
