/-! pure layer: a whole program, read on both sides -/
theorem c_sk {l a : Nat} {pt : Nat → Int32} {ch : Int32} (hl : l ≤ 60) (ha : a < 1000) : fX6_skip (nI l) (nI a) pt ch = some (if atc l pt a ch then (1, nI (a + 1)) else (0, nI a)) := by
  unfold fX6_skip
  rw [c_isAt hl ha, ob]
  by_cases g : atc l pt a ch
  · rw [if_pos g, if_neg (show ¬ (1 : Int32) = 0 by decide), if_pos g, nI_1]
  · rw [if_neg g, if_pos rfl, if_neg g]
/-- d commands stand from place a on, the class keeps them from number i on -/
def PG (l : Nat) (bu : Nat → Int32) (uK : Nat → CT) : Nat → Nat → Nat → Prop
  | 0, _, _ => False
  | d + 1, i, a => ∃ (e k : Nat) (A0 A1 A2 : Int32), k < 10 ∧ e ≤ l ∧ cAR k A0 A1 A2 (uK i) ∧ (∀ nu : Nat → Int32, ∃ (so : Int32) (nu' : Nat → Int32), fX13_readsCommand (nI l) (nI a) bu nu = some (1, nI e, so, nu') ∧ mAR k A0 A1 A2 so nu') ∧ ((d = 0 ∧ ¬ atc l bu e 59) ∨ (atc l bu e 59 ∧ PG l bu uK d (i + 1) (e + 1)))
theorem va_cs {S : Nat → CT} {k : Nat} {w : CT} : va_up S k w k = w := if_pos rfl
theorem va_cn {S : Nat → CT} {k j : Nat} {w : CT} (h : j ≠ k) : va_up S k w j = S j := if_neg h
theorem parse_L {l : Nat} {pt bu : Nat → Int32} (h : TX l pt bu) : ∀ (d i a fu fm : Nat) (uK : Nat → CT) (so : Int32) (nu : Nat → Int32), i + d = 11 → 6 * i ≤ a → a ≤ l → d < fu → d + 1 < fm →
    ∃ (g : Int32) (e n : Nat) (uK' : Nat → CT), fX6_parseCommands_L2 (nI l) pt fu (nI i) (nI a) (nI i) uK = some (g, nI e, nI n, uK') ∧ e ≤ l ∧ (∃ (so' : Int32) (nu' : Nat → Int32), fX13_readsAll_L7 (nI l) bu fm 1 (nI a) so nu = some (g, nI e, so', nu')) ∧ (∀ j, j < i → uK' j = uK j) ∧ n ≤ 12 ∧ (g = 0 ∨ (g = 1 ∧ ∃ d', n = i + d' ∧ PG l bu uK' d' i a)) := by
  have hl := h.1
  intro d
  induction d with
  | zero => intro i a fu fm uK so nu hi h6 ha _ _; omega
  | succ d ih =>
    intro i a fu fm uK so nu hi h6 ha hfu hfm
    obtain ⟨fu, rfl⟩ : ∃ q, fu = q + 1 := ⟨fu - 1, by omega⟩
    obtain ⟨fm, rfl⟩ : ∃ q, fm = q + 2 := ⟨fm - 2, by omega⟩
    obtain ⟨g, e, k, A0, A1, A2, hk, hg, he, hc, hr⟩ := cmd_at h ha
    obtain ⟨⟨c1, c2, c3, c4, c5⟩, k1, k2⟩ := hc (uK i).1 (uK i).2.1 (uK i).2.2.1 (uK i).2.2.2.1 (uK i).2.2.2.2
    obtain ⟨so', nu', r1, r2⟩ := hr nu
    have eC : fX6_parseCommands_L2 (nI l) pt (fu + 1) (nI i) (nI a) (nI i) uK = if g = 0 then some (0, nI e, nI i, va_up uK i (c1, c2, c3, c4, c5)) else if nI e < nI l then (fX6_skip (nI l) (nI e) pt 59).bind fun z => if z.1 = 0 then some (0, z.2, nI (i + 1), va_up uK i (c1, c2, c3, c4, c5)) else fX6_parseCommands_L2 (nI l) pt fu (nI (i + 1)) z.2 (nI (i + 1)) (va_up uK i (c1, c2, c3, c4, c5)) else some (1, nI e, nI (i + 1), va_up uK i (c1, c2, c3, c4, c5)) := by
      rw [fX6_parseCommands_L2, if_neg (nI_ge (by omega) (by omega)), gd_t (inR_n (by omega) (by omega)), nI_clamp (by omega), k1, ob, nI_1] <;> rfl
    have eM : fX13_readsAll_L7 (nI l) bu (fm + 2) 1 (nI a) so nu = if g = 0 then some (0, nI e, so', nu') else fX13_readsAll_L7 (nI l) bu (fm + 1) (if atc l bu e 59 then (1, nI (e + 1)) else (0, nI e) : Int32 × Int32).1 (if atc l bu e 59 then (1, nI (e + 1)) else (0, nI e) : Int32 × Int32).2 so' nu' := by
      rw [fX13_readsAll_L7, if_neg (show ¬ (1 : Int32) = 0 by decide), r1, ob]
      by_cases q : g = 0
      · rw [if_pos q, if_pos q] <;> rfl
      · rw [if_neg q, if_neg q]
        dsimp only
        rw [m_rd1 hl (by omega) (by decide), ob] <;> rfl
    rw [eC, eM]
    rcases hg with rfl | ⟨rfl, he5⟩
    · rw [if_pos rfl, if_pos rfl]
      exact ⟨0, e, i, _, rfl, he, ⟨_, _, rfl⟩, fun j hj => va_cn (by omega), by omega, Or.inl rfl⟩
    · rw [if_neg (show ¬ (1 : Int32) = 0 by decide), if_neg (show ¬ (1 : Int32) = 0 by decide)]
      by_cases s : atc l bu e 59
      · have s' := (atc_eq h).mpr s
        rw [if_pos (nI_lt s.1 (by omega)), c_sk hl (by omega), if_pos s', ob, if_neg (show ¬ (1 : Int32) = 0 by decide), if_pos s]
        obtain ⟨g2, e2, n, uK', f1, f2, f3, f4, f5, f6⟩ := ih (i + 1) (e + 1) fu (fm + 1) (va_up uK i (c1, c2, c3, c4, c5)) so' nu' (by omega) (by omega) s.1 (by omega) (by omega)
        refine ⟨g2, e2, n, uK', f1, f2, f3, fun j hj => (f4 j (by omega)).trans (va_cn (by omega)), f5, ?_⟩
        rcases f6 with f6 | ⟨f6, d', f7, f8⟩
        · exact Or.inl f6
        · refine Or.inr ⟨f6, d' + 1, by omega, e, k, A0, A1, A2, hk, he, ?_, fun nu => ?_, Or.inr ⟨s, f8⟩⟩
          · rw [f4 i (by omega), va_cs]; exact k2 rfl
          · obtain ⟨x1, x2, x3, x4⟩ := hr nu
            exact ⟨x1, x2, x3, x4 rfl⟩
      · have s' : ¬ atc l pt e 59 := fun u => s ((atc_eq h).mp u)
        rw [if_neg s]
        dsimp only
        rw [fX13_readsAll_L7, if_pos rfl]
        by_cases g : e = l
        · rw [if_neg (nI_nlt (by omega) (by omega)), if_pos (show nI e = nI l by rw [g])]
          refine ⟨1, e, i + 1, _, rfl, he, ⟨_, _, rfl⟩, fun j hj => va_cn (by omega), by omega, Or.inr ⟨rfl, 1, rfl, e, k, A0, A1, A2, hk, he, ?_, fun nu => ?_, Or.inl ⟨rfl, s⟩⟩⟩
          · rw [va_cs]; exact k2 rfl
          · obtain ⟨x1, x2, x3, x4⟩ := hr nu
            exact ⟨x1, x2, x3, x4 rfl⟩
        · rw [if_pos (nI_lt (by omega) (by omega)), c_sk hl (by omega), if_neg s', ob, if_pos (show (0 : Int32) = 0 from rfl), if_neg (fun q => g ((nI_eq (by omega) (by omega)).mp q))]
          exact ⟨0, e, i + 1, _, rfl, he, ⟨_, _, rfl⟩, fun j hj => va_cn (by omega), by omega, Or.inl rfl⟩
/-- the program buffer, parsed by both sides -/
theorem parse_eq {l : Nat} {pt bu : Nat → Int32} (h : TX l pt bu) (uK : Nat → CT) (so : Int32) (nu : Nat → Int32) : ∃ (e n : Nat) (uK' : Nat → CT) (so' : Int32) (nu' : Nat → Int32), e ≤ l ∧ n ≤ 12 ∧
    ((fX6_parse (nI l) pt uK = some (nI e, 0, nI e, nI n, uK') ∧ fX13_readsAll (nI l) so bu nu = some (0, nI e, so', nu')) ∨
    (fX6_parse (nI l) pt uK = some (-1, 0, nI e, nI n, uK') ∧ fX13_readsAll (nI l) so bu nu = some (1, nI e, so', nu') ∧ PG l bu uK' n 0 0)) := by
  obtain ⟨g, e, n, uK', f1, f2, ⟨so', nu', f3⟩, f4, f5, f6⟩ := parse_L h 11 0 0 FU FU uK so nu rfl (Nat.zero_le _) (Nat.zero_le _) (FU_lt (by omega)) (FU_lt (by omega))
  have e1 : fX6_parse (nI l) pt uK = if g = 0 then some (nI e, 0, nI e, nI n, uK') else some (-1, 0, nI e, nI n, uK') := by
    unfold fX6_parse fX6_parseCommands
    rw [show fX6_parseCommands_L2 (nI l) pt FU 0 0 0 uK = _ from f1, ob]
  have e2 : fX13_readsAll (nI l) so bu nu = some (g, nI e, so', nu') := f3
  rcases f6 with rfl | ⟨rfl, d', f7, f8⟩
  · exact ⟨e, n, uK', so', nu', f2, f5, Or.inl ⟨by rw [e1, if_pos rfl], e2⟩⟩
  · have : d' = n := by omega
    subst this
    exact ⟨e, d', uK', so', nu', f2, f5, Or.inr ⟨by rw [e1, if_neg (show ¬ (1 : Int32) = 0 by decide)], e2, f8⟩⟩
