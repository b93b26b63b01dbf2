/-! pure layer: the parts of a command, in the class -/
abbrev mtc (l : Nat) (T : Nat → Int32) (a : Nat) : Prop := a < l ∧ ¬ T a < 97 ∧ ¬ 102 < T a
abbrev rlc (l : Nat) (T : Nat → Int32) (a : Nat) : Prop := a < l ∧ (T a = 98 ∨ T a = 119 ∨ T a = 102)
theorem isMt {l a : Nat} {T : Nat → Int32} : fX12_isMaterial (if a < l then T a else 0) = some (if mtc l T a then 1 else 0) := by
  unfold fX12_isMaterial
  by_cases g : a < l
  · rw [if_pos g]
    by_cases g1 : T a < 97
    · rw [if_pos g1, if_neg (fun q => q.2.1 g1)]
    · rw [if_neg g1]
      by_cases g2 : 102 < T a
      · rw [if_pos g2, if_neg (fun q => q.2.2 g2)]
      · rw [if_neg g2, if_pos ⟨g, g1, g2⟩]
  · rw [if_neg g, if_pos (by decide), if_neg (fun q => g q.1)]
theorem isRl {l a : Nat} {T : Nat → Int32} : fX12_isRule (if a < l then T a else 0) = some (if rlc l T a then 1 else 0) := by
  unfold fX12_isRule
  by_cases g : a < l
  · rw [if_pos g]
    by_cases g1 : T a = 98
    · rw [if_pos g1, if_pos ⟨g, Or.inl g1⟩]
    · rw [if_neg g1]
      by_cases g2 : T a = 119
      · rw [if_pos g2, if_pos ⟨g, Or.inr (Or.inl g2)⟩]
      · rw [if_neg g2]
        by_cases g3 : T a = 102
        · rw [if_pos g3, if_pos ⟨g, Or.inr (Or.inr g3)⟩]
        · rw [if_neg g3, if_neg (fun q => q.2.elim g1 (fun r => r.elim g2 g3))]
  · rw [if_neg g, if_neg (by decide), if_neg (by decide), if_neg (by decide), if_neg (fun q => g q.1)]
theorem c_tlt {l a : Nat} {pt bu : Nat → Int32} (h : TX l pt bu) (ha : a < l) : fX6_takeLetter (nI l) (nI a) pt = some (1, nI (a + 1), pt a) := by
  have hl := h.1
  have h2 := h.2 a ha
  unfold fX6_takeLetter fX2_putLetter
  rw [c_cur h (by omega), ob, if_pos ha, gd_t (by rw [h2.1]; exact h2.2), ob, nI_1]
theorem c_pd {l a : Nat} {pt bu : Nat → Int32} {vl vf vs vn : Int32} (h : TX l pt bu) (ha : a < 100) :
    fX6_parsePart (nI l) (nI a) pt vl vf vs vn 100 = some ((if (rdn l pt 1 a 0).1 = 0 then 0 else 1), nI (a + (rdn l pt 1 a 0).1), vl, pnum vf vs vn (rdn l pt 1 a 0).2) := by
  unfold fX6_parsePart
  rw [if_pos rfl, show (1 : Int32) = nI 1 from rfl, c_tn h (by omega) ha, ob]
  by_cases g : (rdn l pt 1 a 0).1 = 0
  · simp only [if_pos g]; rfl
  · simp only [if_neg g]; rfl
theorem c_pn {l a : Nat} {pt bu : Nat → Int32} {vl vf vs vn : Int32} (h : TX l pt bu) (ha : a < 100) :
    fX6_parsePart (nI l) (nI a) pt vl vf vs vn 110 = some ((if (rdn l pt 3 a 0).1 = 0 then 0 else 1), nI (a + (rdn l pt 3 a 0).1), vl, pnum vf vs vn (rdn l pt 3 a 0).2) := by
  unfold fX6_parsePart
  rw [if_neg (by decide), if_neg (by decide), if_pos rfl, show (3 : Int32) = nI 3 from rfl, c_tn h (by omega) ha, ob]
  by_cases g : (rdn l pt 3 a 0).1 = 0
  · simp only [if_pos g]; rfl
  · simp only [if_neg g]; rfl
theorem c_pm {l a : Nat} {pt bu : Nat → Int32} {vl vf vs vn : Int32} (h : TX l pt bu) (ha : a < 100) :
    fX6_parsePart (nI l) (nI a) pt vl vf vs vn 109 = some (if mtc l pt a then (1, nI (a + 1), pt a, vf, vs, vn) else (0, nI a, vl, vf, vs, vn)) := by
  unfold fX6_parsePart
  rw [if_neg (by decide), if_pos rfl, c_cur h (by omega), ob, isMt, ob]
  by_cases g : mtc l pt a
  · rw [if_pos g, if_neg (show ¬ (1 : Int32) = 0 by decide), c_tlt h g.1, ob, if_neg (show ¬ (1 : Int32) = 0 by decide), if_pos g]
  · rw [if_neg g, if_pos rfl, if_neg g]
theorem c_pr {l a : Nat} {pt bu : Nat → Int32} {vl vf vs vn : Int32} (h : TX l pt bu) (ha : a < 100) :
    fX6_parsePart (nI l) (nI a) pt vl vf vs vn 114 = some (if rlc l pt a then (1, nI (a + 1), pt a, vf, vs, vn) else (0, nI a, vl, vf, vs, vn)) := by
  unfold fX6_parsePart
  rw [if_neg (by decide), if_neg (by decide), if_neg (by decide), if_pos rfl, c_cur h (by omega), ob, isRl, ob]
  by_cases g : rlc l pt a
  · rw [if_pos g, if_neg (show ¬ (1 : Int32) = 0 by decide), c_tlt h g.1, ob, if_neg (show ¬ (1 : Int32) = 0 by decide), if_pos g]
  · rw [if_neg g, if_pos rfl, if_neg g]
theorem c_pa {l a : Nat} {pt bu : Nat → Int32} {vl vf vs vn : Int32} (h : TX l pt bu) (ha : a < 100) :
    fX6_parsePart (nI l) (nI a) pt vl vf vs vn 64 = some (if atc l pt a 64 then (1, nI (a + 1), vl, vf, vs, vn) else (0, nI a, vl, vf, vs, vn)) := by
  unfold fX6_parsePart fX6_skip
  rw [if_neg (by decide), if_neg (by decide), if_neg (by decide), if_neg (by decide), c_isAt h.1 (by omega), ob]
  by_cases g : atc l pt a 64
  · rw [if_pos g, if_neg (show ¬ (1 : Int32) = 0 by decide), ob, if_pos g, nI_1]; rfl
  · rw [if_neg g, if_pos rfl, ob, if_neg g]; rfl
