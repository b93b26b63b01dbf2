/-! pure layer: spool and order after their verbs, in the class -/
theorem c_k0 {l a : Nat} {pt bu : Nat → Int32} {vv : Option Nat} {vl vf vs : Int32} (h : TX l pt bu) (ha : a < 90) :
    fX6_parseCommand_L22 0 (nI l) pt vv FU 0 (nI a) vl vf vs 0 = some (if mtc l pt a then ((if (rdn l pt 3 (a + 1) 0).1 = 0 then 0 else 1), nI (a + 1 + (rdn l pt 3 (a + 1) 0).1), vv, pt a, (rdn l pt 3 (a + 1) 0).2, vs, 1) else (0, nI a, vv, vl, vf, vs, 0)) := by
  refine (c_22 (k := 0) (i := 0) (fu := 4095) (by omega) (by decide) (by decide)).trans ?_
  rw [show chS (pIx.getD 0 0) 0 = 109 from rfl, c_pm h (by omega), ob]
  by_cases g : mtc l pt a
  · simp only [if_pos g, if_neg (show ¬ (1 : Int32) = 0 by decide)]
    refine (c_22 (k := 0) (i := 1) (fu := 4094) (by omega) (by decide) (by decide)).trans ?_
    rw [show chS (pIx.getD 0 0) 1 = 110 from rfl, c_pn h (by omega), ob]
    by_cases g2 : (rdn l pt 3 (a + 1) 0).1 = 0
    · simp only [if_pos g2]; rfl
    · simp only [if_neg g2, if_neg (show ¬ (1 : Int32) = 0 by decide)]
      exact c_22e (l := l) (k := 0) (fu := 4093) (pt := pt) (vv := vv) (up := nI (a + 1 + (rdn l pt 3 (a + 1) 0).1)) (vl := pt a) (vf := (rdn l pt 3 (a + 1) 0).2) (vs := vs) (vn := 1) (by omega)
  · simp only [if_neg g]; rfl
theorem rdn_le {l : Nat} {T : Nat → Int32} : ∀ (d a : Nat) (v : Int32), (rdn l T d a v).1 ≤ d := by
  intro d
  induction d with
  | zero => intro a v; exact Nat.le_refl _
  | succ d ih =>
    intro a v
    have := ih (a + 1) (10 * v + (T a - 48))
    rw [rdn]
    by_cases g : dgt l T a
    · rw [if_pos g]; show _ + 1 ≤ d + 1; omega
    · rw [if_neg g]; exact Nat.zero_le _
theorem c_k1 {l a b : Nat} {pt bu : Nat → Int32} {vv : Option Nat} {vl vf vs : Int32} (h : TX l pt bu) (ha : a < 90) (hb : b = a + 1 + (rdn l pt 3 (a + 1) 0).1) :
    fX6_parseCommand_L22 1 (nI l) pt vv FU 0 (nI a) vl vf vs 0 = some (if mtc l pt a then (if (rdn l pt 3 (a + 1) 0).1 = 0 then (0, nI b, vv, pt a, (rdn l pt 3 (a + 1) 0).2, vs, 1) else if atc l pt b 64 then ((if (rdn l pt 3 (b + 1) 0).1 = 0 then 0 else 1), nI (b + 1 + (rdn l pt 3 (b + 1) 0).1), vv, pt a, (rdn l pt 3 (a + 1) 0).2, (rdn l pt 3 (b + 1) 0).2, 2) else (0, nI b, vv, pt a, (rdn l pt 3 (a + 1) 0).2, vs, 1)) else (0, nI a, vv, vl, vf, vs, 0)) := by
  have hr := rdn_le (l := l) (T := pt) 3 (a + 1) 0
  refine (c_22 (k := 1) (i := 0) (fu := 4095) (by omega) (by decide) (by decide)).trans ?_
  rw [show chS (pIx.getD 1 0) 0 = 109 from rfl, c_pm h (by omega), ob]
  by_cases g : mtc l pt a
  · simp only [if_pos g, if_neg (show ¬ (1 : Int32) = 0 by decide)]
    refine (c_22 (k := 1) (i := 1) (fu := 4094) (by omega) (by decide) (by decide)).trans ?_
    rw [show chS (pIx.getD 1 0) 1 = 110 from rfl, c_pn h (by omega), ob, ← hb]
    by_cases g2 : (rdn l pt 3 (a + 1) 0).1 = 0
    · simp only [if_pos g2]; rfl
    · simp only [if_neg g2, if_neg (show ¬ (1 : Int32) = 0 by decide)]
      refine (c_22 (k := 1) (i := 2) (fu := 4093) (by omega) (by decide) (by decide)).trans ?_
      rw [show chS (pIx.getD 1 0) 2 = 64 from rfl, c_pa h (by omega), ob]
      by_cases g3 : atc l pt b 64
      · simp only [if_pos g3, if_neg (show ¬ (1 : Int32) = 0 by decide)]
        refine (c_22 (k := 1) (i := 3) (fu := 4092) (by omega) (by decide) (by decide)).trans ?_
        rw [show chS (pIx.getD 1 0) 3 = 110 from rfl, c_pn h (by omega), ob]
        by_cases g4 : (rdn l pt 3 (b + 1) 0).1 = 0
        · simp only [if_pos g4]; rfl
        · simp only [if_neg g4, if_neg (show ¬ (1 : Int32) = 0 by decide)]
          exact c_22e (l := l) (k := 1) (fu := 4091) (pt := pt) (vv := vv) (up := nI (b + 1 + (rdn l pt 3 (b + 1) 0).1)) (vl := pt a) (vf := (rdn l pt 3 (a + 1) 0).2) (vs := (rdn l pt 3 (b + 1) 0).2) (vn := 2) (by omega)
      · simp only [if_neg g3]; rfl
  · simp only [if_neg g]; rfl
