/-! pure layer: a command after its verb, in the class -/
def pL (k : Nat) : Nat := stL.getD (pIx.getD k 0) 0
theorem c_22 {l k i fu : Nat} {pt : Nat → Int32} {vv : Option Nat} {up vl vf vs vn : Int32} (hk : k < 10) (hi : i < pL k) (hp : pL k ≤ 4) :
    fX6_parseCommand_L22 k (nI l) pt vv (fu + 1) (nI i) up vl vf vs vn = (fX6_parsePart (nI l) up pt vl vf vs vn (chS (pIx.getD k 0) i)).bind fun z => if z.1 = 0 then some (0, z.2.1, vv, z.2.2.1, z.2.2.2.1, z.2.2.2.2.1, z.2.2.2.2.2) else fX6_parseCommand_L22 k (nI l) pt vv fu (nI (i + 1)) z.2.1 z.2.2.1 z.2.2.2.1 z.2.2.2.2.1 z.2.2.2.2.2 := by
  have hp' : stL.getD (pIx.getD k 0) 0 ≤ 4 := hp
  have hi' : i < stL.getD (pIx.getD k 0) 0 := hi
  rw [fX6_parseCommand_L22, gd_t (show ltN k 10 = true from decide_eq_true hk), if_neg (nI_ge hi' (by omega)), gd_t (show ltN k 10 = true from decide_eq_true hk), gd_t (inR_n hi' (by omega)), nI_clamp (by omega), nI_1]
theorem c_22e {l k fu : Nat} {pt : Nat → Int32} {vv : Option Nat} {up vl vf vs vn : Int32} (hk : k < 10) :
    fX6_parseCommand_L22 k (nI l) pt vv (fu + 1) (nI (pL k)) up vl vf vs vn = some (1, up, vv, vl, vf, vs, vn) := by
  rw [fX6_parseCommand_L22, gd_t (show ltN k 10 = true from decide_eq_true hk), if_pos (show nI (stL.getD (pIx.getD k 0) 0) ≤ nI (pL k) from Int32.le_refl _)]
/-- a number alone -/
theorem c_k5 {l a k : Nat} {pt bu : Nat → Int32} {vv : Option Nat} {vl vf vs : Int32} (h : TX l pt bu) (ha : a < 100) (hk : k < 10) (hp : pIx.getD k 0 = 5) :
    fX6_parseCommand_L22 k (nI l) pt vv FU 0 (nI a) vl vf vs 0 = some ((if (rdn l pt 3 a 0).1 = 0 then 0 else 1), nI (a + (rdn l pt 3 a 0).1), vv, vl, (rdn l pt 3 a 0).2, vs, 1) := by
  have hL : pL k = 1 := by unfold pL; rw [hp]; rfl
  refine (c_22 (i := 0) (fu := 4095) hk (by omega) (by omega)).trans ?_
  rw [hp, show chS 5 0 = 110 from rfl, c_pn h ha, ob]
  by_cases g : (rdn l pt 3 a 0).1 = 0
  · simp only [if_pos g]; rfl
  · simp only [if_neg g, if_neg (show ¬ (1 : Int32) = 0 by decide)]
    have := c_22e (l := l) (k := k) (fu := 4094) (pt := pt) (vv := vv) (up := nI (a + (rdn l pt 3 a 0).1)) (vl := vl) (vf := (rdn l pt 3 a 0).2) (vs := vs) (vn := 1) hk
    rw [hL] at this
    exact this
theorem c_k7 {l a : Nat} {pt bu : Nat → Int32} {vv : Option Nat} {vl vf vs : Int32} (h : TX l pt bu) (ha : a < 100) :
    fX6_parseCommand_L22 7 (nI l) pt vv FU 0 (nI a) vl vf vs 0 = some ((if (rdn l pt 1 a 0).1 = 0 then 0 else 1), nI (a + (rdn l pt 1 a 0).1), vv, vl, (rdn l pt 1 a 0).2, vs, 1) := by
  refine (c_22 (k := 7) (i := 0) (fu := 4095) (by omega) (by decide) (by decide)).trans ?_
  rw [show chS (pIx.getD 7 0) 0 = 100 from rfl, c_pd h ha, ob]
  by_cases g : (rdn l pt 1 a 0).1 = 0
  · simp only [if_pos g]; rfl
  · simp only [if_neg g, if_neg (show ¬ (1 : Int32) = 0 by decide)]
    exact c_22e (l := l) (k := 7) (fu := 4094) (pt := pt) (vv := vv) (up := nI (a + (rdn l pt 1 a 0).1)) (vl := vl) (vf := (rdn l pt 1 a 0).2) (vs := vs) (vn := 1) (by omega)
theorem c_k6 {l a : Nat} {pt bu : Nat → Int32} {vv : Option Nat} {vl vf vs : Int32} (h : TX l pt bu) (ha : a < 100) :
    fX6_parseCommand_L22 6 (nI l) pt vv FU 0 (nI a) vl vf vs 0 = some (if mtc l pt a then (1, nI (a + 1), vv, pt a, vf, vs, 0) else (0, nI a, vv, vl, vf, vs, 0)) := by
  refine (c_22 (k := 6) (i := 0) (fu := 4095) (by omega) (by decide) (by decide)).trans ?_
  rw [show chS (pIx.getD 6 0) 0 = 109 from rfl, c_pm h ha, ob]
  by_cases g : mtc l pt a
  · simp only [if_pos g, if_neg (show ¬ (1 : Int32) = 0 by decide)]
    exact c_22e (l := l) (k := 6) (fu := 4094) (pt := pt) (vv := vv) (up := nI (a + 1)) (vl := pt a) (vf := vf) (vs := vs) (vn := 0) (by omega)
  · simp only [if_neg g]; rfl
theorem c_k9 {l a : Nat} {pt bu : Nat → Int32} {vv : Option Nat} {vl vf vs : Int32} (h : TX l pt bu) (ha : a < 100) :
    fX6_parseCommand_L22 9 (nI l) pt vv FU 0 (nI a) vl vf vs 0 = some (if rlc l pt a then (1, nI (a + 1), vv, pt a, vf, vs, 0) else (0, nI a, vv, vl, vf, vs, 0)) := by
  refine (c_22 (k := 9) (i := 0) (fu := 4095) (by omega) (by decide) (by decide)).trans ?_
  rw [show chS (pIx.getD 9 0) 0 = 114 from rfl, c_pr h ha, ob]
  by_cases g : rlc l pt a
  · simp only [if_pos g, if_neg (show ¬ (1 : Int32) = 0 by decide)]
    exact c_22e (l := l) (k := 9) (fu := 4094) (pt := pt) (vv := vv) (up := nI (a + 1)) (vl := pt a) (vf := vf) (vs := vs) (vn := 0) (by omega)
  · simp only [if_neg g]; rfl
