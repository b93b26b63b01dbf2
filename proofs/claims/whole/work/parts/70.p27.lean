/-! pure layer: numbers in the line -/
theorem upd_cm {f : Nat → Int32} {a b : Nat} {x y : Int32} (h : a ≠ b) : upd (upd f a x) b y = upd (upd f b y) a x := by
  funext j
  simp only [upd_e]
  by_cases e1 : j = b
  · rw [if_pos e1, if_neg (show ¬ j = a by omega), if_pos e1]
  · rw [if_neg e1, if_neg e1]
theorem w_I {l q n : Nat} {v ln : Nat → Int32} (h : TS l q v ln) (hl : l + 4 ≤ 190) (hn : n < 6200) :
    ∃ q' v' ln', fapI (nI l) q v (nI n) = some (nI (l + dgn n), q', v') ∧ fX13_writesNumber (nI l) ln (nI n) = some (nI (l + dgn n), ln') ∧ TS (l + dgn n) q' v' ln' := by
  have hd : dgn n ≤ 4 ∧ 1 ≤ dgn n := by unfold dgn; split <;> (try split) <;> (try split) <;> omega
  obtain ⟨q', v', e1, e2, e3, e4, e5⟩ := fens_ok (r := l + dgn n) h.1 (by omega) (by omega)
  have hq : q' ≤ 286 := by unfold caps at e2; omega
  have hb : ∀ j, j < l → ln j = v' j := fun j hj => (h.2 j hj).trans (e5 j hj).symm
  have c0 : fapI (nI l) q v (nI n) = (fJ6_getChars_ba4f3_L22 0 q' FU (-(nI n)) (nI (l + dgn n)) v').bind fun c => some (nI (l + dgn n), q', c.2) := by
    unfold fapI fJ6_getChars_ba4f3
    rw [ssz n hn, ob, nI_add, e1, ob, if_pos (nI_pos' (by omega))]
  have m0 : fX13_writesNumber (nI l) ln (nI n) = if n / 1 ≤ 9 then fX13_writesNumber_L20 (nI n) FU (nI 1) (nI l) ln else fX13_writesNumber_L2 (nI n) (nI l) ln 4095 (nI (1 * 10)) := by
    unfold fX13_writesNumber
    exact m_w2 (P := 1) (k := 4095) hn (by omega) (by omega)
  have z0 : ∀ {k : Nat} {l : Nat} {f : Nat → Int32}, l < 200 → fX13_writesNumber_L20 (nI n) (k + 2) (nI 1) (nI l) f = some (nI (l + 1), upd f l (nI (48 + n % 10))) := fun {k l f} hl => by
    rw [m_w20 (k := k + 1) hn (by omega) (by omega) hl, show 1 / 10 = 0 from rfl, m_w20e, Nat.div_one]
  have z1 : ∀ {k : Nat} {l : Nat} {f : Nat → Int32}, l + 1 < 200 → fX13_writesNumber_L20 (nI n) (k + 3) (nI 10) (nI l) f = some (nI (l + 2), upd (upd f l (nI (48 + n / 10 % 10))) (l + 1) (nI (48 + n % 10))) := fun {k l f} hl => by
    rw [m_w20 (k := k + 2) hn (by omega) (by omega) (by omega), show 10 / 10 = 1 from rfl, z0 hl]
  have z2 : ∀ {k : Nat} {l : Nat} {f : Nat → Int32}, l + 2 < 200 → fX13_writesNumber_L20 (nI n) (k + 4) (nI 100) (nI l) f = some (nI (l + 3), upd (upd (upd f l (nI (48 + n / 100 % 10))) (l + 1) (nI (48 + n / 10 % 10))) (l + 2) (nI (48 + n % 10))) := fun {k l f} hl => by
    rw [m_w20 (k := k + 3) hn (by omega) (by omega) (by omega), show 100 / 10 = 10 from rfl, z1 (by omega)]
  have z3 : ∀ {k : Nat} {l : Nat} {f : Nat → Int32}, l + 3 < 200 → fX13_writesNumber_L20 (nI n) (k + 5) (nI 1000) (nI l) f = some (nI (l + 4), upd (upd (upd (upd f l (nI (48 + n / 1000 % 10))) (l + 1) (nI (48 + n / 100 % 10))) (l + 2) (nI (48 + n / 10 % 10))) (l + 3) (nI (48 + n % 10))) := fun {k l f} hl => by
    rw [m_w20 (k := k + 4) hn (by omega) (by omega) (by omega), show 1000 / 10 = 100 from rfl, z2 (by omega)]
  rw [c0, m0]
  by_cases g1 : n < 10
  · have ed : dgn n = 1 := by unfold dgn; rw [if_pos g1]
    rw [ed] at e3 ⊢
    rw [if_pos (by omega)]
    refine ⟨q', upd v' l (nI (48 + n)), _, ?_, (z0 (k := 4094) (by omega)).trans (by rw [Nat.mod_eq_of_lt g1]), TS_up e2 e3 e4 hb (by omega)⟩
    rw [show fJ6_getChars_ba4f3_L22 0 q' FU (-(nI n)) (nI (l + 1)) v' = _ from c_g1 (k := 4095) g1 e3 (by omega)]; rfl
  · rw [if_neg (by omega), show (1 * 10 : Nat) = 10 from rfl, m_w2 (k := 4094) hn (by omega) (by omega)]
    by_cases g2 : n < 100
    · have ed : dgn n = 2 := by unfold dgn; rw [if_neg g1, if_pos g2]
      rw [ed] at e3 ⊢
      rw [if_pos (by omega)]
      have a1 := TS_up (a := 48 + n / 10 % 10) e2 (show l + 1 ≤ q' by omega) e4 hb (by omega)
      have a2 := TS_up (a := 48 + n % 10) a1.1.1 e3 a1.1.2.2 a1.2 (by omega)
      refine ⟨q', _, _, ?_, z1 (k := 4093) (by omega), a2⟩
      rw [show fJ6_getChars_ba4f3_L22 0 q' FU (-(nI n)) (nI (l + 2)) v' = _ from c_g2 (k := 4095) g2 (by omega) e3 (by omega), ob, upd_cm (show l + 1 ≠ l by omega), show n / 10 % 10 = n / 10 by omega]
    · rw [if_neg (by omega), show (10 * 10 : Nat) = 100 from rfl, m_w2 (k := 4093) hn (by omega) (by omega)]
      by_cases g3 : n < 1000
      · have ed : dgn n = 3 := by unfold dgn; rw [if_neg g1, if_neg g2, if_pos g3]
        rw [ed] at e3 ⊢
        rw [if_pos (by omega)]
        have a1 := TS_up (a := 48 + n / 100 % 10) e2 (show l + 1 ≤ q' by omega) e4 hb (by omega)
        have a2 := TS_up (a := 48 + n / 10 % 10) a1.1.1 (show l + 1 + 1 ≤ q' by omega) a1.1.2.2 a1.2 (by omega)
        have a3 := TS_up (a := 48 + n % 10) a2.1.1 (show l + 2 + 1 ≤ q' by omega) a2.1.2.2 a2.2 (by omega)
        refine ⟨q', _, _, ?_, z2 (k := 4092) (by omega), a3⟩
        have r1 : fJ6_getChars_ba4f3_L22 0 q' FU (-(nI n)) (nI (l + 3)) v' = _ := c_g3 (e := l + 1) (k := 4095) hn (by omega) (by omega) (by omega)
        rw [r1, show fJ6_getChars_ba4f3_L22 0 q' 4095 (-(nI (n / 100))) (nI (l + 1)) _ = _ from c_g1 (k := 4094) (by omega) (by omega) (by omega), ob, show n / 100 % 10 = n / 100 by omega]
        rw [upd_cm (f := v') (show l + 1 + 1 ≠ l + 1 by omega), upd_cm (f := upd v' (l + 1) _) (show l + 1 + 1 ≠ l by omega), upd_cm (f := v') (show l + 1 ≠ l by omega)]
      · have ed : dgn n = 4 := by unfold dgn; rw [if_neg g1, if_neg g2, if_neg g3]
        rw [ed] at e3 ⊢
        rw [if_neg (by omega), show (100 * 10 : Nat) = 1000 from rfl, m_w2 (k := 4092) hn (by omega) (by omega), if_pos (by omega)]
        have a1 := TS_up (a := 48 + n / 1000 % 10) e2 (show l + 1 ≤ q' by omega) e4 hb (by omega)
        have a2 := TS_up (a := 48 + n / 100 % 10) a1.1.1 (show l + 1 + 1 ≤ q' by omega) a1.1.2.2 a1.2 (by omega)
        have a3 := TS_up (a := 48 + n / 10 % 10) a2.1.1 (show l + 2 + 1 ≤ q' by omega) a2.1.2.2 a2.2 (by omega)
        have a4 := TS_up (a := 48 + n % 10) a3.1.1 (show l + 3 + 1 ≤ q' by omega) a3.1.2.2 a3.2 (by omega)
        refine ⟨q', _, _, ?_, z3 (k := 4091) (by omega), a4⟩
        have r1 : fJ6_getChars_ba4f3_L22 0 q' FU (-(nI n)) (nI (l + 4)) v' = _ := c_g3 (e := l + 2) (k := 4095) hn (by omega) (by omega) (by omega)
        rw [r1, show fJ6_getChars_ba4f3_L22 0 q' 4095 (-(nI (n / 100))) (nI (l + 2)) _ = _ from c_g2 (e := l) (k := 4094) (by omega) (by omega) (by omega) (by omega), ob, show n / 100 / 10 = n / 1000 % 10 by omega]
        congr 3
        funext j
        simp only [upd_e]
        by_cases j0 : j = l
        · subst j0
          rw [if_pos rfl, if_neg (show ¬ j = j + 3 by omega), if_neg (show ¬ j = j + 2 by omega), if_neg (show ¬ j = j + 1 by omega), if_pos rfl]
        · rw [if_neg j0]
          by_cases j1 : j = l + 1
          · subst j1
            rw [if_pos rfl, if_neg (show ¬ l + 1 = l + 3 by omega), if_neg (show ¬ l + 1 = l + 2 by omega), if_pos rfl]
          · rw [if_neg j1]
            by_cases j2 : j = l + 2
            · subst j2
              rw [if_pos rfl, if_neg (show ¬ l + 2 = l + 3 by omega), if_pos rfl]
            · rw [if_neg j2]
              by_cases j3 : j = l + 3
              · rw [if_pos (show j = l + 2 + 1 by omega), if_pos j3]
              · rw [if_neg (show ¬ j = l + 2 + 1 by omega), if_neg j3, if_neg j2, if_neg j1, if_neg j0]
