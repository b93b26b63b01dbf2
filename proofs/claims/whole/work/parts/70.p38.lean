/-! pure layer: the reference's commands as a tree of letters -/
theorem m_step {β : Type} {l a : Nat} {bu : Nat → Int32} {ch : Int32} {X K : Int32 × Int32 → Option β} (hl : l ≤ 60) (ha : a < 1000) (hc : ch ≠ -1) :
    ((fX13_reads (nI l) (nI a) bu ch).bind fun z => if z.1 = 0 then X z else K z) = if atc l bu a ch then K (1, nI (a + 1)) else X (0, nI a) := by
  rw [m_rd1 hl ha hc, ob]
  by_cases g : atc l bu a ch
  · simp only [if_pos g, if_neg (show ¬ (1 : Int32) = 0 by decide)]
  · simp only [if_neg g, if_true]
theorem m_nst {β : Type} {l s a : Nat} {bu nu : Nat → Int32} {X K : Int32 × Int32 × (Nat → Int32) → Option β} (hl : l ≤ 60) (hs : s < 3) (ha : a < 100) :
    ((fX13_readsNumber (nI l) (nI a) bu nu (nI s)).bind fun z => if z.1 = 0 then X z else K z) = if (rdn l bu 3 a 0).1 = 0 then X (0, nI a, nu) else K (1, nI (a + (rdn l bu 3 a 0).1), upd nu s (rdn l bu 3 a 0).2) := by
  rw [m_rn hl hs ha, ob]
  by_cases g : (rdn l bu 3 a 0).1 = 0
  · simp only [if_pos g, if_true]
  · simp only [if_neg g, if_neg (show ¬ (1 : Int32) = 0 by decide)]
