/-! pure layer: the reference's commands as a tree of letters -/
theorem m_step {β : Type} {l a : Nat} {bu : Nat → Int32} {ch : Int32} {X K : Int32 × Int32 → Option β} (hl : l ≤ 60) (ha : a < 1000) (hc : ch ≠ -1) :
    ((fX13_reads (nI l) (nI a) bu ch).bind fun z => if z.1 = 0 then X z else K z) = if atc l bu a ch then K (1, nI (a + 1)) else X (0, nI a) := by
  rw [m_rd1 hl ha hc, ob]
  by_cases g : atc l bu a ch
  · simp only [if_pos g, if_neg (show ¬ (1 : Int32) = 0 by decide)]
  · simp only [if_neg g, if_true]
theorem m_nst {β : Type} {l s a : Nat} {bu nu : Nat → Int32} {X K : Int32 × Int32 × (Nat → Int32) → Option β} (hl : l ≤ 60) (hs : s < 3) (ha : a < 100) :
    ((fX13_readsNumber (nI l) (nI a) bu nu (nI s)).bind fun z => if z.1 = 0 then X z else K z) = if (rdn l bu 3 a 0).1 = 0 then X (0, nI a, nu) else K (1, nI (a + (rdn l bu 3 a 0).1), upd nu s (rdn l bu 3 a 0).2) := by
  rw [m_rn hl hs ha, ob]
  by_cases g : (rdn l bu 3 a 0).1 = 0
  · simp only [if_pos g, if_true]
  · simp only [if_neg g, if_neg (show ¬ (1 : Int32) = 0 by decide)]
theorem m_mt {l a : Nat} {bu nu : Nat → Int32} (hl : l ≤ 60) (ha : a < 100) :
    fX13_readsMaterial (nI l) (nI a) bu nu = some (if mtc l bu a then (1, nI (a + 1), upd nu 0 (bu a)) else (0, nI a, upd nu 0 (if a < l then bu a else -1))) := by
  unfold fX13_readsMaterial
  rw [m_nx hl (by omega), ob, pk_us, m_mat, ob]
  by_cases g : a < l
  · rw [if_pos g]
    by_cases g1 : bu a < 97
    · rw [if_pos g1, if_pos rfl, if_neg (fun q => q.2.1 g1)]
    · rw [if_neg g1]
      by_cases g2 : 102 < bu a
      · rw [if_pos g2, if_pos rfl, if_neg (fun q => q.2.2 g2)]
      · have hne : bu a ≠ -1 := fun e => g1 (by rw [e]; decide)
        rw [if_neg g2, if_neg (show ¬ (1 : Int32) = 0 by decide), m_rd1 hl (by omega) hne, if_pos ⟨g, rfl⟩, ob, if_neg (show ¬ (1 : Int32) = 0 by decide), if_pos ⟨g, g1, g2⟩]
  · rw [if_neg g, if_pos (show (-1 : Int32) < 97 by decide), if_pos rfl, if_neg (fun q => g q.1)]
