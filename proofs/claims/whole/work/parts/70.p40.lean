/-! pure layer: the reference's commands, word by word -/
theorem rdW_0 {β : Type} {l a : Nat} {T : Nat → Int32} {F G : Nat → β} : rdW l T F G [] a = G a := rfl
def wO (z : Int32 × Int32 × (Nat → Int32)) : Option (Int32 × Int32 × Int32 × (Nat → Int32)) := gd (isB z.1) <| some (z.1, z.2.1, 111, z.2.2)
def wC (z : Int32 × Int32 × Int32 × (Nat → Int32)) : Option (Int32 × Int32 × Int32 × (Nat → Int32)) := gd (isB z.1) <| some (z.1, z.2.1, z.2.2.1, z.2.2.2)
/-- a number behind a word, in the reference -/
def gN (l : Nat) (bu : Nat → Int32) (so : Int32) (nu : Nat → Int32) (p : Nat) : Option (Int32 × Int32 × Int32 × (Nat → Int32)) := (fX13_readsNumber (nI l) (nI p) bu nu 0).bind fun z => if z.1 = 0 then some (0, z.2.1, so, z.2.2) else some (1, z.2.1, so, z.2.2)
def gD (l : Nat) (bu : Nat → Int32) (so : Int32) (nu : Nat → Int32) (p : Nat) : Option (Int32 × Int32 × Int32 × (Nat → Int32)) := (fX13_readsDigit (nI l) (nI p) bu nu 0).bind fun z => if z.1 = 0 then some (0, z.2.1, so, z.2.2) else some (1, z.2.1, so, z.2.2)
def gM (l : Nat) (bu : Nat → Int32) (nu : Nat → Int32) (p : Nat) : Option (Int32 × Int32 × Int32 × (Nat → Int32)) := (fX13_readsMaterial (nI l) (nI p) bu nu).bind fun z => if z.1 = 0 then some (0, z.2.1, 101, z.2.2) else some (1, z.2.1, 101, z.2.2)
def gS (l : Nat) (bu : Nat → Int32) (nu : Nat → Int32) (p : Nat) : Option (Int32 × Int32 × Int32 × (Nat → Int32)) := (fX13_readsMaterial (nI l) (nI p) bu nu).bind fun z => if z.1 = 0 then some (0, z.2.1, 115, z.2.2) else (fX13_readsNumber (nI l) z.2.1 bu z.2.2 1).bind fun y => if y.1 = 0 then some (0, y.2.1, 115, y.2.2) else some (1, y.2.1, 115, y.2.2)
def gOd (l : Nat) (bu : Nat → Int32) (nu : Nat → Int32) (p : Nat) : Option (Int32 × Int32 × (Nat → Int32)) := (fX13_readsMaterial (nI l) (nI p) bu nu).bind fun z => if z.1 = 0 then some (0, z.2.1, z.2.2) else (fX13_readsNumber (nI l) z.2.1 bu z.2.2 1).bind fun y => if y.1 = 0 then some (0, y.2.1, y.2.2) else (fX13_reads (nI l) y.2.1 bu 64).bind fun x => if x.1 = 0 then some (0, x.2, y.2.2) else (fX13_readsNumber (nI l) x.2 bu y.2.2 2).bind fun w => if w.1 = 0 then some (0, w.2.1, w.2.2) else some (1, w.2.1, w.2.2)
def gR (l : Nat) (bu : Nat → Int32) (nu : Nat → Int32) (p : Nat) : Option (Int32 × Int32 × Int32 × (Nat → Int32)) := (fX13_nextChar (nI l) (nI p) bu).bind fun c => (fX13_reads (nI l) (nI p) bu 98).bind fun z => if z.1 = 0 then (fX13_reads (nI l) z.2 bu 119).bind fun y => if y.1 = 0 then (fX13_reads (nI l) y.2 bu 102).bind fun x => if x.1 = 0 then some (0, x.2, 117, upd nu 0 c) else some (1, x.2, 117, upd nu 0 c) else some (1, y.2, 117, upd nu 0 c) else some (1, z.2, 117, upd nu 0 c)
theorem r_ord {l a : Nat} {bu nu : Nat → Int32} (hl : l ≤ 60) (ha : a < 70) : fX13_readsOrder (nI l) (nI a) bu nu = rdW l bu (fun p => some (0, nI p, nu)) (gOd l bu nu) [114, 100, 101, 114, 32] a := by
  unfold fX13_readsOrder
  refine m_ch hl (by omega) (by decide) rfl ?_
  try dsimp only
  refine m_ch hl (by omega) (by decide) rfl ?_
  try dsimp only
  refine m_ch hl (by omega) (by decide) rfl ?_
  try dsimp only
  refine m_ch hl (by omega) (by decide) rfl ?_
  try dsimp only
  refine m_ch hl (by omega) (by decide) rfl ?_
  try dsimp only
  rw [rdW_0] <;> rfl
theorem r_can {l a : Nat} {bu nu : Nat → Int32} (hl : l ≤ 60) (ha : a < 70) (g : atc l bu a 97) : fX13_readsC (nI l) (nI a) 99 bu nu = rdW l bu (fun p => some (0, nI p, 99, nu)) (gN l bu 99 nu) [97, 110, 99, 101, 108, 32] a := by
  unfold fX13_readsC
  rw [m_step hl (by omega) (by decide), if_pos g, rdW_s g]
  dsimp only
  refine m_ch hl (by omega) (by decide) rfl ?_
  try dsimp only
  refine m_ch hl (by omega) (by decide) rfl ?_
  try dsimp only
  refine m_ch hl (by omega) (by decide) rfl ?_
  try dsimp only
  refine m_ch hl (by omega) (by decide) rfl ?_
  try dsimp only
  refine m_ch hl (by omega) (by decide) rfl ?_
  try dsimp only
  rw [rdW_0] <;> rfl
theorem r_cle {l a : Nat} {bu nu : Nat → Int32} (hl : l ≤ 60) (ha : a < 70) (g : ¬ atc l bu a 97) : fX13_readsC (nI l) (nI a) 99 bu nu = rdW l bu (fun p => some (0, nI p, 101, nu)) (gM l bu nu) [108, 101, 97, 114, 32] a := by
  unfold fX13_readsC
  rw [m_step hl (by omega) (by decide), if_neg g]
  dsimp only
  refine m_ch hl (by omega) (by decide) rfl ?_
  try dsimp only
  refine m_ch hl (by omega) (by decide) rfl ?_
  try dsimp only
  refine m_ch hl (by omega) (by decide) rfl ?_
  try dsimp only
  refine m_ch hl (by omega) (by decide) rfl ?_
  try dsimp only
  refine m_ch hl (by omega) (by decide) rfl ?_
  try dsimp only
  rw [rdW_0] <;> rfl
theorem r_ret {l a : Nat} {bu nu : Nat → Int32} (hl : l ≤ 60) (ha : a < 70) (g : atc l bu a 101) : fX13_readsR (nI l) (nI a) 114 bu nu = rdW l bu (fun p => some (0, nI p, 114, nu)) (gN l bu 114 nu) [101, 116, 105, 114, 101, 32] a := by
  unfold fX13_readsR
  rw [m_step hl (by omega) (by decide), if_pos g, rdW_s g]
  dsimp only
  refine m_ch hl (by omega) (by decide) rfl ?_
  try dsimp only
  refine m_ch hl (by omega) (by decide) rfl ?_
  try dsimp only
  refine m_ch hl (by omega) (by decide) rfl ?_
  try dsimp only
  refine m_ch hl (by omega) (by decide) rfl ?_
  try dsimp only
  refine m_ch hl (by omega) (by decide) rfl ?_
  try dsimp only
  rw [rdW_0] <;> rfl
theorem r_rul {l a : Nat} {bu nu : Nat → Int32} (hl : l ≤ 60) (ha : a < 70) (g : ¬ atc l bu a 101) : fX13_readsR (nI l) (nI a) 114 bu nu = rdW l bu (fun p => some (0, nI p, 117, nu)) (gR l bu nu) [117, 108, 101, 32] a := by
  unfold fX13_readsR
  rw [m_step hl (by omega) (by decide), if_neg g]
  dsimp only
  refine m_ch hl (by omega) (by decide) rfl ?_
  try dsimp only
  refine m_ch hl (by omega) (by decide) rfl ?_
  try dsimp only
  refine m_ch hl (by omega) (by decide) rfl ?_
  try dsimp only
  refine m_ch hl (by omega) (by decide) rfl ?_
  try dsimp only
  rw [rdW_0] <;> rfl
theorem t_fill {l a : Nat} {bu nu : Nat → Int32} (hl : l ≤ 60) (ha : a ≤ l) (g : atc l bu a 102) : fX13_readsCommand (nI l) (nI a) bu nu = rdW l bu (fun p => some (0, nI p, 102, nu)) (gN l bu 102 nu) [102, 105, 108, 108, 32] a := by
  unfold fX13_readsCommand
  rw [m_nx hl (by omega), ob, if_pos g.1, g.2]
  rw [m_step hl (by omega) (by decide), if_neg (atc_ne g (by decide))]
  dsimp only
  rw [m_step hl (by omega) (by decide), if_neg (atc_ne g (by decide))]
  dsimp only
  rw [m_step hl (by omega) (by decide), if_neg (atc_ne g (by decide))]
  dsimp only
  rw [m_step hl (by omega) (by decide), if_pos g, rdW_s g]
  dsimp only
  refine m_ch hl (by omega) (by decide) rfl ?_
  try dsimp only
  refine m_ch hl (by omega) (by decide) rfl ?_
  try dsimp only
  refine m_ch hl (by omega) (by decide) rfl ?_
  try dsimp only
  refine m_ch hl (by omega) (by decide) rfl ?_
  try dsimp only
  rw [rdW_0] <;> rfl
theorem t_due {l a : Nat} {bu nu : Nat → Int32} (hl : l ≤ 60) (ha : a ≤ l) (g : atc l bu a 100) : fX13_readsCommand (nI l) (nI a) bu nu = rdW l bu (fun p => some (0, nI p, 100, nu)) (gN l bu 100 nu) [100, 117, 101, 32] a := by
  unfold fX13_readsCommand
  rw [m_nx hl (by omega), ob, if_pos g.1, g.2]
  rw [m_step hl (by omega) (by decide), if_neg (atc_ne g (by decide))]
  dsimp only
  rw [m_step hl (by omega) (by decide), if_neg (atc_ne g (by decide))]
  dsimp only
  rw [m_step hl (by omega) (by decide), if_neg (atc_ne g (by decide))]
  dsimp only
  rw [m_step hl (by omega) (by decide), if_neg (atc_ne g (by decide))]
  dsimp only
  rw [m_step hl (by omega) (by decide), if_pos g, rdW_s g]
  dsimp only
  refine m_ch hl (by omega) (by decide) rfl ?_
  try dsimp only
  refine m_ch hl (by omega) (by decide) rfl ?_
  try dsimp only
  refine m_ch hl (by omega) (by decide) rfl ?_
  try dsimp only
  rw [rdW_0] <;> rfl
theorem t_limit {l a : Nat} {bu nu : Nat → Int32} (hl : l ≤ 60) (ha : a ≤ l) (g : atc l bu a 108) : fX13_readsCommand (nI l) (nI a) bu nu = rdW l bu (fun p => some (0, nI p, 108, nu)) (gN l bu 108 nu) [108, 105, 109, 105, 116, 32] a := by
  unfold fX13_readsCommand
  rw [m_nx hl (by omega), ob, if_pos g.1, g.2]
  rw [m_step hl (by omega) (by decide), if_neg (atc_ne g (by decide))]
  dsimp only
  rw [m_step hl (by omega) (by decide), if_neg (atc_ne g (by decide))]
  dsimp only
  rw [m_step hl (by omega) (by decide), if_neg (atc_ne g (by decide))]
  dsimp only
  rw [m_step hl (by omega) (by decide), if_neg (atc_ne g (by decide))]
  dsimp only
  rw [m_step hl (by omega) (by decide), if_neg (atc_ne g (by decide))]
  dsimp only
  rw [m_step hl (by omega) (by decide), if_neg (atc_ne g (by decide))]
  dsimp only
  rw [m_step hl (by omega) (by decide), if_neg (atc_ne g (by decide))]
  dsimp only
  rw [m_step hl (by omega) (by decide), if_pos g, rdW_s g]
  dsimp only
  refine m_ch hl (by omega) (by decide) rfl ?_
  try dsimp only
  refine m_ch hl (by omega) (by decide) rfl ?_
  try dsimp only
  refine m_ch hl (by omega) (by decide) rfl ?_
  try dsimp only
  refine m_ch hl (by omega) (by decide) rfl ?_
  try dsimp only
  refine m_ch hl (by omega) (by decide) rfl ?_
  try dsimp only
  rw [rdW_0] <;> rfl
theorem t_kerf {l a : Nat} {bu nu : Nat → Int32} (hl : l ≤ 60) (ha : a ≤ l) (g : atc l bu a 107) : fX13_readsCommand (nI l) (nI a) bu nu = rdW l bu (fun p => some (0, nI p, 107, nu)) (gD l bu 107 nu) [107, 101, 114, 102, 32] a := by
  unfold fX13_readsCommand
  rw [m_nx hl (by omega), ob, if_pos g.1, g.2]
  rw [m_step hl (by omega) (by decide), if_neg (atc_ne g (by decide))]
  dsimp only
  rw [m_step hl (by omega) (by decide), if_neg (atc_ne g (by decide))]
  dsimp only
  rw [m_step hl (by omega) (by decide), if_neg (atc_ne g (by decide))]
  dsimp only
  rw [m_step hl (by omega) (by decide), if_neg (atc_ne g (by decide))]
  dsimp only
  rw [m_step hl (by omega) (by decide), if_neg (atc_ne g (by decide))]
  dsimp only
  rw [m_step hl (by omega) (by decide), if_neg (atc_ne g (by decide))]
  dsimp only
  rw [m_step hl (by omega) (by decide), if_pos g, rdW_s g]
  dsimp only
  refine m_ch hl (by omega) (by decide) rfl ?_
  try dsimp only
  refine m_ch hl (by omega) (by decide) rfl ?_
  try dsimp only
  refine m_ch hl (by omega) (by decide) rfl ?_
  try dsimp only
  refine m_ch hl (by omega) (by decide) rfl ?_
  try dsimp only
  rw [rdW_0] <;> rfl
theorem t_spool {l a : Nat} {bu nu : Nat → Int32} (hl : l ≤ 60) (ha : a ≤ l) (g : atc l bu a 115) : fX13_readsCommand (nI l) (nI a) bu nu = rdW l bu (fun p => some (0, nI p, 115, nu)) (gS l bu nu) [115, 112, 111, 111, 108, 32] a := by
  unfold fX13_readsCommand
  rw [m_nx hl (by omega), ob, if_pos g.1, g.2]
  rw [m_step hl (by omega) (by decide), if_pos g, rdW_s g]
  dsimp only
  refine m_ch hl (by omega) (by decide) rfl ?_
  try dsimp only
  refine m_ch hl (by omega) (by decide) rfl ?_
  try dsimp only
  refine m_ch hl (by omega) (by decide) rfl ?_
  try dsimp only
  refine m_ch hl (by omega) (by decide) rfl ?_
  try dsimp only
  refine m_ch hl (by omega) (by decide) rfl ?_
  try dsimp only
  rw [rdW_0] <;> rfl
theorem t_order {l a : Nat} {bu nu : Nat → Int32} (hl : l ≤ 60) (ha : a ≤ l) (g : atc l bu a 111) : fX13_readsCommand (nI l) (nI a) bu nu = rdW l bu (fun p => (some (0, nI p, nu)).bind wO) (fun p => (gOd l bu nu p).bind wO) [111, 114, 100, 101, 114, 32] a := by
  unfold fX13_readsCommand
  rw [m_nx hl (by omega), ob, if_pos g.1, g.2]
  rw [m_step hl (by omega) (by decide), if_neg (atc_ne g (by decide))]
  dsimp only
  rw [m_step hl (by omega) (by decide), if_pos g, rdW_s g]
  dsimp only
  rw [r_ord hl (by omega), rdW_bd] <;> rfl
theorem t_cancel {l a : Nat} {bu nu : Nat → Int32} (hl : l ≤ 60) (ha : a ≤ l) (g : atc l bu a 99) (g2 : atc l bu (a + 1) 97) : fX13_readsCommand (nI l) (nI a) bu nu = rdW l bu (fun p => (some (0, nI p, 99, nu)).bind wC) (fun p => (gN l bu 99 nu p).bind wC) [99, 97, 110, 99, 101, 108, 32] a := by
  unfold fX13_readsCommand
  rw [m_nx hl (by omega), ob, if_pos g.1, g.2]
  rw [m_step hl (by omega) (by decide), if_neg (atc_ne g (by decide))]
  dsimp only
  rw [m_step hl (by omega) (by decide), if_neg (atc_ne g (by decide))]
  dsimp only
  rw [m_step hl (by omega) (by decide), if_pos g, rdW_s g]
  dsimp only
  rw [r_can hl (by omega) g2, rdW_bd] <;> rfl
theorem t_clear {l a : Nat} {bu nu : Nat → Int32} (hl : l ≤ 60) (ha : a ≤ l) (g : atc l bu a 99) (g2 : ¬ atc l bu (a + 1) 97) : fX13_readsCommand (nI l) (nI a) bu nu = rdW l bu (fun p => (some (0, nI p, 101, nu)).bind wC) (fun p => (gM l bu nu p).bind wC) [99, 108, 101, 97, 114, 32] a := by
  unfold fX13_readsCommand
  rw [m_nx hl (by omega), ob, if_pos g.1, g.2]
  rw [m_step hl (by omega) (by decide), if_neg (atc_ne g (by decide))]
  dsimp only
  rw [m_step hl (by omega) (by decide), if_neg (atc_ne g (by decide))]
  dsimp only
  rw [m_step hl (by omega) (by decide), if_pos g, rdW_s g]
  dsimp only
  rw [r_cle hl (by omega) g2, rdW_bd] <;> rfl
theorem t_retire {l a : Nat} {bu nu : Nat → Int32} (hl : l ≤ 60) (ha : a ≤ l) (g : atc l bu a 114) (g2 : atc l bu (a + 1) 101) : fX13_readsCommand (nI l) (nI a) bu nu = rdW l bu (fun p => (some (0, nI p, 114, nu)).bind wC) (fun p => (gN l bu 114 nu p).bind wC) [114, 101, 116, 105, 114, 101, 32] a := by
  unfold fX13_readsCommand
  rw [m_nx hl (by omega), ob, if_pos g.1, g.2]
  rw [m_step hl (by omega) (by decide), if_neg (atc_ne g (by decide))]
  dsimp only
  rw [m_step hl (by omega) (by decide), if_neg (atc_ne g (by decide))]
  dsimp only
  rw [m_step hl (by omega) (by decide), if_neg (atc_ne g (by decide))]
  dsimp only
  rw [m_step hl (by omega) (by decide), if_neg (atc_ne g (by decide))]
  dsimp only
  rw [m_step hl (by omega) (by decide), if_neg (atc_ne g (by decide))]
  dsimp only
  rw [m_step hl (by omega) (by decide), if_pos g, rdW_s g]
  dsimp only
  rw [r_ret hl (by omega) g2, rdW_bd] <;> rfl
theorem t_rule {l a : Nat} {bu nu : Nat → Int32} (hl : l ≤ 60) (ha : a ≤ l) (g : atc l bu a 114) (g2 : ¬ atc l bu (a + 1) 101) : fX13_readsCommand (nI l) (nI a) bu nu = rdW l bu (fun p => (some (0, nI p, 117, nu)).bind wC) (fun p => (gR l bu nu p).bind wC) [114, 117, 108, 101, 32] a := by
  unfold fX13_readsCommand
  rw [m_nx hl (by omega), ob, if_pos g.1, g.2]
  rw [m_step hl (by omega) (by decide), if_neg (atc_ne g (by decide))]
  dsimp only
  rw [m_step hl (by omega) (by decide), if_neg (atc_ne g (by decide))]
  dsimp only
  rw [m_step hl (by omega) (by decide), if_neg (atc_ne g (by decide))]
  dsimp only
  rw [m_step hl (by omega) (by decide), if_neg (atc_ne g (by decide))]
  dsimp only
  rw [m_step hl (by omega) (by decide), if_neg (atc_ne g (by decide))]
  dsimp only
  rw [m_step hl (by omega) (by decide), if_pos g, rdW_s g]
  dsimp only
  rw [r_rul hl (by omega) g2, rdW_bd] <;> rfl
theorem t_none {l a : Nat} {bu nu : Nat → Int32} (hl : l ≤ 60) (ha : a ≤ l) (g0 : ¬ atc l bu a 115)  (g1 : ¬ atc l bu a 111)  (g2 : ¬ atc l bu a 99)  (g3 : ¬ atc l bu a 102)  (g4 : ¬ atc l bu a 100)  (g5 : ¬ atc l bu a 114)  (g6 : ¬ atc l bu a 107)  (g7 : ¬ atc l bu a 108) : fX13_readsCommand (nI l) (nI a) bu nu = some (0, nI a, (if a < l then bu a else -1), nu) := by
  unfold fX13_readsCommand
  rw [m_nx hl (by omega), ob]
  rw [m_step hl (by omega) (by decide), if_neg g0]
  dsimp only
  rw [m_step hl (by omega) (by decide), if_neg g1]
  dsimp only
  rw [m_step hl (by omega) (by decide), if_neg g2]
  dsimp only
  rw [m_step hl (by omega) (by decide), if_neg g3]
  dsimp only
  rw [m_step hl (by omega) (by decide), if_neg g4]
  dsimp only
  rw [m_step hl (by omega) (by decide), if_neg g5]
  dsimp only
  rw [m_step hl (by omega) (by decide), if_neg g6]
  dsimp only
  rw [m_step hl (by omega) (by decide), if_neg g7]
