/-! pure layer: letters of the program -/
abbrev atc (l : Nat) (T : Nat → Int32) (a : Nat) (ch : Int32) : Prop := a < l ∧ T a = ch
/-- the text of both sides -/
def TX (l : Nat) (pt bu : Nat → Int32) : Prop := l ≤ 60 ∧ ∀ j, j < l → pt j = bu j ∧ isC (bu j) = true
theorem c_isAt {l a : Nat} {pt : Nat → Int32} {ch : Int32} (hl : l ≤ 60) (ha : a < 1000) : fX6_isAt (nI l) pt (nI a) ch = some (if atc l pt a ch then 1 else 0) := by
  unfold fX6_isAt
  rw [if_neg (nI_pos (by omega))]
  by_cases g : l ≤ a
  · rw [if_pos (nI_le g (by omega)), if_neg (fun q => by omega)]
  · rw [if_neg (nI_ge (by omega) (by omega)), if_neg (nI_ge (by omega) (by omega)), gd_t (inR_n (by omega) (by omega)), nI_clamp (by omega)]
    by_cases e : pt a = ch
    · rw [if_pos e, if_pos ⟨by omega, e⟩]
    · rw [if_neg e, if_neg (fun q => e q.2)]
theorem c_cur {l a : Nat} {pt bu : Nat → Int32} (h : TX l pt bu) (ha : a < 1000) : fX6_current (nI l) (nI a) pt = some (if a < l then pt a else 0) := by
  have hl := h.1
  unfold fX6_current
  rw [if_neg (nI_pos (by omega))]
  by_cases g : l ≤ a
  · rw [if_pos (nI_le g (by omega)), if_neg (by omega)]
  · have h2 := h.2 a (by omega)
    rw [if_neg (nI_ge (by omega) (by omega)), if_neg (nI_ge (by omega) (by omega)), gd_t (inR_n (by omega) (by omega)), nI_clamp (by omega), gd_t (by rw [h2.1]; exact h2.2), if_pos (by omega)]
theorem m_nx {l a : Nat} {bu : Nat → Int32} (hl : l ≤ 60) (ha : a < 1000) : fX13_nextChar (nI l) (nI a) bu = some (if a < l then bu a else -1) := by
  unfold fX13_nextChar
  by_cases g : l ≤ a
  · rw [if_pos (nI_le g (by omega)), if_neg (by omega)]
  · rw [if_neg (nI_ge (by omega) (by omega)), gd_t (inR_n (by omega) (by omega)), nI_clamp (by omega), if_pos (by omega)]
theorem m_rd1 {l a : Nat} {bu : Nat → Int32} {ch : Int32} (hl : l ≤ 60) (ha : a < 1000) (hc : ch ≠ -1) : fX13_reads (nI l) (nI a) bu ch = some (if atc l bu a ch then (1, nI (a + 1)) else (0, nI a)) := by
  unfold fX13_reads
  rw [m_nx hl ha, ob, nI_1]
  by_cases g : a < l
  · rw [if_pos g]
    by_cases e : bu a = ch
    · rw [if_pos e, if_pos ⟨g, e⟩]
    · rw [if_neg e, if_neg (fun q => e q.2)]
  · rw [if_neg g, if_neg (fun e => hc e.symm), if_neg (fun q => g q.1)]
theorem atc_eq {l a : Nat} {pt bu : Nat → Int32} {ch : Int32} (h : TX l pt bu) : atc l pt a ch ↔ atc l bu a ch := by
  constructor
  · rintro ⟨h1, h2⟩; exact ⟨h1, by rw [← (h.2 a h1).1]; exact h2⟩
  · rintro ⟨h1, h2⟩; exact ⟨h1, by rw [(h.2 a h1).1]; exact h2⟩
theorem atc_ne {l a : Nat} {T : Nat → Int32} {ch c2 : Int32} (h : atc l T a ch) (hc : ch ≠ c2) : ¬ atc l T a c2 := fun q => hc (h.2.symm.trans q.2)
/-- how many letters of a word stand at a place -/
def mtw (l : Nat) (T : Nat → Int32) : List Int32 → Nat → Nat
  | [], _ => 0
  | c :: w, a => if atc l T a c then 1 + mtw l T w (a + 1) else 0
theorem mtw_le {l : Nat} {T : Nat → Int32} : ∀ (w : List Int32) (a : Nat), mtw l T w a ≤ w.length := by
  intro w
  induction w with
  | nil => intro a; exact Nat.le_refl _
  | cons c w ih =>
    intro a
    have := ih (a + 1)
    rw [mtw, List.length_cons]
    split <;> omega
theorem drop_gd {w : List Int32} {i : Nat} (h : i < w.length) : w.drop i = w.getD i 0 :: w.drop (i + 1) := by
  rw [List.drop_eq_getElem_cons h]
  congr 1
  rw [List.getD_eq_getElem?_getD, List.getElem?_eq_getElem h]; rfl
theorem c_ms_L {l a j : Nat} {pt : Nat → Int32} (hl : l ≤ 60) (ha : a ≤ 60) (hj : j < 16) (hs : stL.getD j 0 = (stB.getD j []).length) (hb : (stB.getD j []).length ≤ 7) : ∀ (d fu i : Nat), d < fu → i + d = (stB.getD j []).length →
    fX6_matchingSigns_L2 j (nI l) (nI a) pt fu (nI i) = some (nI (i + mtw l pt ((stB.getD j []).drop i) (a + i))) := by
  intro d
  induction d with
  | zero =>
    intro fu i hfu hi
    obtain ⟨fu, rfl⟩ : ∃ q, fu = q + 1 := ⟨fu - 1, by omega⟩
    rw [fX6_matchingSigns_L2, gd_t (show ltN j 16 = true from decide_eq_true hj), hs, if_pos (nI_le (by omega) (by omega)), List.drop_of_length_le (by omega)]; rfl
  | succ d ih =>
    intro fu i hfu hi
    obtain ⟨fu, rfl⟩ : ∃ q, fu = q + 1 := ⟨fu - 1, by omega⟩
    have ed := drop_gd (w := stB.getD j []) (i := i) (by omega)
    rw [fX6_matchingSigns_L2, gd_t (show ltN j 16 = true from decide_eq_true hj), hs, if_neg (nI_ge (by omega) (by omega)), gd_t (show ltN j 16 = true from decide_eq_true hj), gd_t (inR_n (by omega) (by omega)), nI_add, c_isAt hl (by omega), ob, nI_clamp (by omega), nI_1, ed, mtw]
    by_cases g : atc l pt (a + i) (chS j i)
    · rw [if_pos g, if_neg (by decide), ih fu (i + 1) (by omega) (by omega), if_pos (show atc l pt (a + i) ((stB.getD j []).getD i 0) from g)]
      congr 2; rw [show a + (i + 1) = a + i + 1 by omega]; omega
    · rw [if_neg g, if_pos rfl, if_neg (show ¬ atc l pt (a + i) ((stB.getD j []).getD i 0) from g), Nat.add_zero]
theorem c_ms {l a j : Nat} {pt : Nat → Int32} (hl : l ≤ 60) (ha : a ≤ 60) (hj : j < 16) : fX6_matchingSigns (nI l) (nI a) pt j = some (nI (mtw l pt (stB.getD j []) a)) := by
  have hs : ∀ j, j < 16 → stL.getD j 0 = (stB.getD j []).length ∧ (stB.getD j []).length ≤ 7 := by decide
  obtain ⟨h1, h2⟩ := hs j hj
  have := c_ms_L (pt := pt) hl ha hj h1 h2 (stB.getD j []).length FU 0 (FU_lt (by omega)) (by omega)
  rw [Nat.zero_add, List.drop_zero, Nat.add_zero] at this
  exact this
