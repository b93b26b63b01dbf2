/-! pure layer: verbs and numbers of the class -/
def pvb (m L : Nat → Nat) : Nat → Nat → Nat → Option Nat × Nat
  | 0, _, b => (none, b)
  | d + 1, k, b => if m k = L k then (some k, m k) else if m k ≤ b then pvb m L d (k + 1) b else pvb m L d (k + 1) (m k)
def wM (l : Nat) (T : Nat → Int32) (a k : Nat) : Nat := mtw l T (stB.getD (wIx.getD k 0) []) a
def wL (k : Nat) : Nat := stL.getD (wIx.getD k 0) 0
theorem wL_7 : ∀ k, k < 10 → wIx.getD k 0 < 16 ∧ wL k ≤ 7 ∧ wL k = (stB.getD (wIx.getD k 0) []).length := by decide
theorem c_pv_L {l a : Nat} {pt : Nat → Int32} (hl : l ≤ 60) (ha : a ≤ 60) : ∀ (d fu k b : Nat), d < fu → k + d = 10 → b ≤ 7 →
    fX6_parseVerb_L4 (nI l) (nI a) pt fu (nI b) (nI k) = some ((pvb (wM l pt a) wL d k b).1, nI (a + (pvb (wM l pt a) wL d k b).2)) := by
  intro d
  induction d with
  | zero =>
    intro fu k b hfu hk hb
    obtain ⟨fu, rfl⟩ : ∃ q, fu = q + 1 := ⟨fu - 1, by omega⟩
    rw [fX6_parseVerb_L4, if_pos (nI_le (by omega) (by omega)), nI_add]; rfl
  | succ d ih =>
    intro fu k b hfu hk hb
    obtain ⟨fu, rfl⟩ : ∃ q, fu = q + 1 := ⟨fu - 1, by omega⟩
    obtain ⟨h1, h2, h3⟩ := wL_7 k (by omega)
    have hm : wM l pt a k ≤ 7 := by
      have := mtw_le (l := l) (T := pt) (stB.getD (wIx.getD k 0) []) a
      unfold wM; omega
    have e0 : fX6_matchingSigns (nI l) (nI a) pt (wIx.getD k 0) = some (nI (wM l pt a k)) := c_ms hl ha h1
    rw [fX6_parseVerb_L4, if_neg (nI_ge (by omega) (by omega)), gd_t (inR_n (by omega) (by omega)), nI_clamp (by omega), e0, ob, gd_t (inR_n (by omega) (by omega)), gd_t (inR_n (by omega) (by omega)), nI_1, pvb]
    by_cases g : wM l pt a k = wL k
    · rw [if_pos g, if_pos (show nI (wM l pt a k) = nI (stL.getD (wIx.getD k 0) 0) by rw [g]; rfl), nI_add]
    · have g' : ¬ nI (wM l pt a k) = nI (stL.getD (wIx.getD k 0) 0) := fun e => g ((nI_eq (b := wL k) (by omega) (by omega)).mp e)
      rw [if_neg g, if_neg g']
      by_cases g2 : wM l pt a k ≤ b
      · rw [if_pos g2, if_pos (nI_le g2 (by omega))]; exact ih _ _ _ (by omega) (by omega) hb
      · rw [if_neg g2, if_neg (nI_ge (by omega) (by omega))]; exact ih _ _ _ (by omega) (by omega) hm
theorem c_pv {l a : Nat} {pt : Nat → Int32} (hl : l ≤ 60) (ha : a ≤ 60) : fX6_parseVerb (nI l) (nI a) pt = some ((pvb (wM l pt a) wL 10 0 0).1, nI (a + (pvb (wM l pt a) wL 10 0 0).2)) :=
  c_pv_L hl ha 10 FU 0 0 (FU_lt (by omega)) rfl (by omega)
/-- a digit at a place -/
abbrev dgt (l : Nat) (T : Nat → Int32) (a : Nat) : Prop := a < l ∧ ¬ T a < 48 ∧ ¬ 57 < T a
/-- digits read from a place on, at most d: how many, their number -/
def rdn (l : Nat) (T : Nat → Int32) : Nat → Nat → Int32 → Nat × Int32
  | 0, _, v => (0, v)
  | d + 1, a, v => if dgt l T a then ((rdn l T d (a + 1) (10 * v + (T a - 48))).1 + 1, (rdn l T d (a + 1) (10 * v + (T a - 48))).2) else (0, v)
theorem c_dg {l a : Nat} {pt bu : Nat → Int32} (h : TX l pt bu) (ha : a < 1000) : (fX6_current (nI l) (nI a) pt).bind fX12_isDigit = some (if dgt l pt a then 1 else 0) := by
  rw [c_cur h ha, ob]
  unfold fX12_isDigit
  by_cases g : a < l
  · rw [if_pos g]
    by_cases g1 : pt a < 48
    · rw [if_pos g1, if_neg (fun q => q.2.1 g1)]
    · rw [if_neg g1]
      by_cases g2 : 57 < pt a
      · rw [if_pos g2, if_neg (fun q => q.2.2 g2)]
      · rw [if_neg g2, if_pos ⟨g, g1, g2⟩]
  · rw [if_neg g, if_pos (by decide), if_neg (fun q => g q.1)]
