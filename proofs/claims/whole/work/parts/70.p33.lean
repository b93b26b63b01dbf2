/-! pure layer: numbers on both sides -/
theorem isDg {l a : Nat} {T : Nat → Int32} : fX12_isDigit (if a < l then T a else 0) = some (if dgt l T a then 1 else 0) := by
  unfold fX12_isDigit
  by_cases g : a < l
  · rw [if_pos g]
    by_cases g1 : T a < 48
    · rw [if_pos g1, if_neg (fun q => q.2.1 g1)]
    · rw [if_neg g1]
      by_cases g2 : 57 < T a
      · rw [if_pos g2, if_neg (fun q => q.2.2 g2)]
      · rw [if_neg g2, if_pos ⟨g, g1, g2⟩]
  · rw [if_neg g, if_pos (by decide), if_neg (fun q => g q.1)]
def pnum (vf vs vn p : Int32) : Int32 × Int32 × Int32 := if vn = 0 then (p, vs, vn + 1) else (vf, p, vn + 1)
theorem pn_eq {vf vs vn p : Int32} : fX2_putNumber vf vs vn p = some (pnum vf vs vn p) := by
  unfold fX2_putNumber pnum
  split <;> rfl
theorem c_tn_L {l M : Nat} {pt bu : Nat → Int32} {vf vs vn : Int32} (h : TX l pt bu) (hM : M ≤ 3) : ∀ (d fu c a : Nat) (v : Int32), d < fu → c + d = M → a < 100 →
    fX6_takeNumber_L5 (nI M) (nI l) pt vf vs vn fu v (nI c) (nI a) = some ((if c + (rdn l pt d a v).1 = 0 then 0 else 1), nI (a + (rdn l pt d a v).1), pnum vf vs vn (rdn l pt d a v).2) := by
  intro d
  induction d with
  | zero =>
    intro fu c a v hfu hc ha
    obtain ⟨fu, rfl⟩ : ∃ q, fu = q + 1 := ⟨fu - 1, by omega⟩
    rw [fX6_takeNumber_L5, if_pos (nI_le (by omega) (by omega)), pn_eq, ob]
    show (if nI c ≤ 0 then _ else _) = some ((if c + 0 = 0 then 0 else 1), nI a, pnum vf vs vn v)
    by_cases g : c = 0
    · subst g; rw [if_pos (show nI 0 ≤ 0 by decide), if_pos rfl]
    · rw [if_neg (nI_nle (by omega) (by omega)), if_neg (by omega)]
  | succ d ih =>
    intro fu c a v hfu hc ha
    obtain ⟨fu, rfl⟩ : ∃ q, fu = q + 1 := ⟨fu - 1, by omega⟩
    rw [fX6_takeNumber_L5, if_neg (nI_ge (by omega) (by omega)), c_cur h (by omega), ob, isDg, ob, rdn]
    by_cases g : dgt l pt a
    · have e := ih fu (c + 1) (a + 1) (10 * v + (pt a - 48)) (by omega) (by omega)
      rw [if_pos g, if_neg (show ¬ (1 : Int32) = 0 by decide), ob, if_pos g.1, nI_1, nI_1, if_pos g]
      by_cases g3 : a + 1 < 100
      · rw [e g3]
        have e1 : c + 1 + (rdn l pt d (a + 1) (10 * v + (pt a - 48))).1 = c + ((rdn l pt d (a + 1) (10 * v + (pt a - 48))).1 + 1) := by omega
        have e2 : a + 1 + (rdn l pt d (a + 1) (10 * v + (pt a - 48))).1 = a + ((rdn l pt d (a + 1) (10 * v + (pt a - 48))).1 + 1) := by omega
        rw [e1, e2]
      · have := h.1
        have := g.1
        omega
    · rw [if_neg g, if_pos rfl, if_neg g, pn_eq, ob]
      show (if nI c ≤ 0 then _ else _) = some ((if c + 0 = 0 then 0 else 1), nI a, pnum vf vs vn v)
      by_cases g : c = 0
      · subst g; rw [if_pos (show nI 0 ≤ 0 by decide), if_pos rfl]
      · rw [if_neg (nI_nle (by omega) (by omega)), if_neg (by omega)]
theorem c_tn {l M a : Nat} {pt bu : Nat → Int32} {vf vs vn : Int32} (h : TX l pt bu) (hM : M ≤ 3) (ha : a < 100) :
    fX6_takeNumber (nI l) (nI a) pt vf vs vn (nI M) = some ((if (rdn l pt M a 0).1 = 0 then 0 else 1), nI (a + (rdn l pt M a 0).1), pnum vf vs vn (rdn l pt M a 0).2) := by
  have := c_tn_L (vf := vf) (vs := vs) (vn := vn) h hM M FU 0 a 0 (FU_lt (by omega)) (by omega) ha
  rw [Nat.zero_add] at this
  exact this
theorem rdn_eq {l : Nat} {pt bu : Nat → Int32} (h : ∀ j, j < l → pt j = bu j) : ∀ (d a : Nat) (v : Int32), rdn l pt d a v = rdn l bu d a v := by
  intro d
  induction d with
  | zero => intro a v; rfl
  | succ d ih =>
    intro a v
    rw [rdn, rdn, ih]
    by_cases g : dgt l pt a
    · have e := h a g.1
      have g' : dgt l bu a := ⟨g.1, by rw [← e]; exact g.2.1, by rw [← e]; exact g.2.2⟩
      rw [if_pos g, if_pos g', e]
    · have g' : ¬ dgt l bu a := fun q => g ⟨q.1, by rw [h a q.1]; exact q.2.1, by rw [h a q.1]; exact q.2.2⟩
      rw [if_neg g, if_neg g']
theorem m_dg {l a : Nat} {bu : Nat → Int32} (hl : l ≤ 60) (ha : a < 1000) : fX13_isDigitNext (nI l) (nI a) bu = some (if dgt l bu a then 1 else 0) := by
  unfold fX13_isDigitNext
  rw [m_nx hl ha, ob, btw, ob]
  by_cases g : a < l
  · rw [if_pos g]
    by_cases g1 : bu a < 48
    · rw [if_pos g1, if_neg (fun q => q.2.1 g1)]; rfl
    · rw [if_neg g1]
      by_cases g2 : 57 < bu a
      · rw [if_pos g2, if_neg (fun q => q.2.2 g2)]; rfl
      · rw [if_neg g2, if_pos ⟨g, g1, g2⟩]; rfl
  · rw [if_neg g, if_pos (show (-1 : Int32) < 48 by decide), if_neg (fun q => g q.1)]; rfl
theorem upd_ov {f : Nat → Int32} {k : Nat} {x y : Int32} : upd (upd f k x) k y = upd f k y := by
  funext j; simp only [upd_e]; split <;> rfl
theorem m_rn_L {l s : Nat} {bu : Nat → Int32} (hl : l ≤ 60) (hs : s < 3) : ∀ (d fu i a : Nat) (nu : Nat → Int32) (v : Int32), d < fu → i + d = 2 → a < 100 →
    fX13_readsNumber_L12 (nI s) (nI l) bu fu (nI i) (nI a) (upd nu s v) = some (1, nI (a + (rdn l bu d a v).1), upd nu s (rdn l bu d a v).2) := by
  intro d
  induction d with
  | zero =>
    intro fu i a nu v hfu hi ha
    obtain ⟨fu, rfl⟩ : ∃ q, fu = q + 1 := ⟨fu - 1, by omega⟩
    rw [fX13_readsNumber_L12, if_pos (show (2 : Int32) ≤ nI i from nI_le (a := 2) (by omega) (by omega))]; rfl
  | succ d ih =>
    intro fu i a nu v hfu hi ha
    obtain ⟨fu, rfl⟩ : ∃ q, fu = q + 1 := ⟨fu - 1, by omega⟩
    rw [fX13_readsNumber_L12, if_neg (show ¬ (2 : Int32) ≤ nI i from nI_ge (b := 2) (by omega) (by omega)), m_dg hl (by omega), ob, rdn]
    by_cases g : dgt l bu a
    · rw [if_pos g, if_neg (show ¬ (1 : Int32) = 0 by decide), gd_t (inR_n hs (by omega)), m_nx hl (by omega), ob, if_pos g.1, gd_t (inR_n hs (by omega)), nI_clamp (by omega), pk_us, upd_ov, nI_1, nI_1, if_pos g]
      have ea : ((10 * v) + bu a) - 48 = 10 * v + (bu a - 48) := by rw [Int32.sub_eq_add_neg, Int32.sub_eq_add_neg, Int32.add_assoc]
      have := g.1
      rw [ea, ih fu (i + 1) (a + 1) nu _ (by omega) (by omega) (by omega)]
      have e2 : a + 1 + (rdn l bu d (a + 1) (10 * v + (bu a - 48))).1 = a + ((rdn l bu d (a + 1) (10 * v + (bu a - 48))).1 + 1) := by omega
      rw [e2]
    · rw [if_neg g, if_pos rfl, if_neg g]; rfl
theorem m_rn {l s a : Nat} {bu nu : Nat → Int32} (hl : l ≤ 60) (hs : s < 3) (ha : a < 100) :
    fX13_readsNumber (nI l) (nI a) bu nu (nI s) = some (if (rdn l bu 3 a 0).1 = 0 then (0, nI a, nu) else (1, nI (a + (rdn l bu 3 a 0).1), upd nu s (rdn l bu 3 a 0).2)) := by
  unfold fX13_readsNumber fX13_readsDigit
  rw [m_dg hl (by omega), ob, rdn]
  by_cases g : dgt l bu a
  · have := g.1
    rw [if_pos g, if_neg (show ¬ (1 : Int32) = 0 by decide), m_nx hl (by omega), ob, gd_t (inR_n hs (by omega)), nI_clamp (by omega), if_pos g.1, ob, if_neg (show ¬ (1 : Int32) = 0 by decide), nI_1, if_pos g, if_neg (by omega)]
    have e0 : (10 : Int32) * 0 + (bu a - 48) = bu a - 48 := by rw [show (10 : Int32) * 0 = 0 from rfl, Int32.zero_add]
    have e := m_rn_L (bu := bu) hl hs 2 FU 0 (a + 1) nu (bu a - 48) (FU_lt (by omega)) rfl (by omega)
    rw [e0]
    refine Eq.trans e ?_
    rw [show a + 1 + (rdn l bu 2 (a + 1) (bu a - 48)).1 = a + ((rdn l bu 2 (a + 1) (bu a - 48)).1 + 1) by omega]
  · rw [if_neg g, if_pos rfl, ob, if_pos rfl, if_neg g, if_pos rfl]
