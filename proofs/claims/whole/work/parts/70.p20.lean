/-! pure layer: a scrap by its rank -/
def cn (P : Nat → Bool) : Nat → Nat
  | 0 => 0
  | c + 1 => cn P c + (if P c = true then 1 else 0)
theorem cn_le {P Q : Nat → Bool} : ∀ (c : Nat), (∀ j, j < c → P j = true → Q j = true) → cn P c ≤ cn Q c := by
  intro c
  induction c with
  | zero => intro _; exact Nat.le_refl _
  | succ c ih =>
    intro h
    have := ih fun j hj => h j (by omega)
    show cn P c + _ ≤ cn Q c + _
    by_cases g : P c = true
    · rw [if_pos g, if_pos (h c (by omega) g)]; omega
    · rw [if_neg g]; split <;> omega
theorem cn_congr {P Q : Nat → Bool} (c : Nat) (h : ∀ j, j < c → P j = Q j) : cn P c = cn Q c :=
  Nat.le_antisymm (cn_le c fun j hj e => by rw [← h j hj]; exact e) (cn_le c fun j hj e => by rw [h j hj]; exact e)
theorem cn_c {P : Nat → Bool} : ∀ (c : Nat), cn P c ≤ c := by
  intro c
  induction c with
  | zero => exact Nat.le_refl _
  | succ c ih => show cn P c + _ ≤ c + 1; split <;> omega
theorem cn_mono {P : Nat → Bool} {k : Nat} : ∀ (c : Nat), k ≤ c → cn P k ≤ cn P c := by
  intro c
  induction c with
  | zero => intro h; rw [show k = 0 by omega]; exact Nat.le_refl _
  | succ c ih =>
    intro h
    by_cases e : k = c + 1
    · rw [e]; exact Nat.le_refl _
    · have := ih (by omega); show cn P k ≤ cn P c + _; omega
theorem cn_lt {P : Nat → Bool} {k c : Nat} (h : k < c) (hk : P k = true) : cn P k < cn P c := by
  have h1 : cn P (k + 1) ≤ cn P c := cn_mono c h
  have h2 : cn P (k + 1) = cn P k + 1 := by show cn P k + _ = _; rw [if_pos hk]
  omega
theorem cn_nth {P : Nat → Bool} {s : Nat} : ∀ (c : Nat), s < cn P c → ∃ k, k < c ∧ P k = true ∧ cn P k = s := by
  intro c
  induction c with
  | zero => intro h; exact absurd h (Nat.not_lt_zero _)
  | succ c ih =>
    intro h
    by_cases g : s < cn P c
    · obtain ⟨k, h1, h2, h3⟩ := ih g
      exact ⟨k, by omega, h2, h3⟩
    · have h' : s < cn P c + (if P c = true then 1 else 0) := h
      by_cases e : P c = true
      · rw [if_pos e] at h'; exact ⟨c, by omega, e, by omega⟩
      · rw [if_neg e] at h'; omega
theorem cn_add {P Q R : Nat → Bool} : ∀ (c : Nat), (∀ j, j < c → (R j = true ↔ (P j = true ∨ Q j = true)) ∧ ¬ (P j = true ∧ Q j = true)) → cn R c = cn P c + cn Q c := by
  intro c
  induction c with
  | zero => intro _; rfl
  | succ c ih =>
    intro h
    have h1 := ih fun j hj => h j (by omega)
    obtain ⟨h2, h3⟩ := h c (by omega)
    show cn R c + _ = (cn P c + _) + (cn Q c + _)
    by_cases p : P c = true
    · have q : ¬ Q c = true := fun q => h3 ⟨p, q⟩
      rw [if_pos p, if_neg q, if_pos (h2.mpr (Or.inl p))]; omega
    · by_cases q : Q c = true
      · rw [if_neg p, if_pos q, if_pos (h2.mpr (Or.inr q))]; omega
      · rw [if_neg p, if_neg q, if_neg (fun r => (h2.mp r).elim p q)]; omega
theorem cn_cut {P : Nat → Bool} {k : Nat} : ∀ (c : Nat), k ≤ c → cn (fun j => P j && decide (j < k)) c = cn P k := by
  intro c
  induction c with
  | zero => intro h; rw [show k = 0 by omega]; rfl
  | succ c ih =>
    intro h
    by_cases e : k = c + 1
    · subst e
      exact cn_congr _ fun j hj => by simp [hj]
    · show cn _ c + _ = _
      rw [ih (by omega), if_neg (by simp; omega)]; rfl
theorem cn_lf {α : Type} {h : Nat → α} {p : α → Bool} : ∀ (c : Nat), cn (fun j => p (h j)) c = (lf h c).countP p := by
  intro c
  induction c with
  | zero => rfl
  | succ c ih =>
    show cn _ c + _ = (h c :: lf h c).countP p
    rw [List.countP_cons, ih]
theorem rnk_eq {M : Nat → Int32} {x y : Int32} : ∀ (d i : Nat), rnk M x y d i (nI (cn (fun j => decide (M j = x)) i)) = fnd (fun j => M j = x ∧ nI (cn (fun j => decide (M j = x)) j) = y) d i := by
  intro d
  induction d with
  | zero => intro i; rfl
  | succ d ih =>
    intro i
    rw [rnk, fnd]
    have e1 := ih (i + 1)
    by_cases g : M i = x
    · have e2 : cn (fun j => decide (M j = x)) (i + 1) = cn (fun j => decide (M j = x)) i + 1 := by
        show _ + _ = _; rw [if_pos (by simp [g])]
      rw [if_pos g]
      by_cases g2 : nI (cn (fun j => decide (M j = x)) i) = y
      · rw [if_pos g2, if_pos ⟨g, g2⟩]
      · rw [if_neg g2, if_neg (fun q => g2 q.2), nI_1, ← e2]; exact e1
    · have e2 : cn (fun j => decide (M j = x)) (i + 1) = cn (fun j => decide (M j = x)) i := by
        show _ + _ = _; rw [if_neg (by simp [g])]; rfl
      rw [if_neg g, if_neg (fun q => g q.1), ← e2]; exact e1
def ahd (x : Nat → Int32) (k : Nat) : Nat → Bool := fun j => decide (x (121 + 2 * j) = x (121 + 2 * k)) && (decide (x (122 + 2 * j) < x (122 + 2 * k)) || (decide (x (122 + 2 * j) = x (122 + 2 * k)) && decide (j < k)))
theorem m_sa_L {c i : Nat} {x : Nat → Int32} (hc : c ≤ 40) (h4 : x 4 = nI c) (hi : i < c) (hb : ∀ j, j < c → ∃ a, a ≤ 999 ∧ x (122 + 2 * j) = nI a) : ∀ (d k j : Nat), d < k → j + d = c →
    fX13_scrapsAhead_L4 (nI i) x k (nI (cn (ahd x i) j)) (nI j) = some (nI (cn (ahd x i) c)) := by
  intro d
  induction d with
  | zero =>
    intro k j hk hj
    obtain ⟨k, rfl⟩ : ∃ q, k = q + 1 := ⟨k - 1, by omega⟩
    rw [fX13_scrapsAhead_L4, h4, if_pos (nI_le (by omega) (by omega)), show j = c by omega]
  | succ d ih =>
    intro k j hk hj
    obtain ⟨k, rfl⟩ : ∃ q, k = q + 1 := ⟨k - 1, by omega⟩
    obtain ⟨a, ha, ea⟩ := hb i hi
    obtain ⟨b, hb', eb⟩ := hb j (by omega)
    have r := ih k (j + 1) (by omega) (by omega)
    have e1 : ahd x i j = true → nI (cn (ahd x i) (j + 1)) = nI (cn (ahd x i) j) + 1 := fun g => by
      rw [nI_1]; congr 1; show _ + _ = _; rw [if_pos g]
    have e0 : ¬ ahd x i j = true → nI (cn (ahd x i) (j + 1)) = nI (cn (ahd x i) j) := fun g => by
      congr 1; show _ + _ = _; rw [if_neg g]; rfl
    rw [fX13_scrapsAhead_L4, h4, if_neg (nI_ge (by omega) (by omega)), m_sc0 (by omega), ob, m_sc0 (by omega), ob, m_sc1 (by omega), ob, m_sc1 (by omega), ob, nI_1 j, Int32.add_zero, ea, eb]
    by_cases g1 : x (121 + 2 * j) = x (121 + 2 * i)
    · rw [if_pos g1]
      by_cases g2 : b < a
      · have t : ahd x i j = true := by unfold ahd; rw [ea, eb]; simp [g1, nI_ltI (show b < 2 ^ 31 by omega) (show a < 2 ^ 31 by omega), g2]
        rw [if_pos (by
          rw [Int32.lt_iff_toInt_lt, pk_sub_toInt (by omega) (by omega), show (0 : Int32).toInt = 0 from rfl]; omega), ← e1 t]
        exact r
      · rw [if_neg (by
          rw [Int32.lt_iff_toInt_lt, pk_sub_toInt (by omega) (by omega), show (0 : Int32).toInt = 0 from rfl]; omega)]
        by_cases g3 : a = b
        · subst g3
          rw [if_pos ((sub_eq0 (by omega) (by omega)).mpr rfl)]
          by_cases g4 : i ≤ j
          · have t : ¬ ahd x i j = true := by unfold ahd; rw [ea, eb]; simp [g1, nI_ltI (show a < 2 ^ 31 by omega) (show a < 2 ^ 31 by omega)]; omega
            rw [if_pos (nI_le g4 (by omega)), ← e0 t]; exact r
          · have t : ahd x i j = true := by unfold ahd; rw [ea, eb]; simp [g1]; omega
            rw [if_neg (nI_ge (by omega) (by omega)), ← e1 t]; exact r
        · have t : ¬ ahd x i j = true := by
            unfold ahd; rw [ea, eb]
            simp [g1, nI_ltI (show b < 2 ^ 31 by omega) (show a < 2 ^ 31 by omega), nI_eq (show b < 2 ^ 31 by omega) (show a < 2 ^ 31 by omega)]; omega
          rw [if_neg (fun e => g3 ((sub_eq0 (by omega) (by omega)).mp e)), ← e0 t]; exact r
    · have t : ¬ ahd x i j = true := by unfold ahd; simp [g1]
      rw [if_neg g1, ← e0 t]; exact r
theorem m_sr_L {c q : Nat} {x : Nat → Int32} {p : Int32} (hc : c ≤ 40) (hq : q < 6) (h4 : x 4 = nI c) (hb : ∀ j, j < c → ∃ a, a ≤ 999 ∧ x (122 + 2 * j) = nI a) : ∀ (d k i : Nat), d < k → i + d = c →
    fX13_scrap_L20 (nI (97 + q)) p 0 x k (nI i) = match fnd (fun i => x (121 + 2 * i) = nI q ∧ nI (cn (ahd x i) c) = p) d i with | none => some (0, 2) | some i => some (x (122 + 2 * i), 0) := by
  intro d
  induction d with
  | zero =>
    intro k i hk hi
    obtain ⟨k, rfl⟩ : ∃ q, k = q + 1 := ⟨k - 1, by omega⟩
    rw [fX13_scrap_L20, h4, if_pos (nI_le (by omega) (by omega))]; rfl
  | succ d ih =>
    intro k i hk hi
    obtain ⟨k, rfl⟩ : ∃ q, k = q + 1 := ⟨k - 1, by omega⟩
    have e := m_sa_L hc h4 (show i < c by omega) hb c FU 0 (FU_lt (by omega)) (by omega)
    replace e : fX13_scrapsAhead x (nI i) = some (nI (cn (ahd x i) c)) := e
    rw [fX13_scrap_L20, h4, if_neg (nI_ge (by omega) (by omega)), m_sc0 (by omega), ob, m97 hq, e, ob, m_sc1 (by omega), ob, nI_1, fnd]
    by_cases g1 : x (121 + 2 * i) = nI q
    · rw [if_pos g1]
      by_cases g2 : nI (cn (ahd x i) c) = p
      · rw [if_pos g2, if_pos ⟨g1, g2⟩]
      · rw [if_neg g2, if_neg (fun q => g2 q.2)]; exact ih _ _ (by omega) (by omega)
    · rw [if_neg g1, if_neg (fun q => g1 q.1)]; exact ih _ _ (by omega) (by omega)
theorem scr_rk {c q : Nat} {M L x : Nat → Int32} (h : CR c M L x) (hq : q < 6) :
    (∀ i, i < c → M i = nI (97 + q) → ∃ k, k < c ∧ x (121 + 2 * k) = nI q ∧ cn (ahd x k) c = cn (fun j => decide (M j = nI (97 + q))) i) ∧
    (∀ k, k < c → x (121 + 2 * k) = nI q → ∃ i, i < c ∧ M i = nI (97 + q) ∧ cn (ahd x k) c = cn (fun j => decide (M j = nI (97 + q))) i) ∧
    (∀ i k, i < c → k < c → M i = nI (97 + q) → x (121 + 2 * k) = nI q → cn (ahd x k) c = cn (fun j => decide (M j = nI (97 + q))) i → L i = x (122 + 2 * k)) := by
  obtain ⟨g1, g2, g3, g4, g5⟩ := h
  have tr : ∀ p : Int32 × Int32 → Bool, cn (fun j => p (prc M L j)) c = cn (fun j => p (prx x j)) c := fun p => by rw [cn_lf, cn_lf, g3.countP_eq]
  have tM : cn (fun j => decide (M j = nI (97 + q))) c = cn (fun j => decide (x (121 + 2 * j) = nI q)) c := by
    have := tr (fun e => decide (e.1 = nI q))
    rw [show cn (fun j => decide (x (121 + 2 * j) = nI q)) c = _ from this.symm]
    refine cn_congr c fun j _ => ?_
    unfold prc
    by_cases e : M j = nI (97 + q)
    · simp [e, m97 hq]
    · simp [e]; exact fun e2 => e (sub97 (by rw [e2, m97 hq]))
  have tL : ∀ v, cn (fun j => decide (M j = nI (97 + q)) && decide (L j < v)) c = cn (fun j => decide (x (121 + 2 * j) = nI q) && decide (x (122 + 2 * j) < v)) c := fun v => by
    have := tr (fun e => decide (e.1 = nI q) && decide (e.2 < v))
    rw [show cn (fun j => decide (x (121 + 2 * j) = nI q) && decide (x (122 + 2 * j) < v)) c = _ from this.symm]
    refine cn_congr c fun j _ => ?_
    unfold prc
    by_cases e : M j = nI (97 + q)
    · simp [e, m97 hq]
    · have : ¬ M j - 97 = nI q := fun e2 => e (sub97 (by rw [e2, m97 hq]))
      simp [e, this]
  have tE : ∀ v, cn (fun j => decide (M j = nI (97 + q)) && decide (L j ≤ v)) c = cn (fun j => decide (x (121 + 2 * j) = nI q) && decide (x (122 + 2 * j) ≤ v)) c := fun v => by
    have := tr (fun e => decide (e.1 = nI q) && decide (e.2 ≤ v))
    rw [show cn (fun j => decide (x (121 + 2 * j) = nI q) && decide (x (122 + 2 * j) ≤ v)) c = _ from this.symm]
    refine cn_congr c fun j _ => ?_
    unfold prc
    by_cases e : M j = nI (97 + q)
    · simp [e, m97 hq]
    · have : ¬ M j - 97 = nI q := fun e2 => e (sub97 (by rw [e2, m97 hq]))
      simp [e, this]
  have lo : ∀ i, i < c → M i = nI (97 + q) → cn (fun j => decide (M j = nI (97 + q)) && decide (L j < L i)) c ≤ cn (fun j => decide (M j = nI (97 + q))) i := fun i hi hm => by
    rw [← cn_cut (P := fun j => decide (M j = nI (97 + q))) c (Nat.le_of_lt hi)]
    refine cn_le c fun j hj e => ?_
    simp only [Bool.and_eq_true, decide_eq_true_eq] at e ⊢
    refine ⟨e.1, ?_⟩
    by_cases f : j < i
    · exact f
    · by_cases f2 : i = j
      · subst f2; exact absurd e.2 (Int32.lt_irrefl)
      · exact absurd (g5 i j (by omega) hj) (Int32.not_le.mpr e.2)
  have hi' : ∀ i, i < c → M i = nI (97 + q) → cn (fun j => decide (M j = nI (97 + q))) i < cn (fun j => decide (M j = nI (97 + q)) && decide (L j ≤ L i)) c := fun i hi hm => by
    have h1 : cn (fun j => decide (M j = nI (97 + q))) (i + 1) ≤ cn (fun j => decide (M j = nI (97 + q)) && decide (L j ≤ L i)) c := by
      rw [← cn_cut (P := fun j => decide (M j = nI (97 + q))) c hi]
      refine cn_le c fun j hj e => ?_
      simp only [Bool.and_eq_true, decide_eq_true_eq] at e ⊢
      refine ⟨e.1, ?_⟩
      by_cases f2 : i = j
      · subst f2; exact Int32.le_refl _
      · exact g5 j i (by omega) hi
    have h2 : cn (fun j => decide (M j = nI (97 + q))) (i + 1) = cn (fun j => decide (M j = nI (97 + q))) i + 1 := by
      show _ + _ = _; rw [if_pos (by simp [hm])]
    omega
  have dec : ∀ k, k < c → x (121 + 2 * k) = nI q → cn (ahd x k) c = cn (fun j => decide (x (121 + 2 * j) = nI q) && decide (x (122 + 2 * j) < x (122 + 2 * k))) c + cn (fun j => decide (x (121 + 2 * j) = nI q) && decide (x (122 + 2 * j) = x (122 + 2 * k))) k := fun k hk hm => by
    rw [← cn_cut (P := fun j => decide (x (121 + 2 * j) = nI q) && decide (x (122 + 2 * j) = x (122 + 2 * k))) c (Nat.le_of_lt hk)]
    refine cn_add c fun j hj => ?_
    unfold ahd
    rw [hm]
    simp only [Bool.and_eq_true, Bool.or_eq_true, decide_eq_true_eq]
    constructor
    · constructor
      · rintro ⟨a, b | b⟩
        · exact Or.inl ⟨a, b⟩
        · exact Or.inr ⟨⟨a, b.1⟩, b.2⟩
      · rintro (⟨a, b⟩ | ⟨⟨a, b⟩, d⟩)
        · exact ⟨a, Or.inl b⟩
        · exact ⟨a, Or.inr ⟨b, d⟩⟩
    · rintro ⟨⟨a, b⟩, ⟨a2, b2⟩, d⟩
      rw [b2] at b; exact Int32.lt_irrefl b
  have spl : ∀ v, cn (fun j => decide (x (121 + 2 * j) = nI q) && decide (x (122 + 2 * j) ≤ v)) c = cn (fun j => decide (x (121 + 2 * j) = nI q) && decide (x (122 + 2 * j) < v)) c + cn (fun j => decide (x (121 + 2 * j) = nI q) && decide (x (122 + 2 * j) = v)) c := fun v => by
    refine cn_add c fun j hj => ?_
    simp only [Bool.and_eq_true, decide_eq_true_eq]
    constructor
    · constructor
      · rintro ⟨a, b⟩
        by_cases e : x (122 + 2 * j) = v
        · exact Or.inr ⟨a, e⟩
        · exact Or.inl ⟨a, Int32.lt_of_le_of_ne b e⟩
      · rintro (⟨a, b⟩ | ⟨a, b⟩)
        · exact ⟨a, Int32.le_of_lt b⟩
        · exact ⟨a, by rw [b]; exact Int32.le_refl _⟩
    · rintro ⟨⟨a, b⟩, a2, b2⟩
      rw [b2] at b; exact Int32.lt_irrefl b
  have up : ∀ k, k < c → x (121 + 2 * k) = nI q → cn (ahd x k) c < cn (fun j => decide (x (121 + 2 * j) = nI q) && decide (x (122 + 2 * j) ≤ x (122 + 2 * k))) c := fun k hk hm => by
    rw [dec k hk hm, spl]
    have := cn_lt (P := fun j => decide (x (121 + 2 * j) = nI q) && decide (x (122 + 2 * j) = x (122 + 2 * k))) hk (by simp [hm])
    omega
  refine ⟨fun i hi hm => ?_, fun k hk hm => ?_, fun i k hi hk hm hx he => ?_⟩
  · have a1 := lo i hi hm
    have a2 := hi' i hi hm
    rw [tL] at a1
    rw [tE, spl] at a2
    obtain ⟨k, k1, k2, k3⟩ := cn_nth (P := fun j => decide (x (121 + 2 * j) = nI q) && decide (x (122 + 2 * j) = L i)) (s := cn (fun j => decide (M j = nI (97 + q))) i - cn (fun j => decide (x (121 + 2 * j) = nI q) && decide (x (122 + 2 * j) < L i)) c) c (by omega)
    simp only [Bool.and_eq_true, decide_eq_true_eq] at k2
    refine ⟨k, k1, k2.1, ?_⟩
    rw [dec k k1 k2.1, k2.2, k3]; omega
  · have a1 := up k hk hm
    have a2 : cn (fun j => decide (x (121 + 2 * j) = nI q) && decide (x (122 + 2 * j) ≤ x (122 + 2 * k))) c ≤ cn (fun j => decide (x (121 + 2 * j) = nI q)) c := cn_le c fun j hj e => by
      simp only [Bool.and_eq_true] at e; exact e.1
    rw [← tM] at a2
    obtain ⟨i, i1, i2, i3⟩ := cn_nth (P := fun j => decide (M j = nI (97 + q))) (s := cn (ahd x k) c) c (by omega)
    exact ⟨i, i1, of_decide_eq_true i2, i3.symm⟩
  · have a1 := lo i hi hm
    have a2 := hi' i hi hm
    have b1 := dec k hk hx
    have b2 := up k hk hx
    rw [tL] at a1
    rw [tE] at a2
    have ord : ∀ u v : Int32, u < v → cn (fun j => decide (x (121 + 2 * j) = nI q) && decide (x (122 + 2 * j) ≤ u)) c ≤ cn (fun j => decide (x (121 + 2 * j) = nI q) && decide (x (122 + 2 * j) < v)) c := fun u v huv => cn_le c fun j hj e => by
      simp only [Bool.and_eq_true, decide_eq_true_eq] at e ⊢
      exact ⟨e.1, Int32.lt_of_le_of_lt e.2 huv⟩
    by_cases e : L i = x (122 + 2 * k)
    · exact e
    · exfalso
      rcases Int32.lt_or_lt_of_ne e with f | f
      · have := ord _ _ f; omega
      · have := ord _ _ f; omega
theorem q_scrap {b : Nat} {w : WT} {x : Nat → Int32} (h : WR b w x) (p r : Int32) : QS ["java/lang/IllegalArgumentException", "java/util/NoSuchElementException"] (fX12_scrap (wt_cMn w) (wt_cMf w) (wt_cLn w) (wt_cLf w) p r) (fX13_scrap x p r) := by
  obtain ⟨n, s, m, o, c, k, l, ru, ac, N, M, L, K, cM, cL, T, oN, oM, oL, oD, W, D, A, rfl, h1, h2, h3, h4, h5, h6⟩ := h
  have hc := h3.1
  show QS _ (fX12_scrap (nI c) cM (nI c) cL p r) _
  unfold fX12_scrap fX13_scrap
  rcases mat_cs p with ⟨e1, e2⟩ | ⟨q, hq, rfl, e1, e2⟩
  · rw [e1, e2]; exact QS_er rfl rfl kxI (by decide)
  · have hb : ∀ j, j < c → ∃ a, a ≤ 999 ∧ x (122 + 2 * j) = nI a := fun j hj => by
      obtain ⟨i, hi, e⟩ := (lf_mem c).mp (h3.2.2.1.symm.subset ((lf_mem c).mpr ⟨j, hj, rfl⟩))
      obtain ⟨_, a, a1, a2, a3⟩ := h3.2.2.2.1 i hi
      have e4 := congrArg Prod.snd e
      replace e4 : cL i = x (122 + 2 * j) := e4
      exact ⟨a, a2, by rw [← e4, a3]⟩
    have mm := m_sr_L (p := r) hc hq h3.2.1 hb c FU 0 (FU_lt (by omega)) (by omega)
    have cc := rnk_eq (M := cM) (x := nI (97 + q)) (y := r) c 0
    replace cc : rnk cM (nI (97 + q)) r c 0 0 = _ := cc
    obtain ⟨t1, t2, t3⟩ := scr_rk h3 hq
    rw [e1, e2, ob, ob, exO, if_neg (show ¬ (1 : Int32) = 0 by decide), sc_ir hc, ob, cc, show fX13_scrap_L20 (nI (97 + q)) r 0 x FU 0 = _ from mm]
    cases ec : fnd (fun j => cM j = nI (97 + q) ∧ nI (cn (fun j => decide (cM j = nI (97 + q))) j) = r) c 0 with
    | none =>
      cases em : fnd (fun i => x (121 + 2 * i) = nI q ∧ nI (cn (ahd x i) c) = r) c 0 with
      | none =>
        rw [if_pos (show oI none = -1 from rfl)]
        refine QS_er rfl rfl ?_ (by decide)
        decide
      | some k =>
        obtain ⟨_, f2, ⟨f3, f4⟩, _⟩ := fnd_some _ _ _ em
        obtain ⟨i, i1, i2, i3⟩ := t2 k (by omega) f3
        exact absurd ⟨i2, by rw [← i3]; exact f4⟩ (fnd_none _ _ ec i (Nat.zero_le _) (by omega))
    | some i =>
      obtain ⟨_, d2, ⟨d3, d4⟩, _⟩ := fnd_some _ _ _ ec
      rw [Nat.zero_add] at d2
      cases em : fnd (fun i => x (121 + 2 * i) = nI q ∧ nI (cn (ahd x i) c) = r) c 0 with
      | none =>
        obtain ⟨k, k1, k2, k3⟩ := t1 i d2 d3
        exact absurd ⟨k2, by rw [k3]; exact d4⟩ (fnd_none _ _ em k (Nat.zero_le _) (by omega))
      | some k =>
        obtain ⟨_, f2, ⟨f3, f4⟩, _⟩ := fnd_some _ _ _ em
        rw [Nat.zero_add] at f2
        have b1 := cn_c (P := ahd x k) c
        have b2 := cn_c (P := fun j => decide (cM j = nI (97 + q))) i
        have e := t3 i k d2 f2 d3 f3 ((nI_eq (by omega) (by omega)).mp (f4.trans d4.symm))
        rw [if_neg (oI_m1 (by omega)), oI_s, fX8_lengthAt, row_get d2 hc (by omega)]
        exact QS_ok (a := cL i) rfl (by rw [e])
