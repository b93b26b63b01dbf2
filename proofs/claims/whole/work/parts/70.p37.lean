/-! pure layer: which verb -/
theorem pvb_z {m L : Nat → Nat} : ∀ (d k b : Nat), (∀ j, k ≤ j → j < k + d → m j ≠ L j ∧ m j ≤ b) → pvb m L d k b = (none, b) := by
  intro d
  induction d with
  | zero => intro k b _; rfl
  | succ d ih =>
    intro k b h
    obtain ⟨h1, h2⟩ := h k (Nat.le_refl _) (by omega)
    rw [pvb, if_neg h1, if_pos h2]
    exact ih _ _ fun j a c => h j (by omega) (by omega)
theorem pvb_1 {m L : Nat → Nat} {i b : Nat} (hb : b ≤ m i) : ∀ (d k : Nat), k ≤ i → i < k + d → (∀ j, k ≤ j → j < k + d → j ≠ i → m j ≤ b ∧ m j < L j) → pvb m L d k b = if m i = L i then (some i, m i) else (none, m i) := by
  intro d
  induction d with
  | zero => intro k h1 h2; omega
  | succ d ih =>
    intro k h1 h2 h3
    by_cases e : k = i
    · subst e
      rw [pvb]
      by_cases g : m k = L k
      · rw [if_pos g, if_pos g]
      · rw [if_neg g, if_neg g]
        by_cases g2 : m k ≤ b
        · have : m k = b := by omega
          rw [if_pos g2, pvb_z d (k + 1) b (fun j a c => by have := h3 j (by omega) (by omega) (by omega); omega), this]
        · rw [if_neg g2, pvb_z d (k + 1) (m k) (fun j a c => by have := h3 j (by omega) (by omega) (by omega); omega)]
    · obtain ⟨a1, a2⟩ := h3 k (Nat.le_refl _) (by omega) e
      rw [pvb, if_neg (by omega), if_pos a1]
      exact ih (k + 1) (by omega) (by omega) fun j a c => h3 j (by omega) (by omega)
/-- a word that stands at most as far as another one does not take its place -/
theorem pvb_2 {m L : Nat → Nat} {i i2 : Nat} (hne : i2 < i) (h2 : m i2 ≤ m i) (h2' : m i2 < L i2) : ∀ (d k b : Nat), b ≤ m i → k ≤ i2 → i < k + d → (∀ j, k ≤ j → j < k + d → j ≠ i → j ≠ i2 → m j = 0 ∧ 0 < L j) → pvb m L d k b = if m i = L i then (some i, m i) else (none, m i) := by
  intro d
  induction d with
  | zero => intro k b hb h1 h3; omega
  | succ d ih =>
    intro k b hb h1 h3 h4
    by_cases e : k = i2
    · subst e
      rw [pvb, if_neg (by omega)]
      have hz : ∀ c, ∀ j, k + 1 ≤ j → j < k + 1 + d → j ≠ i → m j ≤ c ∧ m j < L j := fun c j a1 a2 a3 => by
        have := h4 j (by omega) (by omega) a3 (by omega); omega
      by_cases g : m k ≤ b
      · rw [if_pos g]; exact pvb_1 hb d (k + 1) (by omega) (by omega) (hz b)
      · rw [if_neg g]; exact pvb_1 h2 d (k + 1) (by omega) (by omega) (hz (m k))
    · obtain ⟨a1, a2⟩ := h4 k (Nat.le_refl _) (by omega) (by omega) e
      rw [pvb, if_neg (by omega), if_pos (by omega)]
      exact ih (k + 1) b hb (by omega) (by omega) fun j a c => h4 j (by omega) (by omega)
theorem pvb_3 {m L : Nat → Nat} {i i2 : Nat} (hne : i < i2) (h2 : m i2 ≤ m i) (h2' : m i2 < L i2) : ∀ (d k : Nat), k ≤ i → i < k + d → (∀ j, k ≤ j → j < k + d → j ≠ i → j ≠ i2 → m j = 0 ∧ 0 < L j) → pvb m L d k 0 = if m i = L i then (some i, m i) else (none, m i) := by
  intro d
  induction d with
  | zero => intro k h1 h3; omega
  | succ d ih =>
    intro k h1 h3 h4
    by_cases e : k = i
    · subst e
      rw [pvb]
      by_cases g : m k = L k
      · rw [if_pos g, if_pos g]
      · rw [if_neg g, if_neg g]
        have hz : ∀ c, m k ≤ c → ∀ j, k + 1 ≤ j → j < k + 1 + d → m j ≠ L j ∧ m j ≤ c := fun c hc j a1 a2 => by
          by_cases e2 : j = i2
          · subst e2; omega
          · have := h4 j (by omega) (by omega) (by omega) e2; omega
        by_cases g2 : m k ≤ 0
        · rw [if_pos g2, pvb_z d (k + 1) 0 (hz 0 g2), show m k = 0 by omega]
        · rw [if_neg g2, pvb_z d (k + 1) (m k) (hz (m k) (Nat.le_refl _))]
    · obtain ⟨a1, a2⟩ := h4 k (Nat.le_refl _) (by omega) e (by omega)
      rw [pvb, if_neg (by omega), if_pos (by omega)]
      exact ih (k + 1) (by omega) (by omega) fun j a c => h4 j (by omega) (by omega)
theorem mtw_0 {l a : Nat} {T : Nat → Int32} {c : Int32} {w : List Int32} (h : ¬ atc l T a c) : mtw l T (c :: w) a = 0 := if_neg h
theorem mtw_s {l a : Nat} {T : Nat → Int32} {c : Int32} {w : List Int32} (h : atc l T a c) : mtw l T (c :: w) a = 1 + mtw l T w (a + 1) := if_pos h
