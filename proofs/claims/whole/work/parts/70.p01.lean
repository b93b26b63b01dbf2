/-! pure layer: rows -/
theorem gd_t {α : Type} {b : Bool} {x : Option α} (h : b = true) : gd b x = x := if_pos h
theorem inR_n {i n : Nat} (h : i < n) (hn : n < 2 ^ 31) : inR (nI i) n = true := decide_eq_true (nI_in h hn)
theorem ob {α β : Type} (a : α) (f : α → Option β) : (some a).bind f = f a := rfl
theorem nclt0 {n : Nat} (h : n < 2 ^ 31) : ¬ nI n < 0 := nI_pos h
theorem upd_e (f : Nat → Int32) (k j : Nat) (x : Int32) : upd f k x j = if j = k then x else f j := rfl
def ins (f : Nat → Int32) (m i : Nat) (x : Int32) : Nat → Int32 := fun j => if j < i then f j else if j = i then x else if j ≤ m then f (j - 1) else f j
def del (f : Nat → Int32) (n i : Nat) : Nat → Int32 := fun j => if i ≤ j ∧ j + 1 < n then f (j + 1) else f j
def cpy (f g : Nat → Int32) (n : Nat) : Nat → Int32 := fun j => if j < n then g j else f j
def fnd (P : Nat → Prop) [DecidablePred P] : Nat → Nat → Option Nat
  | 0, _ => none
  | d + 1, i => if P i then some i else fnd P d (i + 1)
def oI : Option Nat → Int32
  | none => -1
  | some i => nI i
def fld {β : Type} (s : β → Nat → β) : Nat → Nat → β → β
  | 0, _, a => a
  | d + 1, i, a => fld s d (i + 1) (s a i)
theorem fld_congr {β : Type} {s s' : β → Nat → β} : ∀ (d i : Nat) (a : β), (∀ j, i ≤ j → j < i + d → ∀ b, s b j = s' b j) → fld s d i a = fld s' d i a := by
  intro d
  induction d with
  | zero => intros; rfl
  | succ d ih =>
    intro i a h
    show fld s d (i + 1) (s a i) = fld s' d (i + 1) (s' a i)
    rw [h i (Nat.le_refl _) (by omega) a]
    exact ih _ _ fun j h1 h2 b => h j (by omega) (by omega) b
theorem fnd_congr {P Q : Nat → Prop} [DecidablePred P] [DecidablePred Q] : ∀ (d i : Nat), (∀ j, i ≤ j → j < i + d → (P j ↔ Q j)) → fnd P d i = fnd Q d i := by
  intro d
  induction d with
  | zero => intros; rfl
  | succ d ih =>
    intro i h
    show (if P i then some i else fnd P d (i + 1)) = (if Q i then some i else fnd Q d (i + 1))
    rw [ih _ fun j h1 h2 => h j (by omega) (by omega)]
    by_cases hp : P i
    · rw [if_pos hp, if_pos ((h i (Nat.le_refl _) (by omega)).mp hp)]
    · rw [if_neg hp, if_neg (fun q => hp ((h i (Nat.le_refl _) (by omega)).mpr q))]
theorem fnd_some {P : Nat → Prop} [DecidablePred P] : ∀ (d i j : Nat), fnd P d i = some j → i ≤ j ∧ j < i + d ∧ P j ∧ ∀ q, i ≤ q → q < j → ¬ P q := by
  intro d
  induction d with
  | zero => intro i j h; cases h
  | succ d ih =>
    intro i j h
    replace h : (if P i then some i else fnd P d (i + 1)) = some j := h
    by_cases hp : P i
    · rw [if_pos hp] at h
      injection h with h; subst h
      exact ⟨Nat.le_refl _, by omega, hp, fun q h1 h2 => absurd h2 (by omega)⟩
    · rw [if_neg hp] at h
      obtain ⟨h1, h2, h3, h4⟩ := ih _ _ h
      refine ⟨by omega, by omega, h3, fun q q1 q2 => ?_⟩
      by_cases hq : q = i
      · subst hq; exact hp
      · exact h4 q (by omega) q2
theorem fnd_none {P : Nat → Prop} [DecidablePred P] : ∀ (d i : Nat), fnd P d i = none → ∀ q, i ≤ q → q < i + d → ¬ P q := by
  intro d
  induction d with
  | zero => intro i h q h1 h2; omega
  | succ d ih =>
    intro i h q h1 h2
    replace h : (if P i then some i else fnd P d (i + 1)) = none := h
    by_cases hp : P i
    · rw [if_pos hp] at h; cases h
    · rw [if_neg hp] at h
      by_cases hq : q = i
      · subst hq; exact hp
      · exact ih _ h q (by omega) (by omega)
theorem row_get {ca n i : Nat} {f : Nat → Int32} (h : i < n) (hn : n ≤ ca) (hc : ca < 2 ^ 31) : fX7_get ca (nI n) f (nI i) = some (f i) := by
  unfold fX7_get
  rw [if_neg (nI_pos (by omega)), if_neg (nI_ge h (by omega)), if_neg (nI_ge (by omega) (by omega)), gd_t (inR_n (by omega) hc), nI_clamp (by omega)]
theorem row_getO {ca n : Nat} {f : Nat → Int32} {p : Int32} (h : p < 0 ∨ nI n ≤ p) : fX7_get ca (nI n) f p = some 0 := by
  unfold fX7_get
  by_cases h0 : p < 0
  · rw [if_pos h0]
  · rw [if_neg h0, if_pos (h.resolve_left h0)]
theorem row_inc {ca n i : Nat} {f : Nat → Int32} {x : Int32} (h : i < n) (hn : n ≤ ca) (hc : ca < 2 ^ 31) : fX7_increase ca (nI n) f (nI i) x = some (upd f i (f i + x)) := by
  unfold fX7_increase
  rw [if_neg (nI_pos (by omega)), if_neg (nI_ge h (by omega)), if_neg (nI_ge (by omega) (by omega)), gd_t (inR_n (by omega) hc), gd_t (inR_n (by omega) hc), nI_clamp (by omega)]
theorem row_set {ca n i : Nat} {f : Nat → Int32} {x : Int32} (h : i < n) (hn : n ≤ ca) (hc : ca < 2 ^ 31) : fX7_set ca (nI n) f (nI i) x = some (upd f i x) := by
  unfold fX7_set
  rw [if_neg (nI_pos (by omega)), if_neg (nI_ge h (by omega)), if_neg (nI_ge (by omega) (by omega)), gd_t (inR_n (by omega) hc), nI_clamp (by omega)]
theorem row_add {ca n : Nat} {f : Nat → Int32} {x : Int32} (h : n < ca) (hc : ca < 2 ^ 31) : fX7_add ca (nI n) f x = some (nI (n + 1), upd f n x) := by
  unfold fX7_add
  rw [if_neg (nI_pos (by omega)), if_neg (nI_ge (by omega) (by omega)), gd_t (inR_n (by omega) hc), nI_clamp (by omega), nI_succ]
theorem row_ins_L {ca n i : Nat} {x : Int32} (hn : n < ca) (hc : ca < 2 ^ 31) : ∀ (d k : Nat) (f : Nat → Int32), d < k → i + d ≤ n →
    fX7_insert_L30 ca (nI i) x (nI n) k (nI (i + d)) f = some (nI (n + 1), ins f (i + d) i x) := by
  intro d
  induction d with
  | zero =>
    intro k f hk hi
    obtain ⟨k, rfl⟩ : ∃ q, k = q + 1 := ⟨k - 1, by omega⟩
    rw [fX7_insert_L30, if_pos (nI_le (by omega) (by omega)), gd_t (inR_n (by omega) hc), nI_clamp (by omega), nI_succ]
    congr 2
    funext j
    simp only [ins, upd_e]
    split <;> (try split) <;> (try split) <;> (try rfl) <;> omega
  | succ d ih =>
    intro k f hk hi
    obtain ⟨k, rfl⟩ : ∃ q, k = q + 1 := ⟨k - 1, by omega⟩
    have e1 : nI (i + (d + 1)) - 1 = nI (i + d) := nI_pred (i + d)
    have e2 : nI (i + (d + 1)) + (-1) = nI (i + d) := pk_m1 (i + d)
    rw [fX7_insert_L30, if_neg (nI_ge (by omega) (by omega)), e1, e2, gd_t (inR_n (by omega) hc), gd_t (inR_n (by omega) hc), nI_clamp (by omega), nI_clamp (by omega), ih _ _ (by omega) (by omega)]
    congr 2
    funext j
    simp only [ins, upd_e]
    by_cases h1 : j < i
    · rw [if_pos h1, if_pos h1, if_neg (by omega)]
    · rw [if_neg h1, if_neg h1]
      by_cases h2 : j = i
      · rw [if_pos h2, if_pos h2]
      · rw [if_neg h2, if_neg h2]
        by_cases h3 : j ≤ i + d
        · rw [if_pos h3, if_neg (show ¬ j - 1 = i + (d + 1) by omega), if_pos (show j ≤ i + (d + 1) by omega)]
        · rw [if_neg h3]
          by_cases h4 : j = i + (d + 1)
          · rw [if_pos h4, if_pos (show j ≤ i + (d + 1) by omega)]; congr 1; omega
          · rw [if_neg h4, if_neg (show ¬ j ≤ i + (d + 1) by omega)]
theorem row_ins {ca n i : Nat} {f : Nat → Int32} {x : Int32} (hi : i ≤ n) (hn : n < ca) (hc : ca < 4000) : fX7_insert ca (nI n) f (nI i) x = some (nI (n + 1), ins f n i x) := by
  unfold fX7_insert
  rw [if_neg (nI_pos (by omega)), if_neg (nI_nlt hi (by omega)), if_pos (nI_lt hn (by omega))]
  have h := row_ins_L (i := i) (x := x) hn (by omega) (n - i) FU f (by show n - i < 4096; omega) (by omega)
  rw [show i + (n - i) = n by omega] at h
  exact h
theorem row_del_L {ca n : Nat} (hn : n ≤ ca) (hc : ca < 2 ^ 31) : ∀ (d k a : Nat) (f : Nat → Int32), d < k → a + 1 + d = n →
    fX7_removeAt_L29 ca (nI n) k (nI (a + 1)) f = some (nI (n - 1), del f n a) := by
  intro d
  induction d with
  | zero =>
    intro k a f hk ha
    obtain ⟨k, rfl⟩ : ∃ q, k = q + 1 := ⟨k - 1, by omega⟩
    obtain ⟨m, rfl⟩ : ∃ q, n = q + 1 := ⟨n - 1, by omega⟩
    rw [fX7_removeAt_L29, if_pos (nI_le (by omega) (by omega)), nI_pred]
    congr 2
    funext j
    simp only [del]
    rw [if_neg (by omega)]
  | succ d ih =>
    intro k a f hk ha
    obtain ⟨k, rfl⟩ : ∃ q, k = q + 1 := ⟨k - 1, by omega⟩
    rw [fX7_removeAt_L29, if_neg (nI_ge (by omega) (by omega)), nI_pred, nI_1, gd_t (inR_n (by omega) hc), gd_t (inR_n (by omega) hc), nI_clamp (by omega), nI_clamp (by omega), ih _ (a + 1) _ (by omega) (by omega)]
    congr 2
    funext j
    simp only [del, upd_e]
    by_cases h1 : a + 1 ≤ j ∧ j + 1 < n
    · rw [if_pos h1, if_neg (show ¬ j + 1 = a by omega), if_pos (show a ≤ j ∧ j + 1 < n by omega)]
    · rw [if_neg h1]
      by_cases h2 : j = a
      · rw [if_pos h2, if_pos (by omega), h2]
      · rw [if_neg h2, if_neg (by omega)]
theorem row_del {ca n i : Nat} {f : Nat → Int32} (hi : i < n) (hn : n ≤ ca) (hc : ca < 4000) : fX7_removeAt ca (nI n) f (nI i) = some (nI (n - 1), del f n i) := by
  unfold fX7_removeAt
  rw [if_neg (nI_pos (by omega)), if_neg (nI_ge hi (by omega)), if_pos (nI_le hn (by omega)), nI_1]
  exact row_del_L hn (by omega) (n - i - 1) FU i f (by show _ < 4096; omega) (by omega)
theorem row_ix_L {ca n : Nat} {f : Nat → Int32} {x : Int32} (hn : n ≤ ca) (hc : ca < 2 ^ 31) : ∀ (d k i : Nat), d < k → i + d = n →
    fX7_indexOf_L2 ca x (nI n) f k (nI i) = some (oI (fnd (fun j => f j = x) d i)) := by
  intro d
  induction d with
  | zero =>
    intro k i hk hi
    obtain ⟨k, rfl⟩ : ∃ q, k = q + 1 := ⟨k - 1, by omega⟩
    rw [fX7_indexOf_L2, if_pos (nI_le (by omega) (by omega))]; rfl
  | succ d ih =>
    intro k i hk hi
    obtain ⟨k, rfl⟩ : ∃ q, k = q + 1 := ⟨k - 1, by omega⟩
    rw [fX7_indexOf_L2, if_neg (nI_ge (by omega) (by omega)), if_neg (nI_ge (by omega) (by omega)), gd_t (inR_n (by omega) hc), nI_clamp (by omega), nI_1, ih _ _ (by omega) (by omega)]
    show _ = some (oI (if f i = x then some i else fnd _ d (i + 1)))
    split <;> rfl
theorem row_ix {ca n : Nat} {f : Nat → Int32} {x : Int32} (hn : n ≤ ca) (hc : ca < 4000) : fX7_indexOf ca (nI n) f x = some (oI (fnd (fun j => f j = x) n 0)) :=
  row_ix_L hn (by omega) n FU 0 (by show _ < 4096; omega) (by omega)
theorem row_sum_L {ca n : Nat} {f : Nat → Int32} (hn : n ≤ ca) (hc : ca < 2 ^ 31) : ∀ (d k i : Nat) (a : Int32), d < k → i + d = n →
    fX7_sum_L4 ca (nI n) f k a (nI i) = some (fld (fun b j => b + f j) d i a) := by
  intro d
  induction d with
  | zero =>
    intro k i a hk hi
    obtain ⟨k, rfl⟩ : ∃ q, k = q + 1 := ⟨k - 1, by omega⟩
    rw [fX7_sum_L4, if_pos (nI_le (by omega) (by omega))]; rfl
  | succ d ih =>
    intro k i a hk hi
    obtain ⟨k, rfl⟩ : ∃ q, k = q + 1 := ⟨k - 1, by omega⟩
    rw [fX7_sum_L4, if_neg (nI_ge (by omega) (by omega)), if_neg (nI_ge (by omega) (by omega)), gd_t (inR_n (by omega) hc), nI_clamp (by omega), nI_1, ih _ _ _ (by omega) (by omega)]
    rfl
theorem row_sum {ca n : Nat} {f : Nat → Int32} (hn : n ≤ ca) (hc : ca < 4000) : fX7_sum ca (nI n) f = some (fld (fun b j => b + f j) n 0 0) :=
  row_sum_L hn (by omega) n FU 0 0 (by show _ < 4096; omega) (by omega)
theorem row_cpy_L {ca cb n : Nat} {g : Nat → Int32} (hn : n ≤ ca) (hb : n ≤ cb) (hc : ca < 2 ^ 31) (hd : cb < 2 ^ 31) : ∀ (d k i : Nat) (f : Nat → Int32), d < k → i + d = n →
    fX7_copyFrom_L26 ca cb (nI n) g k (nI i) f = some (nI n, fun j => if i ≤ j ∧ j < n then g j else f j) := by
  intro d
  induction d with
  | zero =>
    intro k i f hk hi
    obtain ⟨k, rfl⟩ : ∃ q, k = q + 1 := ⟨k - 1, by omega⟩
    rw [fX7_copyFrom_L26, if_pos (nI_le (by omega) (by omega))]
    congr 2
    funext j
    rw [if_neg (by omega)]
  | succ d ih =>
    intro k i f hk hi
    obtain ⟨k, rfl⟩ : ∃ q, k = q + 1 := ⟨k - 1, by omega⟩
    rw [fX7_copyFrom_L26, if_neg (nI_ge (by omega) (by omega)), gd_t (inR_n (by omega) hd), gd_t (inR_n (by omega) hc), nI_clamp (by omega), nI_1, ih _ _ _ (by omega) (by omega)]
    congr 2
    funext j
    simp only [upd_e]
    by_cases h1 : i + 1 ≤ j ∧ j < n
    · rw [if_pos h1, if_pos (by omega)]
    · rw [if_neg h1]
      by_cases h2 : j = i
      · rw [if_pos h2, if_pos (by omega), h2]
      · rw [if_neg h2, if_neg (by omega)]
theorem row_cpy {ca cb n : Nat} {un : Int32} {f g : Nat → Int32} (hn : n ≤ ca) (hb : n ≤ cb) (hc : ca < 4000) (hd : cb < 4000) : fX7_copyFrom ca cb un f (nI n) g = some (nI n, cpy f g n) := by
  unfold fX7_copyFrom
  rw [if_neg (nI_nlt hb (by omega)), if_pos (nI_le hn (by omega))]
  rw [show (0 : Int32) = nI 0 from rfl, row_cpy_L hn hb (by omega) (by omega) n FU 0 f (by show _ < 4096; omega) (by omega)]
  congr 2
  funext j
  simp only [cpy, Nat.zero_le, true_and]
