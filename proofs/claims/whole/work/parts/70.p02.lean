/-! pure layer: loops of the class over its rows -/
theorem tl_fld {β : Type} {s : β → Nat → β} (d i : Nat) (a : β) : fld s (d + 1) i a = fld s d (i + 1) (s a i) := rfl
theorem FU_lt {d : Nat} (h : d < 4000) : d < FU := by show d < 4096; omega
theorem sp_sum_L {n : Nat} {M L : Nat → Int32} {x : Int32} (hn : n ≤ 10) : ∀ (d k i : Nat) (a : Int32), d < k → i + d = n →
    fX9_sumOf_L4 x (nI n) (nI n) M (nI n) L k a (nI i) = some (fld (fun b j => if M j = x then b + L j else b) d i a) := by
  intro d
  induction d with
  | zero =>
    intro k i a hk hi
    obtain ⟨k, rfl⟩ : ∃ q, k = q + 1 := ⟨k - 1, by omega⟩
    rw [fX9_sumOf_L4, fX9_count, fX7_size, ob, ob, if_pos (nI_le (by omega) (by omega))]; rfl
  | succ d ih =>
    intro k i a hk hi
    obtain ⟨k, rfl⟩ : ∃ q, k = q + 1 := ⟨k - 1, by omega⟩
    rw [fX9_sumOf_L4, fX9_count, fX7_size, ob, ob, if_neg (nI_ge (by omega) (by omega)), row_get (by omega) hn (by omega), ob, row_get (by omega) hn (by omega), ob, nI_1, tl_fld]
    by_cases h : M i = x
    · rw [if_pos h, if_pos h]; exact ih _ _ _ (by omega) (by omega)
    · rw [if_neg h, if_neg h]; exact ih _ _ _ (by omega) (by omega)
theorem sp_sum {n : Nat} {M L : Nat → Int32} {x : Int32} (hn : n ≤ 10) : fX9_sumOf (nI n) (nI n) M (nI n) L x = some (fld (fun b j => if M j = x then b + L j else b) n 0 0) :=
  sp_sum_L hn n FU 0 0 (FU_lt (by omega)) (by omega)
def prf (r : Int32) (a b : Int32) : Bool := if r = 98 then decide (¬ b ≤ a) else if r = 119 then decide (¬ a ≤ b) else false
theorem bit {P : Prop} [Decidable P] : (if P then some (0 : Int32) else some 1) = some (if decide (¬ P) = true then 1 else 0) := by
  by_cases h : P
  · rw [if_pos h, if_neg (by simp [h])]
  · rw [if_neg h, if_pos (by simp [h])]
theorem isPref (a b r : Int32) : fX9_isPreferred a b r = some (if prf r a b = true then 1 else 0) := by
  unfold fX9_isPreferred prf
  by_cases h1 : r = 98
  · rw [if_pos h1, if_pos h1, bit]
  · rw [if_neg h1, if_neg h1]
    by_cases h3 : r = 119
    · rw [if_pos h3, if_pos h3, bit]
    · rw [if_neg h3, if_neg h3]; rfl
def chz (P : Nat → Prop) [DecidablePred P] (L : Nat → Int32) (r : Int32) (b : Option Nat) (i : Nat) : Option Nat :=
  if P i then (match b with
    | none => some i
    | some q => if prf r (L i) (L q) = true then some i else some q) else b
theorem chz_n {P : Nat → Prop} [DecidablePred P] {L : Nat → Int32} {r : Int32} {b : Option Nat} {i : Nat} (h : ¬ P i) : chz P L r b i = b := if_neg h
theorem chz_0 {P : Nat → Prop} [DecidablePred P] {L : Nat → Int32} {r : Int32} {i : Nat} (h : P i) : chz P L r none i = some i := if_pos h
theorem chz_s {P : Nat → Prop} [DecidablePred P] {L : Nat → Int32} {r : Int32} {q i : Nat} (h : P i) : chz P L r (some q) i = if prf r (L i) (L q) = true then some i else some q := if_pos h
theorem oI_m1 {i : Nat} (h : i < 2 ^ 31) : ¬ oI (some i) = -1 := by
  intro e
  have h1 := congrArg Int32.toInt e
  rw [show oI (some i) = nI i from rfl, nI_toInt h] at h1
  have h2 : (-1 : Int32).toInt = -1 := by decide
  omega
theorem oI_lt0 {b : Option Nat} (h : ∀ i, b = some i → i < 2 ^ 31) : oI b < 0 ↔ b = none := by
  cases b with
  | none => exact ⟨fun _ => rfl, fun _ => by decide⟩
  | some i => exact ⟨fun q => absurd q (nI_pos (h i rfl)), fun q => by cases q⟩
theorem oI_ge0 {b : Option Nat} (h : ∀ i, b = some i → i < 2 ^ 31) : 0 ≤ oI b ↔ ¬ b = none := by
  cases b with
  | none => exact ⟨fun q => absurd q (by decide), fun q => absurd rfl q⟩
  | some i => exact ⟨fun _ q => (by cases q), fun _ => nI_pos' (h i rfl)⟩
theorem sp_ch_L {n : Nat} {M L : Nat → Int32} {x y r : Int32} (hn : n ≤ 10) : ∀ (d k i : Nat) (b : Option Nat), d < k → i + d = n → (∀ q, b = some q → q < n) →
    fX9_choose_L6 x y r (nI n) M (nI n) L k (oI b) (nI i) = some (oI (fld (chz (fun j => M j = x ∧ ¬ L j < y) L r) d i b)) := by
  intro d
  induction d with
  | zero =>
    intro k i b hk hi hb
    obtain ⟨k, rfl⟩ : ∃ q, k = q + 1 := ⟨k - 1, by omega⟩
    rw [fX9_choose_L6, fX7_size, ob, if_pos (nI_le (by omega) (by omega))]; rfl
  | succ d ih =>
    intro k i b hk hi hb
    obtain ⟨k, rfl⟩ : ∃ q, k = q + 1 := ⟨k - 1, by omega⟩
    have hg : ∀ {f : Nat → Int32}, fX7_get 10 (nI n) f (nI i) = some (f i) := row_get (by omega) hn (by omega)
    rw [fX9_choose_L6, fX7_size, ob, if_neg (nI_ge (by omega) (by omega)), hg, ob, hg, ob, nI_1, tl_fld]
    by_cases h1 : M i = x
    · rw [if_pos h1]
      by_cases h2 : L i < y
      · rw [if_pos h2, if_pos rfl, ih _ _ _ (by omega) (by omega) hb, chz_n (fun q => q.2 h2)]
      · rw [if_neg h2, if_neg (by decide)]
        cases b with
        | none => rw [chz_0 ⟨h1, h2⟩, if_pos (show oI none = -1 from rfl)]; exact ih _ _ (some i) (by omega) (by omega) (fun q e => by injection e with e; omega)
        | some q =>
          have hq := hb q rfl
          rw [chz_s ⟨h1, h2⟩, if_neg (oI_m1 (by omega)), show oI (some q) = nI q from rfl, row_get hq hn (by omega), ob, ob, isPref, ob]
          by_cases h3 : prf r (L i) (L q) = true
          · rw [if_pos h3, if_neg (by decide), if_pos h3]; exact ih _ _ (some i) (by omega) (by omega) (fun q e => by injection e with e; omega)
          · rw [if_neg h3, if_pos rfl, if_neg h3]; exact ih _ _ (some q) (by omega) (by omega) hb
    · rw [if_neg h1, if_pos rfl, ih _ _ _ (by omega) (by omega) hb, chz_n (fun q => h1 q.1)]
theorem sp_ch {n : Nat} {M L : Nat → Int32} {x y r : Int32} (hn : n ≤ 10) : fX9_choose (nI n) M (nI n) L x y r = some (oI (fld (chz (fun j => M j = x ∧ ¬ L j < y) L r) n 0 none)) :=
  sp_ch_L hn n FU 0 none (FU_lt (by omega)) (by omega) (fun q e => by cases e)
def bef (N M L : Nat → Int32) (i j : Nat) : Bool := if L i = L j then (if M i = M j then decide (¬ N j ≤ N i) else decide (¬ M j ≤ M i)) else decide (¬ L i ≤ L j)
theorem sp_bef {n : Nat} {N M L : Nat → Int32} {i j : Nat} (hn : n ≤ 10) (hi : i < n) (hj : j < n) : fX9_isBefore (nI n) N (nI n) M (nI n) L (nI i) (nI j) = some (if bef N M L i j = true then 1 else 0) := by
  unfold fX9_isBefore bef
  simp only [row_get hi hn (show 10 < 2 ^ 31 by omega), row_get hj hn (show 10 < 2 ^ 31 by omega), ob]
  by_cases h1 : L i = L j
  · rw [if_pos h1, if_pos h1]
    by_cases h2 : M i = M j
    · rw [if_pos h2, if_pos h2, bit]
    · rw [if_neg h2, if_neg h2, bit]
  · rw [if_neg h1, if_neg h1, bit]
theorem sp_rk_L {n : Nat} {N M L : Nat → Int32} {j : Nat} (hn : n ≤ 10) (hj : j < n) : ∀ (d k i : Nat) (a : Int32), d < k → i + d = n →
    fX9_rankOf_L4 (nI j) (nI n) N (nI n) M (nI n) L k a (nI i) = some (fld (fun b q => if bef N M L q j = true then b + 1 else b) d i a) := by
  intro d
  induction d with
  | zero =>
    intro k i b hk hi
    obtain ⟨k, rfl⟩ : ∃ q, k = q + 1 := ⟨k - 1, by omega⟩
    rw [fX9_rankOf_L4, fX9_count, fX7_size, ob, ob, if_pos (nI_le (by omega) (by omega))]; rfl
  | succ d ih =>
    intro k i b hk hi
    obtain ⟨k, rfl⟩ : ∃ q, k = q + 1 := ⟨k - 1, by omega⟩
    rw [fX9_rankOf_L4, fX9_count, fX7_size, ob, ob, if_neg (nI_ge (by omega) (by omega)), sp_bef hn (by omega) hj, ob, nI_1, tl_fld]
    by_cases h : bef N M L i j = true
    · rw [if_pos h, if_neg (by decide), if_pos h]; exact ih _ _ _ (by omega) (by omega)
    · rw [if_neg h, if_pos rfl, if_neg h]; exact ih _ _ _ (by omega) (by omega)
theorem sp_rk {n : Nat} {N M L : Nat → Int32} {j : Nat} (hn : n ≤ 10) (hj : j < n) : fX9_rankOf (nI n) N (nI n) M (nI n) L (nI j) = some (fld (fun b q => if bef N M L q j = true then b + 1 else b) n 0 0) :=
  sp_rk_L hn hj n FU 0 0 (FU_lt (by omega)) (by omega)
theorem sp_ir_L {n : Nat} {N M L : Nat → Int32} {x : Int32} (hn : n ≤ 10) : ∀ (d k i : Nat), d < k → i + d = n →
    fX9_indexOfRank_L2 x (nI n) N (nI n) M (nI n) L k (nI i) = some (oI (fnd (fun j => fld (fun b q => if bef N M L q j = true then b + 1 else b) n 0 0 = x) d i)) := by
  intro d
  induction d with
  | zero =>
    intro k i hk hi
    obtain ⟨k, rfl⟩ : ∃ q, k = q + 1 := ⟨k - 1, by omega⟩
    rw [fX9_indexOfRank_L2, fX9_count, fX7_size, ob, ob, if_pos (nI_le (by omega) (by omega))]; rfl
  | succ d ih =>
    intro k i hk hi
    obtain ⟨k, rfl⟩ : ∃ q, k = q + 1 := ⟨k - 1, by omega⟩
    rw [fX9_indexOfRank_L2, fX9_count, fX7_size, ob, ob, if_neg (nI_ge (by omega) (by omega)), sp_rk hn (by omega), ob, nI_1, ih _ _ (by omega) (by omega)]
    show _ = some (oI (if fld (fun b q => if bef N M L q i = true then b + 1 else b) n 0 0 = x then some i else fnd _ d (i + 1)))
    split <;> rfl
theorem sp_ir {n : Nat} {N M L : Nat → Int32} {x : Int32} (hn : n ≤ 10) : fX9_indexOfRank (nI n) N (nI n) M (nI n) L x = some (oI (fnd (fun j => fld (fun b q => if bef N M L q j = true then b + 1 else b) n 0 0 = x) n 0)) :=
  sp_ir_L hn n FU 0 (FU_lt (by omega)) (by omega)
