/-! pure layer: loops of the class over orders and scraps -/
def pos (P : Nat → Prop) [DecidablePred P] (n : Nat) : Nat := (fnd P n 0).getD n
theorem pos_le {P : Nat → Prop} [DecidablePred P] {n : Nat} : pos P n ≤ n := by
  unfold pos
  cases h : fnd P n 0 with
  | none => exact Nat.le_refl _
  | some i => have := (fnd_some _ _ _ h).2.1; show i ≤ n; omega
theorem pos_at {P : Nat → Prop} [DecidablePred P] {n : Nat} (h : pos P n < n) : P (pos P n) := by
  unfold pos at h ⊢
  cases e : fnd P n 0 with
  | none => rw [e] at h; exact absurd h (Nat.lt_irrefl _)
  | some i => exact (fnd_some _ _ _ e).2.2.1
theorem pos_bf {P : Nat → Prop} [DecidablePred P] {n : Nat} : ∀ j, j < pos P n → ¬ P j := by
  unfold pos
  cases e : fnd P n 0 with
  | none => intro j hj; exact fnd_none _ _ e j (Nat.zero_le _) (by simpa using hj)
  | some i => intro j hj; exact (fnd_some _ _ _ e).2.2.2 j (Nat.zero_le _) hj
theorem or_add_L {n : Nat} {N M L D : Nat → Int32} {x y z v : Int32} (hn : n < 12) : ∀ (d k i : Nat), d < k → i + d = n →
    fX5_add_L3 x y z v (nI n) N (nI n) M (nI n) L (nI n) D k (nI i) = (some (v, v + 1, nI (n + 1), ins N n ((fnd (fun j => z < D j) d i).getD n) v, nI (n + 1), ins M n ((fnd (fun j => z < D j) d i).getD n) x, nI (n + 1), ins L n ((fnd (fun j => z < D j) d i).getD n) y, nI (n + 1), ins D n ((fnd (fun j => z < D j) d i).getD n) z) : Option (Int32 × Int32 × Int32 × (Nat → Int32) × Int32 × (Nat → Int32) × Int32 × (Nat → Int32) × Int32 × (Nat → Int32))) := by
  intro d
  induction d with
  | zero =>
    intro k i hk hi
    obtain ⟨k, rfl⟩ : ∃ q, k = q + 1 := ⟨k - 1, by omega⟩
    have hin : i = n := by omega
    subst hin
    have hg : ∀ {f : Nat → Int32} {a : Int32}, fX7_insert 12 (nI i) f (nI i) a = some (nI (i + 1), ins f i i a) := row_ins (Nat.le_refl _) hn (by omega)
    rw [fX5_add_L3, fX5_count, fX7_size, ob, ob, if_pos (nI_le (Nat.le_refl _) (by omega)), hg, ob, hg, ob, hg, ob, hg, ob]; rfl
  | succ d ih =>
    intro k i hk hi
    obtain ⟨k, rfl⟩ : ∃ q, k = q + 1 := ⟨k - 1, by omega⟩
    have hg : ∀ {f : Nat → Int32} {a : Int32}, fX7_insert 12 (nI n) f (nI i) a = some (nI (n + 1), ins f n i a) := row_ins (by omega) hn (by omega)
    rw [fX5_add_L3, fX5_count, fX7_size, ob, ob, if_neg (nI_ge (by omega) (by omega)), row_get (by omega) (by omega) (by omega), ob, nI_1, ih _ _ (by omega) (by omega), fnd]
    by_cases h : z < D i
    · simp only [if_pos h]; rw [hg, ob, hg, ob, hg, ob, hg, ob]; rfl
    · simp only [if_neg h]
theorem or_add {n : Nat} {N M L D : Nat → Int32} {x y z v : Int32} (hn : n < 12) :
    fX5_add v (nI n) N (nI n) M (nI n) L (nI n) D x y z = some (v, v + 1, nI (n + 1), ins N n (pos (fun j => z < D j) n) v, nI (n + 1), ins M n (pos (fun j => z < D j) n) x, nI (n + 1), ins L n (pos (fun j => z < D j) n) y, nI (n + 1), ins D n (pos (fun j => z < D j) n) z) :=
  or_add_L hn n FU 0 (FU_lt (by omega)) (by omega)
theorem or_del {n i : Nat} {N M L D : Nat → Int32} (hn : n ≤ 12) (hi : i < n) :
    fX5_removeAt (nI n) N (nI n) M (nI n) L (nI n) D (nI i) = some (nI (n - 1), del N n i, nI (n - 1), del M n i, nI (n - 1), del L n i, nI (n - 1), del D n i) := by
  unfold fX5_removeAt
  rw [row_del hi hn (by omega), ob, row_del hi hn (by omega), ob, row_del hi hn (by omega), ob, row_del hi hn (by omega), ob]
theorem sp_del {n i : Nat} {N M L K : Nat → Int32} (hn : n ≤ 10) (hi : i < n) :
    fX9_removeAt (nI n) N (nI n) M (nI n) L (nI n) K (nI i) = some (nI (n - 1), del N n i, nI (n - 1), del M n i, nI (n - 1), del L n i, nI (n - 1), del K n i) := by
  unfold fX9_removeAt
  rw [row_del hi hn (by omega), ob, row_del hi hn (by omega), ob, row_del hi hn (by omega), ob, row_del hi hn (by omega), ob]
theorem sp_add {n : Nat} {N M L K : Nat → Int32} {v x y : Int32} (hn : n < 10) :
    fX9_add v (nI n) N (nI n) M (nI n) L (nI n) K x y = some (v, v + 1, nI (n + 1), upd N n v, nI (n + 1), upd M n x, nI (n + 1), upd L n y, nI (n + 1), upd K n 0) := by
  unfold fX9_add
  rw [row_add hn (by omega), ob, row_add hn (by omega), ob, row_add hn (by omega), ob, row_add hn (by omega), ob]
theorem sp_sho {n i : Nat} {L K : Nat → Int32} {x : Int32} (hn : n ≤ 10) (hi : i < n) :
    fX9_shorten (nI n) L (nI n) K (nI i) x = some (upd L i x, upd K i (K i + 1)) := by
  unfold fX9_shorten
  rw [row_set hi hn (by omega), ob, row_inc hi hn (by omega), ob]
theorem sc_del {n i : Nat} {M L : Nat → Int32} (hn : n ≤ 40) (hi : i < n) :
    fX8_removeAt (nI n) M (nI n) L (nI i) = some (nI (n - 1), del M n i, nI (n - 1), del L n i) := by
  unfold fX8_removeAt
  rw [row_del hi hn (by omega), ob, row_del hi hn (by omega), ob]
theorem or_srt_L {n : Nat} {N D : Nat → Int32} (hn : n ≤ 12) (hs : ∀ i j, i < j → j < n → D i < D j ∨ (D i = D j ∧ N i < N j)) : ∀ (d k i : Nat), d < k → i + d = n + 1 → 0 < i →
    fX5_isSorted_L2 (nI n) N (nI n) D k (nI i) = some 1 := by
  intro d
  induction d with
  | zero =>
    intro k i hk hi h0
    obtain ⟨k, rfl⟩ : ∃ q, k = q + 1 := ⟨k - 1, by omega⟩
    rw [fX5_isSorted_L2, fX5_count, fX7_size, ob, ob, if_pos (nI_le (by omega) (by omega))]
  | succ d ih =>
    intro k i hk hi h0
    obtain ⟨k, rfl⟩ : ∃ q, k = q + 1 := ⟨k - 1, by omega⟩
    rw [fX5_isSorted_L2, fX5_count, fX7_size, ob, ob]
    by_cases hl : n ≤ i
    · rw [if_pos (nI_le hl (by omega))]
    · obtain ⟨m, rfl⟩ : ∃ q, i = q + 1 := ⟨i - 1, by omega⟩
      have hm : nI (m + 1) - 1 = nI m := nI_pred m
      have h1 := hs m (m + 1) (by omega) (by omega)
      have r := ih k (m + 2) (by omega) (by omega) (by omega)
      have e : nI (m + 1) + 1 = nI (m + 2) := nI_1 (m + 1)
      have hg : ∀ {f : Nat → Int32}, fX7_get 12 (nI n) f (nI (m + 1)) = some (f (m + 1)) := row_get (by omega) (by omega) (by omega)
      have hf : ∀ {f : Nat → Int32}, fX7_get 12 (nI n) f (nI m) = some (f m) := row_get (by omega) (by omega) (by omega)
      rw [if_neg (nI_ge (by omega) (by omega)), hm]
      simp only [hg, hf, ob, e, r]
      rcases h1 with h1 | ⟨h1, h2⟩
      · have h3 : ¬ D (m + 1) ≤ D m := Int32.not_le.mpr h1
        have h4 : ¬ D m = D (m + 1) := fun q => by rw [q] at h1; exact Int32.lt_irrefl h1
        rw [if_neg h3, if_neg h4, if_neg (by decide)]
      · have h3 : D (m + 1) ≤ D m := by rw [h1]; exact Int32.le_refl _
        rw [if_pos h3, if_pos h1, if_pos trivial, if_neg (by decide), if_pos h2]
theorem or_srt {n : Nat} {N D : Nat → Int32} (hn : n ≤ 12) (hs : ∀ i j, i < j → j < n → D i < D j ∨ (D i = D j ∧ N i < N j)) : fX5_isSorted (nI n) N (nI n) D = some 1 :=
  or_srt_L hn hs n FU 1 (FU_lt (by omega)) (by omega) (by omega)
theorem sc_cnt_L {n : Nat} {M : Nat → Int32} {x : Int32} (hn : n ≤ 40) : ∀ (d k i : Nat) (a : Int32), d < k → i + d = n →
    fX8_countOf_L4 x (nI n) M (nI n) k a (nI i) = some (fld (fun b j => if M j = x then b + 1 else b) d i a) := by
  intro d
  induction d with
  | zero =>
    intro k i a hk hi
    obtain ⟨k, rfl⟩ : ∃ q, k = q + 1 := ⟨k - 1, by omega⟩
    rw [fX8_countOf_L4, fX7_size, ob, if_pos (nI_le (by omega) (by omega))]; rfl
  | succ d ih =>
    intro k i a hk hi
    obtain ⟨k, rfl⟩ : ∃ q, k = q + 1 := ⟨k - 1, by omega⟩
    rw [fX8_countOf_L4, fX7_size, ob, if_neg (nI_ge (by omega) (by omega)), row_get (by omega) hn (by omega), ob, nI_1, tl_fld]
    by_cases h : M i = x
    · rw [if_pos h, if_pos h]; exact ih _ _ _ (by omega) (by omega)
    · rw [if_neg h, if_neg h]; exact ih _ _ _ (by omega) (by omega)
theorem sc_cnt {n : Nat} {M : Nat → Int32} {x : Int32} (hn : n ≤ 40) : fX8_countOf (nI n) M (nI n) x = some (fld (fun b j => if M j = x then b + 1 else b) n 0 0) :=
  sc_cnt_L hn n FU 0 0 (FU_lt (by omega)) (by omega)
theorem sc_sum_L {n : Nat} {M L : Nat → Int32} {x : Int32} (hn : n ≤ 40) : ∀ (d k i : Nat) (a : Int32), d < k → i + d = n →
    fX8_sumOf_L4 x (nI n) M (nI n) L k a (nI i) = some (fld (fun b j => if M j = x then b + L j else b) d i a) := by
  intro d
  induction d with
  | zero =>
    intro k i a hk hi
    obtain ⟨k, rfl⟩ : ∃ q, k = q + 1 := ⟨k - 1, by omega⟩
    rw [fX8_sumOf_L4, fX7_size, ob, if_pos (nI_le (by omega) (by omega))]; rfl
  | succ d ih =>
    intro k i a hk hi
    obtain ⟨k, rfl⟩ : ∃ q, k = q + 1 := ⟨k - 1, by omega⟩
    rw [fX8_sumOf_L4, fX7_size, ob, if_neg (nI_ge (by omega) (by omega)), row_get (by omega) hn (by omega), ob, row_get (by omega) hn (by omega), ob, nI_1, tl_fld]
    by_cases h : M i = x
    · rw [if_pos h, if_pos h]; exact ih _ _ _ (by omega) (by omega)
    · rw [if_neg h, if_neg h]; exact ih _ _ _ (by omega) (by omega)
theorem sc_sum {n : Nat} {M L : Nat → Int32} {x : Int32} (hn : n ≤ 40) : fX8_sumOf (nI n) M (nI n) L x = some (fld (fun b j => if M j = x then b + L j else b) n 0 0) :=
  sc_sum_L hn n FU 0 0 (FU_lt (by omega)) (by omega)
def rnk (M : Nat → Int32) (x y : Int32) : Nat → Nat → Int32 → Option Nat
  | 0, _, _ => none
  | d + 1, i, a => if M i = x then (if a = y then some i else rnk M x y d (i + 1) (a + 1)) else rnk M x y d (i + 1) a
theorem sc_ir_L {n : Nat} {M : Nat → Int32} {x y : Int32} (hn : n ≤ 40) : ∀ (d k i : Nat) (a : Int32), d < k → i + d = n →
    fX8_indexOfRank_L5 x y (nI n) M (nI n) k a (nI i) = some (oI (rnk M x y d i a)) := by
  intro d
  induction d with
  | zero =>
    intro k i a hk hi
    obtain ⟨k, rfl⟩ : ∃ q, k = q + 1 := ⟨k - 1, by omega⟩
    rw [fX8_indexOfRank_L5, fX7_size, ob, if_pos (nI_le (by omega) (by omega))]; rfl
  | succ d ih =>
    intro k i a hk hi
    obtain ⟨k, rfl⟩ : ∃ q, k = q + 1 := ⟨k - 1, by omega⟩
    rw [fX8_indexOfRank_L5, fX7_size, ob, if_neg (nI_ge (by omega) (by omega)), row_get (by omega) hn (by omega), ob, nI_1, rnk]
    by_cases h : M i = x
    · rw [if_pos h, if_pos h]
      by_cases h2 : a = y
      · rw [if_pos h2, if_pos h2]; rfl
      · rw [if_neg h2, if_neg h2]; exact ih _ _ _ (by omega) (by omega)
    · rw [if_neg h, if_neg h]; exact ih _ _ _ (by omega) (by omega)
theorem sc_ir {n : Nat} {M : Nat → Int32} {x y : Int32} (hn : n ≤ 40) : fX8_indexOfRank (nI n) M (nI n) x y = some (oI (rnk M x y n 0 0)) :=
  sc_ir_L hn n FU 0 0 (FU_lt (by omega)) (by omega)
theorem sc_sho_L {n : Nat} {M L : Nat → Int32} {x y : Int32} (hn : n ≤ 40) : ∀ (d k i : Nat), d < k → i + d = n →
    fX8_shortestFor_L2 x y (nI n) M (nI n) L k (nI i) = some (oI (fnd (fun j => M j = x ∧ ¬ L j < y) d i)) := by
  intro d
  induction d with
  | zero =>
    intro k i hk hi
    obtain ⟨k, rfl⟩ : ∃ q, k = q + 1 := ⟨k - 1, by omega⟩
    rw [fX8_shortestFor_L2, fX7_size, ob, if_pos (nI_le (by omega) (by omega))]; rfl
  | succ d ih =>
    intro k i hk hi
    obtain ⟨k, rfl⟩ : ∃ q, k = q + 1 := ⟨k - 1, by omega⟩
    rw [fX8_shortestFor_L2, fX7_size, ob, if_neg (nI_ge (by omega) (by omega)), row_get (by omega) hn (by omega), ob, row_get (by omega) hn (by omega), ob, nI_1, ih _ _ (by omega) (by omega), fnd]
    by_cases h : M i = x
    · rw [if_pos h]
      by_cases h2 : L i < y
      · rw [if_pos h2, if_neg (fun q => q.2 h2)]
      · rw [if_neg h2, if_pos ⟨h, h2⟩]; rfl
    · rw [if_neg h, if_neg (fun q => h q.1)]
theorem sc_sho {n : Nat} {M L : Nat → Int32} {x y : Int32} (hn : n ≤ 40) : fX8_shortestFor (nI n) M (nI n) L x y = some (oI (fnd (fun j => M j = x ∧ ¬ L j < y) n 0)) :=
  sc_sho_L hn n FU 0 (FU_lt (by omega)) (by omega)
theorem sc_kp_L {n : Nat} {M L T : Nat → Int32} {x y : Int32} (hn : n < 40) : ∀ (d k i : Nat), d < k → i + d = n →
    fX8_keepOrThrow_L27 x y (nI n) M (nI n) L T k (nI i) = (some (nI (n + 1), ins M n ((fnd (fun j => y ≤ L j) d i).getD n) x, nI (n + 1), ins L n ((fnd (fun j => y ≤ L j) d i).getD n) y, T) : Option (Int32 × (Nat → Int32) × Int32 × (Nat → Int32) × (Nat → Int32))) := by
  intro d
  induction d with
  | zero =>
    intro k i hk hi
    obtain ⟨k, rfl⟩ : ∃ q, k = q + 1 := ⟨k - 1, by omega⟩
    have hin : i = n := by omega
    subst hin
    have hg : ∀ {f : Nat → Int32} {a : Int32}, fX7_insert 40 (nI i) f (nI i) a = some (nI (i + 1), ins f i i a) := row_ins (Nat.le_refl _) hn (by omega)
    rw [fX8_keepOrThrow_L27, fX7_size, ob, if_pos (nI_le (Nat.le_refl _) (by omega)), hg, ob, hg, ob]; rfl
  | succ d ih =>
    intro k i hk hi
    obtain ⟨k, rfl⟩ : ∃ q, k = q + 1 := ⟨k - 1, by omega⟩
    have hg : ∀ {f : Nat → Int32} {a : Int32}, fX7_insert 40 (nI n) f (nI i) a = some (nI (n + 1), ins f n i a) := row_ins (by omega) hn (by omega)
    rw [fX8_keepOrThrow_L27, fX7_size, ob, if_neg (nI_ge (by omega) (by omega)), row_get (by omega) (by omega) (by omega), ob, nI_1, ih _ _ (by omega) (by omega), fnd]
    by_cases h : y ≤ L i
    · simp only [if_pos h]; rw [hg, ob, hg, ob]; rfl
    · simp only [if_neg h]
theorem sc_kp {n : Nat} {M L T : Nat → Int32} {x y : Int32} (hn : n < 40) :
    fX8_keepOrThrow (nI n) M (nI n) L 6 T x y = some (nI (n + 1), ins M n (pos (fun j => y ≤ L j) n) x, nI (n + 1), ins L n (pos (fun j => y ≤ L j) n) y, T) := by
  unfold fX8_keepOrThrow
  have h : nI n < (40 : Int32) := (nI_lt hn (by omega) : nI n < nI 40)
  rw [fX7_size, ob, if_pos h]
  exact sc_kp_L hn n FU 0 (FU_lt (by omega)) (by omega)
theorem sc_th {q : Nat} {M L T : Nat → Int32} {y : Int32} (hq : q < 6) :
    fX8_keepOrThrow (nI 40) M (nI 40) L 6 T (nI (97 + q)) y = some (nI 40, M, nI 40, L, upd T q (T q + y)) := by
  unfold fX8_keepOrThrow
  have e : nI (97 + q) - 97 = nI q := by
    have := pk_sub (a := 97 + q) (b := 97) (by omega)
    rw [show 97 + q - 97 = q by omega] at this; exact this
  rw [fX7_size, ob, if_neg (by decide), fX12_placeOf, ob, e, show (6 : Int32) = nI 6 from rfl, row_inc hq (Nat.le_refl _) (by omega), ob]
