/-! pure layer: lists, and the reference's cells -/
def lf {α : Type} (h : Nat → α) : Nat → List α
  | 0 => []
  | c + 1 => h c :: lf h c
def smQ {α : Type} (g : α → Int32) : List α → Int32
  | [] => 0
  | a :: l => g a + smQ g l
theorem lf_congr {α : Type} {h h' : Nat → α} : ∀ (c : Nat), (∀ j, j < c → h j = h' j) → lf h c = lf h' c := by
  intro c
  induction c with
  | zero => intro _; rfl
  | succ c ih =>
    intro hh
    show h c :: lf h c = h' c :: lf h' c
    rw [hh c (by omega), ih fun j hj => hh j (by omega)]
theorem lf_mem {α : Type} {h : Nat → α} {p : α} : ∀ (c : Nat), p ∈ lf h c ↔ ∃ j, j < c ∧ h j = p := by
  intro c
  induction c with
  | zero => exact ⟨fun q => absurd q List.not_mem_nil, fun ⟨j, q, _⟩ => absurd q (Nat.not_lt_zero _)⟩
  | succ c ih =>
    constructor
    · intro q
      rcases List.mem_cons.mp q with q | q
      · exact ⟨c, by omega, q.symm⟩
      · obtain ⟨j, h1, h2⟩ := ih.mp q
        exact ⟨j, by omega, h2⟩
    · intro ⟨j, h1, h2⟩
      by_cases hj : j = c
      · subst hj; exact List.mem_cons.mpr (Or.inl h2.symm)
      · exact List.mem_cons.mpr (Or.inr (ih.mpr ⟨j, by omega, h2⟩))
theorem lf_len {α : Type} {h : Nat → α} : ∀ (c : Nat), (lf h c).length = c := by
  intro c
  induction c with
  | zero => rfl
  | succ c ih => show (lf h c).length + 1 = c + 1; rw [ih]
theorem lf_ins {α : Type} {h h' : Nat → α} {v : α} {i : Nat} : ∀ (c : Nat), i ≤ c → (∀ j, j < i → h' j = h j) → h' i = v → (∀ j, i < j → j ≤ c → h' j = h (j - 1)) → (lf h' (c + 1)).Perm (v :: lf h c) := by
  intro c
  induction c with
  | zero =>
    intro hi h1 h2 h3
    have e : i = 0 := by omega
    subst e
    show (h' 0 :: []).Perm (v :: [])
    rw [h2]
  | succ c ih =>
    intro hi h1 h2 h3
    by_cases e : i = c + 1
    · subst e
      show (h' (c + 1) :: lf h' (c + 1)).Perm _
      rw [h2, lf_congr _ h1]
    · have r := ih (by omega) h1 h2 (fun j a b => h3 j a (by omega))
      show (h' (c + 1) :: lf h' (c + 1)).Perm (v :: h c :: lf h c)
      rw [h3 (c + 1) (by omega) (by omega)]
      exact (r.cons _).trans (List.Perm.swap _ _ _)
theorem lf_del {α : Type} {h h' : Nat → α} {i : Nat} : ∀ (c : Nat), i < c + 1 → (∀ j, j < i → h' j = h j) → (∀ j, i ≤ j → j < c → h' j = h (j + 1)) → (lf h (c + 1)).Perm (h i :: lf h' c) := by
  intro c
  induction c with
  | zero =>
    intro hi h1 h2
    have e : i = 0 := by omega
    subst e
    exact List.Perm.refl _
  | succ c ih =>
    intro hi h1 h2
    by_cases e : i = c + 1
    · subst e
      rw [lf_congr _ h1]
      exact List.Perm.refl _
    · have r := ih (by omega) h1 (fun j a b => h2 j a (by omega))
      show (h (c + 1) :: lf h (c + 1)).Perm (h i :: h' c :: lf h' c)
      rw [h2 c (by omega) (by omega)]
      exact (r.cons _).trans (List.Perm.swap _ _ _)
theorem smQ_perm {α : Type} {g : α → Int32} {l l' : List α} (h : l.Perm l') : smQ g l = smQ g l' := by
  induction h with
  | nil => rfl
  | cons a _ ih => show g a + smQ g _ = g a + smQ g _; rw [ih]
  | swap a b l => show g b + (g a + smQ g l) = g a + (g b + smQ g l); rw [← Int32.add_assoc, ← Int32.add_assoc, Int32.add_comm (g b)]
  | trans _ _ h1 h2 => exact h1.trans h2
theorem fld_snoc {β : Type} {s : β → Nat → β} : ∀ (d i : Nat) (a : β), fld s (d + 1) i a = s (fld s d i a) (i + d) := by
  intro d
  induction d with
  | zero => intros; rfl
  | succ d ih =>
    intro i a
    show fld s (d + 1) (i + 1) (s a i) = s (fld s d (i + 1) (s a i)) (i + (d + 1))
    rw [ih, show i + 1 + d = i + (d + 1) by omega]
theorem fld_smQ {α : Type} {g : α → Int32} {h : Nat → α} (a : Int32) : ∀ (c : Nat), fld (fun b j => b + g (h j)) c 0 a = a + smQ g (lf h c) := by
  intro c
  induction c with
  | zero => show a = a + 0; rw [Int32.add_zero]
  | succ c ih =>
    rw [fld_snoc, ih, Nat.zero_add]
    show a + smQ g (lf h c) + g (h c) = a + (g (h c) + smQ g (lf h c))
    rw [Int32.add_assoc, Int32.add_comm (g (h c))]
theorem smQ_fil {α : Type} {g : α → Int32} {p : α → Bool} (hp : ∀ a, p a = true → g a = 0) : ∀ (l : List α), (∀ a ∈ l, p a = true) → smQ g l = 0 := by
  intro l
  induction l with
  | nil => intro _; rfl
  | cons a l ih =>
    intro h
    show g a + smQ g l = 0
    rw [hp a (h a List.mem_cons_self), ih fun b hb => h b (List.mem_cons_of_mem _ hb), Int32.add_zero]
theorem cell {b s i c : Nat} (hb : b < 1000) (hs : s < 10) (hi : i < 1000) (hc : c < 10) : (nI b + nI s * nI i) + nI c = nI (b + s * i + c) := by
  rw [pk_mul, nI_add, nI_add]
theorem m_rd {x : Nat → Int32} {b s i c : Nat} (h : b + s * i + c < 201) : gd (inR ((nI b + nI s * nI i) + nI c) 201) (some (x (((nI b + nI s * nI i) + nI c).toNatClampNeg))) = some (x (b + s * i + c)) := by
  rw [pk_mul, nI_add, nI_add, gd_t (inR_n h (by omega)), nI_clamp (by omega)]
theorem m_sp0 {x : Nat → Int32} {i : Nat} (h : i < 11) : fX13_spoolAt x (nI i) 0 = some (x (33 + 4 * i)) := m_rd (b := 33) (s := 4) (c := 0) (by omega)
theorem m_sp1 {x : Nat → Int32} {i : Nat} (h : i < 11) : fX13_spoolAt x (nI i) 1 = some (x (34 + 4 * i)) := (m_rd (b := 33) (s := 4) (c := 1) (by omega)).trans (by rw [show 33 + 4 * i + 1 = 34 + 4 * i by omega])
theorem m_sp2 {x : Nat → Int32} {i : Nat} (h : i < 11) : fX13_spoolAt x (nI i) 2 = some (x (35 + 4 * i)) := (m_rd (b := 33) (s := 4) (c := 2) (by omega)).trans (by rw [show 33 + 4 * i + 2 = 35 + 4 * i by omega])
theorem m_sp3 {x : Nat → Int32} {i : Nat} (h : i < 11) : fX13_spoolAt x (nI i) 3 = some (x (36 + 4 * i)) := (m_rd (b := 33) (s := 4) (c := 3) (by omega)).trans (by rw [show 33 + 4 * i + 3 = 36 + 4 * i by omega])
theorem m_or0 {x : Nat → Int32} {i : Nat} (h : i < 13) : fX13_orderOf x (nI i) 0 = some (x (73 + 4 * i)) := m_rd (b := 73) (s := 4) (c := 0) (by omega)
theorem m_or1 {x : Nat → Int32} {i : Nat} (h : i < 13) : fX13_orderOf x (nI i) 1 = some (x (74 + 4 * i)) := (m_rd (b := 73) (s := 4) (c := 1) (by omega)).trans (by rw [show 73 + 4 * i + 1 = 74 + 4 * i by omega])
theorem m_or2 {x : Nat → Int32} {i : Nat} (h : i < 13) : fX13_orderOf x (nI i) 2 = some (x (75 + 4 * i)) := (m_rd (b := 73) (s := 4) (c := 2) (by omega)).trans (by rw [show 73 + 4 * i + 2 = 75 + 4 * i by omega])
theorem m_or3 {x : Nat → Int32} {i : Nat} (h : i < 13) : fX13_orderOf x (nI i) 3 = some (x (76 + 4 * i)) := (m_rd (b := 73) (s := 4) (c := 3) (by omega)).trans (by rw [show 73 + 4 * i + 3 = 76 + 4 * i by omega])
theorem m_orc {x : Nat → Int32} {i c : Nat} (h : i < 13) (hc : c < 4) : fX13_orderOf x (nI i) (nI c) = some (x (73 + 4 * i + c)) := m_rd (b := 73) (s := 4) (by omega)
theorem m_sc0 {x : Nat → Int32} {i : Nat} (h : i < 40) : fX13_scrapAt x (nI i) 0 = some (x (121 + 2 * i)) := m_rd (b := 121) (s := 2) (c := 0) (by omega)
theorem m_sc1 {x : Nat → Int32} {i : Nat} (h : i < 40) : fX13_scrapAt x (nI i) 1 = some (x (122 + 2 * i)) := (m_rd (b := 121) (s := 2) (c := 1) (by omega)).trans (by rw [show 121 + 2 * i + 1 = 122 + 2 * i by omega])
theorem m_spl_L {n : Nat} {x : Nat → Int32} {p : Int32} (hn : n ≤ 10) (h0 : x 0 = nI n) : ∀ (d k i : Nat), d < k → i + d = n →
    fX13_spoolPlace_L2 p x k (nI i) = some (oI (fnd (fun j => x (33 + 4 * j) = p) d i)) := by
  intro d
  induction d with
  | zero =>
    intro k i hk hi
    obtain ⟨k, rfl⟩ : ∃ q, k = q + 1 := ⟨k - 1, by omega⟩
    rw [fX13_spoolPlace_L2, h0, if_pos (nI_le (by omega) (by omega))]; rfl
  | succ d ih =>
    intro k i hk hi
    obtain ⟨k, rfl⟩ : ∃ q, k = q + 1 := ⟨k - 1, by omega⟩
    rw [fX13_spoolPlace_L2, h0, if_neg (nI_ge (by omega) (by omega)), m_sp0 (by omega), ob, nI_1, ih _ _ (by omega) (by omega), fnd]
    by_cases h : x (33 + 4 * i) = p
    · simp only [if_pos h]; rfl
    · simp only [if_neg h]
theorem m_spl {n : Nat} {x : Nat → Int32} {p : Int32} (hn : n ≤ 10) (h0 : x 0 = nI n) : fX13_spoolPlace x p = some (oI (fnd (fun j => x (33 + 4 * j) = p) n 0)) :=
  m_spl_L hn h0 n FU 0 (FU_lt (by omega)) (by omega)
theorem m_opl_L {n : Nat} {x : Nat → Int32} {p : Int32} (hn : n ≤ 12) (h0 : x 2 = nI n) : ∀ (d k i : Nat), d < k → i + d = n →
    fX13_orderPlace_L2 p x k (nI i) = some (oI (fnd (fun j => x (73 + 4 * j) = p) d i)) := by
  intro d
  induction d with
  | zero =>
    intro k i hk hi
    obtain ⟨k, rfl⟩ : ∃ q, k = q + 1 := ⟨k - 1, by omega⟩
    rw [fX13_orderPlace_L2, h0, if_pos (nI_le (by omega) (by omega))]; rfl
  | succ d ih =>
    intro k i hk hi
    obtain ⟨k, rfl⟩ : ∃ q, k = q + 1 := ⟨k - 1, by omega⟩
    rw [fX13_orderPlace_L2, h0, if_neg (nI_ge (by omega) (by omega)), m_or0 (by omega), ob, nI_1, ih _ _ (by omega) (by omega), fnd]
    by_cases h : x (73 + 4 * i) = p
    · simp only [if_pos h]; rfl
    · simp only [if_neg h]
theorem m_opl {n : Nat} {x : Nat → Int32} {p : Int32} (hn : n ≤ 12) (h0 : x 2 = nI n) : fX13_orderPlace x p = some (oI (fnd (fun j => x (73 + 4 * j) = p) n 0)) :=
  m_opl_L hn h0 n FU 0 (FU_lt (by omega)) (by omega)
def clz (x : Nat → Int32) (a s b : Nat) : Nat → Int32 := fun j => if a ≤ j ∧ j + s < b then x (j + s) else if b ≤ j + s ∧ j < b then 0 else x j
theorem m_cz_L {b s : Nat} (hb : b ≤ 201) (hs : s ≤ 4) : ∀ (d k i : Nat) (x : Nat → Int32), d < k → i + d = b →
    fX13_closes_L38 (nI b) k (nI i) x = some (fun j => if i ≤ j ∧ j < b then 0 else x j) := by
  intro d
  induction d with
  | zero =>
    intro k i x hk hi
    obtain ⟨k, rfl⟩ : ∃ q, k = q + 1 := ⟨k - 1, by omega⟩
    rw [fX13_closes_L38, if_pos (nI_le (by omega) (by omega))]
    congr 1
    funext j
    rw [if_neg (by omega)]
  | succ d ih =>
    intro k i x hk hi
    obtain ⟨k, rfl⟩ : ∃ q, k = q + 1 := ⟨k - 1, by omega⟩
    rw [fX13_closes_L38, if_neg (nI_ge (by omega) (by omega)), gd_t (inR_n (by omega) (by omega)), nI_clamp (by omega), nI_1, ih _ _ _ (by omega) (by omega)]
    congr 1
    funext j
    simp only [upd_e]
    by_cases h1 : i + 1 ≤ j ∧ j < b
    · rw [if_pos h1, if_pos (show i ≤ j ∧ j < b by omega)]
    · rw [if_neg h1]
      by_cases h2 : j = i
      · rw [if_pos h2, if_pos (show i ≤ j ∧ j < b by omega)]
      · rw [if_neg h2, if_neg (show ¬ (i ≤ j ∧ j < b) by omega)]
theorem m_cl_L {b s : Nat} (hb : b ≤ 201) (hs : s ≤ 4) (hsb : s ≤ b) : ∀ (d k i : Nat) (x : Nat → Int32), d < k → i + d = b - s →
    fX13_closes_L3 (nI s) (nI b) k (nI i) x = some (clz x i s b) := by
  intro d
  induction d with
  | zero =>
    intro k i x hk hi
    obtain ⟨k, rfl⟩ : ∃ q, k = q + 1 := ⟨k - 1, by omega⟩
    rw [fX13_closes_L3, pk_sub hsb, if_pos (nI_le (by omega) (by omega)), m_cz_L hb hs s FU (b - s) x (FU_lt (by omega)) (by omega)]
    congr 1
    funext j
    simp only [clz]
    rw [if_neg (show ¬ (i ≤ j ∧ j + s < b) by omega)]
    by_cases h : b - s ≤ j ∧ j < b
    · rw [if_pos h, if_pos (show b ≤ j + s ∧ j < b by omega)]
    · rw [if_neg h, if_neg (show ¬ (b ≤ j + s ∧ j < b) by omega)]
  | succ d ih =>
    intro k i x hk hi
    obtain ⟨k, rfl⟩ : ∃ q, k = q + 1 := ⟨k - 1, by omega⟩
    rw [fX13_closes_L3, pk_sub hsb, if_neg (nI_ge (by omega) (by omega)), nI_add, gd_t (inR_n (by omega) (by omega)), gd_t (inR_n (by omega) (by omega)), nI_clamp (by omega), nI_clamp (by omega), nI_1, ih _ _ _ (by omega) (by omega)]
    congr 1
    funext j
    simp only [clz, upd_e]
    by_cases h1 : i + 1 ≤ j ∧ j + s < b
    · rw [if_pos h1, if_neg (show ¬ j + s = i by omega), if_pos (show i ≤ j ∧ j + s < b by omega)]
    · rw [if_neg h1]
      by_cases h2 : j = i
      · subst h2
        rw [if_pos (show j ≤ j ∧ j + s < b by omega), if_neg (show ¬ (b ≤ j + s ∧ j < b) by omega), if_pos rfl]
      · rw [if_neg (show ¬ (i ≤ j ∧ j + s < b) by omega), if_neg h2]
theorem m_cl {a b s : Nat} {x : Nat → Int32} (hb : b ≤ 201) (hs : s ≤ 4) (hab : a + s ≤ b) : fX13_closes x (nI a) (nI s) (nI b) = some (clz x a s b) :=
  m_cl_L hb hs (by omega) (b - s - a) FU a x (FU_lt (by omega)) (by omega)
theorem clz_0 {x : Nat → Int32} {a s b j : Nat} (h : j < a ∨ b ≤ j) (hab : a + s ≤ b) : clz x a s b j = x j := by
  unfold clz
  rw [if_neg (by omega), if_neg (by omega)]
theorem m_rs {x : Nat → Int32} {n i : Nat} (hn : n ≤ 10) (h0 : x 0 = nI n) (hi : i < n) : fX13_removesSpool x (nI i) = some (upd (clz x (33 + 4 * i) 4 (33 + 4 * n)) 0 (nI (n - 1))) := by
  obtain ⟨m, rfl⟩ : ∃ q, n = q + 1 := ⟨n - 1, by omega⟩
  unfold fX13_removesSpool
  rw [h0, show (33 : Int32) = nI 33 from rfl, show (4 : Int32) = nI 4 from rfl, pk_mul, pk_mul, nI_add, nI_add, m_cl (by omega) (by omega) (by omega), ob, clz_0 (by omega) (by omega), h0, nI_pred]
  rfl
theorem m_ro {x : Nat → Int32} {n i : Nat} (hn : n ≤ 12) (h0 : x 2 = nI n) (hi : i < n) : fX13_removesOrder x (nI i) = some (upd (clz x (73 + 4 * i) 4 (73 + 4 * n)) 2 (nI (n - 1))) := by
  obtain ⟨m, rfl⟩ : ∃ q, n = q + 1 := ⟨n - 1, by omega⟩
  unfold fX13_removesOrder
  rw [h0, show (73 : Int32) = nI 73 from rfl, show (4 : Int32) = nI 4 from rfl, pk_mul, pk_mul, nI_add, nI_add, m_cl (by omega) (by omega) (by omega), ob, clz_0 (by omega) (by omega), h0, nI_pred]
  rfl
theorem m_rc {x : Nat → Int32} {n i : Nat} (hn : n ≤ 40) (h0 : x 4 = nI n) (hi : i < n) : fX13_removesScrap x (nI i) = some (upd (clz x (121 + 2 * i) 2 (121 + 2 * n)) 4 (nI (n - 1))) := by
  obtain ⟨m, rfl⟩ : ∃ q, n = q + 1 := ⟨n - 1, by omega⟩
  unfold fX13_removesScrap
  rw [h0, show (121 : Int32) = nI 121 from rfl, show (2 : Int32) = nI 2 from rfl, pk_mul, pk_mul, nI_add, nI_add, m_cl (by omega) (by omega) (by omega), ob, clz_0 (by omega) (by omega), h0, nI_pred]
  rfl
