/-! pure layer: the best load, by table and by recursion -/
def entN (k l : Nat) (F : Nat → Nat) : Nat → Nat := fun j => if l + k ≤ j then (if F (j - (l + k)) + l ≤ F j then F j else F (j - (l + k)) + l) else F j
def tbN (k : Nat) : List Nat → (Nat → Nat) → Nat → Nat
  | [], F => F
  | l :: ls, F => tbN k ls (entN k l F)
def bsg (k : Nat) : List Nat → (Nat → Nat) → Nat → Nat
  | [], g, j => g j
  | l :: ls, g, j => if l + k ≤ j then (if bsg k ls g (j - (l + k)) + l ≤ bsg k ls g j then bsg k ls g j else bsg k ls g (j - (l + k)) + l) else bsg k ls g j
theorem bsg_ar (A B C D l k a j : Nat) : (if a + k ≤ j then (if (if l + k ≤ j - (a + k) then (if D + l ≤ C then C else D + l) else C) + a ≤ (if l + k ≤ j then (if B + l ≤ A then A else B + l) else A) then (if l + k ≤ j then (if B + l ≤ A then A else B + l) else A) else (if l + k ≤ j - (a + k) then (if D + l ≤ C then C else D + l) else C) + a) else (if l + k ≤ j then (if B + l ≤ A then A else B + l) else A)) =
    (if l + k ≤ j then (if (if a + k ≤ j - (l + k) then (if D + a ≤ B then B else D + a) else B) + l ≤ (if a + k ≤ j then (if C + a ≤ A then A else C + a) else A) then (if a + k ≤ j then (if C + a ≤ A then A else C + a) else A) else (if a + k ≤ j - (l + k) then (if D + a ≤ B then B else D + a) else B) + l) else (if a + k ≤ j then (if C + a ≤ A then A else C + a) else A)) := by
  by_cases h1 : l + k ≤ j
  · by_cases h2 : a + k ≤ j
    · by_cases h3 : l + k ≤ j - (a + k)
      · have h4 : a + k ≤ j - (l + k) := by omega
        simp only [if_pos h1, if_pos h2, if_pos h3, if_pos h4]
        clear h1 h2 h3 h4
        by_cases b1 : D + l ≤ C <;> by_cases b2 : B + l ≤ A <;> by_cases b3 : D + a ≤ B <;> by_cases b4 : C + a ≤ A <;> simp only [b1, b2, b3, b4, if_true, if_false] <;> (repeat' split) <;> omega
      · have h4 : ¬ a + k ≤ j - (l + k) := by omega
        simp only [if_pos h1, if_pos h2, if_neg h3, if_neg h4]
        by_cases b2 : B + l ≤ A <;> by_cases b4 : C + a ≤ A <;> simp only [b2, b4, if_true, if_false] <;> (repeat' split) <;> omega
    · have h4 : ¬ a + k ≤ j - (l + k) := by omega
      simp only [if_pos h1, if_neg h2, if_neg h4]
  · by_cases h2 : a + k ≤ j
    · have h3 : ¬ l + k ≤ j - (a + k) := by omega
      simp only [if_neg h1, if_pos h2, if_neg h3]
    · simp only [if_neg h1, if_neg h2]
theorem gd_el {l : List Nat} {i : Nat} (h : i < l.length) : l.getD i 0 = l[i] := by
  rw [List.getD_eq_getElem?_getD, List.getElem?_eq_getElem h]; rfl
theorem gd_ap {l l' : List Nat} {i : Nat} (h : i < l.length) : (l ++ l').getD i 0 = l.getD i 0 := by
  rw [List.getD_eq_getElem?_getD, List.getD_eq_getElem?_getD, List.getElem?_append_left h]
theorem bsg_ent {k l : Nat} {g : Nat → Nat} : ∀ (ls : List Nat) (j : Nat), bsg k ls (entN k l g) j = if l + k ≤ j then (if bsg k ls g (j - (l + k)) + l ≤ bsg k ls g j then bsg k ls g j else bsg k ls g (j - (l + k)) + l) else bsg k ls g j := by
  intro ls
  induction ls with
  | nil => intro j; rfl
  | cons a ls ih =>
    intro j
    have e1 := ih j
    have e2 := ih (j - (a + k))
    have e3 : j - (a + k) - (l + k) = j - (l + k) - (a + k) := by omega
    rw [e3] at e2
    show (if a + k ≤ j then (if bsg k ls (entN k l g) (j - (a + k)) + a ≤ bsg k ls (entN k l g) j then bsg k ls (entN k l g) j else bsg k ls (entN k l g) (j - (a + k)) + a) else bsg k ls (entN k l g) j) = _
    rw [e1, e2]
    exact bsg_ar _ _ _ _ _ _ _ _
theorem tb_bsg {k : Nat} : ∀ (ls : List Nat) (g : Nat → Nat) (j : Nat), tbN k ls g j = bsg k ls g j := by
  intro ls
  induction ls with
  | nil => intro g j; rfl
  | cons l ls ih =>
    intro g j
    show tbN k ls (entN k l g) j = _
    rw [ih, bsg_ent]; rfl
abbrev bst (k : Nat) (ls : List Nat) (j : Nat) : Nat := bsg k ls (fun _ => 0) j
theorem bst_sum {k : Nat} : ∀ (ls : List Nat) (j : Nat), bst k ls j ≤ ls.sum := by
  intro ls
  induction ls with
  | nil => intro j; exact Nat.le_refl _
  | cons l ls ih =>
    intro j
    have a := ih j
    have b := ih (j - (l + k))
    rw [List.sum_cons]
    show (if l + k ≤ j then (if bst k ls (j - (l + k)) + l ≤ bst k ls j then bst k ls j else bst k ls (j - (l + k)) + l) else bst k ls j) ≤ _
    split
    · split <;> omega
    · omega
theorem ent_bd {k l B : Nat} {F : Nat → Nat} (h : ∀ j, F j ≤ B) : ∀ j, entN k l F j ≤ B + l := by
  intro j
  unfold entN
  have := h j
  have := h (j - (l + k))
  split
  · split <;> omega
  · omega
theorem c_en_L {l k R : Nat} {F : Nat → Nat} (hl : 1 ≤ l) (hl2 : l + k ≤ 1000) (hR : R < 1005) (hF : ∀ j, F j ≤ 100000) : ∀ (d fu : Nat) (f : Nat → Int32), d < fu → l + k - 1 + d ≤ R → (∀ j, j ≤ l + k - 1 + d → f j = nI (F j)) → (∀ j, l + k - 1 + d < j → j ≤ R → f j = nI (entN k l F j)) →
    ∃ g, fX4_enterPiece_L23 (nI l) (nI (l + k)) fu (nI (l + k - 1 + d)) f = some g ∧ ∀ j, j ≤ R → g j = nI (entN k l F j) := by
  intro d
  induction d with
  | zero =>
    intro fu f hfu hd h1 h2
    obtain ⟨fu, rfl⟩ : ∃ q, fu = q + 1 := ⟨fu - 1, by omega⟩
    refine ⟨f, by rw [fX4_enterPiece_L23, if_pos (nI_lt (by omega) (by omega))], fun j hj => ?_⟩
    by_cases e : j ≤ l + k - 1 + 0
    · rw [h1 j e]; unfold entN; rw [if_neg (by omega)]
    · exact h2 j (by omega) hj
  | succ d ih =>
    intro fu f hfu hd h1 h2
    obtain ⟨fu, rfl⟩ : ∃ q, fu = q + 1 := ⟨fu - 1, by omega⟩
    have b1 := hF (l + k - 1 + (d + 1))
    have b2 := hF (l + k - 1 + (d + 1) - (l + k))
    rw [fX4_enterPiece_L23, if_neg (nI_nlt (by omega) (by omega)), pk_sub (by omega), gd_t (inR_n (by omega) (by omega)), gd_t (inR_n (by omega) (by omega)), gd_t (inR_n (show l + k - 1 + (d + 1) < 1005 by omega) (by omega)), nI_clamp (by omega), nI_clamp (by omega), h1 _ (by omega), h1 _ (by omega), nI_add, show nI (l + k - 1 + (d + 1)) + (-1) = nI (l + k - 1 + d) from pk_m1 (l + k - 1 + d)]
    have ee : entN k l F (l + k - 1 + (d + 1)) = if F (l + k - 1 + (d + 1) - (l + k)) + l ≤ F (l + k - 1 + (d + 1)) then F (l + k - 1 + (d + 1)) else F (l + k - 1 + (d + 1) - (l + k)) + l := by unfold entN; rw [if_pos (by omega)]
    by_cases g : F (l + k - 1 + (d + 1) - (l + k)) + l ≤ F (l + k - 1 + (d + 1))
    · rw [if_pos (nI_le g (by omega))]
      refine ih fu f (by omega) (by omega) (fun j hj => h1 j (by omega)) (fun j j1 j2 => ?_)
      by_cases e : j = l + k - 1 + (d + 1)
      · subst e; rw [h1 _ (Nat.le_refl _), ee, if_pos g]
      · exact h2 j (by omega) j2
    · rw [if_neg (nI_ge (by omega) (by omega))]
      refine ih fu _ (by omega) (by omega) (fun j hj => ?_) (fun j j1 j2 => ?_)
      · rw [pk_un (by omega)]; exact h1 j (by omega)
      · by_cases e : j = l + k - 1 + (d + 1)
        · subst e; rw [pk_us, ee, if_neg g]
        · rw [pk_un e]; exact h2 j (by omega) j2
theorem c_en {l k R : Nat} {F : Nat → Nat} {f : Nat → Int32} (hl : 1 ≤ l) (hl2 : l + k ≤ 1000) (hR : R < 1005) (hF : ∀ j, F j ≤ 100000) (h : ∀ j, j ≤ R → f j = nI (F j)) :
    ∃ g, fX4_enterPiece f (nI l) (nI k) (nI R) = some g ∧ ∀ j, j ≤ R → g j = nI (entN k l F j) := by
  unfold fX4_enterPiece
  rw [nI_add, if_neg (nI_pos (by omega)), if_pos (nI_lt hR (by omega))]
  by_cases e : l + k ≤ R
  · have := c_en_L hl hl2 hR hF (R + 1 - (l + k)) FU f (FU_lt (by omega)) (by omega) (fun j hj => h j (by omega)) (fun j j1 j2 => by omega)
    rw [show l + k - 1 + (R + 1 - (l + k)) = R by omega] at this
    exact this
  · refine ⟨f, ?_, fun j hj => by rw [h j hj]; unfold entN; rw [if_neg (by omega)]⟩
    show fX4_enterPiece_L23 _ _ (4095 + 1) _ _ = _
    rw [fX4_enterPiece_L23, if_pos (nI_lt (by omega) (by omega))]
theorem c_tb_L {k R n : Nat} {pf : Nat → Int32} {ps : List Nat} (hn : n ≤ 12) (hps : ps.length = n) (hpf : ∀ j, j < n → pf j = nI (ps.getD j 0)) (hk : k ≤ 5) (hb : ∀ j, j < n → 1 ≤ ps.getD j 0 ∧ ps.getD j 0 ≤ 200) (hR : R < 1005) : ∀ (d fu i : Nat) (f : Nat → Int32) (F : Nat → Nat), d < fu → i + d = n → (∀ j, F j ≤ 200 * i) → (∀ j, j ≤ R → f j = nI (F j)) →
    ∃ g, fX4_byTable_L63 (nI R) (nI n) pf (nI k) fu (nI i) f = some (nI (tbN k (ps.drop i) F R), g, nI n, pf) := by
  intro d
  induction d with
  | zero =>
    intro fu i f F hfu hi hF hf
    obtain ⟨fu, rfl⟩ : ∃ q, fu = q + 1 := ⟨fu - 1, by omega⟩
    refine ⟨f, ?_⟩
    rw [fX4_byTable_L63, fX7_size, ob, if_pos (nI_le (by omega) (by omega)), gd_t (inR_n hR (by omega)), nI_clamp (by omega), hf R (Nat.le_refl _), List.drop_of_length_le (by omega)]; rfl
  | succ d ih =>
    intro fu i f F hfu hi hF hf
    obtain ⟨fu, rfl⟩ : ∃ q, fu = q + 1 := ⟨fu - 1, by omega⟩
    obtain ⟨b1, b2⟩ := hb i (by omega)
    obtain ⟨g, e1, e2⟩ := c_en (k := k) b1 (by omega) hR (fun j => by have := hF j; omega) hf
    obtain ⟨g2, e3⟩ := ih fu (i + 1) g (entN k (ps.getD i 0) F) (by omega) (by omega) (fun j => by have := ent_bd (k := k) (l := ps.getD i 0) hF j; omega) e2
    refine ⟨g2, ?_⟩
    rw [fX4_byTable_L63, fX7_size, ob, if_neg (nI_ge (by omega) (by omega)), row_get (by omega) hn (by omega), ob, hpf i (by omega), e1, ob, nI_1, e3]
    have ed : ps.drop i = ps.getD i 0 :: ps.drop (i + 1) := by
      rw [List.drop_eq_getElem_cons (by omega), gd_el (by omega)]
    rw [ed]; rfl
theorem c_tz_L {k R n : Nat} {pf : Nat → Int32} {fin : Nat → Int32} (hR : R < 1005) : ∀ (d fu i : Nat) (f : Nat → Int32), d < fu → i + d = R + 1 → (∀ j, j < i → f j = 0) →
    ∃ g, fX4_byTable_L40 (nI R) (nI n) pf (nI k) fu (nI i) f = fX4_byTable_L63 (nI R) (nI n) pf (nI k) FU 0 g ∧ ∀ j, j ≤ R → g j = 0 := by
  intro d
  induction d with
  | zero =>
    intro fu i f hfu hi hz
    obtain ⟨fu, rfl⟩ : ∃ q, fu = q + 1 := ⟨fu - 1, by omega⟩
    exact ⟨f, by rw [fX4_byTable_L40, if_pos (nI_lt (by omega) (by omega))], fun j hj => hz j (by omega)⟩
  | succ d ih =>
    intro fu i f hfu hi hz
    obtain ⟨fu, rfl⟩ : ∃ q, fu = q + 1 := ⟨fu - 1, by omega⟩
    obtain ⟨g, e1, e2⟩ := ih fu (i + 1) (upd f i 0) (by omega) (by omega) (fun j hj => by
      by_cases e : j = i
      · subst e; exact pk_us
      · rw [pk_un e]; exact hz j (by omega))
    exact ⟨g, by rw [fX4_byTable_L40, if_neg (nI_nlt (by omega) (by omega)), gd_t (inR_n (by omega) (by omega)), nI_clamp (by omega), nI_1, e1], e2⟩
def pcs (P : Nat → Prop) [DecidablePred P] (ol : Nat → Nat) : Nat → Nat → List Nat
  | 0, _ => []
  | d + 1, i => if P i then ol i :: pcs P ol d (i + 1) else pcs P ol d (i + 1)
theorem pcs_len {P : Nat → Prop} [DecidablePred P] {ol : Nat → Nat} : ∀ (d i : Nat), (pcs P ol d i).length ≤ d := by
  intro d
  induction d with
  | zero => intro i; exact Nat.le_refl _
  | succ d ih =>
    intro i
    have := ih (i + 1)
    rw [pcs]
    split
    · rw [List.length_cons]; omega
    · omega
theorem pcs_mem {P : Nat → Prop} [DecidablePred P] {ol : Nat → Nat} : ∀ (d i : Nat) (v : Nat), v ∈ pcs P ol d i → ∃ j, i ≤ j ∧ j < i + d ∧ v = ol j := by
  intro d
  induction d with
  | zero => intro i v h; exact absurd h List.not_mem_nil
  | succ d ih =>
    intro i v h
    rw [pcs] at h
    split at h
    · rcases List.mem_cons.mp h with e | e
      · exact ⟨i, Nat.le_refl _, by omega, e⟩
      · obtain ⟨j, h1, h2, h3⟩ := ih _ _ e; exact ⟨j, by omega, by omega, h3⟩
    · obtain ⟨j, h1, h2, h3⟩ := ih _ _ h; exact ⟨j, by omega, by omega, h3⟩
theorem c_ga_L {m q : Nat} {oM oL : Nat → Int32} {ol : Nat → Nat} (hm : m ≤ 12) (hL : ∀ j, j < m → oL j = nI (ol j)) (hM : ∀ j, j < m → mat (oM j)) : ∀ (d fu i n : Nat) (f : Nat → Int32) (ps : List Nat), d < fu → i + d = m → n ≤ i → ps.length = n → (∀ j, j < n → f j = nI (ps.getD j 0)) →
    ∃ n' f', fX4_gatherPieces_L9 (nI (97 + q)) (nI m) (nI m) oM (nI m) oL fu (nI i) (nI n) f = some (nI n', f') ∧ n' ≤ m ∧ (ps ++ pcs (fun j => oM j = nI (97 + q)) ol d i).length = n' ∧ ∀ j, j < n' → f' j = nI ((ps ++ pcs (fun j => oM j = nI (97 + q)) ol d i).getD j 0) := by
  intro d
  induction d with
  | zero =>
    intro fu i n f ps hfu hi hn hps hf
    obtain ⟨fu, rfl⟩ : ∃ q, fu = q + 1 := ⟨fu - 1, by omega⟩
    refine ⟨n, f, by rw [fX4_gatherPieces_L9, fX5_count, fX7_size, ob, ob, if_pos (nI_le (by omega) (by omega))], by omega, ?_, ?_⟩
    · rw [pcs, List.append_nil]; exact hps
    · rw [pcs, List.append_nil]; exact hf
  | succ d ih =>
    intro fu i n f ps hfu hi hn hps hf
    obtain ⟨fu, rfl⟩ : ∃ q, fu = q + 1 := ⟨fu - 1, by omega⟩
    obtain ⟨r, hr, er⟩ := hM i (by omega)
    rw [fX4_gatherPieces_L9, fX5_count, fX7_size, ob, ob, if_neg (nI_ge (by omega) (by omega)), fX5_materialAt, row_get (by omega) (by omega) (by omega), ob, ob, er, ch_id (by omega), nI_1, pcs]
    by_cases g : nI (97 + r) = nI (97 + q)
    · rw [if_pos g, if_pos (er.trans g), fX5_lengthAt, row_get (by omega) (by omega) (by omega), ob, ob, row_add (by omega) (by omega), ob]
      have r := ih fu (i + 1) (n + 1) (upd f n (oL i)) (ps ++ [ol i]) (by omega) (by omega) (by omega) (by rw [List.length_append, hps]; rfl) (fun j hj => by
        by_cases e : j = n
        · subst e; rw [pk_us, hL i (by omega), gd_el (by rw [List.length_append, hps]; exact Nat.lt_succ_self _), List.getElem_append_right (by omega)]; simp [hps]
        · rw [pk_un e, hf j (by omega), gd_ap (by omega)])
      rw [List.append_assoc] at r
      exact r
    · rw [if_neg g, if_neg (fun e => g (er.symm.trans e))]
      exact ih fu (i + 1) n f ps (by omega) (by omega) (by omega) hps hf
theorem c_bt {n p q la k m : Nat} {M L oM oL ut pf : Nat → Int32} {ol : Nat → Nat} (hn : n ≤ 10) (hp : p < n) (hq : q < 6) (hM : M p = nI (97 + q)) (hL : L p = nI la) (hla : la ≤ 999) (hk : k ≤ 5) (hm : m ≤ 12) (hoL : ∀ j, j < m → oL j = nI (ol j)) (hoM : ∀ j, j < m → mat (oM j)) (hol : ∀ j, j < m → 1 ≤ ol j ∧ ol j ≤ 200) :
    ∃ g n' f', fX4_byTable ut pf (nI k) (nI n) M (nI n) L (nI m) (nI m) oM (nI m) oL (nI p) = some (nI (bst k (pcs (fun j => oM j = nI (97 + q)) ol m 0) (la + k)), g, n', f') := by
  unfold fX4_byTable fX4_gatherPieces fX7_clear fX4_roomOf
  obtain ⟨n', f', e1, e2, e3, e4⟩ := c_ga_L (q := q) hm hoL hoM m FU 0 0 pf [] (FU_lt (by omega)) (by omega) (Nat.le_refl _) rfl (fun j hj => absurd hj (Nat.not_lt_zero _))
  rw [List.nil_append] at e3 e4
  replace e1 : fX4_gatherPieces_L9 (nI (97 + q)) (nI m) (nI m) oM (nI m) oL FU 0 0 pf = some (nI n', f') := e1
  rw [fX9_materialAt, row_get hp hn (by omega), ob, ob, hM, ch_id (by omega), ob, e1, ob, fX9_lengthAt, row_get hp hn (by omega), ob, ob, ob, hL, nI_add, if_neg (nI_pos (by omega)), if_pos (nI_lt (by omega) (by omega))]
  obtain ⟨g, r1, r2⟩ := c_tz_L (k := k) (n := n') (pf := f') (fin := f') (show la + k < 1005 by omega) (la + k + 1) FU 0 ut (FU_lt (by omega)) (by omega) (fun j hj => absurd hj (Nat.not_lt_zero _))
  obtain ⟨g2, r3⟩ := c_tb_L (k := k) (R := la + k) (n := n') (pf := f') (by omega) e3 e4 hk (fun j hj => by
    obtain ⟨i, i1, i2, i3⟩ := pcs_mem m 0 ((pcs (fun j => oM j = nI (97 + q)) ol m 0).getD j 0) (by rw [gd_el (by omega)]; exact List.getElem_mem _)
    rw [i3]; exact hol i (by omega)) (by omega) n' FU 0 g (fun _ => 0) (FU_lt (by omega)) (by omega) (fun j => Nat.zero_le _) (fun j hj => r2 j hj)
  rw [List.drop_zero, tb_bsg] at r3
  exact ⟨g2, nI n', f', r1.trans r3⟩
