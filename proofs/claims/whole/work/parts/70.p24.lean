/-! pure layer: the recursion, the reference's load, consistency -/
theorem c_tl {k n : Nat} {pf : Nat → Int32} {ps : List Nat} (hn : n ≤ 12) (hps : ps.length = n) (hpf : ∀ j, j < n → pf j = nI (ps.getD j 0)) (hk : k ≤ 5) (hb : ∀ j, j < n → 1 ≤ ps.getD j 0 ∧ ps.getD j 0 ≤ 200) (hs : ps.sum ≤ 2400) : ∀ (d p r : Nat), n < d + p → p ≤ n → r ≤ 1004 → (ps.drop p).sum ≤ 2400 →
    fX4_takeOrLeave d 12 (nI n) pf (nI p) (nI (ps.drop p).sum) (nI k) (nI r) = some (nI (bst k (ps.drop p) r)) := by
  intro d
  induction d with
  | zero => intro p r h1 h2; omega
  | succ d ih =>
    intro p r h1 h2 h3 h4
    rw [fX4_takeOrLeave, fX7_size, ob]
    by_cases e : n ≤ p
    · rw [if_pos (nI_le e (by omega)), List.drop_of_length_le (by omega)]; rfl
    · obtain ⟨b1, b2⟩ := hb p (by omega)
      have ed : ps.drop p = ps.getD p 0 :: ps.drop (p + 1) := by
        rw [List.drop_eq_getElem_cons (by omega), gd_el (by omega)]
      have es : (ps.drop p).sum = ps.getD p 0 + (ps.drop (p + 1)).sum := by rw [ed, List.sum_cons]
      have hd := ih (p + 1)
      rw [if_neg (nI_ge (by omega) (by omega)), if_pos (show nI p < 12 from nI_lt (b := 12) (by omega) (by omega)), row_get (by omega) hn (by omega), ob, hpf p (by omega), es, ed]
      generalize ps.getD p 0 = l at *
      generalize ps.drop (p + 1) = ls at *
      have eb : bst k (l :: ls) r = if l + k ≤ r then (if bst k ls (r - (l + k)) + l ≤ bst k ls r then bst k ls r else bst k ls (r - (l + k)) + l) else bst k ls r := rfl
      have q1 := bst_sum (k := k) ls r
      have q2 := bst_sum (k := k) ls (r - (l + k))
      have esub : nI (l + ls.sum) - nI l = nI ls.sum := by rw [pk_sub (by omega)]; congr 1; omega
      rw [nI_add, esub, nI_1]
      by_cases g : r < l + k
      · rw [if_pos (nI_lt g (by omega)), eb, if_neg (show ¬ l + k ≤ r by omega)]
        by_cases g2 : 0 < ls.sum
        · rw [if_pos (show (0 : Int32) < nI ls.sum from nI_lt (a := 0) g2 (by omega)), hd r (by omega) (by omega) h3 (by omega), ob, if_pos (nI_pos' (by omega))]
        · rw [if_neg (show ¬ (0 : Int32) < nI ls.sum from nI_nlt (a := 0) (by omega) (by omega)), show bst k ls r = 0 by omega]; rfl
      · rw [if_neg (nI_nlt (by omega) (by omega)), eb, if_pos (show l + k ≤ r by omega), pk_sub (show l ≤ r by omega), pk_sub (show k ≤ r - l by omega), show r - l - k = r - (l + k) by omega, hd (r - (l + k)) (by omega) (by omega) (by omega) (by omega), ob, nI_add]
        have hr := hd r (by omega) (by omega) h3 (by omega)
        clear hd ih
        generalize bst k ls r = A at *
        generalize bst k ls (r - (l + k)) = B at *
        by_cases g2 : l + B < ls.sum
        · rw [if_pos (nI_lt g2 (by omega)), hr, ob]
          by_cases g3 : l + B ≤ A
          · rw [if_pos (nI_le g3 (by omega)), if_pos (show B + l ≤ A by omega)]
          · rw [if_neg (nI_ge (by omega) (by omega)), if_neg (show ¬ B + l ≤ A by omega), Nat.add_comm]
        · rw [if_neg (nI_nlt (by omega) (by omega))]
          by_cases g3 : B + l ≤ A
          · rw [if_pos g3, show l + B = A by omega]
          · rw [if_neg g3, Nat.add_comm]
theorem sum_le {B : Nat} : ∀ (l : List Nat), (∀ v ∈ l, v ≤ B) → l.sum ≤ B * l.length := by
  intro l
  induction l with
  | nil => intro _; exact Nat.zero_le _
  | cons a l ih =>
    intro h
    have h1 := ih fun v hv => h v (List.mem_cons_of_mem _ hv)
    have h2 := h a List.mem_cons_self
    rw [List.sum_cons, List.length_cons, Nat.mul_succ]; omega
theorem row_sumN {n : Nat} {pf : Nat → Int32} {ps : List Nat} (hps : ps.length = n) (hpf : ∀ j, j < n → pf j = nI (ps.getD j 0)) : ∀ (d i : Nat) (a : Nat), i + d = n → fld (fun b j => b + pf j) d i (nI a) = nI (a + (ps.drop i).sum) := by
  intro d
  induction d with
  | zero => intro i a hi; rw [List.drop_of_length_le (by omega)]; rfl
  | succ d ih =>
    intro i a hi
    have ed : ps.drop i = ps.getD i 0 :: ps.drop (i + 1) := by
      rw [List.drop_eq_getElem_cons (by omega), gd_el (by omega)]
    rw [tl_fld, hpf i (by omega), nI_add, ih _ _ (by omega), ed, List.sum_cons, Nat.add_assoc]
theorem c_br {n p q la k m : Nat} {M L oM oL pf : Nat → Int32} {ol : Nat → Nat} (hn : n ≤ 10) (hp : p < n) (hq : q < 6) (hM : M p = nI (97 + q)) (hL : L p = nI la) (hla : la ≤ 999) (hk : k ≤ 5) (hm : m ≤ 12) (hoL : ∀ j, j < m → oL j = nI (ol j)) (hoM : ∀ j, j < m → mat (oM j)) (hol : ∀ j, j < m → 1 ≤ ol j ∧ ol j ≤ 200) :
    ∃ n' f', fX4_byRecursion pf (nI k) (nI n) M (nI n) L (nI m) (nI m) oM (nI m) oL (nI p) = some (nI (bst k (pcs (fun j => oM j = nI (97 + q)) ol m 0) (la + k)), n', f') := by
  unfold fX4_byRecursion fX4_gatherPieces fX7_clear fX4_roomOf
  obtain ⟨n', f', e1, e2, e3, e4⟩ := c_ga_L (q := q) hm hoL hoM m FU 0 0 pf [] (FU_lt (by omega)) (by omega) (Nat.le_refl _) rfl (fun j hj => absurd hj (Nat.not_lt_zero _))
  rw [List.nil_append] at e3 e4
  replace e1 : fX4_gatherPieces_L9 (nI (97 + q)) (nI m) (nI m) oM (nI m) oL FU 0 0 pf = some (nI n', f') := e1
  have hv : ∀ v ∈ pcs (fun j => oM j = nI (97 + q)) ol m 0, 1 ≤ v ∧ v ≤ 200 := fun v hv => by
    obtain ⟨i, i1, i2, i3⟩ := pcs_mem m 0 v hv
    rw [i3]; exact hol i (by omega)
  have hb : ∀ j, j < n' → 1 ≤ (pcs (fun j => oM j = nI (97 + q)) ol m 0).getD j 0 ∧ (pcs (fun j => oM j = nI (97 + q)) ol m 0).getD j 0 ≤ 200 := fun j hj => by
    rw [gd_el (by omega)]; exact hv _ (List.getElem_mem _)
  have hsum : (pcs (fun j => oM j = nI (97 + q)) ol m 0).sum ≤ 2400 := by
    have := sum_le (B := 200) _ (fun v h => (hv v h).2)
    rw [e3] at this; omega
  have rs : fld (fun b j => b + f' j) n' 0 0 = nI ((pcs (fun j => oM j = nI (97 + q)) ol m 0).drop 0).sum := by
    have := row_sumN e3 e4 n' 0 0 (by omega)
    rw [Nat.zero_add] at this; exact this
  have tk := c_tl (k := k) (n := n') (pf := f') (by omega) e3 e4 hk hb hsum 13 0 (la + k) (by omega) (by omega) (by omega) (by rw [List.drop_zero]; exact hsum)
  rw [fX9_materialAt, row_get hp hn (by omega), ob, ob, hM, ch_id (by omega), ob, e1, ob, row_sum (by omega) (by omega), ob, fX9_lengthAt, row_get hp hn (by omega), ob, ob, ob, hL, nI_add, rs]
  rw [show fX4_takeOrLeave 13 12 (nI n') f' 0 (nI ((pcs (fun j => oM j = nI (97 + q)) ol m 0).drop 0).sum) (nI k) (nI (la + k)) = _ from tk, ob, List.drop_zero]
  exact ⟨nI n', f', rfl⟩
theorem m_en_L {l k R i : Nat} {x : Nat → Int32} {KK : Int32 → (Nat → Int32) → Option (Int32 × (Nat → Int32))} {F : Nat → Nat} (hi : i < 13) (hx : x (75 + 4 * i) = nI l) (hl : 1 ≤ l) (hl2 : l + k ≤ 1000) (hR : R < 1005) (hF : ∀ j, F j ≤ 100000) : ∀ (d fu : Nat) (f : Nat → Int32), d < fu → l + k - 1 + d ≤ R → (∀ j, j ≤ l + k - 1 + d → f j = nI (F j)) → (∀ j, l + k - 1 + d < j → j ≤ R → f j = nI (entN k l F j)) →
    ∃ g, fX13_loadOf_L79 KK (nI i) (nI (l + k)) x fu (nI (l + k - 1 + d)) f = KK (nI (i + 1)) g ∧ ∀ j, j ≤ R → g j = nI (entN k l F j) := by
  intro d
  induction d with
  | zero =>
    intro fu f hfu hd h1 h2
    obtain ⟨fu, rfl⟩ : ∃ q, fu = q + 1 := ⟨fu - 1, by omega⟩
    refine ⟨f, by rw [fX13_loadOf_L79, if_pos (nI_lt (by omega) (by omega)), nI_1], fun j hj => ?_⟩
    by_cases e : j ≤ l + k - 1 + 0
    · rw [h1 j e]; unfold entN; rw [if_neg (by omega)]
    · exact h2 j (by omega) hj
  | succ d ih =>
    intro fu f hfu hd h1 h2
    obtain ⟨fu, rfl⟩ : ∃ q, fu = q + 1 := ⟨fu - 1, by omega⟩
    have b1 := hF (l + k - 1 + (d + 1))
    have b2 := hF (l + k - 1 + (d + 1) - (l + k))
    rw [fX13_loadOf_L79, if_neg (nI_nlt (by omega) (by omega)), pk_sub (by omega), gd_t (inR_n (by omega) (by omega)), m_or2 hi, ob, gd_t (inR_n (by omega) (by omega)), gd_t (inR_n (show l + k - 1 + (d + 1) < 1010 by omega) (by omega)), nI_clamp (by omega), nI_clamp (by omega), hx, h1 _ (by omega), h1 _ (by omega), nI_add, show nI (l + k - 1 + (d + 1)) + (-1) = nI (l + k - 1 + d) from pk_m1 (l + k - 1 + d)]
    have ee : entN k l F (l + k - 1 + (d + 1)) = if F (l + k - 1 + (d + 1) - (l + k)) + l ≤ F (l + k - 1 + (d + 1)) then F (l + k - 1 + (d + 1)) else F (l + k - 1 + (d + 1) - (l + k)) + l := by unfold entN; rw [if_pos (by omega)]
    by_cases g : F (l + k - 1 + (d + 1) - (l + k)) + l ≤ F (l + k - 1 + (d + 1))
    · rw [if_pos (nI_le g (by omega))]
      refine ih fu f (by omega) (by omega) (fun j hj => h1 j (by omega)) (fun j j1 j2 => ?_)
      by_cases e : j = l + k - 1 + (d + 1)
      · subst e; rw [h1 _ (Nat.le_refl _), ee, if_pos g]
      · exact h2 j (by omega) j2
    · rw [if_neg (nI_ge (by omega) (by omega))]
      refine ih fu _ (by omega) (by omega) (fun j hj => ?_) (fun j j1 j2 => ?_)
      · rw [pk_un (by omega)]; exact h1 j (by omega)
      · by_cases e : j = l + k - 1 + (d + 1)
        · subst e; rw [pk_us, ee, if_neg g]
        · rw [pk_un e]; exact h2 j (by omega) j2
theorem m_en {l k R i : Nat} {x f : Nat → Int32} {KK : Int32 → (Nat → Int32) → Option (Int32 × (Nat → Int32))} {F : Nat → Nat} (hi : i < 13) (hx : x (75 + 4 * i) = nI l) (hl : 1 ≤ l) (hl2 : l + k ≤ 1000) (hR : R < 1005) (hF : ∀ j, F j ≤ 100000) (h : ∀ j, j ≤ R → f j = nI (F j)) :
    ∃ g, fX13_loadOf_L79 KK (nI i) (nI (l + k)) x FU (nI R) f = KK (nI (i + 1)) g ∧ ∀ j, j ≤ R → g j = nI (entN k l F j) := by
  by_cases e : l + k ≤ R
  · have := m_en_L (KK := KK) hi hx hl hl2 hR hF (R + 1 - (l + k)) FU f (FU_lt (by omega)) (by omega) (fun j hj => h j (by omega)) (fun j j1 j2 => by omega)
    rw [show l + k - 1 + (R + 1 - (l + k)) = R by omega] at this
    exact this
  · refine ⟨f, ?_, fun j hj => by rw [h j hj]; unfold entN; rw [if_neg (by omega)]⟩
    show fX13_loadOf_L79 _ _ _ _ (4095 + 1) _ _ = _
    rw [fX13_loadOf_L79, if_pos (nI_lt (by omega) (by omega)), nI_1]
theorem m_ld_L {m q k R : Nat} {x oM : Nat → Int32} {ol : Nat → Nat} (hm : m ≤ 12) (h2 : x 2 = nI m) (h5 : x 5 = nI k) (hq : q < 6) (hM : ∀ j, j < m → x (74 + 4 * j) = oM j - 97) (hL : ∀ j, j < m → x (75 + 4 * j) = nI (ol j)) (hol : ∀ j, j < m → 1 ≤ ol j ∧ ol j ≤ 200) (hk : k ≤ 5) (hR : R < 1005) : ∀ (d fu i : Nat) (f : Nat → Int32) (F : Nat → Nat), d < fu → i + d = m → (∀ j, F j ≤ 200 * i) → (∀ j, j ≤ R → f j = nI (F j)) →
    ∃ g, fX13_loadOf_L35 (nI q) (nI R) x fu (nI i) f = some (nI (tbN k (pcs (fun j => oM j = nI (97 + q)) ol d i) F R), g) := by
  intro d
  induction d with
  | zero =>
    intro fu i f F hfu hi hF hf
    obtain ⟨fu, rfl⟩ : ∃ q, fu = q + 1 := ⟨fu - 1, by omega⟩
    refine ⟨f, ?_⟩
    rw [fX13_loadOf_L35, h2, if_pos (nI_le (by omega) (by omega)), gd_t (inR_n (by omega) (by omega)), nI_clamp (by omega), hf R (Nat.le_refl _)]; rfl
  | succ d ih =>
    intro fu i f F hfu hi hF hf
    obtain ⟨fu, rfl⟩ : ∃ q, fu = q + 1 := ⟨fu - 1, by omega⟩
    obtain ⟨b1, b2⟩ := hol i (by omega)
    rw [fX13_loadOf_L35, h2, if_neg (nI_ge (by omega) (by omega)), m_or1 (by omega), ob, hM i (by omega), pcs]
    by_cases g : oM i = nI (97 + q)
    · rw [if_pos (by rw [g, m97 hq]), if_pos g, m_or2 (by omega), ob, hL i (by omega), h5, nI_add]
      obtain ⟨g2, e1, e2⟩ := m_en (k := k) (KK := fX13_loadOf_L35 (nI q) (nI R) x fu) (show i < 13 by omega) (hL i (by omega)) b1 (by omega) hR (fun j => by have := hF j; omega) hf
      obtain ⟨g3, e3⟩ := ih fu (i + 1) g2 (entN k (ol i) F) (by omega) (by omega) (fun j => by have := ent_bd (k := k) (l := ol i) hF j; omega) e2
      exact ⟨g3, e1.trans e3⟩
    · rw [if_neg (fun e => g (sub97 (by rw [e, m97 hq]))), if_neg g, nI_1]
      exact ih fu (i + 1) f F (by omega) (by omega) (fun j => by have := hF j; omega) hf
theorem m_lz_L {q R : Nat} {x : Nat → Int32} (hR : R < 1005) : ∀ (d fu i : Nat) (f : Nat → Int32), d < fu → i + d = R + 1 → (∀ j, j < i → f j = 0) →
    ∃ g, fX13_loadOf_L12 (nI q) (nI R) x fu (nI i) f = fX13_loadOf_L35 (nI q) (nI R) x FU 0 g ∧ ∀ j, j ≤ R → g j = 0 := by
  intro d
  induction d with
  | zero =>
    intro fu i f hfu hi hz
    obtain ⟨fu, rfl⟩ : ∃ q, fu = q + 1 := ⟨fu - 1, by omega⟩
    exact ⟨f, by rw [fX13_loadOf_L12, if_pos (nI_lt (by omega) (by omega))], fun j hj => hz j (by omega)⟩
  | succ d ih =>
    intro fu i f hfu hi hz
    obtain ⟨fu, rfl⟩ : ∃ q, fu = q + 1 := ⟨fu - 1, by omega⟩
    obtain ⟨g, e1, e2⟩ := ih fu (i + 1) (upd f i 0) (by omega) (by omega) (fun j hj => by
      by_cases e : j = i
      · subst e; exact pk_us
      · rw [pk_un e]; exact hz j (by omega))
    exact ⟨g, by rw [fX13_loadOf_L12, if_neg (nI_nlt (by omega) (by omega)), gd_t (inR_n (by omega) (by omega)), nI_clamp (by omega), nI_1, e1], e2⟩
theorem m_ld {m q k la : Nat} {x oM bs : Nat → Int32} {ol : Nat → Nat} (hm : m ≤ 12) (h2 : x 2 = nI m) (h5 : x 5 = nI k) (hq : q < 6) (hM : ∀ j, j < m → x (74 + 4 * j) = oM j - 97) (hL : ∀ j, j < m → x (75 + 4 * j) = nI (ol j)) (hol : ∀ j, j < m → 1 ≤ ol j ∧ ol j ≤ 200) (hk : k ≤ 5) (hla : la ≤ 999) :
    ∃ g, fX13_loadOf x bs (nI q) (nI la) = some (nI (bst k (pcs (fun j => oM j = nI (97 + q)) ol m 0) (la + k)), g) := by
  unfold fX13_loadOf
  rw [h5, nI_add]
  obtain ⟨g, r1, r2⟩ := m_lz_L (q := q) (x := x) (show la + k < 1005 by omega) (la + k + 1) FU 0 bs (FU_lt (by omega)) (by omega) (fun j hj => absurd hj (Nat.not_lt_zero _))
  obtain ⟨g2, r3⟩ := m_ld_L hm h2 h5 hq hM hL hol hk (show la + k < 1005 by omega) m FU 0 g (fun _ => 0) (FU_lt (by omega)) (by omega) (fun j => Nat.zero_le _) (fun j hj => r2 j hj)
  rw [tb_bsg] at r3
  exact ⟨g2, r1.trans r3⟩
theorem O_ol {m o : Nat} {oN oM oL oD x : Nat → Int32} (h : OR m o oN oM oL oD x) : ∃ ol : Nat → Nat, (∀ j, j < m → oL j = nI (ol j)) ∧ ∀ j, j < m → 1 ≤ ol j ∧ ol j ≤ 200 := by
  have h1 : ∀ j, ∃ a, j < m → oL j = nI a ∧ 1 ≤ a ∧ a ≤ 200 := fun j => by
    by_cases hj : j < m
    · obtain ⟨_, ⟨a, a1, a2, a3⟩, _⟩ := h.2.2.2.2.1 j hj
      exact ⟨a, fun _ => ⟨a3, a1, a2⟩⟩
    · exact ⟨0, fun q => absurd q hj⟩
  obtain ⟨ol, hol⟩ := Classical.axiomOfChoice h1
  exact ⟨ol, fun j hj => (hol j hj).1, fun j hj => (hol j hj).2⟩
theorem q_bl {b : Nat} {w : WT} {x : Nat → Int32} (h : WR b w x) (p : Int32) (lt : Nat → Int32) (pn : Int32) (pf bs : Nat → Int32) :
    (fX12_bestLoad (wt_k w) (wt_sNn w) (wt_sNf w) (wt_sMn w) (wt_sMf w) (wt_sLn w) (wt_sLf w) (wt_oNn w) (wt_oMn w) (wt_oMf w) (wt_oLn w) (wt_oLf w) lt pn pf p = some (.error "java/util/NoSuchElementException", lt, pn, pf) ∧ fX12_bestLoadByRecursion (wt_k w) (wt_sNn w) (wt_sNf w) (wt_sMn w) (wt_sMf w) (wt_sLn w) (wt_sLf w) (wt_oNn w) (wt_oMn w) (wt_oMf w) (wt_oLn w) (wt_oLf w) pn pf p = some (.error "java/util/NoSuchElementException", pn, pf) ∧ fX13_bestLoad x bs p = some (0, 1, bs)) ∨
    ∃ (a : Int32) (lt' : Nat → Int32) (pn' : Int32) (pf' : Nat → Int32) (pn2 : Int32) (pf2 : Nat → Int32) (bs' : Nat → Int32), fX12_bestLoad (wt_k w) (wt_sNn w) (wt_sNf w) (wt_sMn w) (wt_sMf w) (wt_sLn w) (wt_sLf w) (wt_oNn w) (wt_oMn w) (wt_oMf w) (wt_oLn w) (wt_oLf w) lt pn pf p = some (.ok a, lt', pn', pf') ∧ fX12_bestLoadByRecursion (wt_k w) (wt_sNn w) (wt_sNf w) (wt_sMn w) (wt_sMf w) (wt_sLn w) (wt_sLf w) (wt_oNn w) (wt_oMn w) (wt_oMf w) (wt_oLn w) (wt_oLf w) pn pf p = some (.ok a, pn2, pf2) ∧ fX13_bestLoad x bs p = some (a, 0, bs') := by
  obtain ⟨n, s, m, o, c, k, l, r, ac, N, M, L, K, cM, cL, T, oN, oM, oL, oD, W, D, A, rfl, h1, h2, h3, h4, h5, h6⟩ := h
  unfold fX12_bestLoad fX12_bestLoadByRecursion fX13_bestLoad
  dsimp only [wt_k, wt_l, wt_r, wt_sx, wt_sNn, wt_sNf, wt_sMn, wt_sMf, wt_sLn, wt_sLf, wt_sKn, wt_sKf, wt_cMn, wt_cMf, wt_cLn, wt_cLf, wt_cTn, wt_cTf, wt_ox, wt_oNn, wt_oNf, wt_oMn, wt_oMf, wt_oLn, wt_oLf, wt_oDn, wt_oDf, wt_ac, wt_aWn, wt_aWf, wt_aDn, wt_aDf, wt_aLn, wt_aLf]
  have hn := h1.1
  rw [ex_S hn, pl_S h1, ob, ob, ob]
  cases ef : fnd (fun j => N j = p) n 0 with
  | none => exact Or.inl ⟨rfl, rfl, rfl⟩
  | some i =>
    obtain ⟨_, hi, _, _⟩ := fnd_some _ _ _ ef
    rw [Nat.zero_add] at hi
    obtain ⟨y1, y2, y3, y4⟩ := h1.2.2.2.1 i hi
    obtain ⟨⟨q, hq, u1⟩, ⟨a, kk, u2, u3, u4, u5⟩, _⟩ := h1.2.2.2.2.1 i hi
    obtain ⟨ol, o1, o2⟩ := O_ol h2
    obtain ⟨e5, e6, e7, e8, ⟨kf, k1, k2, rfl⟩, e9⟩ := h5
    obtain ⟨g, n', f', b1⟩ := c_bt (ut := lt) (pf := pf) hn hi hq u1 u4 (by omega) k2 h2.1 o1 (fun j hj => (h2.2.2.2.2.1 j hj).1) o2
    obtain ⟨n2, f2, b3⟩ := c_br (pf := pf) hn hi hq u1 u4 (by omega) k2 h2.1 o1 (fun j hj => (h2.2.2.2.2.1 j hj).1) o2
    obtain ⟨g2, b2⟩ := m_ld (bs := bs) (la := a) h2.1 h2.2.1 e5 hq (fun j hj => (h2.2.2.2.1 j hj).2.1) (fun j hj => (h2.2.2.2.1 j hj).2.2.1.trans (o1 j hj)) o2 k2 (by omega)
    refine Or.inr ⟨nI (bst kf (pcs (fun j => oM j = nI (97 + q)) ol m 0) (a + kf)), g, n', f', n2, f2, g2, ?_, ?_, ?_⟩
    · dsimp only; rw [exO, b1, ob]
    · dsimp only; rw [exO, b3, ob]
    · rw [oI_s, if_pos (nI_pos' (by omega)), m_sp1 (by omega), ob, m_sp2 (by omega), ob, y2, y3, u1, u4, m97 hq, b2, ob]
theorem F_bestLoad {t : Nat} {u : XT} {v : MT} (p1 : Int32) (h : RLx t u v) (ht : t < 512) : ∃ (rx : (Except String Int32) × XT) (rm : Int32 × MT), gX12_bestLoad u p1 = some rx ∧ gX13_bestLoad v p1 = some rm ∧ AG ["java/util/NoSuchElementException"] rx.1 (mt_th rm.2) (fun w => w = rm.1) ∧ RLx (t + 1) rx.2 rm.2 := by
  have hm := RLx_mono h ht
  unfold gX12_bestLoad gX13_bestLoad
  rcases q_bl h.1 p1 (xt_lt u) (xt_lpn u) (xt_lpf u) (mt_bs v) with ⟨e1, e2, e3⟩ | ⟨a, lt', pn', pf', pn2, pf2, bs', e1, e2, e3⟩
  · rw [e1, e3]; exact ⟨_, _, rfl, rfl, ⟨kxN, show (1 : Int32) ≠ 0 by decide⟩, hm⟩
  · rw [e1, e3]; exact ⟨_, _, rfl, rfl, ⟨rfl, rfl⟩, hm⟩
theorem F_bestLoadByRecursion {t : Nat} {u : XT} {v : MT} (p1 : Int32) (h : RLx t u v) (ht : t < 512) : ∃ (rx : (Except String Int32) × XT) (rm : Int32 × MT), gX12_bestLoadByRecursion u p1 = some rx ∧ gX13_bestLoadByRecursion v p1 = some rm ∧ AG ["java/util/NoSuchElementException"] rx.1 (mt_th rm.2) (fun w => w = rm.1) ∧ RLx (t + 1) rx.2 rm.2 := by
  have hm := RLx_mono h ht
  unfold gX12_bestLoadByRecursion gX13_bestLoadByRecursion fX13_bestLoadByRecursion
  rcases q_bl h.1 p1 (xt_lt u) (xt_lpn u) (xt_lpf u) (mt_bs v) with ⟨e1, e2, e3⟩ | ⟨a, lt', pn', pf', pn2, pf2, bs', e1, e2, e3⟩
  · rw [e2, e3]; exact ⟨_, _, rfl, rfl, ⟨kxN, show (1 : Int32) ≠ 0 by decide⟩, hm⟩
  · rw [e2, e3]; exact ⟨_, _, rfl, rfl, ⟨rfl, rfl⟩, hm⟩
