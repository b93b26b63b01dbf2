/-! pure layer: queries -/
def QS (Es : List String) (f : Option (Except String Int32)) (g : Option (Int32 × Int32)) : Prop := ∃ a b, f = some a ∧ g = some b ∧ AG Es a b.2 (fun w => w = b.1)
def QV (f : Option Int32) (g : Option (Int32 × Int32)) : Prop := ∃ a b, f = some a ∧ g = some (a, b)
theorem Q_x {t : Nat} {u : XT} {v : MT} {Es : List String} {f : Option (Except String Int32)} {g : Option (Int32 × Int32)} (h : RLx t u v) (ht : t < 512) (hq : QS Es f g) :
    ∃ (rx : (Except String Int32) × XT) (rm : Int32 × MT), (f.bind fun r => some (r, u)) = some rx ∧ (g.bind fun r => some (r.1, ((r.2, v.2) : MT))) = some rm ∧ AG Es rx.1 (mt_th rm.2) (fun w => w = rm.1) ∧ RLx (t + 1) rx.2 rm.2 := by
  obtain ⟨a, b, rfl, rfl, hg⟩ := hq
  exact ⟨_, _, rfl, rfl, hg, RLx_th _ h ht⟩
theorem Q_v {t : Nat} {u : XT} {v : MT} {f : Option Int32} {g : Option (Int32 × Int32)} (h : RLx t u v) (ht : t < 512) (hq : QV f g) :
    ∃ (r : Int32) (rm : Int32 × MT), f = some r ∧ (g.bind fun r => some (r.1, ((r.2, v.2) : MT))) = some rm ∧ r = rm.1 ∧ RLx (t + 1) u rm.2 := by
  obtain ⟨a, b, rfl, rfl⟩ := hq
  exact ⟨_, _, rfl, rfl, rfl, RLx_th _ h ht⟩
theorem QS_ok {Es : List String} {a : Int32} {f : Option (Except String Int32)} {g : Option (Int32 × Int32)} (hf : f = some (.ok a)) (hg : g = some (a, 0)) : QS Es f g := ⟨_, _, hf, hg, rfl, rfl⟩
theorem QS_er {Es : List String} {e : String} {a q : Int32} {f : Option (Except String Int32)} {g : Option (Int32 × Int32)} (hf : f = some (.error e)) (hg : g = some (a, q)) (hk : kx Es (.error e : Except String Int32) = some q) (hq : q ≠ 0) : QS Es f g := ⟨_, _, hf, hg, hk, hq⟩
theorem m_asks {x : Nat → Int32} {p : Nat} (h : p < 201) : fX13_asks x (nI p) = some (x p, 0) := by
  unfold fX13_asks
  rw [gd_t (inR_n h (by omega)), nI_clamp (by omega)]
theorem q_kerf {b : Nat} {w : WT} {x : Nat → Int32} (h : WR b w x) : QV (fX12_kerf (wt_k w)) (fX13_kerf x) := by
  obtain ⟨n, s, m, o, c, k, l, r, ac, N, M, L, K, cM, cL, T, oN, oM, oL, oD, W, D, A, rfl, h1, h2, h3, h4, h5, h6⟩ := h
  refine ⟨k, 0, rfl, ?_⟩
  unfold fX13_kerf
  rw [show (5 : Int32) = nI 5 from rfl, m_asks (by omega), ob, h5.1]
theorem q_scrapLimit {b : Nat} {w : WT} {x : Nat → Int32} (h : WR b w x) : QV (fX12_scrapLimit (wt_l w)) (fX13_scrapLimit x) := by
  obtain ⟨n, s, m, o, c, k, l, r, ac, N, M, L, K, cM, cL, T, oN, oM, oL, oD, W, D, A, rfl, h1, h2, h3, h4, h5, h6⟩ := h
  refine ⟨l, 0, rfl, ?_⟩
  unfold fX13_scrapLimit
  rw [show (6 : Int32) = nI 6 from rfl, m_asks (by omega), ob, h5.2.1]
theorem q_rule {b : Nat} {w : WT} {x : Nat → Int32} (h : WR b w x) : QV (fX12_rule (wt_r w)) (fX13_rule x) := by
  obtain ⟨n, s, m, o, c, k, l, r, ac, N, M, L, K, cM, cL, T, oN, oM, oL, oD, W, D, A, rfl, h1, h2, h3, h4, h5, h6⟩ := h
  refine ⟨r, 0, ?_, ?_⟩
  · unfold fX12_rule; exact gd_t (isC_r h5.2.2.2.2.2.2)
  · unfold fX13_rule
    rw [show (7 : Int32) = nI 7 from rfl, m_asks (by omega), ob, h5.2.2.1]
    rcases h5.2.2.2.2.2.2 with rfl | rfl | rfl <;> rfl
theorem q_spools {b : Nat} {w : WT} {x : Nat → Int32} (h : WR b w x) : QV (fX12_spools (wt_sNn w)) (fX13_spools x) := by
  obtain ⟨n, s, m, o, c, k, l, r, ac, N, M, L, K, cM, cL, T, oN, oM, oL, oD, W, D, A, rfl, h1, h2, h3, h4, h5, h6⟩ := h
  refine ⟨nI n, 0, rfl, ?_⟩
  unfold fX13_spools
  rw [show (0 : Int32) = nI 0 from rfl, m_asks (by omega), ob, h1.2.1]; rfl
theorem q_orders {b : Nat} {w : WT} {x : Nat → Int32} (h : WR b w x) : QV (fX12_orders (wt_oNn w)) (fX13_orders x) := by
  obtain ⟨n, s, m, o, c, k, l, r, ac, N, M, L, K, cM, cL, T, oN, oM, oL, oD, W, D, A, rfl, h1, h2, h3, h4, h5, h6⟩ := h
  refine ⟨nI m, 0, rfl, ?_⟩
  unfold fX13_orders
  rw [show (2 : Int32) = nI 2 from rfl, m_asks (by omega), ob, h2.2.1]
theorem q_filled {b : Nat} {w : WT} {x : Nat → Int32} (h : WR b w x) : QV (fX12_filled (wt_ac w)) (fX13_filled x) := by
  obtain ⟨n, s, m, o, c, k, l, r, ac, N, M, L, K, cM, cL, T, oN, oM, oL, oD, W, D, A, rfl, h1, h2, h3, h4, h5, h6⟩ := h
  refine ⟨ac, 0, rfl, ?_⟩
  unfold fX13_filled
  rw [show (8 : Int32) = nI 8 from rfl, m_asks (by omega), ob, h5.2.2.2.1]
theorem q_hasSpool {b : Nat} {w : WT} {x : Nat → Int32} (h : WR b w x) (p : Int32) : QV (fX12_hasSpool (wt_sNn w) (wt_sNf w) p) (fX13_hasSpool x p) := by
  obtain ⟨n, s, m, o, c, k, l, r, ac, N, M, L, K, cM, cL, T, oN, oM, oL, oD, W, D, A, rfl, h1, h2, h3, h4, h5, h6⟩ := h
  have hn := h1.1
  show QV (fX12_hasSpool (nI n) N p) _
  unfold fX12_hasSpool fX13_hasSpool fX9_indexOf
  rw [row_ix hn (by omega), ob, ob, pl_S h1, ob]
  cases e : fnd (fun j => N j = p) n 0 with
  | none => exact ⟨0, 0, if_pos rfl, if_pos (by decide)⟩
  | some i =>
    have := (fnd_some _ _ _ e).2.1
    exact ⟨1, 0, if_neg (oI_m1 (by omega)), if_neg (show ¬ oI (some i) < 0 from nI_pos (by omega))⟩
theorem q_isOpen {b : Nat} {w : WT} {x : Nat → Int32} (h : WR b w x) (p : Int32) : QV (fX12_isOpen (wt_oNn w) (wt_oNf w) p) (fX13_isOpen x p) := by
  obtain ⟨n, s, m, o, c, k, l, r, ac, N, M, L, K, cM, cL, T, oN, oM, oL, oD, W, D, A, rfl, h1, h2, h3, h4, h5, h6⟩ := h
  have hn := h2.1
  show QV (fX12_isOpen (nI m) oN p) _
  unfold fX12_isOpen fX13_isOpen fX5_positionOf
  rw [row_ix hn (by omega), ob, ob, pl_O h2, ob]
  cases e : fnd (fun j => oN j = p) m 0 with
  | none => exact ⟨0, 0, if_pos rfl, if_pos (by decide)⟩
  | some i =>
    have := (fnd_some _ _ _ e).2.1
    exact ⟨1, 0, if_neg (oI_m1 (by omega)), if_neg (show ¬ oI (some i) < 0 from nI_pos (by omega))⟩
theorem m_aS {n s : Nat} {N M L K x : Nat → Int32} (h : SR n s N M L K x) (p c : Int32) : fX13_asksSpool x p c = match fnd (fun j => N j = p) n 0 with | none => some (0, 1) | some i => (fX13_spoolAt x (nI i) c).bind fun z => some (z, 0) := by
  unfold fX13_asksSpool
  rw [pl_S h, ob]
  cases e : fnd (fun j => N j = p) n 0 with
  | none => rw [if_neg (show ¬ 0 ≤ oI none by decide)]; rfl
  | some i =>
    have := (fnd_some _ _ _ e).2.1
    have := h.1
    rw [if_pos (show 0 ≤ oI (some i) from nI_pos' (by omega))]; rfl
theorem m_aO {n s : Nat} {N M L D x : Nat → Int32} (h : OR n s N M L D x) (p c : Int32) : fX13_asksOrder x p c = match fnd (fun j => N j = p) n 0 with | none => some (0, 1) | some i => (fX13_orderOf x (nI i) c).bind fun z => some (z, 0) := by
  unfold fX13_asksOrder
  rw [pl_O h, ob]
  cases e : fnd (fun j => N j = p) n 0 with
  | none => rw [if_neg (show ¬ 0 ≤ oI none by decide)]; rfl
  | some i =>
    have := (fnd_some _ _ _ e).2.1
    have := h.1
    rw [if_pos (show 0 ≤ oI (some i) from nI_pos' (by omega))]; rfl
theorem isC_nI {a : Nat} (h : a < 65536) : isC (nI a) = true := decide_eq_true (by rw [nI_toInt (by omega)]; omega)
theorem p97 (q : Nat) : (97 : Int32) + nI q = nI (97 + q) := by rw [show (97 : Int32) = nI 97 from rfl, nI_add]
theorem q_material {b : Nat} {w : WT} {x : Nat → Int32} (h : WR b w x) (p : Int32) : QS ["java/util/NoSuchElementException"] (fX12_material (wt_sNn w) (wt_sNf w) (wt_sMn w) (wt_sMf w) p) (fX13_material x p) := by
  obtain ⟨n, s, m, o, c, k, l, r, ac, N, M, L, K, cM, cL, T, oN, oM, oL, oD, W, D, A, rfl, h1, h2, h3, h4, h5, h6⟩ := h
  have hn := h1.1
  show QS _ (fX12_material (nI n) N (nI n) M p) _
  unfold fX12_material fX13_material
  rw [ex_S hn, m_aS h1, ob]
  cases e : fnd (fun j => N j = p) n 0 with
  | none => exact QS_er rfl rfl kxN (by decide)
  | some i =>
    obtain ⟨_, hi, _, _⟩ := fnd_some _ _ _ e
    rw [Nat.zero_add] at hi
    obtain ⟨y1, y2, y3, y4⟩ := h1.2.2.2.1 i hi
    obtain ⟨⟨q, hq, u1⟩, _, _⟩ := h1.2.2.2.2.1 i hi
    dsimp only
    rw [exO, fX9_materialAt, row_get hi hn (by omega), ob, ob, u1, ch_id (by omega), gd_t (isC_nI (by omega)), m_sp1 (by omega), ob, ob, y2, u1, m97 hq, if_pos rfl, p97, ch_id (by omega)]
    exact QS_ok rfl rfl
theorem q_remaining {b : Nat} {w : WT} {x : Nat → Int32} (h : WR b w x) (p : Int32) : QS ["java/util/NoSuchElementException"] (fX12_remaining (wt_sNn w) (wt_sNf w) (wt_sLn w) (wt_sLf w) p) (fX13_remaining x p) := by
  obtain ⟨n, s, m, o, c, k, l, r, ac, N, M, L, K, cM, cL, T, oN, oM, oL, oD, W, D, A, rfl, h1, h2, h3, h4, h5, h6⟩ := h
  have hn := h1.1
  show QS _ (fX12_remaining (nI n) N (nI n) L p) _
  unfold fX12_remaining fX13_remaining
  rw [ex_S hn, m_aS h1, ob]
  cases e : fnd (fun j => N j = p) n 0 with
  | none => exact QS_er rfl rfl kxN (by decide)
  | some i =>
    obtain ⟨_, hi, _, _⟩ := fnd_some _ _ _ e
    rw [Nat.zero_add] at hi
    obtain ⟨y1, y2, y3, y4⟩ := h1.2.2.2.1 i hi
    dsimp only
    rw [exO, fX9_lengthAt, row_get hi hn (by omega), ob, ob, m_sp2 (by omega), ob, ob, y3]
    exact QS_ok rfl rfl
theorem q_cuts {b : Nat} {w : WT} {x : Nat → Int32} (h : WR b w x) (p : Int32) : QS ["java/util/NoSuchElementException"] (fX12_cuts (wt_sNn w) (wt_sNf w) (wt_sKn w) (wt_sKf w) p) (fX13_cuts x p) := by
  obtain ⟨n, s, m, o, c, k, l, r, ac, N, M, L, K, cM, cL, T, oN, oM, oL, oD, W, D, A, rfl, h1, h2, h3, h4, h5, h6⟩ := h
  have hn := h1.1
  show QS _ (fX12_cuts (nI n) N (nI n) K p) _
  unfold fX12_cuts fX13_cuts
  rw [ex_S hn, m_aS h1, ob]
  cases e : fnd (fun j => N j = p) n 0 with
  | none => exact QS_er rfl rfl kxN (by decide)
  | some i =>
    obtain ⟨_, hi, _, _⟩ := fnd_some _ _ _ e
    rw [Nat.zero_add] at hi
    obtain ⟨y1, y2, y3, y4⟩ := h1.2.2.2.1 i hi
    dsimp only
    rw [exO, fX9_cutCountAt, row_get hi hn (by omega), ob, ob, m_sp3 (by omega), ob, ob, y4]
    exact QS_ok rfl rfl
theorem q_orderMaterial {b : Nat} {w : WT} {x : Nat → Int32} (h : WR b w x) (p : Int32) : QS ["java/util/NoSuchElementException"] (fX12_orderMaterial (wt_oNn w) (wt_oNf w) (wt_oMn w) (wt_oMf w) p) (fX13_orderMaterial x p) := by
  obtain ⟨n, s, m, o, c, k, l, r, ac, N, M, L, K, cM, cL, T, oN, oM, oL, oD, W, D, A, rfl, h1, h2, h3, h4, h5, h6⟩ := h
  have hn := h2.1
  show QS _ (fX12_orderMaterial (nI m) oN (nI m) oM p) _
  unfold fX12_orderMaterial fX13_orderMaterial
  rw [ex_O hn, m_aO h2, ob]
  cases e : fnd (fun j => oN j = p) m 0 with
  | none => exact QS_er rfl rfl kxN (by decide)
  | some i =>
    obtain ⟨_, hi, _, _⟩ := fnd_some _ _ _ e
    rw [Nat.zero_add] at hi
    obtain ⟨y1, y2, y3, y4⟩ := h2.2.2.2.1 i hi
    obtain ⟨⟨q, hq, u1⟩, _, _⟩ := h2.2.2.2.2.1 i hi
    dsimp only
    rw [exO, fX5_materialAt, row_get hi hn (by omega), ob, ob, u1, ch_id (by omega), gd_t (isC_nI (by omega)), m_or1 (by omega), ob, ob, y2, u1, m97 hq, if_pos rfl, p97, ch_id (by omega)]
    exact QS_ok rfl rfl
theorem q_orderLength {b : Nat} {w : WT} {x : Nat → Int32} (h : WR b w x) (p : Int32) : QS ["java/util/NoSuchElementException"] (fX12_orderLength (wt_oNn w) (wt_oNf w) (wt_oLn w) (wt_oLf w) p) (fX13_orderLength x p) := by
  obtain ⟨n, s, m, o, c, k, l, r, ac, N, M, L, K, cM, cL, T, oN, oM, oL, oD, W, D, A, rfl, h1, h2, h3, h4, h5, h6⟩ := h
  have hn := h2.1
  show QS _ (fX12_orderLength (nI m) oN (nI m) oL p) _
  unfold fX12_orderLength fX13_orderLength
  rw [ex_O hn, m_aO h2, ob]
  cases e : fnd (fun j => oN j = p) m 0 with
  | none => exact QS_er rfl rfl kxN (by decide)
  | some i =>
    obtain ⟨_, hi, _, _⟩ := fnd_some _ _ _ e
    rw [Nat.zero_add] at hi
    obtain ⟨y1, y2, y3, y4⟩ := h2.2.2.2.1 i hi
    dsimp only
    rw [exO, fX5_lengthAt, row_get hi hn (by omega), ob, ob, m_or2 (by omega), ob, ob, y3]
    exact QS_ok rfl rfl
theorem q_due {b : Nat} {w : WT} {x : Nat → Int32} (h : WR b w x) (p : Int32) : QS ["java/util/NoSuchElementException"] (fX12_due (wt_oNn w) (wt_oNf w) (wt_oDn w) (wt_oDf w) p) (fX13_due x p) := by
  obtain ⟨n, s, m, o, c, k, l, r, ac, N, M, L, K, cM, cL, T, oN, oM, oL, oD, W, D, A, rfl, h1, h2, h3, h4, h5, h6⟩ := h
  have hn := h2.1
  show QS _ (fX12_due (nI m) oN (nI m) oD p) _
  unfold fX12_due fX13_due
  rw [ex_O hn, m_aO h2, ob]
  cases e : fnd (fun j => oN j = p) m 0 with
  | none => exact QS_er rfl rfl kxN (by decide)
  | some i =>
    obtain ⟨_, hi, _, _⟩ := fnd_some _ _ _ e
    rw [Nat.zero_add] at hi
    obtain ⟨y1, y2, y3, y4⟩ := h2.2.2.2.1 i hi
    dsimp only
    rw [exO, fX5_dueAt, row_get hi hn (by omega), ob, ob, m_or3 (by omega), ob, ob, y4]
    exact QS_ok rfl rfl
theorem q_orderAt {b : Nat} {w : WT} {x : Nat → Int32} (h : WR b w x) (p : Int32) : QS ["java/util/NoSuchElementException"] (fX12_orderAt (wt_oNn w) (wt_oNf w) p) (fX13_orderAt x p) := by
  obtain ⟨n, s, m, o, c, k, l, r, ac, N, M, L, K, cM, cL, T, oN, oM, oL, oD, W, D, A, rfl, h1, h2, h3, h4, h5, h6⟩ := h
  have hn := h2.1
  show QS _ (fX12_orderAt (nI m) oN p) _
  unfold fX12_orderAt fX13_orderAt
  rw [btw, ob, h2.2.1]
  by_cases g1 : p < 0
  · rw [if_pos g1, if_pos g1]; exact QS_er rfl rfl kxN (by decide)
  · rw [if_neg g1, if_neg g1, fX5_count, fX7_size, ob, ob]
    obtain ⟨j, hj, rfl⟩ := nI_of g1
    by_cases g2 : j < m
    · have e : ¬ nI m - 1 < nI j := by
        obtain ⟨f, rfl⟩ : ∃ q, m = q + 1 := ⟨m - 1, by omega⟩
        rw [nI_pred]; exact nI_nlt (by omega) (by omega)
      rw [if_pos (nI_lt g2 (by omega)), if_neg e, if_neg (by decide), fX5_numberAt, row_get g2 hn (by omega), ob, ob, m_or0 (by omega), ob, (h2.2.2.2.1 j g2).1]
      exact QS_ok rfl rfl
    · have e : nI m - 1 < nI j := by
        by_cases g3 : m = 0
        · subst g3
          exact Int32.lt_of_lt_of_le (show nI 0 - 1 < 0 by decide) (nI_pos' (by omega))
        · obtain ⟨f, rfl⟩ : ∃ q, m = q + 1 := ⟨m - 1, by omega⟩
          rw [nI_pred]; exact nI_lt (by omega) (by omega)
      rw [if_neg (nI_nlt (by omega) (by omega)), if_pos e]
      exact QS_er rfl rfl kxN (by decide)
theorem m_aM {W D A T x : Nat → Int32} (h : AR W D A T x) (p c : Int32) : (fX12_requireMaterial p = some (.error "java/lang/IllegalArgumentException") ∧ fX13_asksMaterial x p c = some (0, 1)) ∨ (∃ q, q < 6 ∧ p = nI (97 + q) ∧ fX12_requireMaterial p = some (.ok ()) ∧ fX13_asksMaterial x p c = gd (inR (c + nI (97 + q) - 97) 201) (some (x ((c + nI (97 + q) - 97).toNatClampNeg), 0))) := by
  unfold fX13_asksMaterial
  rcases mat_cs p with ⟨e1, e2⟩ | ⟨q, hq, rfl, e1, e2⟩
  · exact Or.inl ⟨e1, by rw [e2]; rfl⟩
  · refine Or.inr ⟨q, hq, rfl, e1, ?_⟩
    rw [e2, ob, if_neg (by decide)]
theorem cm97 {c q : Nat} (hc : c < 100) (hq : q < 6) : nI c + nI (97 + q) - 97 = nI (c + q) := by
  rw [nI_add]
  have := pk_sub (a := c + (97 + q)) (b := 97) (by omega)
  rw [show c + (97 + q) - 97 = c + q by omega] at this; exact this
theorem q_wound {b : Nat} {w : WT} {x : Nat → Int32} (h : WR b w x) (p : Int32) : QS ["java/lang/IllegalArgumentException"] (fX12_wound (wt_aWn w) (wt_aWf w) p) (fX13_wound x p) := by
  obtain ⟨n, s, m, o, c, k, l, r, ac, N, M, L, K, cM, cL, T, oN, oM, oL, oD, W, D, A, rfl, h1, h2, h3, h4, h5, h6⟩ := h
  show QS _ (fX12_wound (nI 6) W p) _
  unfold fX12_wound fX13_wound
  rcases m_aM h4 p 9 with ⟨e1, e2⟩ | ⟨q, hq, rfl, e1, e2⟩
  · rw [e1, e2]; exact QS_er rfl rfl kxI (by decide)
  · rw [e1, e2, show (9 : Int32) = nI 9 from rfl, cm97 (by omega) hq, gd_t (inR_n (by omega) (by omega)), nI_clamp (by omega), ob, ob, exO, fX12_placeOf, ob, m97 hq, row_get hq (Nat.le_refl _) (by omega), ob, (h4 q hq).1]
    exact QS_ok rfl rfl
theorem q_delivered {b : Nat} {w : WT} {x : Nat → Int32} (h : WR b w x) (p : Int32) : QS ["java/lang/IllegalArgumentException"] (fX12_delivered (wt_aDn w) (wt_aDf w) p) (fX13_delivered x p) := by
  obtain ⟨n, s, m, o, c, k, l, r, ac, N, M, L, K, cM, cL, T, oN, oM, oL, oD, W, D, A, rfl, h1, h2, h3, h4, h5, h6⟩ := h
  show QS _ (fX12_delivered (nI 6) D p) _
  unfold fX12_delivered fX13_delivered
  rcases m_aM h4 p 15 with ⟨e1, e2⟩ | ⟨q, hq, rfl, e1, e2⟩
  · rw [e1, e2]; exact QS_er rfl rfl kxI (by decide)
  · rw [e1, e2, show (15 : Int32) = nI 15 from rfl, cm97 (by omega) hq, gd_t (inR_n (by omega) (by omega)), nI_clamp (by omega), ob, ob, exO, fX12_placeOf, ob, m97 hq, row_get hq (Nat.le_refl _) (by omega), ob, (h4 q hq).2.1]
    exact QS_ok rfl rfl
theorem q_losses {b : Nat} {w : WT} {x : Nat → Int32} (h : WR b w x) (p : Int32) : QS ["java/lang/IllegalArgumentException"] (fX12_losses (wt_aLn w) (wt_aLf w) p) (fX13_losses x p) := by
  obtain ⟨n, s, m, o, c, k, l, r, ac, N, M, L, K, cM, cL, T, oN, oM, oL, oD, W, D, A, rfl, h1, h2, h3, h4, h5, h6⟩ := h
  show QS _ (fX12_losses (nI 6) A p) _
  unfold fX12_losses fX13_losses
  rcases m_aM h4 p 21 with ⟨e1, e2⟩ | ⟨q, hq, rfl, e1, e2⟩
  · rw [e1, e2]; exact QS_er rfl rfl kxI (by decide)
  · rw [e1, e2, show (21 : Int32) = nI 21 from rfl, cm97 (by omega) hq, gd_t (inR_n (by omega) (by omega)), nI_clamp (by omega), ob, ob, exO, fX12_placeOf, ob, m97 hq, row_get hq (Nat.le_refl _) (by omega), ob, (h4 q hq).2.2.1]
    exact QS_ok rfl rfl
theorem q_canFill {b : Nat} {w : WT} {x : Nat → Int32} (h : WR b w x) (p : Int32) : QS ["java/util/NoSuchElementException"] ((fX11_openOrder (wt_oNn w) (wt_oNf w) p).bind fun z1 => exC z1 (fun e5 => some (.error e5)) fun v3 => (hX11_isFillable w v3).bind fun z6 => gd (isB z6) <| some (.ok z6)) (fX13_canFill x p) := by
  obtain ⟨m, hm, hm2, e1, e2⟩ := pl_W h p
  unfold fX13_canFill
  rw [e1, e2, ob, ob]
  cases e : fnd (fun j => wt_oNf w j = p) m 0 with
  | none => exact QS_er rfl rfl kxN (by decide)
  | some i =>
    obtain ⟨_, hi, _, _⟩ := fnd_some _ _ _ e
    rw [Nat.zero_add] at hi
    rw [oI_s]
    dsimp only
    rw [exO, if_pos (nI_pos' (by omega))]
    rcases S_fa h hm hm2 hi with ⟨k1, k2⟩ | ⟨k1, k2, _⟩
    · rw [k1, k2]; exact QS_ok rfl rfl
    · rw [k1, k2]; exact QS_ok rfl rfl
