/-! pure layer: ranks, choices, sums -/
theorem mulA {a b : Nat} {n : Nat} (hn : n < 2 ^ 30) (ha : a < 2 ^ 30) : (nI a = nI n) = (a = n) := propext (nI_eq (by omega) (by omega))
theorem m_ah {n s i j : Nat} {N M L K x : Nat → Int32} (h : SR n s N M L K x) (hi : i < n) (hj : j < n) : fX13_isAhead x (nI i) (nI j) = some (if bef N M L i j = true then 1 else 0) := by
  have hn := h.1
  obtain ⟨y1, y2, y3, y4⟩ := h.2.2.2.1 i hi
  obtain ⟨z1, z2, z3, z4⟩ := h.2.2.2.1 j hj
  obtain ⟨⟨q, hq, u1⟩, ⟨a, k, u2, u3, u4, u5⟩, _⟩ := h.2.2.2.2.1 i hi
  obtain ⟨⟨r, hr, v1⟩, ⟨b, l, v2, v3, v4, v5⟩, _⟩ := h.2.2.2.2.1 j hj
  have hN : N j ≤ N i ↔ j ≤ i := by
    constructor
    · intro g
      by_cases e : j ≤ i
      · exact e
      · exact absurd (h.2.2.2.2.2 i j (by omega) hj) (Int32.not_lt.mpr g)
    · intro g
      by_cases e : j = i
      · subst e; exact Int32.le_refl _
      · exact Int32.le_of_lt (h.2.2.2.2.2 j i (by omega) hi)
  unfold fX13_isAhead bef
  rw [m_sp2 (by omega), ob, m_sp2 (by omega), ob, m_sp1 (by omega), ob, m_sp1 (by omega), ob, y2, y3, z2, z3, u1, u4, v1, v4, m97 hq, m97 hr]
  by_cases g1 : a = b
  · subst g1
    rw [if_pos ((sub_eq0 (by omega) (by omega)).mpr rfl), if_pos rfl]
    by_cases g2 : q = r
    · subst g2
      rw [if_pos ((sub_eq0 (by omega) (by omega)).mpr rfl), if_pos rfl]
      by_cases g3 : j ≤ i
      · rw [if_pos (nI_le g3 (by omega)), if_neg (by simp [hN, g3])]
      · rw [if_neg (nI_ge (by omega) (by omega)), if_pos (by simp [hN, g3])]
    · rw [if_neg (fun e => g2 ((sub_eq0 (by omega) (by omega)).mp e).symm), if_neg (show ¬ nI (97 + q) = nI (97 + r) from fun e => g2 (by have := (nI_eq (show 97 + q < 2 ^ 31 by omega) (show 97 + r < 2 ^ 31 by omega)).mp e; omega))]
      by_cases g3 : r ≤ q
      · rw [if_pos ((sub_le0 (by omega) (by omega)).mpr g3), if_neg (by simp [nI_leI (show 97 + r < 2 ^ 31 by omega) (show 97 + q < 2 ^ 31 by omega)]; omega)]
      · rw [if_neg (fun e => g3 ((sub_le0 (by omega) (by omega)).mp e)), if_pos (by simp [nI_leI (show 97 + r < 2 ^ 31 by omega) (show 97 + q < 2 ^ 31 by omega)]; omega)]
  · rw [if_neg (fun e => g1 ((sub_eq0 (by omega) (by omega)).mp e)), if_neg (show ¬ nI a = nI b from fun e => g1 ((nI_eq (by omega) (by omega)).mp e))]
    by_cases g3 : a ≤ b
    · rw [if_pos ((sub_le0 (by omega) (by omega)).mpr g3), if_neg (by simp [nI_leI (show a < 2 ^ 31 by omega) (show b < 2 ^ 31 by omega)]; omega)]
    · rw [if_neg (fun e => g3 ((sub_le0 (by omega) (by omega)).mp e)), if_pos (by simp [nI_leI (show a < 2 ^ 31 by omega) (show b < 2 ^ 31 by omega)]; omega)]
theorem m_sl_L2 {n s i : Nat} {N M L K x : Nat → Int32} {p : Int32} {KK : Int32 → Option (Int32 × Int32)} (h : SR n s N M L K x) (hi : i < n) : ∀ (d k j : Nat) (a : Int32), d < k → j + d = n →
    fX13_spoolByLength_L22 KK p (nI i) 0 x k a (nI j) = if fld (fun b q => if bef N M L q i = true then b + 1 else b) d j a = p then some (N i, 0) else KK (nI (i + 1)) := by
  have hn := h.1
  intro d
  induction d with
  | zero =>
    intro k j a hk hj
    obtain ⟨k, rfl⟩ : ∃ q, k = q + 1 := ⟨k - 1, by omega⟩
    rw [fX13_spoolByLength_L22, h.2.1, if_pos (nI_le (by omega) (by omega)), m_sp0 (by omega), ob, (h.2.2.2.1 i hi).1, nI_1]; rfl
  | succ d ih =>
    intro k j a hk hj
    obtain ⟨k, rfl⟩ : ∃ q, k = q + 1 := ⟨k - 1, by omega⟩
    rw [fX13_spoolByLength_L22, h.2.1, if_neg (nI_ge (by omega) (by omega)), m_ah h (by omega) hi, ob, tl_fld, nI_1]
    by_cases g : bef N M L j i = true
    · rw [if_pos g, if_neg (by decide), if_pos g]; exact ih _ _ _ (by omega) (by omega)
    · rw [if_neg g, if_pos rfl, if_neg g, Int32.add_zero]; exact ih _ _ _ (by omega) (by omega)
theorem m_sl_L {n s : Nat} {N M L K x : Nat → Int32} {p : Int32} (h : SR n s N M L K x) : ∀ (d k i : Nat), d < k → i + d = n →
    fX13_spoolByLength_L7 p 0 x k (nI i) = match fnd (fun j => fld (fun b q => if bef N M L q j = true then b + 1 else b) n 0 0 = p) d i with | none => some (0, 1) | some i => some (N i, 0) := by
  have hn := h.1
  intro d
  induction d with
  | zero =>
    intro k i hk hi
    obtain ⟨k, rfl⟩ : ∃ q, k = q + 1 := ⟨k - 1, by omega⟩
    rw [fX13_spoolByLength_L7, h.2.1, if_pos (nI_le (by omega) (by omega))]; rfl
  | succ d ih =>
    intro k i hk hi
    obtain ⟨k, rfl⟩ : ∃ q, k = q + 1 := ⟨k - 1, by omega⟩
    have r := m_sl_L2 (p := p) (KK := fX13_spoolByLength_L7 p 0 x k) h (show i < n by omega) n FU 0 0 (FU_lt (by omega)) (by omega)
    rw [fX13_spoolByLength_L7, h.2.1, if_neg (nI_ge (by omega) (by omega))]
    refine Eq.trans r ?_
    rw [fnd]
    by_cases g : fld (fun b q => if bef N M L q i = true then b + 1 else b) n 0 0 = p
    · rw [if_pos g, if_pos g]
    · rw [if_neg g, if_neg g]
      exact ih _ _ (by omega) (by omega)
theorem q_spoolByLength {b : Nat} {w : WT} {x : Nat → Int32} (h : WR b w x) (p : Int32) : QS ["java/util/NoSuchElementException"] (fX12_spoolByLength (wt_sNn w) (wt_sNf w) (wt_sMn w) (wt_sMf w) (wt_sLn w) (wt_sLf w) p) (fX13_spoolByLength x p) := by
  obtain ⟨n, s, m, o, c, k, l, r, ac, N, M, L, K, cM, cL, T, oN, oM, oL, oD, W, D, A, rfl, h1, h2, h3, h4, h5, h6⟩ := h
  have hn := h1.1
  show QS _ (fX12_spoolByLength (nI n) N (nI n) M (nI n) L p) _
  unfold fX12_spoolByLength fX13_spoolByLength
  have r := m_sl_L (p := p) h1 n FU 0 (FU_lt (by omega)) (by omega)
  rw [sp_ir hn, ob, show fX13_spoolByLength_L7 p 0 x FU 0 = _ from r]
  cases e : fnd (fun j => fld (fun b q => if bef N M L q j = true then b + 1 else b) n 0 0 = p) n 0 with
  | none => rw [if_pos (show oI none = -1 from rfl)]; exact QS_er rfl rfl kxN (by decide)
  | some i =>
    obtain ⟨_, hi, _, _⟩ := fnd_some _ _ _ e
    rw [Nat.zero_add] at hi
    rw [if_neg (oI_m1 (by omega)), oI_s, fX9_numberAt, row_get hi hn (by omega)]
    exact QS_ok rfl rfl
theorem q_chosenScrap {b : Nat} {w : WT} {x : Nat → Int32} (h : WR b w x) (p : Int32) : QS ["java/util/NoSuchElementException"] (fX12_chosenScrap (wt_cMn w) (wt_cMf w) (wt_cLn w) (wt_cLf w) (wt_oNn w) (wt_oNf w) (wt_oMn w) (wt_oMf w) (wt_oLn w) (wt_oLf w) p) (fX13_chosenScrap x p) := by
  obtain ⟨n, s, m, o, c, k, l, r, ac, N, M, L, K, cM, cL, T, oN, oM, oL, oD, W, D, A, rfl, h1, h2, h3, h4, h5, h6⟩ := h
  have hm := h2.1
  have hc := h3.1
  show QS _ (fX12_chosenScrap (nI c) cM (nI c) cL (nI m) oN (nI m) oM (nI m) oL p) _
  unfold fX12_chosenScrap fX13_chosenScrap
  rw [ex_O hm, pl_O h2, ob, ob]
  cases e : fnd (fun j => oN j = p) m 0 with
  | none => rw [if_pos (show oI none < 0 by decide)]; exact QS_er rfl rfl kxN (by decide)
  | some i =>
    obtain ⟨_, hi, _, _⟩ := fnd_some _ _ _ e
    rw [Nat.zero_add] at hi
    obtain ⟨y1, y2, y3, y4⟩ := h2.2.2.2.1 i hi
    obtain ⟨⟨q, hq, u1⟩, _, _⟩ := h2.2.2.2.2.1 i hi
    have m1 := m_sf (a := i) hc (by omega) h3.2.1
    have hb := scr_eq h3 (a := i) y2 y3 _ _ rfl rfl
    have c2 : fX8_shortestFor (nI c) cM (nI c) cL (oM i) (oL i) = _ := sc_sho hc
    rw [oI_s]
    dsimp only
    rw [exO, if_neg (nI_pos (by omega)), fX11_scrapFor, fX5_materialAt, row_get hi hm (by omega), ob, ob, fX5_lengthAt, row_get hi hm (by omega), ob, ob, u1, ch_id (by omega), ← u1, c2, m1]
    simp only [ob]
    generalize fnd (fun j => cM j = oM i ∧ ¬ cL j < oL i) c 0 = b1 at hb ⊢
    generalize fld (mnz (fun j => x (121 + 2 * j) = x (74 + 4 * i) ∧ x (75 + 4 * i) ≤ x (122 + 2 * j)) (fun j => x (122 + 2 * j))) c 0 none = b2 at hb ⊢
    rcases hb with ⟨rfl, rfl⟩ | ⟨a, a2, rfl, rfl, ha, ha2, t1, t2, t3⟩
    · rw [if_pos (show oI none = -1 from rfl), if_neg (show ¬ 0 ≤ oI none by decide)]
      exact QS_er rfl rfl kxN (by decide)
    · have t4 : x (122 + 2 * a2) = cL a := (congrArg Prod.snd t3).symm
      rw [if_neg (oI_m1 (by omega)), if_pos (show 0 ≤ oI (some a2) from nI_pos' (by omega)), show oI (some a) = nI a from rfl, show oI (some a2) = nI a2 from rfl, fX8_lengthAt, row_get ha hc (by omega), m_sc1 (by omega), t4]
      exact QS_ok rfl rfl
theorem q_chosenSpool {b : Nat} {w : WT} {x : Nat → Int32} (h : WR b w x) (p : Int32) : QS ["java/util/NoSuchElementException"] (fX12_chosenSpool (wt_r w) (wt_sNn w) (wt_sNf w) (wt_sMn w) (wt_sMf w) (wt_sLn w) (wt_sLf w) (wt_cMn w) (wt_cMf w) (wt_cLn w) (wt_cLf w) (wt_oNn w) (wt_oNf w) (wt_oMn w) (wt_oMf w) (wt_oLn w) (wt_oLf w) p) (fX13_chosenSpool x p) := by
  obtain ⟨n, s, m, o, c, k, l, r, ac, N, M, L, K, cM, cL, T, oN, oM, oL, oD, W, D, A, rfl, h1, h2, h3, h4, h5, h6⟩ := h
  have hm := h2.1
  have hc := h3.1
  have hn := h1.1
  show QS _ (fX12_chosenSpool r (nI n) N (nI n) M (nI n) L (nI c) cM (nI c) cL (nI m) oN (nI m) oM (nI m) oL p) _
  unfold fX12_chosenSpool fX13_chosenSpool
  rw [ex_O hm, pl_O h2, ob, ob]
  cases e : fnd (fun j => oN j = p) m 0 with
  | none => rw [if_pos (show oI none < 0 by decide)]; exact QS_er rfl rfl kxN (by decide)
  | some i =>
    obtain ⟨_, hi, _, _⟩ := fnd_some _ _ _ e
    rw [Nat.zero_add] at hi
    obtain ⟨y1, y2, y3, y4⟩ := h2.2.2.2.1 i hi
    obtain ⟨⟨q, hq, u1⟩, _, _⟩ := h2.2.2.2.2.1 i hi
    have m1 := m_sf (a := i) hc (by omega) h3.2.1
    have m2 := m_spf h1 (a := i) (by omega) y2 y3 h5.2.2.1
    have hb := scr_eq h3 (a := i) y2 y3 _ _ rfl rfl
    have hs := chz_fld (P := fun j => M j = oM i ∧ ¬ L j < oL i) (L := L) (r := r) n
    have c2 : fX8_shortestFor (nI c) cM (nI c) cL (oM i) (oL i) = _ := sc_sho hc
    have c3 : fX9_choose (nI n) M (nI n) L (oM i) (oL i) r = _ := sp_ch hn
    have c4 : fX11_scrapFor (nI c) cM (nI c) cL (nI m) oM (nI m) oL (nI i) = some (oI (fnd (fun j => cM j = oM i ∧ ¬ cL j < oL i) c 0)) := by
      rw [fX11_scrapFor, fX5_materialAt, row_get hi hm (by omega), ob, ob, fX5_lengthAt, row_get hi hm (by omega), ob, ob, u1, ch_id (by omega), ← u1, c2, ob]
    have c5 : fX11_spoolFor r (nI n) M (nI n) L (nI m) oM (nI m) oL (nI i) = some (oI (fld (chz (fun j => M j = oM i ∧ ¬ L j < oL i) L r) n 0 none)) := by
      rw [fX11_spoolFor, fX5_materialAt, row_get hi hm (by omega), ob, ob, fX5_lengthAt, row_get hi hm (by omega), ob, ob, u1, ch_id (by omega), ← u1, c3, ob]
    rw [oI_s]
    dsimp only
    rw [exO, if_neg (nI_pos (by omega)), c4, c5, m1, m2]
    simp only [ob]
    generalize fnd (fun j => cM j = oM i ∧ ¬ cL j < oL i) c 0 = b1 at hb ⊢
    generalize fld (mnz (fun j => x (121 + 2 * j) = x (74 + 4 * i) ∧ x (75 + 4 * i) ≤ x (122 + 2 * j)) (fun j => x (122 + 2 * j))) c 0 none = b2 at hb ⊢
    generalize fld (chz (fun j => M j = oM i ∧ ¬ L j < oL i) L r) n 0 none = bs at hs ⊢
    rcases hb with ⟨rfl, rfl⟩ | ⟨a, a2, rfl, rfl, ha, ha2, t1, t2, t3⟩
    · rw [if_pos (show oI none = -1 from rfl), if_neg (show ¬ 0 ≤ oI none by decide)]
      cases bs with
      | none => rw [if_pos (show oI none = -1 from rfl), if_neg (show ¬ 0 ≤ oI none by decide)]; exact QS_er rfl rfl kxN (by decide)
      | some a =>
        have ha := hs.1
        rw [if_neg (oI_m1 (by omega)), if_pos (show 0 ≤ oI (some a) from nI_pos' (by omega)), oI_s, fX9_numberAt, row_get ha hn (by omega), m_sp0 (by omega), (h1.2.2.2.1 a ha).1]
        exact QS_ok rfl rfl
    · rw [if_neg (oI_m1 (by omega)), if_pos trivial, if_pos (show 0 ≤ oI (some a2) from nI_pos' (by omega))]
      exact QS_er rfl rfl kxN (by decide)
