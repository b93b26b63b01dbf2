/-! pure layer: filling -/
theorem dsum_up {d : Nat → Nat} {q a : Nat} (hq : q < 6) : dsum (fun j => if j = q then d j + a else d j) = dsum d + a := by
  unfold dsum
  have : q = 0 ∨ q = 1 ∨ q = 2 ∨ q = 3 ∨ q = 4 ∨ q = 5 := by omega
  rcases this with rfl | rfl | rfl | rfl | rfl | rfl <;> simp <;> omega
theorem BR_up {f q a ls : Nat} {D A : Nat → Int32} (h : BR f D A) (hq : q < 6) (ha : a ≤ 200) (hl : ls ≤ 5) : BR (f + 1) (upd D q (D q + nI a)) (upd A q (A q + nI ls)) := by
  obtain ⟨d, e, h1, h2, h3⟩ := h
  refine ⟨fun j => if j = q then d j + a else d j, fun j => if j = q then e j + ls else e j, fun j hj => ?_, by rw [dsum_up hq]; omega, by rw [dsum_up hq]; omega⟩
  simp only [upd_e]
  by_cases g : j = q
  · subst g; simp only [if_pos]; rw [(h1 j hj).1, (h1 j hj).2, nI_add, nI_add]; exact ⟨rfl, rfl⟩
  · simp only [if_neg g]; exact h1 j hj
theorem c_fb {r : Int32} {n c m i q : Nat} {M L cM cL oM oL : Nat → Int32} (hn : n ≤ 10) (hc : c ≤ 40) (hm : m ≤ 12) (hi : i < m) (hq : q < 6) (hM : oM i = nI (97 + q)) :
    fX11_isFillable r (nI n) M (nI n) L (nI c) cM (nI c) cL (nI m) oM (nI m) oL (nI i) = some (if fnd (fun j => cM j = oM i ∧ ¬ cL j < oL i) c 0 = none then (if fld (chz (fun j => M j = oM i ∧ ¬ L j < oL i) L r) n 0 none = none then 0 else 1) else 1) := by
  unfold fX11_isFillable
  rw [fX5_materialAt, row_get hi hm (by omega), ob, ob, fX5_lengthAt, row_get hi hm (by omega), ob, ob, hM, ch_id (by omega), sc_sho hc, ob, sp_ch hn, ob]
  cases e1 : fnd (fun j => cM j = nI (97 + q) ∧ ¬ cL j < oL i) c 0 with
  | none =>
    rw [if_pos (show oI none = -1 from rfl), if_pos rfl]
    have hg := chz_fld (P := fun j => M j = nI (97 + q) ∧ ¬ L j < oL i) (L := L) (r := r) n
    cases e2 : fld (chz (fun j => M j = nI (97 + q) ∧ ¬ L j < oL i) L r) n 0 none with
    | none => rw [if_pos (show oI none = -1 from rfl), if_pos rfl]
    | some p =>
      rw [e2] at hg
      have := hg.1
      rw [if_neg (oI_m1 (by omega)), if_neg (fun h => by cases h)]
  | some p =>
    have := (fnd_some _ _ _ e1).2.1
    rw [if_neg (oI_m1 (by omega)), if_neg (fun h => by cases h)]
theorem m_fb {b2 bs : Option Nat} {x : Nat → Int32} {i : Nat} (h1 : fX13_scrapFor x (nI i) = some (oI b2)) (h2 : fX13_spoolFor x (nI i) = some (oI bs)) (g1 : ∀ q, b2 = some q → q < 2 ^ 31) (g2 : ∀ q, bs = some q → q < 2 ^ 31) :
    fX13_isFillable x (nI i) = some (if b2 = none then (if bs = none then 0 else 1) else 1) := by
  unfold fX13_isFillable
  rw [h1, h2, ob, ob]
  cases b2 with
  | none =>
    rw [if_neg (show ¬ 0 ≤ oI none by decide), if_pos rfl]
    cases bs with
    | none => rw [if_pos (show oI none < 0 by decide), if_pos rfl]
    | some q => rw [if_neg (show ¬ oI (some q) < 0 from nI_pos (g2 q rfl)), if_neg (fun h => by cases h)]
  | some q => rw [if_pos (show 0 ≤ oI (some q) from nI_pos' (g1 q rfl)), if_neg (fun h => by cases h)]
theorem S_fa {b m i : Nat} {w : WT} {x : Nat → Int32} (h : WR b w x) (hm : wt_oNn w = nI m) (hm2 : m ≤ 12) (hi : i < m) :
    (hX11_isFillable w (nI i) = some 0 ∧ fX13_isFillable x (nI i) = some 0) ∨ (hX11_isFillable w (nI i) = some 1 ∧ fX13_isFillable x (nI i) = some 1 ∧ ∃ v w' x', hX11_fillAt w (nI i) = some (v, w') ∧ fX13_fillsAt x (nI i) = some (v, x') ∧ WR b w' x' ∧ wt_oNn w' = nI (m - 1)) := by
  obtain ⟨n, s, m', o, c, k, l, r, ac, N, M, L, K, cM, cL, T, oN, oM, oL, oD, W, D, A, rfl, h1, h2, h3, h4, h5, h6, h7, h8, h9, h10⟩ := h
  have hmm : m = m' := by
    have h0 : nI m' = nI m := hm
    have := h2.1
    exact ((nI_eq (by omega) (by omega)).mp h0).symm
  subst hmm
  have hn := h1.1
  have hc := h3.1
  obtain ⟨y1, y2, y3, y4⟩ := h2.2.2.2.1 i hi
  obtain ⟨⟨q, hq, u1⟩, ⟨a, a1, a2, u2⟩, _, _⟩ := h2.2.2.2.2.1 i hi
  obtain ⟨e5, e6, e7, e8, ⟨kk, k1, k2, rfl⟩, ⟨ll, l1, l2, rfl⟩, e9⟩ := h5
  have c1 := c_fb (r := r) (M := M) (L := L) (cM := cM) (cL := cL) (oM := oM) (oL := oL) hn hc hm2 hi hq u1
  have m1 := m_sf (a := i) hc (by omega) h3.2.1
  have m2 := m_spf h1 (a := i) (by omega) y2 y3 e7
  have hb := scr_eq h3 (a := i) y2 y3 _ _ rfl rfl
  have hG := mnz_fld (P := fun j => x (121 + 2 * j) = x (74 + 4 * i) ∧ x (75 + 4 * i) ≤ x (122 + 2 * j)) (g := fun j => x (122 + 2 * j)) c
  have hs := chz_fld (P := fun j => M j = oM i ∧ ¬ L j < oL i) (L := L) (r := r) n
  have c2 : fX8_shortestFor (nI c) cM (nI c) cL (oM i) (oL i) = _ := sc_sho hc
  have c3 : fX9_choose (nI n) M (nI n) L (oM i) (oL i) r = _ := sp_ch hn
  generalize hb1 : fnd (fun j => cM j = oM i ∧ ¬ cL j < oL i) c 0 = b1 at c1 hb c2
  generalize hb2 : fld (mnz (fun j => x (121 + 2 * j) = x (74 + 4 * i) ∧ x (75 + 4 * i) ≤ x (122 + 2 * j)) (fun j => x (122 + 2 * j))) c 0 none = b2 at m1 hb hG
  generalize hbs : fld (chz (fun j => M j = oM i ∧ ¬ L j < oL i) L r) n 0 none = bs at c1 m2 hs c3
  have g1 : ∀ p, b2 = some p → p < 2 ^ 31 := fun p e => by subst e; have := hG.1; omega
  have g2 : ∀ p, bs = some p → p < 2 ^ 31 := fun p e => by subst e; have := hs.1; omega
  have m3 := m_fb m1 m2 g1 g2
  have OR1 : OR m o oN oM oL oD (upd x 8 (x 8 + 1)) := OR_fr h2 (fun j hj => pk_un (by omega))
  obtain ⟨x7, s1, s2, s3⟩ := S_rmO OR1 hi
  have f7 : ∀ j, j ≠ 2 → j ≠ 8 → j < 73 ∨ 121 ≤ j → x7 j = x j := fun j j1 j2 j3 => (s3 j j1 j3).trans (pk_un j2)
  have x78 : x7 8 = ac + 1 := by rw [s3 8 (by omega) (by omega), pk_us, e8]
  have SR7 : SR n s N M L K x7 := SR_fr h1 (fun j hj => f7 j (by omega) (by omega) (by omega))
  have CR7 : CR c cM cL x7 := CR_fr h3 (fun j hj => f7 j (by omega) (by omega) (by omega))
  have AR7 : AR W D A T x7 := AR_fr h4 (fun j hj => f7 j (by omega) (by omega) (by omega))
  have eo : o - (m - 1) = o - m + 1 := by omega
  rcases hb with ⟨rfl, rfl⟩ | ⟨p, p2, rfl, rfl, hp, hp2, t1, t2, t3⟩
  · rw [if_pos rfl] at c1 m3
    cases bs with
    | none => exact Or.inl ⟨c1, m3⟩
    | some p =>
      rw [if_neg (fun h => by cases h)] at c1 m3
      obtain ⟨hp, t1, t2⟩ := hs
      obtain ⟨_, ⟨la, lk, v1, v2, v3, v4⟩, _⟩ := h1.2.2.2.2.1 p hp
      have hla : a ≤ la := by
        rw [v3, u2] at t2
        exact (nI_leI (by omega) (by omega)).mp (Int32.not_lt.mp t2)
      obtain ⟨n', c', ls, N', M', L', K', cM', cL', T', x', r1, r2, r3, r4, r5, r6, r7⟩ := S_cutSpool (k := kk) (l := ll) (a := a) SR7 CR7 AR7 k2 l1 l2 ((f7 5 (by omega) (by omega) (by omega)).trans e5) ((f7 6 (by omega) (by omega) (by omega)).trans e6) hp hq (t1.trans u1) v3 (by omega) hla a1
      refine Or.inr ⟨c1, m3, N p, _, x', ?_, ?_, ⟨n', s, m - 1, o, c', nI kk, nI ll, r, ac + 1, N', M', L', K', cM', cL', T', del oN m i, del oM m i, del oL m i, del oD m i, W, upd D q (D q + nI a), upd A q (A q + nI ls), rfl, r3, OR_fr s2 ?_, r4, r5, ⟨?_, ?_, ?_, ?_, ⟨kk, k1, k2, rfl⟩, ⟨ll, l1, l2, rfl⟩, e9⟩, h6, h7, by omega, ?_, h10⟩, rfl⟩
      · show (fX11_fillAt (nI kk) (nI ll) r (nI n) N (nI n) M (nI n) L (nI n) K (nI c) cM (nI c) cL 6 T (nI m) oN (nI m) oM (nI m) oL (nI m) oD ac 6 D 6 A (nI i)).bind _ = _
        unfold fX11_fillAt
        rw [fX5_materialAt, row_get hi hm2 (by omega), ob, ob, fX5_lengthAt, row_get hi hm2 (by omega), ob, ob, u1, ch_id (by omega), ← u1, c2, ob, if_pos (show oI none = -1 from rfl), c3, ob, fX9_numberAt, show oI (some p) = nI p from rfl, row_get hp hn (by omega), ob, ob, u1, u2, r1, ob, fX12_placeOf, ob, m97 hq, show (6 : Int32) = nI 6 from rfl, row_inc hq (Nat.le_refl _) (by omega), ob, or_del hm2 hi, ob, ob]
      · unfold fX13_fillsAt
        rw [m_or2 (by omega), ob, m1, ob, m2, ob, s1, ob, if_pos (show oI none < 0 by decide), show oI (some p) = nI p from rfl, m_sp0 (by omega), ob, y3, u2, r2, ob, (SR7.2.2.2.1 p hp).1]
      · intro j hj; exact r7 j (by omega)
      · exact (r7 5 (by omega)).trans ((f7 5 (by omega) (by omega) (by omega)).trans e5)
      · exact (r7 6 (by omega)).trans ((f7 6 (by omega) (by omega) (by omega)).trans e6)
      · exact (r7 7 (by omega)).trans ((f7 7 (by omega) (by omega) (by omega)).trans e7)
      · exact (r7 8 (by omega)).trans x78
      · rw [eo]; exact BR_up h9 hq a2 (by omega)
  · rw [if_neg (fun h => by cases h)] at c1 m3
    obtain ⟨_, la, v1, v2, v3⟩ := h3.2.2.2.1 p hp
    have hla : a ≤ la := by
      rw [v3, u2] at t2
      exact (nI_leI (by omega) (by omega)).mp t2
    have t7 : prc cM cL p = prx x7 p2 := by
      rw [t3]; unfold prx; rw [f7 _ (by omega) (by omega) (by omega), f7 _ (by omega) (by omega) (by omega)]
    obtain ⟨c', ls, cM', cL', x', r1, r2, r3, r4, r5, r6⟩ := S_cutScrap (k := kk) (a := a) CR7 AR7 k2 ((f7 5 (by omega) (by omega) (by omega)).trans e5) hp hp2 t7 hq (t1.trans u1) v3 v2 hla a1
    refine Or.inr ⟨c1, m3, -1, _, x', ?_, ?_, ⟨n, s, m - 1, o, c', nI kk, nI ll, r, ac + 1, N, M, L, K, cM', cL', T, del oN m i, del oM m i, del oL m i, del oD m i, W, upd D q (D q + nI a), upd A q (A q + nI ls), rfl, SR_fr SR7 ?_, OR_fr s2 ?_, r3, r4, ⟨?_, ?_, ?_, ?_, ⟨kk, k1, k2, rfl⟩, ⟨ll, l1, l2, rfl⟩, e9⟩, h6, h7, by omega, ?_, h10⟩, rfl⟩
    · show (fX11_fillAt (nI kk) (nI ll) r (nI n) N (nI n) M (nI n) L (nI n) K (nI c) cM (nI c) cL 6 T (nI m) oN (nI m) oM (nI m) oL (nI m) oD ac 6 D 6 A (nI i)).bind _ = _
      unfold fX11_fillAt
      rw [fX5_materialAt, row_get hi hm2 (by omega), ob, ob, fX5_lengthAt, row_get hi hm2 (by omega), ob, ob, u1, ch_id (by omega), ← u1, c2, ob, if_neg (oI_m1 (by omega)), show oI (some p) = nI p from rfl, u1, u2, r1, ob, fX12_placeOf, ob, m97 hq, show (6 : Int32) = nI 6 from rfl, row_inc hq (Nat.le_refl _) (by omega), ob, or_del hm2 hi, ob, ob]
    · unfold fX13_fillsAt
      rw [m_or2 (by omega), ob, m1, ob, m2, ob, s1, ob, if_neg (show ¬ oI (some p2) < 0 from nI_pos (by omega)), show oI (some p2) = nI p2 from rfl, y3, u2, r2, ob]
    · intro j hj; exact r6 j (by omega) (by omega)
    · intro j hj; exact r6 j (by omega) (by omega)
    · exact (r6 5 (by omega) (by omega)).trans ((f7 5 (by omega) (by omega) (by omega)).trans e5)
    · exact (r6 6 (by omega) (by omega)).trans ((f7 6 (by omega) (by omega) (by omega)).trans e6)
    · exact (r6 7 (by omega) (by omega)).trans ((f7 7 (by omega) (by omega) (by omega)).trans e7)
    · exact (r6 8 (by omega) (by omega)).trans x78
    · rw [eo]; exact BR_up h9 hq a2 (by omega)
